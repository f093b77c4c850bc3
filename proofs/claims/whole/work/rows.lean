section
/-- a private method of a class that the tables say can be made, by its rows of tables_1 -/
def lw_okq (q : MethodName × Nat) : Prop := (q.1.cls ≠ "java/lang/invoke/MethodHandle" ∧ q.1.cls ≠ "java/lang/invoke/VarHandle") ∧ Cond.instantiable q.1.cls q.2 ∈ tables_1 ∧ Cond.privateMethod q.1 ∈ tables_1 ∧ Cond.instanceMethod q.1 ∈ tables_1
theorem lw_p0 : lw_okq (⟨"BatonKernel", "isProcess", "(I)Z"⟩, 9) := ⟨⟨by decide +kernel, by decide +kernel⟩, List.mem_of_getElem? (i := 10) (by decide +kernel), List.mem_of_getElem? (i := 211) (by decide +kernel), List.mem_of_getElem? (i := 212) (by decide +kernel)⟩
theorem lw_p1 : lw_okq (⟨"BatonKernel", "serve", "(I)V"⟩, 9) := ⟨⟨by decide +kernel, by decide +kernel⟩, List.mem_of_getElem? (i := 10) (by decide +kernel), List.mem_of_getElem? (i := 233) (by decide +kernel), List.mem_of_getElem? (i := 234) (by decide +kernel)⟩
theorem lw_p2 : lw_okq (⟨"BatonKernel", "give", "(LBatonKernel$Proc;II)V"⟩, 9) := ⟨⟨by decide +kernel, by decide +kernel⟩, List.mem_of_getElem? (i := 10) (by decide +kernel), List.mem_of_getElem? (i := 245) (by decide +kernel), List.mem_of_getElem? (i := 246) (by decide +kernel)⟩
theorem lw_p3 : lw_okq (⟨"BatonKernel", "enter", "(LBatonKernel$Proc;II)V"⟩, 9) := ⟨⟨by decide +kernel, by decide +kernel⟩, List.mem_of_getElem? (i := 10) (by decide +kernel), List.mem_of_getElem? (i := 253) (by decide +kernel), List.mem_of_getElem? (i := 254) (by decide +kernel)⟩
theorem lw_p4 : lw_okq (⟨"BatonKernel", "lineOf", "(LBatonKernel$Proc;)I"⟩, 9) := ⟨⟨by decide +kernel, by decide +kernel⟩, List.mem_of_getElem? (i := 10) (by decide +kernel), List.mem_of_getElem? (i := 273) (by decide +kernel), List.mem_of_getElem? (i := 274) (by decide +kernel)⟩
theorem lw_p5 : lw_okq (⟨"BatonKernel", "leave", "(LBatonKernel$Proc;)V"⟩, 9) := ⟨⟨by decide +kernel, by decide +kernel⟩, List.mem_of_getElem? (i := 10) (by decide +kernel), List.mem_of_getElem? (i := 281) (by decide +kernel), List.mem_of_getElem? (i := 282) (by decide +kernel)⟩
theorem lw_p6 : lw_okq (⟨"BatonKernel", "giveBack", "(LBatonKernel$Proc;II)V"⟩, 9) := ⟨⟨by decide +kernel, by decide +kernel⟩, List.mem_of_getElem? (i := 10) (by decide +kernel), List.mem_of_getElem? (i := 293) (by decide +kernel), List.mem_of_getElem? (i := 294) (by decide +kernel)⟩
theorem lw_p7 : lw_okq (⟨"BatonKernel", "takeBack", "(LBatonKernel$Proc;II)V"⟩, 9) := ⟨⟨by decide +kernel, by decide +kernel⟩, List.mem_of_getElem? (i := 10) (by decide +kernel), List.mem_of_getElem? (i := 300) (by decide +kernel), List.mem_of_getElem? (i := 301) (by decide +kernel)⟩
theorem lw_p8 : lw_okq (⟨"BatonKernel", "firstEntry", "()I"⟩, 9) := ⟨⟨by decide +kernel, by decide +kernel⟩, List.mem_of_getElem? (i := 10) (by decide +kernel), List.mem_of_getElem? (i := 309) (by decide +kernel), List.mem_of_getElem? (i := 310) (by decide +kernel)⟩
theorem lw_p9 : lw_okq (⟨"BatonKernel", "begin", "(LBatonKernel$Proc;)V"⟩, 9) := ⟨⟨by decide +kernel, by decide +kernel⟩, List.mem_of_getElem? (i := 10) (by decide +kernel), List.mem_of_getElem? (i := 317) (by decide +kernel), List.mem_of_getElem? (i := 318) (by decide +kernel)⟩
theorem lw_p10 : lw_okq (⟨"BatonKernel", "moveClock", "(J)V"⟩, 9) := ⟨⟨by decide +kernel, by decide +kernel⟩, List.mem_of_getElem? (i := 10) (by decide +kernel), List.mem_of_getElem? (i := 321) (by decide +kernel), List.mem_of_getElem? (i := 322) (by decide +kernel)⟩
theorem lw_p11 : lw_okq (⟨"BatonKernel", "doTurn", "(LBatonKernel$Proc;)V"⟩, 9) := ⟨⟨by decide +kernel, by decide +kernel⟩, List.mem_of_getElem? (i := 10) (by decide +kernel), List.mem_of_getElem? (i := 330) (by decide +kernel), List.mem_of_getElem? (i := 331) (by decide +kernel)⟩
theorem lw_p12 : lw_okq (⟨"BatonKernel", "perform", "(LBatonKernel$Proc;)Z"⟩, 9) := ⟨⟨by decide +kernel, by decide +kernel⟩, List.mem_of_getElem? (i := 10) (by decide +kernel), List.mem_of_getElem? (i := 334) (by decide +kernel), List.mem_of_getElem? (i := 335) (by decide +kernel)⟩
theorem lw_p13 : lw_okq (⟨"BatonKernel", "seizeFree", "(LBatonKernel$Proc;)Z"⟩, 9) := ⟨⟨by decide +kernel, by decide +kernel⟩, List.mem_of_getElem? (i := 10) (by decide +kernel), List.mem_of_getElem? (i := 338) (by decide +kernel), List.mem_of_getElem? (i := 339) (by decide +kernel)⟩
theorem lw_p14 : lw_okq (⟨"BatonKernel", "countBefore", "(II)I"⟩, 9) := ⟨⟨by decide +kernel, by decide +kernel⟩, List.mem_of_getElem? (i := 10) (by decide +kernel), List.mem_of_getElem? (i := 342) (by decide +kernel), List.mem_of_getElem? (i := 343) (by decide +kernel)⟩
theorem lw_p15 : lw_okq (⟨"BatonKernel", "seizeByForce", "(LBatonKernel$Proc;)Z"⟩, 9) := ⟨⟨by decide +kernel, by decide +kernel⟩, List.mem_of_getElem? (i := 10) (by decide +kernel), List.mem_of_getElem? (i := 346) (by decide +kernel), List.mem_of_getElem? (i := 347) (by decide +kernel)⟩
def lw_privs_1 : List (MethodName × Nat) := [(⟨"BatonKernel", "isProcess", "(I)Z"⟩, 9), (⟨"BatonKernel", "serve", "(I)V"⟩, 9), (⟨"BatonKernel", "give", "(LBatonKernel$Proc;II)V"⟩, 9), (⟨"BatonKernel", "enter", "(LBatonKernel$Proc;II)V"⟩, 9), (⟨"BatonKernel", "lineOf", "(LBatonKernel$Proc;)I"⟩, 9), (⟨"BatonKernel", "leave", "(LBatonKernel$Proc;)V"⟩, 9), (⟨"BatonKernel", "giveBack", "(LBatonKernel$Proc;II)V"⟩, 9), (⟨"BatonKernel", "takeBack", "(LBatonKernel$Proc;II)V"⟩, 9), (⟨"BatonKernel", "firstEntry", "()I"⟩, 9), (⟨"BatonKernel", "begin", "(LBatonKernel$Proc;)V"⟩, 9), (⟨"BatonKernel", "moveClock", "(J)V"⟩, 9), (⟨"BatonKernel", "doTurn", "(LBatonKernel$Proc;)V"⟩, 9), (⟨"BatonKernel", "perform", "(LBatonKernel$Proc;)Z"⟩, 9), (⟨"BatonKernel", "seizeFree", "(LBatonKernel$Proc;)Z"⟩, 9), (⟨"BatonKernel", "countBefore", "(II)I"⟩, 9), (⟨"BatonKernel", "seizeByForce", "(LBatonKernel$Proc;)Z"⟩, 9)]
theorem lw_r1 : ∀ q ∈ lw_privs_1, lw_okq q := List.forall_mem_cons.mpr ⟨lw_p0, List.forall_mem_cons.mpr ⟨lw_p1, List.forall_mem_cons.mpr ⟨lw_p2, List.forall_mem_cons.mpr ⟨lw_p3, List.forall_mem_cons.mpr ⟨lw_p4, List.forall_mem_cons.mpr ⟨lw_p5, List.forall_mem_cons.mpr ⟨lw_p6, List.forall_mem_cons.mpr ⟨lw_p7, List.forall_mem_cons.mpr ⟨lw_p8, List.forall_mem_cons.mpr ⟨lw_p9, List.forall_mem_cons.mpr ⟨lw_p10, List.forall_mem_cons.mpr ⟨lw_p11, List.forall_mem_cons.mpr ⟨lw_p12, List.forall_mem_cons.mpr ⟨lw_p13, List.forall_mem_cons.mpr ⟨lw_p14, List.forall_mem_cons.mpr ⟨lw_p15, fun _ h => absurd h List.not_mem_nil⟩⟩⟩⟩⟩⟩⟩⟩⟩⟩⟩⟩⟩⟩⟩⟩
theorem lw_p16 : lw_okq (⟨"BatonKernel", "withinReach", "(LBatonKernel$Proc;I)I"⟩, 9) := ⟨⟨by decide +kernel, by decide +kernel⟩, List.mem_of_getElem? (i := 10) (by decide +kernel), List.mem_of_getElem? (i := 350) (by decide +kernel), List.mem_of_getElem? (i := 351) (by decide +kernel)⟩
theorem lw_p17 : lw_okq (⟨"BatonKernel", "takeFromLosers", "(LBatonKernel$Proc;II)I"⟩, 9) := ⟨⟨by decide +kernel, by decide +kernel⟩, List.mem_of_getElem? (i := 10) (by decide +kernel), List.mem_of_getElem? (i := 354) (by decide +kernel), List.mem_of_getElem? (i := 355) (by decide +kernel)⟩
theorem lw_p18 : lw_okq (⟨"BatonKernel", "nextLoser", "(LBatonKernel$Proc;I)I"⟩, 9) := ⟨⟨by decide +kernel, by decide +kernel⟩, List.mem_of_getElem? (i := 10) (by decide +kernel), List.mem_of_getElem? (i := 358) (by decide +kernel), List.mem_of_getElem? (i := 359) (by decide +kernel)⟩
theorem lw_p19 : lw_okq (⟨"BatonKernel", "standInLine", "(LBatonKernel$Proc;)Z"⟩, 9) := ⟨⟨by decide +kernel, by decide +kernel⟩, List.mem_of_getElem? (i := 10) (by decide +kernel), List.mem_of_getElem? (i := 363) (by decide +kernel), List.mem_of_getElem? (i := 364) (by decide +kernel)⟩
theorem lw_p20 : lw_okq (⟨"BatonKernel", "meetCondition", "(LBatonKernel$Proc;)Z"⟩, 9) := ⟨⟨by decide +kernel, by decide +kernel⟩, List.mem_of_getElem? (i := 10) (by decide +kernel), List.mem_of_getElem? (i := 371) (by decide +kernel), List.mem_of_getElem? (i := 372) (by decide +kernel)⟩
theorem lw_p21 : lw_okq (⟨"BatonKernel", "waitForCondition", "(LBatonKernel$Proc;)Z"⟩, 9) := ⟨⟨by decide +kernel, by decide +kernel⟩, List.mem_of_getElem? (i := 10) (by decide +kernel), List.mem_of_getElem? (i := 383) (by decide +kernel), List.mem_of_getElem? (i := 384) (by decide +kernel)⟩
theorem lw_p22 : lw_okq (⟨"BatonKernel", "goOverConditions", "()V"⟩, 9) := ⟨⟨by decide +kernel, by decide +kernel⟩, List.mem_of_getElem? (i := 10) (by decide +kernel), List.mem_of_getElem? (i := 393) (by decide +kernel), List.mem_of_getElem? (i := 394) (by decide +kernel)⟩
theorem lw_p23 : lw_okq (⟨"BatonKernelModel", "none", "(I)Z"⟩, 27) := ⟨⟨by decide +kernel, by decide +kernel⟩, List.mem_of_getElem? (i := 450) (by decide +kernel), List.mem_of_getElem? (i := 548) (by decide +kernel), List.mem_of_getElem? (i := 549) (by decide +kernel)⟩
theorem lw_p24 : lw_okq (⟨"BatonKernelModel", "within", "(III)Z"⟩, 27) := ⟨⟨by decide +kernel, by decide +kernel⟩, List.mem_of_getElem? (i := 450) (by decide +kernel), List.mem_of_getElem? (i := 552) (by decide +kernel), List.mem_of_getElem? (i := 553) (by decide +kernel)⟩
theorem lw_p25 : lw_okq (⟨"BatonKernelModel", "fits", "(III)Z"⟩, 27) := ⟨⟨by decide +kernel, by decide +kernel⟩, List.mem_of_getElem? (i := 450) (by decide +kernel), List.mem_of_getElem? (i := 556) (by decide +kernel), List.mem_of_getElem? (i := 557) (by decide +kernel)⟩
theorem lw_p26 : lw_okq (⟨"BatonKernelModel", "seized", "(I)I"⟩, 27) := ⟨⟨by decide +kernel, by decide +kernel⟩, List.mem_of_getElem? (i := 450) (by decide +kernel), List.mem_of_getElem? (i := 565) (by decide +kernel), List.mem_of_getElem? (i := 566) (by decide +kernel)⟩
theorem lw_p27 : lw_okq (⟨"BatonKernelModel", "serve", "(I)V"⟩, 27) := ⟨⟨by decide +kernel, by decide +kernel⟩, List.mem_of_getElem? (i := 450) (by decide +kernel), List.mem_of_getElem? (i := 569) (by decide +kernel), List.mem_of_getElem? (i := 570) (by decide +kernel)⟩
theorem lw_p28 : lw_okq (⟨"BatonKernelModel", "head", "(I)I"⟩, 27) := ⟨⟨by decide +kernel, by decide +kernel⟩, List.mem_of_getElem? (i := 450) (by decide +kernel), List.mem_of_getElem? (i := 573) (by decide +kernel), List.mem_of_getElem? (i := 574) (by decide +kernel)⟩
theorem lw_p29 : lw_okq (⟨"BatonKernelModel", "done", "(I)I"⟩, 27) := ⟨⟨by decide +kernel, by decide +kernel⟩, List.mem_of_getElem? (i := 450) (by decide +kernel), List.mem_of_getElem? (i := 577) (by decide +kernel), List.mem_of_getElem? (i := 578) (by decide +kernel)⟩
theorem lw_p30 : lw_okq (⟨"BatonKernelModel", "rest", "(I)I"⟩, 27) := ⟨⟨by decide +kernel, by decide +kernel⟩, List.mem_of_getElem? (i := 450) (by decide +kernel), List.mem_of_getElem? (i := 581) (by decide +kernel), List.mem_of_getElem? (i := 582) (by decide +kernel)⟩
theorem lw_p31 : lw_okq (⟨"BatonKernelModel", "enter", "(IIJ)V"⟩, 27) := ⟨⟨by decide +kernel, by decide +kernel⟩, List.mem_of_getElem? (i := 450) (by decide +kernel), List.mem_of_getElem? (i := 585) (by decide +kernel), List.mem_of_getElem? (i := 586) (by decide +kernel)⟩
def lw_privs_2 : List (MethodName × Nat) := [(⟨"BatonKernel", "withinReach", "(LBatonKernel$Proc;I)I"⟩, 9), (⟨"BatonKernel", "takeFromLosers", "(LBatonKernel$Proc;II)I"⟩, 9), (⟨"BatonKernel", "nextLoser", "(LBatonKernel$Proc;I)I"⟩, 9), (⟨"BatonKernel", "standInLine", "(LBatonKernel$Proc;)Z"⟩, 9), (⟨"BatonKernel", "meetCondition", "(LBatonKernel$Proc;)Z"⟩, 9), (⟨"BatonKernel", "waitForCondition", "(LBatonKernel$Proc;)Z"⟩, 9), (⟨"BatonKernel", "goOverConditions", "()V"⟩, 9), (⟨"BatonKernelModel", "none", "(I)Z"⟩, 27), (⟨"BatonKernelModel", "within", "(III)Z"⟩, 27), (⟨"BatonKernelModel", "fits", "(III)Z"⟩, 27), (⟨"BatonKernelModel", "seized", "(I)I"⟩, 27), (⟨"BatonKernelModel", "serve", "(I)V"⟩, 27), (⟨"BatonKernelModel", "head", "(I)I"⟩, 27), (⟨"BatonKernelModel", "done", "(I)I"⟩, 27), (⟨"BatonKernelModel", "rest", "(I)I"⟩, 27), (⟨"BatonKernelModel", "enter", "(IIJ)V"⟩, 27)]
theorem lw_r2 : ∀ q ∈ lw_privs_2, lw_okq q := List.forall_mem_cons.mpr ⟨lw_p16, List.forall_mem_cons.mpr ⟨lw_p17, List.forall_mem_cons.mpr ⟨lw_p18, List.forall_mem_cons.mpr ⟨lw_p19, List.forall_mem_cons.mpr ⟨lw_p20, List.forall_mem_cons.mpr ⟨lw_p21, List.forall_mem_cons.mpr ⟨lw_p22, List.forall_mem_cons.mpr ⟨lw_p23, List.forall_mem_cons.mpr ⟨lw_p24, List.forall_mem_cons.mpr ⟨lw_p25, List.forall_mem_cons.mpr ⟨lw_p26, List.forall_mem_cons.mpr ⟨lw_p27, List.forall_mem_cons.mpr ⟨lw_p28, List.forall_mem_cons.mpr ⟨lw_p29, List.forall_mem_cons.mpr ⟨lw_p30, List.forall_mem_cons.mpr ⟨lw_p31, fun _ h => absurd h List.not_mem_nil⟩⟩⟩⟩⟩⟩⟩⟩⟩⟩⟩⟩⟩⟩⟩⟩
theorem lw_p32 : lw_okq (⟨"BatonKernelModel", "first", "()I"⟩, 27) := ⟨⟨by decide +kernel, by decide +kernel⟩, List.mem_of_getElem? (i := 450) (by decide +kernel), List.mem_of_getElem? (i := 598) (by decide +kernel), List.mem_of_getElem? (i := 599) (by decide +kernel)⟩
theorem lw_p33 : lw_okq (⟨"BatonKernelModel", "sooner", "(II)Z"⟩, 27) := ⟨⟨by decide +kernel, by decide +kernel⟩, List.mem_of_getElem? (i := 450) (by decide +kernel), List.mem_of_getElem? (i := 602) (by decide +kernel), List.mem_of_getElem? (i := 603) (by decide +kernel)⟩
theorem lw_p34 : lw_okq (⟨"BatonKernelModel", "event", "(I)V"⟩, 27) := ⟨⟨by decide +kernel, by decide +kernel⟩, List.mem_of_getElem? (i := 450) (by decide +kernel), List.mem_of_getElem? (i := 606) (by decide +kernel), List.mem_of_getElem? (i := 607) (by decide +kernel)⟩
theorem lw_p35 : lw_okq (⟨"BatonKernelModel", "advance", "(J)V"⟩, 27) := ⟨⟨by decide +kernel, by decide +kernel⟩, List.mem_of_getElem? (i := 450) (by decide +kernel), List.mem_of_getElem? (i := 610) (by decide +kernel), List.mem_of_getElem? (i := 611) (by decide +kernel)⟩
theorem lw_p36 : lw_okq (⟨"BatonKernelModel", "turn", "(I)V"⟩, 27) := ⟨⟨by decide +kernel, by decide +kernel⟩, List.mem_of_getElem? (i := 450) (by decide +kernel), List.mem_of_getElem? (i := 614) (by decide +kernel), List.mem_of_getElem? (i := 615) (by decide +kernel)⟩
theorem lw_p37 : lw_okq (⟨"BatonKernelModel", "perform", "(II)Z"⟩, 27) := ⟨⟨by decide +kernel, by decide +kernel⟩, List.mem_of_getElem? (i := 450) (by decide +kernel), List.mem_of_getElem? (i := 618) (by decide +kernel), List.mem_of_getElem? (i := 619) (by decide +kernel)⟩
theorem lw_p38 : lw_okq (⟨"BatonKernelModel", "seize", "(III)Z"⟩, 27) := ⟨⟨by decide +kernel, by decide +kernel⟩, List.mem_of_getElem? (i := 450) (by decide +kernel), List.mem_of_getElem? (i := 622) (by decide +kernel), List.mem_of_getElem? (i := 623) (by decide +kernel)⟩
theorem lw_p39 : lw_okq (⟨"BatonKernelModel", "reach", "(II)I"⟩, 27) := ⟨⟨by decide +kernel, by decide +kernel⟩, List.mem_of_getElem? (i := 450) (by decide +kernel), List.mem_of_getElem? (i := 626) (by decide +kernel), List.mem_of_getElem? (i := 627) (by decide +kernel)⟩
theorem lw_p40 : lw_okq (⟨"BatonKernelModel", "preempt", "(III)V"⟩, 27) := ⟨⟨by decide +kernel, by decide +kernel⟩, List.mem_of_getElem? (i := 450) (by decide +kernel), List.mem_of_getElem? (i := 630) (by decide +kernel), List.mem_of_getElem? (i := 631) (by decide +kernel)⟩
theorem lw_p41 : lw_okq (⟨"BatonKernelModel", "victim", "(II)I"⟩, 27) := ⟨⟨by decide +kernel, by decide +kernel⟩, List.mem_of_getElem? (i := 450) (by decide +kernel), List.mem_of_getElem? (i := 634) (by decide +kernel), List.mem_of_getElem? (i := 635) (by decide +kernel)⟩
theorem lw_p42 : lw_okq (⟨"BatonKernelModel", "release", "(III)V"⟩, 27) := ⟨⟨by decide +kernel, by decide +kernel⟩, List.mem_of_getElem? (i := 450) (by decide +kernel), List.mem_of_getElem? (i := 642) (by decide +kernel), List.mem_of_getElem? (i := 643) (by decide +kernel)⟩
theorem lw_p43 : lw_okq (⟨"BatonKernelModel", "holds", "(I)Z"⟩, 27) := ⟨⟨by decide +kernel, by decide +kernel⟩, List.mem_of_getElem? (i := 450) (by decide +kernel), List.mem_of_getElem? (i := 654) (by decide +kernel), List.mem_of_getElem? (i := 655) (by decide +kernel)⟩
theorem lw_p44 : lw_okq (⟨"BatonKernelModel", "pour", "(I)V"⟩, 27) := ⟨⟨by decide +kernel, by decide +kernel⟩, List.mem_of_getElem? (i := 450) (by decide +kernel), List.mem_of_getElem? (i := 658) (by decide +kernel), List.mem_of_getElem? (i := 659) (by decide +kernel)⟩
theorem lw_p45 : lw_okq (⟨"BatonKernelModel", "goOver", "()V"⟩, 27) := ⟨⟨by decide +kernel, by decide +kernel⟩, List.mem_of_getElem? (i := 450) (by decide +kernel), List.mem_of_getElem? (i := 662) (by decide +kernel), List.mem_of_getElem? (i := 663) (by decide +kernel)⟩
def lw_privs_3 : List (MethodName × Nat) := [(⟨"BatonKernelModel", "first", "()I"⟩, 27), (⟨"BatonKernelModel", "sooner", "(II)Z"⟩, 27), (⟨"BatonKernelModel", "event", "(I)V"⟩, 27), (⟨"BatonKernelModel", "advance", "(J)V"⟩, 27), (⟨"BatonKernelModel", "turn", "(I)V"⟩, 27), (⟨"BatonKernelModel", "perform", "(II)Z"⟩, 27), (⟨"BatonKernelModel", "seize", "(III)Z"⟩, 27), (⟨"BatonKernelModel", "reach", "(II)I"⟩, 27), (⟨"BatonKernelModel", "preempt", "(III)V"⟩, 27), (⟨"BatonKernelModel", "victim", "(II)I"⟩, 27), (⟨"BatonKernelModel", "release", "(III)V"⟩, 27), (⟨"BatonKernelModel", "holds", "(I)Z"⟩, 27), (⟨"BatonKernelModel", "pour", "(I)V"⟩, 27), (⟨"BatonKernelModel", "goOver", "()V"⟩, 27)]
theorem lw_r3 : ∀ q ∈ lw_privs_3, lw_okq q := List.forall_mem_cons.mpr ⟨lw_p32, List.forall_mem_cons.mpr ⟨lw_p33, List.forall_mem_cons.mpr ⟨lw_p34, List.forall_mem_cons.mpr ⟨lw_p35, List.forall_mem_cons.mpr ⟨lw_p36, List.forall_mem_cons.mpr ⟨lw_p37, List.forall_mem_cons.mpr ⟨lw_p38, List.forall_mem_cons.mpr ⟨lw_p39, List.forall_mem_cons.mpr ⟨lw_p40, List.forall_mem_cons.mpr ⟨lw_p41, List.forall_mem_cons.mpr ⟨lw_p42, List.forall_mem_cons.mpr ⟨lw_p43, List.forall_mem_cons.mpr ⟨lw_p44, List.forall_mem_cons.mpr ⟨lw_p45, fun _ h => absurd h List.not_mem_nil⟩⟩⟩⟩⟩⟩⟩⟩⟩⟩⟩⟩⟩⟩
def lw_privs : List (MethodName × Nat) := lw_privs_1 ++ (lw_privs_2 ++ (lw_privs_3))
def lw_tbl : List Cond := k2_sels lw_privs ++ tables_1
theorem lw_privs_ok : ∀ q ∈ lw_privs, lw_okq q := by
  show ∀ q ∈ lw_privs_1 ++ (lw_privs_2 ++ (lw_privs_3)), lw_okq q
  exact List.forall_mem_append.mpr ⟨lw_r1, List.forall_mem_append.mpr ⟨lw_r2, lw_r3⟩⟩
-- ===== end of PART A; then your names; then what follows =====
end
section
/-! Words for pure functions that mirror the code: guards, names, binds; and their one use in a walk. -/
def gd {α : Type} (b : Bool) (x : Option α) : Option α := if b = true then x else none
theorem gd_some {α : Type} {b : Bool} {x : Option α} {r : α} (h : gd b x = some r) : b = true ∧ x = some r := by
  unfold gd at h
  split at h
  · rename_i hb
    exact ⟨hb, h⟩
  · cases h
theorem gd_true {α : Type} {x : Option α} : gd true x = x := rfl
theorem gd_of {α : Type} {b : Bool} {x : Option α} (h : b = true) : gd b x = x := by rw [h]; rfl
/-- an index within n places -/
def inb (i : Int32) (n : Nat) : Bool := decide (¬ (i < 0 ∨ n ≤ i.toNatClampNeg))
theorem inb_in {i : Int32} {n : Nat} (h : inb i n = true) : vp_in i n := show ¬ (i < 0 ∨ n ≤ i.toNatClampNeg) from of_decide_eq_true h
theorem inb_lt {i : Int32} {n : Nat} (h : inb i n = true) : i.toNatClampNeg < n := by
  have h1 := of_decide_eq_true h
  omega
theorem inb_nI {k n : Nat} (h : k < n) (hn : n < 2 ^ 31) : inb (nI k) n = true := decide_eq_true (nI_in h hn)
/-- a truth value as an int -/
def bz (x : Int32) : Bool := decide (x = 0 ∨ x = 1)
theorem bz_nar {x : Int32} (h : bz x = true) : narrow .boolean (.int x) = .int x := by
  rcases of_decide_eq_true h with e | e <;> subst e <;> rfl
theorem bz_fit {x : Int32} (h : bz x = true) : fits .boolean (.int x) = true := by
  rcases of_decide_eq_true h with e | e <;> subst e <;> rfl
theorem bz_vp {x : Int32} (h : bz x = true) : vp_nar .boolean x = x := by
  rcases of_decide_eq_true h with e | e <;> subst e <;> rfl
/-- a name for a value -/
def lx {α β : Type} (v : α) (f : α → β) : β := f v
theorem lx_at {α β : Type} {v : α} {f : α → β} {r : β} (h : lx v f = r) (y : α) (e : y = v) : f y = r := by
  subst e
  exact h
theorem lx_ex {α β : Type} {v : α} {f : α → β} {r : β} (h : lx v f = r) : ∃ y, y = v ∧ f y = r := ⟨v, rfl, h⟩
def bd {α β : Type} (x : Option α) (f : α → Option β) : Option β := match x with
  | none => none
  | some a => f a
theorem bd_some {α β : Type} {x : Option α} {f : α → Option β} {r : β} (h : bd x f = some r) : ∃ a, x = some a ∧ f a = some r := by
  cases x with
  | none => cases h
  | some a => exact ⟨a, rfl, h⟩
theorem bd_of {α β : Type} {x : Option α} {f : α → Option β} {a : α} (h : x = some a) : bd x f = f a := by rw [h]; rfl
theorem ie_t {c : Prop} [Decidable c] {α : Type} {a b r : α} (h : (if c then a else b) = r) (hc : c) : a = r := by
  rw [if_pos hc] at h
  exact h
theorem ie_f {c : Prop} [Decidable c] {α : Type} {a b r : α} (h : (if c then a else b) = r) (hc : ¬ c) : b = r := by
  rw [if_neg hc] at h
  exact h
/-- a pure state: numbers and long numbers by kind, object and element -/
abbrev kS : Type := (Nat → Nat → Nat → Int32) × (Nat → Nat → Nat → Int64)
def gI (s : kS) (k j i : Nat) : Int32 := s.1 k j i
def gL (s : kS) (k j i : Nat) : Int64 := s.2 k j i
def sI (s : kS) (k j i : Nat) (v : Int32) : kS := (fun a b c => if a = k ∧ b = j ∧ c = i then v else s.1 a b c, s.2)
def sL (s : kS) (k j i : Nat) (v : Int64) : kS := (s.1, fun a b c => if a = k ∧ b = j ∧ c = i then v else s.2 a b c)
theorem gI_sI (s : kS) (k j i : Nat) (v : Int32) (a b c : Nat) : gI (sI s k j i v) a b c = if a = k ∧ b = j ∧ c = i then v else gI s a b c := rfl
theorem gL_sL (s : kS) (k j i : Nat) (v : Int64) (a b c : Nat) : gL (sL s k j i v) a b c = if a = k ∧ b = j ∧ c = i then v else gL s a b c := rfl
theorem gI_sL (s : kS) (k j i : Nat) (v : Int64) (a b c : Nat) : gI (sL s k j i v) a b c = gI s a b c := rfl
theorem gL_sI (s : kS) (k j i : Nat) (v : Int32) (a b c : Nat) : gL (sI s k j i v) a b c = gL s a b c := rfl
theorem gI_self (s : kS) (k j i : Nat) (v : Int32) : gI (sI s k j i v) k j i = v := by rw [gI_sI, if_pos ⟨rfl, rfl, rfl⟩]
theorem gL_self (s : kS) (k j i : Nat) (v : Int64) : gL (sL s k j i v) k j i = v := by rw [gL_sL, if_pos ⟨rfl, rfl, rfl⟩]
theorem gI_kind (s : kS) {k j i : Nat} {v : Int32} {a b c : Nat} (h : a ≠ k) : gI (sI s k j i v) a b c = gI s a b c := by rw [gI_sI, if_neg (fun q => h q.1)]
theorem gL_kind (s : kS) {k j i : Nat} {v : Int64} {a b c : Nat} (h : a ≠ k) : gL (sL s k j i v) a b c = gL s a b c := by rw [gL_sL, if_neg (fun q => h q.1)]
/-- a world: cells by family and number, at addresses by family and number -/
def wmap (cs : List (Nat × Nat)) (aa : Nat → Nat → Nat) (ce : Nat → Nat → va_E) : va_W := cs.map (fun x => (aa x.1 x.2, ce x.1 x.2))
theorem wmap_at {cs : List (Nat × Nat)} {aa : Nat → Nat → Nat} {ce : Nat → Nat → va_E} {k f n : Nat} (h : cs[k]? = some (f, n)) : (wmap cs aa ce)[k]? = some (aa f n, ce f n) := by
  unfold wmap
  rw [List.getElem?_map, h]
  rfl
theorem wmap_of {cs : List (Nat × Nat)} {aa : Nat → Nat → Nat} {ce : Nat → Nat → va_E} {k : Nat} {q : Nat × va_E} (h : (wmap cs aa ce)[k]? = some q) : ∃ f n, cs[k]? = some (f, n) ∧ q = (aa f n, ce f n) := by
  unfold wmap at h
  rw [List.getElem?_map] at h
  cases e : cs[k]? with
  | none => rw [e] at h; cases h
  | some x =>
    rw [e] at h
    obtain ⟨f, n⟩ := x
    exact ⟨f, n, rfl, (Option.some.inj h).symm⟩
theorem wmap_set {cs : List (Nat × Nat)} {aa : Nat → Nat → Nat} {ce ce' : Nat → Nat → va_E} {k f n : Nat} {e : va_E} (hn : cs.Nodup) (h : cs[k]? = some (f, n)) (h1 : ce' f n = e) (h2 : ∀ f' n' : Nat, ¬ (f' = f ∧ n' = n) → ce' f' n' = ce f' n') : (wmap cs aa ce).set k (aa f n, e) = wmap cs aa ce' := by
  apply List.ext_getElem?
  intro i
  by_cases hi : i = k
  · subst hi
    have hlt : i < (wmap cs aa ce).length := by
      unfold wmap
      rw [List.length_map]
      exact (List.getElem?_eq_some_iff.mp h).1
    rw [List.getElem?_set_self hlt, wmap_at h, h1]
  · rw [List.getElem?_set_ne (Ne.symm hi)]
    unfold wmap
    rw [List.getElem?_map, List.getElem?_map]
    cases e : cs[i]? with
    | none => rfl
    | some x =>
      obtain ⟨f', n'⟩ := x
      have hne : ¬ (f' = f ∧ n' = n) := by
        rintro ⟨rfl, rfl⟩
        obtain ⟨a1, b1⟩ := List.getElem?_eq_some_iff.mp h
        obtain ⟨a2, b2⟩ := List.getElem?_eq_some_iff.mp e
        rcases Nat.lt_or_gt_of_ne hi with z | z
        · exact (List.pairwise_iff_getElem.mp hn i k a2 a1 z) (b2.trans b1.symm)
        · exact (List.pairwise_iff_getElem.mp hn k i a1 a2 z) (b1.trans b2.symm)
      show some (aa f' n', ce f' n') = some (aa f' n', ce' f' n')
      rw [h2 f' n' hne]
/-- the addresses of a world's cells -/
def wA (cs : List (Nat × Nat)) (aa : Nat → Nat → Nat) : Nat → Prop := fun a => ∃ (k f n : Nat), cs[k]? = some (f, n) ∧ a = aa f n
def wJ (cs : List (Nat × Nat)) (aa : Nat → Nat → Nat) : Prop := ∀ (k k' f n f' n' : Nat), cs[k]? = some (f, n) → cs[k']? = some (f', n') → aa f n = aa f' n' → k = k'
theorem wmap_D {cs : List (Nat × Nat)} {aa : Nat → Nat → Nat} {ce : Nat → Nat → va_E} (hJ : wJ cs aa) : va_D (wA cs aa) (wmap cs aa ce) := by
  refine ⟨fun i j p q hp hq e => ?_, fun k q hq => ?_⟩
  · obtain ⟨f, n, h1, rfl⟩ := wmap_of hp
    obtain ⟨f', n', h2, rfl⟩ := wmap_of hq
    exact hJ i j f n f' n' h1 h2 e
  · obtain ⟨f, n, h1, rfl⟩ := wmap_of hq
    exact ⟨k, f, n, h1, rfl⟩
theorem ii_p1 (x : Int32) : x + Int32.ofInt 1 = x + 1 := rfl
theorem ii_m1 (x : Int32) : x + Int32.ofInt (-1) = x + (-1) := rfl
theorem ii_p5 (x : Int32) : x + Int32.ofInt 5 = x + 5 := rfl
end
section
abbrev bR_K : String := "BatonKernel"
def bT_K : u_T := fun k => match k with
  | 0 => ("BatonKernel", "procs", "[LBatonKernel$Proc;", true)
  | 1 => ("BatonKernel", "resources", "[LBatonKernel$Resource;", true)
  | 2 => ("BatonKernel", "tanks", "[LBatonKernel$Tank;", true)
  | 3 => ("BatonKernel", "conditions", "LBatonKernel$Line;", true)
  | 4 => ("BatonKernel", "trace", "LBatonKernel$Trace;", true)
  | 5 => ("BatonKernel", "losers", "[I", true)
  | 6 => ("BatonKernel", "made", "I", false)
  | 7 => ("BatonKernel", "clock", "J", false)
  | _ => ("BatonKernel", "entries", "J", false)
def bty_K : Nat → FieldType := fun k => match k with
  | 0 => .array (.object "BatonKernel$Proc")
  | 1 => .array (.object "BatonKernel$Resource")
  | 2 => .array (.object "BatonKernel$Tank")
  | 3 => .object "BatonKernel$Line"
  | 4 => .object "BatonKernel$Trace"
  | 5 => .array .int
  | 6 => .int
  | 7 => .long
  | _ => .long
theorem bn_K : ∀ a, a < 9 → ∀ b, b < 9 → a ≠ b → (bT_K a).2.1 ≠ (bT_K b).2.1 := by decide +kernel
theorem bo_K : ∀ k, k < 9 → parseFieldDescriptor (bT_K k).2.2.1 = some (bty_K k) := by decide +kernel
theorem bcl_K (k : Nat) : (bT_K k).1 = bR_K := by unfold bT_K; split <;> rfl
abbrev bc_K_init : ByteArray := prog_1_method_1_code
abbrev by_K_init : MethodName := ⟨bR_K, "<init>", "()V"⟩
abbrev brm_K_init : Room := { frames := 3, cells := 0, slots := 0, locals := 61 }
theorem bh_K_init : by_K_init.cls = bR_K ∧ by_K_init.cls ≠ "java/lang/invoke/MethodHandle" ∧ by_K_init.cls ≠ "java/lang/invoke/VarHandle" ∧ (parseMethodDescriptor by_K_init.desc).map (fun d => d.parameters.length) = some 0 := by decide +kernel
abbrev bc_K_process : ByteArray := prog_1_method_2_code
abbrev by_K_process : MethodName := ⟨bR_K, "process", "(III)I"⟩
abbrev brm_K_process : Room := { frames := 1, cells := 0, slots := 0, locals := 22 }
theorem bh_K_process : by_K_process.cls = bR_K ∧ by_K_process.cls ≠ "java/lang/invoke/MethodHandle" ∧ by_K_process.cls ≠ "java/lang/invoke/VarHandle" ∧ (parseMethodDescriptor by_K_process.desc).map (fun d => d.parameters.length) = some 3 := by decide +kernel
abbrev bc_K_instruct : ByteArray := prog_1_method_3_code
abbrev by_K_instruct : MethodName := ⟨bR_K, "instruct", "(IIII)Z"⟩
abbrev brm_K_instruct : Room := { frames := 3, cells := 0, slots := 0, locals := 64 }
theorem bh_K_instruct : by_K_instruct.cls = bR_K ∧ by_K_instruct.cls ≠ "java/lang/invoke/MethodHandle" ∧ by_K_instruct.cls ≠ "java/lang/invoke/VarHandle" ∧ (parseMethodDescriptor by_K_instruct.desc).map (fun d => d.parameters.length) = some 4 := by decide +kernel
abbrev bc_K_resource : ByteArray := prog_1_method_4_code
abbrev by_K_resource : MethodName := ⟨bR_K, "resource", "(IIZ)Z"⟩
abbrev brm_K_resource : Room := { frames := 2, cells := 0, slots := 0, locals := 47 }
theorem bh_K_resource : by_K_resource.cls = bR_K ∧ by_K_resource.cls ≠ "java/lang/invoke/MethodHandle" ∧ by_K_resource.cls ≠ "java/lang/invoke/VarHandle" ∧ (parseMethodDescriptor by_K_resource.desc).map (fun d => d.parameters.length) = some 3 := by decide +kernel
abbrev bc_K_tank : ByteArray := prog_1_method_5_code
abbrev by_K_tank : MethodName := ⟨bR_K, "tank", "(III)Z"⟩
abbrev brm_K_tank : Room := { frames := 2, cells := 0, slots := 0, locals := 42 }
theorem bh_K_tank : by_K_tank.cls = bR_K ∧ by_K_tank.cls ≠ "java/lang/invoke/MethodHandle" ∧ by_K_tank.cls ≠ "java/lang/invoke/VarHandle" ∧ (parseMethodDescriptor by_K_tank.desc).map (fun d => d.parameters.length) = some 3 := by decide +kernel
abbrev bc_K_activate : ByteArray := prog_1_method_6_code
abbrev by_K_activate : MethodName := ⟨bR_K, "activate", "(II)Z"⟩
abbrev brm_K_activate : Room := { frames := 1, cells := 0, slots := 0, locals := 23 }
theorem bh_K_activate : by_K_activate.cls = bR_K ∧ by_K_activate.cls ≠ "java/lang/invoke/MethodHandle" ∧ by_K_activate.cls ≠ "java/lang/invoke/VarHandle" ∧ (parseMethodDescriptor by_K_activate.desc).map (fun d => d.parameters.length) = some 2 := by decide +kernel
abbrev bc_K_interrupt : ByteArray := prog_1_method_7_code
abbrev by_K_interrupt : MethodName := ⟨bR_K, "interrupt", "(I)Z"⟩
abbrev brm_K_interrupt : Room := { frames := 2, cells := 0, slots := 0, locals := 47 }
theorem bh_K_interrupt : by_K_interrupt.cls = bR_K ∧ by_K_interrupt.cls ≠ "java/lang/invoke/MethodHandle" ∧ by_K_interrupt.cls ≠ "java/lang/invoke/VarHandle" ∧ (parseMethodDescriptor by_K_interrupt.desc).map (fun d => d.parameters.length) = some 1 := by decide +kernel
abbrev bc_K_kill : ByteArray := prog_1_method_8_code
abbrev by_K_kill : MethodName := ⟨bR_K, "kill", "(I)Z"⟩
abbrev brm_K_kill : Room := { frames := 3, cells := 0, slots := 0, locals := 70 }
theorem bh_K_kill : by_K_kill.cls = bR_K ∧ by_K_kill.cls ≠ "java/lang/invoke/MethodHandle" ∧ by_K_kill.cls ≠ "java/lang/invoke/VarHandle" ∧ (parseMethodDescriptor by_K_kill.desc).map (fun d => d.parameters.length) = some 1 := by decide +kernel
abbrev bc_K_run : ByteArray := prog_1_method_9_code
abbrev by_K_run : MethodName := ⟨bR_K, "run", "(IJ)I"⟩
abbrev brm_K_run : Room := { frames := 6, cells := 0, slots := 0, locals := 140 }
theorem bh_K_run : by_K_run.cls = bR_K ∧ by_K_run.cls ≠ "java/lang/invoke/MethodHandle" ∧ by_K_run.cls ≠ "java/lang/invoke/VarHandle" ∧ (parseMethodDescriptor by_K_run.desc).map (fun d => d.parameters.length) = some 2 := by decide +kernel
abbrev bc_K_now : ByteArray := prog_1_method_10_code
abbrev by_K_now : MethodName := ⟨bR_K, "now", "()J"⟩
abbrev brm_K_now : Room := { frames := 0, cells := 0, slots := 0, locals := 0 }
theorem bh_K_now : by_K_now.cls = bR_K ∧ by_K_now.cls ≠ "java/lang/invoke/MethodHandle" ∧ by_K_now.cls ≠ "java/lang/invoke/VarHandle" ∧ (parseMethodDescriptor by_K_now.desc).map (fun d => d.parameters.length) = some 0 := by decide +kernel
abbrev bc_K_next : ByteArray := prog_1_method_11_code
abbrev by_K_next : MethodName := ⟨bR_K, "next", "()J"⟩
abbrev brm_K_next : Room := { frames := 2, cells := 0, slots := 0, locals := 43 }
theorem bh_K_next : by_K_next.cls = bR_K ∧ by_K_next.cls ≠ "java/lang/invoke/MethodHandle" ∧ by_K_next.cls ≠ "java/lang/invoke/VarHandle" ∧ (parseMethodDescriptor by_K_next.desc).map (fun d => d.parameters.length) = some 0 := by decide +kernel
abbrev bc_K_state : ByteArray := prog_1_method_12_code
abbrev by_K_state : MethodName := ⟨bR_K, "state", "(I)I"⟩
abbrev brm_K_state : Room := { frames := 1, cells := 0, slots := 0, locals := 21 }
theorem bh_K_state : by_K_state.cls = bR_K ∧ by_K_state.cls ≠ "java/lang/invoke/MethodHandle" ∧ by_K_state.cls ≠ "java/lang/invoke/VarHandle" ∧ (parseMethodDescriptor by_K_state.desc).map (fun d => d.parameters.length) = some 1 := by decide +kernel
abbrev bc_K_place : ByteArray := prog_1_method_13_code
abbrev by_K_place : MethodName := ⟨bR_K, "place", "(I)I"⟩
abbrev brm_K_place : Room := { frames := 1, cells := 0, slots := 0, locals := 21 }
theorem bh_K_place : by_K_place.cls = bR_K ∧ by_K_place.cls ≠ "java/lang/invoke/MethodHandle" ∧ by_K_place.cls ≠ "java/lang/invoke/VarHandle" ∧ (parseMethodDescriptor by_K_place.desc).map (fun d => d.parameters.length) = some 1 := by decide +kernel
abbrev bc_K_held : ByteArray := prog_1_method_14_code
abbrev by_K_held : MethodName := ⟨bR_K, "held", "(II)I"⟩
abbrev brm_K_held : Room := { frames := 2, cells := 0, slots := 0, locals := 42 }
theorem bh_K_held : by_K_held.cls = bR_K ∧ by_K_held.cls ≠ "java/lang/invoke/MethodHandle" ∧ by_K_held.cls ≠ "java/lang/invoke/VarHandle" ∧ (parseMethodDescriptor by_K_held.desc).map (fun d => d.parameters.length) = some 2 := by decide +kernel
abbrev bc_K_free : ByteArray := prog_1_method_15_code
abbrev by_K_free : MethodName := ⟨bR_K, "free", "(I)I"⟩
abbrev brm_K_free : Room := { frames := 2, cells := 0, slots := 0, locals := 42 }
theorem bh_K_free : by_K_free.cls = bR_K ∧ by_K_free.cls ≠ "java/lang/invoke/MethodHandle" ∧ by_K_free.cls ≠ "java/lang/invoke/VarHandle" ∧ (parseMethodDescriptor by_K_free.desc).map (fun d => d.parameters.length) = some 1 := by decide +kernel
abbrev bc_K_waiting : ByteArray := prog_1_method_16_code
abbrev by_K_waiting : MethodName := ⟨bR_K, "waiting", "(I)I"⟩
abbrev brm_K_waiting : Room := { frames := 2, cells := 0, slots := 0, locals := 42 }
theorem bh_K_waiting : by_K_waiting.cls = bR_K ∧ by_K_waiting.cls ≠ "java/lang/invoke/MethodHandle" ∧ by_K_waiting.cls ≠ "java/lang/invoke/VarHandle" ∧ (parseMethodDescriptor by_K_waiting.desc).map (fun d => d.parameters.length) = some 1 := by decide +kernel
abbrev bc_K_area : ByteArray := prog_1_method_17_code
abbrev by_K_area : MethodName := ⟨bR_K, "area", "(I)J"⟩
abbrev brm_K_area : Room := { frames := 2, cells := 0, slots := 0, locals := 42 }
theorem bh_K_area : by_K_area.cls = bR_K ∧ by_K_area.cls ≠ "java/lang/invoke/MethodHandle" ∧ by_K_area.cls ≠ "java/lang/invoke/VarHandle" ∧ (parseMethodDescriptor by_K_area.desc).map (fun d => d.parameters.length) = some 1 := by decide +kernel
abbrev bc_K_waited : ByteArray := prog_1_method_18_code
abbrev by_K_waited : MethodName := ⟨bR_K, "waited", "(I)J"⟩
abbrev brm_K_waited : Room := { frames := 2, cells := 0, slots := 0, locals := 42 }
theorem bh_K_waited : by_K_waited.cls = bR_K ∧ by_K_waited.cls ≠ "java/lang/invoke/MethodHandle" ∧ by_K_waited.cls ≠ "java/lang/invoke/VarHandle" ∧ (parseMethodDescriptor by_K_waited.desc).map (fun d => d.parameters.length) = some 1 := by decide +kernel
abbrev bc_K_level : ByteArray := prog_1_method_19_code
abbrev by_K_level : MethodName := ⟨bR_K, "level", "(I)I"⟩
abbrev brm_K_level : Room := { frames := 2, cells := 0, slots := 0, locals := 42 }
theorem bh_K_level : by_K_level.cls = bR_K ∧ by_K_level.cls ≠ "java/lang/invoke/MethodHandle" ∧ by_K_level.cls ≠ "java/lang/invoke/VarHandle" ∧ (parseMethodDescriptor by_K_level.desc).map (fun d => d.parameters.length) = some 1 := by decide +kernel
abbrev bc_K_stuck : ByteArray := prog_1_method_20_code
abbrev by_K_stuck : MethodName := ⟨bR_K, "stuck", "()Z"⟩
abbrev brm_K_stuck : Room := { frames := 2, cells := 0, slots := 0, locals := 43 }
theorem bh_K_stuck : by_K_stuck.cls = bR_K ∧ by_K_stuck.cls ≠ "java/lang/invoke/MethodHandle" ∧ by_K_stuck.cls ≠ "java/lang/invoke/VarHandle" ∧ (parseMethodDescriptor by_K_stuck.desc).map (fun d => d.parameters.length) = some 0 := by decide +kernel
abbrev bc_K_traced : ByteArray := prog_1_method_21_code
abbrev by_K_traced : MethodName := ⟨bR_K, "traced", "(I)I"⟩
abbrev brm_K_traced : Room := { frames := 1, cells := 0, slots := 0, locals := 21 }
theorem bh_K_traced : by_K_traced.cls = bR_K ∧ by_K_traced.cls ≠ "java/lang/invoke/MethodHandle" ∧ by_K_traced.cls ≠ "java/lang/invoke/VarHandle" ∧ (parseMethodDescriptor by_K_traced.desc).map (fun d => d.parameters.length) = some 1 := by decide +kernel
abbrev bc_K_isWithin : ByteArray := prog_1_method_22_code
abbrev by_K_isWithin : MethodName := ⟨bR_K, "isWithin", "(III)Z"⟩
abbrev brm_K_isWithin : Room := { frames := 0, cells := 0, slots := 0, locals := 0 }
theorem bh_K_isWithin : by_K_isWithin.cls = bR_K ∧ by_K_isWithin.cls ≠ "java/lang/invoke/MethodHandle" ∧ by_K_isWithin.cls ≠ "java/lang/invoke/VarHandle" ∧ (parseMethodDescriptor by_K_isWithin.desc).map (fun d => d.parameters.length) = some 3 := by decide +kernel
abbrev bc_K_isResource : ByteArray := prog_1_method_23_code
abbrev by_K_isResource : MethodName := ⟨bR_K, "isResource", "(I)Z"⟩
abbrev brm_K_isResource : Room := { frames := 1, cells := 0, slots := 0, locals := 22 }
theorem bh_K_isResource : by_K_isResource.cls = bR_K ∧ by_K_isResource.cls ≠ "java/lang/invoke/MethodHandle" ∧ by_K_isResource.cls ≠ "java/lang/invoke/VarHandle" ∧ (parseMethodDescriptor by_K_isResource.desc).map (fun d => d.parameters.length) = some 1 := by decide +kernel
abbrev bc_K_isTank : ByteArray := prog_1_method_24_code
abbrev by_K_isTank : MethodName := ⟨bR_K, "isTank", "(I)Z"⟩
abbrev brm_K_isTank : Room := { frames := 1, cells := 0, slots := 0, locals := 22 }
theorem bh_K_isTank : by_K_isTank.cls = bR_K ∧ by_K_isTank.cls ≠ "java/lang/invoke/MethodHandle" ∧ by_K_isTank.cls ≠ "java/lang/invoke/VarHandle" ∧ (parseMethodDescriptor by_K_isTank.desc).map (fun d => d.parameters.length) = some 1 := by decide +kernel
abbrev bc_K_isProcess : ByteArray := prog_1_method_25_code
abbrev by_K_isProcess : MethodName := ⟨bR_K, "isProcess", "(I)Z"⟩
abbrev brm_K_isProcess : Room := { frames := 0, cells := 0, slots := 0, locals := 0 }
theorem bh_K_isProcess : by_K_isProcess.cls = bR_K ∧ by_K_isProcess.cls ≠ "java/lang/invoke/MethodHandle" ∧ by_K_isProcess.cls ≠ "java/lang/invoke/VarHandle" ∧ (parseMethodDescriptor by_K_isProcess.desc).map (fun d => d.parameters.length) = some 1 := by decide +kernel
abbrev bc_K_isInstruction : ByteArray := prog_1_method_26_code
abbrev by_K_isInstruction : MethodName := ⟨bR_K, "isInstruction", "(III)Z"⟩
abbrev brm_K_isInstruction : Room := { frames := 2, cells := 0, slots := 0, locals := 42 }
theorem bh_K_isInstruction : by_K_isInstruction.cls = bR_K ∧ by_K_isInstruction.cls ≠ "java/lang/invoke/MethodHandle" ∧ by_K_isInstruction.cls ≠ "java/lang/invoke/VarHandle" ∧ (parseMethodDescriptor by_K_isInstruction.desc).map (fun d => d.parameters.length) = some 3 := by decide +kernel
abbrev bc_K_moveClock : ByteArray := prog_1_method_27_code
abbrev by_K_moveClock : MethodName := ⟨bR_K, "moveClock", "(J)V"⟩
abbrev brm_K_moveClock : Room := { frames := 0, cells := 0, slots := 0, locals := 0 }
theorem bh_K_moveClock : by_K_moveClock.cls = bR_K ∧ by_K_moveClock.cls ≠ "java/lang/invoke/MethodHandle" ∧ by_K_moveClock.cls ≠ "java/lang/invoke/VarHandle" ∧ (parseMethodDescriptor by_K_moveClock.desc).map (fun d => d.parameters.length) = some 1 := by decide +kernel
abbrev bc_K_enter : ByteArray := prog_1_method_28_code
abbrev by_K_enter : MethodName := ⟨bR_K, "enter", "(LBatonKernel$Proc;II)V"⟩
abbrev brm_K_enter : Room := { frames := 0, cells := 0, slots := 0, locals := 0 }
theorem bh_K_enter : by_K_enter.cls = bR_K ∧ by_K_enter.cls ≠ "java/lang/invoke/MethodHandle" ∧ by_K_enter.cls ≠ "java/lang/invoke/VarHandle" ∧ (parseMethodDescriptor by_K_enter.desc).map (fun d => d.parameters.length) = some 3 := by decide +kernel
abbrev bc_K_firstEntry : ByteArray := prog_1_method_29_code
abbrev by_K_firstEntry : MethodName := ⟨bR_K, "firstEntry", "()I"⟩
abbrev brm_K_firstEntry : Room := { frames := 1, cells := 0, slots := 0, locals := 21 }
theorem bh_K_firstEntry : by_K_firstEntry.cls = bR_K ∧ by_K_firstEntry.cls ≠ "java/lang/invoke/MethodHandle" ∧ by_K_firstEntry.cls ≠ "java/lang/invoke/VarHandle" ∧ (parseMethodDescriptor by_K_firstEntry.desc).map (fun d => d.parameters.length) = some 0 := by decide +kernel
abbrev bc_K_begin : ByteArray := prog_1_method_30_code
abbrev by_K_begin : MethodName := ⟨bR_K, "begin", "(LBatonKernel$Proc;)V"⟩
abbrev brm_K_begin : Room := { frames := 2, cells := 0, slots := 0, locals := 42 }
theorem bh_K_begin : by_K_begin.cls = bR_K ∧ by_K_begin.cls ≠ "java/lang/invoke/MethodHandle" ∧ by_K_begin.cls ≠ "java/lang/invoke/VarHandle" ∧ (parseMethodDescriptor by_K_begin.desc).map (fun d => d.parameters.length) = some 1 := by decide +kernel
abbrev bc_K_doTurn : ByteArray := prog_1_method_31_code
abbrev by_K_doTurn : MethodName := ⟨bR_K, "doTurn", "(LBatonKernel$Proc;)V"⟩
abbrev brm_K_doTurn : Room := { frames := 5, cells := 0, slots := 0, locals := 117 }
theorem bh_K_doTurn : by_K_doTurn.cls = bR_K ∧ by_K_doTurn.cls ≠ "java/lang/invoke/MethodHandle" ∧ by_K_doTurn.cls ≠ "java/lang/invoke/VarHandle" ∧ (parseMethodDescriptor by_K_doTurn.desc).map (fun d => d.parameters.length) = some 1 := by decide +kernel
abbrev bc_K_perform : ByteArray := prog_1_method_32_code
abbrev by_K_perform : MethodName := ⟨bR_K, "perform", "(LBatonKernel$Proc;)Z"⟩
abbrev brm_K_perform : Room := { frames := 4, cells := 0, slots := 0, locals := 95 }
theorem bh_K_perform : by_K_perform.cls = bR_K ∧ by_K_perform.cls ≠ "java/lang/invoke/MethodHandle" ∧ by_K_perform.cls ≠ "java/lang/invoke/VarHandle" ∧ (parseMethodDescriptor by_K_perform.desc).map (fun d => d.parameters.length) = some 1 := by decide +kernel
abbrev bc_K_countBefore : ByteArray := prog_1_method_33_code
abbrev by_K_countBefore : MethodName := ⟨bR_K, "countBefore", "(II)I"⟩
abbrev brm_K_countBefore : Room := { frames := 0, cells := 0, slots := 0, locals := 0 }
theorem bh_K_countBefore : by_K_countBefore.cls = bR_K ∧ by_K_countBefore.cls ≠ "java/lang/invoke/MethodHandle" ∧ by_K_countBefore.cls ≠ "java/lang/invoke/VarHandle" ∧ (parseMethodDescriptor by_K_countBefore.desc).map (fun d => d.parameters.length) = some 2 := by decide +kernel
abbrev bc_K_seizeFree : ByteArray := prog_1_method_34_code
abbrev by_K_seizeFree : MethodName := ⟨bR_K, "seizeFree", "(LBatonKernel$Proc;)Z"⟩
abbrev brm_K_seizeFree : Room := { frames := 1, cells := 0, slots := 0, locals := 24 }
theorem bh_K_seizeFree : by_K_seizeFree.cls = bR_K ∧ by_K_seizeFree.cls ≠ "java/lang/invoke/MethodHandle" ∧ by_K_seizeFree.cls ≠ "java/lang/invoke/VarHandle" ∧ (parseMethodDescriptor by_K_seizeFree.desc).map (fun d => d.parameters.length) = some 1 := by decide +kernel
abbrev bc_K_seizeByForce : ByteArray := prog_1_method_35_code
abbrev by_K_seizeByForce : MethodName := ⟨bR_K, "seizeByForce", "(LBatonKernel$Proc;)Z"⟩
abbrev brm_K_seizeByForce : Room := { frames := 3, cells := 0, slots := 0, locals := 70 }
theorem bh_K_seizeByForce : by_K_seizeByForce.cls = bR_K ∧ by_K_seizeByForce.cls ≠ "java/lang/invoke/MethodHandle" ∧ by_K_seizeByForce.cls ≠ "java/lang/invoke/VarHandle" ∧ (parseMethodDescriptor by_K_seizeByForce.desc).map (fun d => d.parameters.length) = some 1 := by decide +kernel
abbrev bc_K_standInLine : ByteArray := prog_1_method_36_code
abbrev by_K_standInLine : MethodName := ⟨bR_K, "standInLine", "(LBatonKernel$Proc;)Z"⟩
abbrev brm_K_standInLine : Room := { frames := 1, cells := 0, slots := 0, locals := 24 }
theorem bh_K_standInLine : by_K_standInLine.cls = bR_K ∧ by_K_standInLine.cls ≠ "java/lang/invoke/MethodHandle" ∧ by_K_standInLine.cls ≠ "java/lang/invoke/VarHandle" ∧ (parseMethodDescriptor by_K_standInLine.desc).map (fun d => d.parameters.length) = some 1 := by decide +kernel
abbrev bc_K_withinReach : ByteArray := prog_1_method_37_code
abbrev by_K_withinReach : MethodName := ⟨bR_K, "withinReach", "(LBatonKernel$Proc;I)I"⟩
abbrev brm_K_withinReach : Room := { frames := 1, cells := 0, slots := 0, locals := 20 }
theorem bh_K_withinReach : by_K_withinReach.cls = bR_K ∧ by_K_withinReach.cls ≠ "java/lang/invoke/MethodHandle" ∧ by_K_withinReach.cls ≠ "java/lang/invoke/VarHandle" ∧ (parseMethodDescriptor by_K_withinReach.desc).map (fun d => d.parameters.length) = some 2 := by decide +kernel
abbrev bc_K_takeFromLosers : ByteArray := prog_1_method_38_code
abbrev by_K_takeFromLosers : MethodName := ⟨bR_K, "takeFromLosers", "(LBatonKernel$Proc;II)I"⟩
abbrev brm_K_takeFromLosers : Room := { frames := 1, cells := 0, slots := 0, locals := 25 }
theorem bh_K_takeFromLosers : by_K_takeFromLosers.cls = bR_K ∧ by_K_takeFromLosers.cls ≠ "java/lang/invoke/MethodHandle" ∧ by_K_takeFromLosers.cls ≠ "java/lang/invoke/VarHandle" ∧ (parseMethodDescriptor by_K_takeFromLosers.desc).map (fun d => d.parameters.length) = some 3 := by decide +kernel
abbrev bc_K_nextLoser : ByteArray := prog_1_method_39_code
abbrev by_K_nextLoser : MethodName := ⟨bR_K, "nextLoser", "(LBatonKernel$Proc;I)I"⟩
abbrev brm_K_nextLoser : Room := { frames := 0, cells := 0, slots := 0, locals := 0 }
theorem bh_K_nextLoser : by_K_nextLoser.cls = bR_K ∧ by_K_nextLoser.cls ≠ "java/lang/invoke/MethodHandle" ∧ by_K_nextLoser.cls ≠ "java/lang/invoke/VarHandle" ∧ (parseMethodDescriptor by_K_nextLoser.desc).map (fun d => d.parameters.length) = some 2 := by decide +kernel
abbrev bc_K_give : ByteArray := prog_1_method_40_code
abbrev by_K_give : MethodName := ⟨bR_K, "give", "(LBatonKernel$Proc;II)V"⟩
abbrev brm_K_give : Room := { frames := 0, cells := 0, slots := 0, locals := 0 }
theorem bh_K_give : by_K_give.cls = bR_K ∧ by_K_give.cls ≠ "java/lang/invoke/MethodHandle" ∧ by_K_give.cls ≠ "java/lang/invoke/VarHandle" ∧ (parseMethodDescriptor by_K_give.desc).map (fun d => d.parameters.length) = some 3 := by decide +kernel
abbrev bc_K_takeBack : ByteArray := prog_1_method_41_code
abbrev by_K_takeBack : MethodName := ⟨bR_K, "takeBack", "(LBatonKernel$Proc;II)V"⟩
abbrev brm_K_takeBack : Room := { frames := 0, cells := 0, slots := 0, locals := 0 }
theorem bh_K_takeBack : by_K_takeBack.cls = bR_K ∧ by_K_takeBack.cls ≠ "java/lang/invoke/MethodHandle" ∧ by_K_takeBack.cls ≠ "java/lang/invoke/VarHandle" ∧ (parseMethodDescriptor by_K_takeBack.desc).map (fun d => d.parameters.length) = some 3 := by decide +kernel
abbrev bc_K_giveBack : ByteArray := prog_1_method_42_code
abbrev by_K_giveBack : MethodName := ⟨bR_K, "giveBack", "(LBatonKernel$Proc;II)V"⟩
abbrev brm_K_giveBack : Room := { frames := 2, cells := 0, slots := 0, locals := 47 }
theorem bh_K_giveBack : by_K_giveBack.cls = bR_K ∧ by_K_giveBack.cls ≠ "java/lang/invoke/MethodHandle" ∧ by_K_giveBack.cls ≠ "java/lang/invoke/VarHandle" ∧ (parseMethodDescriptor by_K_giveBack.desc).map (fun d => d.parameters.length) = some 3 := by decide +kernel
abbrev bc_K_serve : ByteArray := prog_1_method_43_code
abbrev by_K_serve : MethodName := ⟨bR_K, "serve", "(I)V"⟩
abbrev brm_K_serve : Room := { frames := 1, cells := 0, slots := 0, locals := 23 }
theorem bh_K_serve : by_K_serve.cls = bR_K ∧ by_K_serve.cls ≠ "java/lang/invoke/MethodHandle" ∧ by_K_serve.cls ≠ "java/lang/invoke/VarHandle" ∧ (parseMethodDescriptor by_K_serve.desc).map (fun d => d.parameters.length) = some 1 := by decide +kernel
abbrev bc_K_meetCondition : ByteArray := prog_1_method_44_code
abbrev by_K_meetCondition : MethodName := ⟨bR_K, "meetCondition", "(LBatonKernel$Proc;)Z"⟩
abbrev brm_K_meetCondition : Room := { frames := 1, cells := 0, slots := 0, locals := 21 }
theorem bh_K_meetCondition : by_K_meetCondition.cls = bR_K ∧ by_K_meetCondition.cls ≠ "java/lang/invoke/MethodHandle" ∧ by_K_meetCondition.cls ≠ "java/lang/invoke/VarHandle" ∧ (parseMethodDescriptor by_K_meetCondition.desc).map (fun d => d.parameters.length) = some 1 := by decide +kernel
abbrev bc_K_waitForCondition : ByteArray := prog_1_method_45_code
abbrev by_K_waitForCondition : MethodName := ⟨bR_K, "waitForCondition", "(LBatonKernel$Proc;)Z"⟩
abbrev brm_K_waitForCondition : Room := { frames := 1, cells := 0, slots := 0, locals := 23 }
theorem bh_K_waitForCondition : by_K_waitForCondition.cls = bR_K ∧ by_K_waitForCondition.cls ≠ "java/lang/invoke/MethodHandle" ∧ by_K_waitForCondition.cls ≠ "java/lang/invoke/VarHandle" ∧ (parseMethodDescriptor by_K_waitForCondition.desc).map (fun d => d.parameters.length) = some 1 := by decide +kernel
abbrev bc_K_goOverConditions : ByteArray := prog_1_method_46_code
abbrev by_K_goOverConditions : MethodName := ⟨bR_K, "goOverConditions", "()V"⟩
abbrev brm_K_goOverConditions : Room := { frames := 2, cells := 0, slots := 0, locals := 43 }
theorem bh_K_goOverConditions : by_K_goOverConditions.cls = bR_K ∧ by_K_goOverConditions.cls ≠ "java/lang/invoke/MethodHandle" ∧ by_K_goOverConditions.cls ≠ "java/lang/invoke/VarHandle" ∧ (parseMethodDescriptor by_K_goOverConditions.desc).map (fun d => d.parameters.length) = some 0 := by decide +kernel
abbrev bc_K_lineOf : ByteArray := prog_1_method_47_code
abbrev by_K_lineOf : MethodName := ⟨bR_K, "lineOf", "(LBatonKernel$Proc;)I"⟩
abbrev brm_K_lineOf : Room := { frames := 1, cells := 0, slots := 0, locals := 20 }
theorem bh_K_lineOf : by_K_lineOf.cls = bR_K ∧ by_K_lineOf.cls ≠ "java/lang/invoke/MethodHandle" ∧ by_K_lineOf.cls ≠ "java/lang/invoke/VarHandle" ∧ (parseMethodDescriptor by_K_lineOf.desc).map (fun d => d.parameters.length) = some 1 := by decide +kernel
abbrev bc_K_leave : ByteArray := prog_1_method_48_code
abbrev by_K_leave : MethodName := ⟨bR_K, "leave", "(LBatonKernel$Proc;)V"⟩
abbrev brm_K_leave : Room := { frames := 1, cells := 0, slots := 0, locals := 23 }
theorem bh_K_leave : by_K_leave.cls = bR_K ∧ by_K_leave.cls ≠ "java/lang/invoke/MethodHandle" ∧ by_K_leave.cls ≠ "java/lang/invoke/VarHandle" ∧ (parseMethodDescriptor by_K_leave.desc).map (fun d => d.parameters.length) = some 1 := by decide +kernel
abbrev bR_M : String := "BatonKernelModel"
def bT_M : u_T := fun k => match k with
  | 0 => ("BatonKernelModel", "count", "I", false)
  | 1 => ("BatonKernelModel", "order", "I", false)
  | 2 => ("BatonKernelModel", "coming", "I", false)
  | 3 => ("BatonKernelModel", "events", "I", false)
  | 4 => ("BatonKernelModel", "clock", "J", false)
  | 5 => ("BatonKernelModel", "priority", "[I", false)
  | 6 => ("BatonKernelModel", "rounds", "[I", false)
  | 7 => ("BatonKernelModel", "handler", "[I", false)
  | 8 => ("BatonKernelModel", "length", "[I", false)
  | 9 => ("BatonKernelModel", "spot", "[I", false)
  | 10 => ("BatonKernelModel", "mode", "[I", false)
  | 11 => ("BatonKernelModel", "time", "[J", false)
  | 12 => ("BatonKernelModel", "entry", "[I", false)
  | 13 => ("BatonKernelModel", "came", "[I", false)
  | 14 => ("BatonKernelModel", "since", "[J", false)
  | 15 => ("BatonKernelModel", "op", "[I", false)
  | 16 => ("BatonKernelModel", "argA", "[I", false)
  | 17 => ("BatonKernelModel", "argB", "[I", false)
  | 18 => ("BatonKernelModel", "has", "[I", false)
  | 19 => ("BatonKernelModel", "units", "[I", false)
  | 20 => ("BatonKernelModel", "strong", "[Z", false)
  | 21 => ("BatonKernelModel", "sum", "[J", false)
  | 22 => ("BatonKernelModel", "lined", "[J", false)
  | 23 => ("BatonKernelModel", "most", "[I", false)
  | 24 => ("BatonKernelModel", "full", "[I", false)
  | 25 => ("BatonKernelModel", "lost", "[I", false)
  | _ => ("BatonKernelModel", "trace", "[I", false)
def bty_M : Nat → FieldType := fun k => match k with
  | 0 => .int
  | 1 => .int
  | 2 => .int
  | 3 => .int
  | 4 => .long
  | 5 => .array .int
  | 6 => .array .int
  | 7 => .array .int
  | 8 => .array .int
  | 9 => .array .int
  | 10 => .array .int
  | 11 => .array .long
  | 12 => .array .int
  | 13 => .array .int
  | 14 => .array .long
  | 15 => .array .int
  | 16 => .array .int
  | 17 => .array .int
  | 18 => .array .int
  | 19 => .array .int
  | 20 => .array .boolean
  | 21 => .array .long
  | 22 => .array .long
  | 23 => .array .int
  | 24 => .array .int
  | 25 => .array .int
  | _ => .array .int
theorem bn_M : ∀ a, a < 27 → ∀ b, b < 27 → a ≠ b → (bT_M a).2.1 ≠ (bT_M b).2.1 := by decide +kernel
theorem bo_M : ∀ k, k < 27 → parseFieldDescriptor (bT_M k).2.2.1 = some (bty_M k) := by decide +kernel
theorem bcl_M (k : Nat) : (bT_M k).1 = bR_M := by unfold bT_M; split <;> rfl
abbrev bc_M_init : ByteArray := prog_8_method_1_code
abbrev by_M_init : MethodName := ⟨bR_M, "<init>", "()V"⟩
abbrev brm_M_init : Room := { frames := 1, cells := 0, slots := 0, locals := 21 }
theorem bh_M_init : by_M_init.cls = bR_M ∧ by_M_init.cls ≠ "java/lang/invoke/MethodHandle" ∧ by_M_init.cls ≠ "java/lang/invoke/VarHandle" ∧ (parseMethodDescriptor by_M_init.desc).map (fun d => d.parameters.length) = some 0 := by decide +kernel
abbrev bc_M_process : ByteArray := prog_8_method_2_code
abbrev by_M_process : MethodName := ⟨bR_M, "process", "(III)I"⟩
abbrev brm_M_process : Room := { frames := 0, cells := 0, slots := 0, locals := 0 }
theorem bh_M_process : by_M_process.cls = bR_M ∧ by_M_process.cls ≠ "java/lang/invoke/MethodHandle" ∧ by_M_process.cls ≠ "java/lang/invoke/VarHandle" ∧ (parseMethodDescriptor by_M_process.desc).map (fun d => d.parameters.length) = some 3 := by decide +kernel
abbrev bc_M_within : ByteArray := prog_8_method_3_code
abbrev by_M_within : MethodName := ⟨bR_M, "within", "(III)Z"⟩
abbrev brm_M_within : Room := { frames := 0, cells := 0, slots := 0, locals := 0 }
theorem bh_M_within : by_M_within.cls = bR_M ∧ by_M_within.cls ≠ "java/lang/invoke/MethodHandle" ∧ by_M_within.cls ≠ "java/lang/invoke/VarHandle" ∧ (parseMethodDescriptor by_M_within.desc).map (fun d => d.parameters.length) = some 3 := by decide +kernel
abbrev bc_M_fits : ByteArray := prog_8_method_4_code
abbrev by_M_fits : MethodName := ⟨bR_M, "fits", "(III)Z"⟩
abbrev brm_M_fits : Room := { frames := 1, cells := 0, slots := 0, locals := 23 }
theorem bh_M_fits : by_M_fits.cls = bR_M ∧ by_M_fits.cls ≠ "java/lang/invoke/MethodHandle" ∧ by_M_fits.cls ≠ "java/lang/invoke/VarHandle" ∧ (parseMethodDescriptor by_M_fits.desc).map (fun d => d.parameters.length) = some 3 := by decide +kernel
abbrev bc_M_none : ByteArray := prog_8_method_5_code
abbrev by_M_none : MethodName := ⟨bR_M, "none", "(I)Z"⟩
abbrev brm_M_none : Room := { frames := 0, cells := 0, slots := 0, locals := 0 }
theorem bh_M_none : by_M_none.cls = bR_M ∧ by_M_none.cls ≠ "java/lang/invoke/MethodHandle" ∧ by_M_none.cls ≠ "java/lang/invoke/VarHandle" ∧ (parseMethodDescriptor by_M_none.desc).map (fun d => d.parameters.length) = some 1 := by decide +kernel
abbrev bc_M_instruct : ByteArray := prog_8_method_6_code
abbrev by_M_instruct : MethodName := ⟨bR_M, "instruct", "(IIII)Z"⟩
abbrev brm_M_instruct : Room := { frames := 2, cells := 0, slots := 0, locals := 46 }
theorem bh_M_instruct : by_M_instruct.cls = bR_M ∧ by_M_instruct.cls ≠ "java/lang/invoke/MethodHandle" ∧ by_M_instruct.cls ≠ "java/lang/invoke/VarHandle" ∧ (parseMethodDescriptor by_M_instruct.desc).map (fun d => d.parameters.length) = some 4 := by decide +kernel
abbrev bc_M_resource : ByteArray := prog_8_method_7_code
abbrev by_M_resource : MethodName := ⟨bR_M, "resource", "(IIZ)Z"⟩
abbrev brm_M_resource : Room := { frames := 3, cells := 0, slots := 0, locals := 67 }
theorem bh_M_resource : by_M_resource.cls = bR_M ∧ by_M_resource.cls ≠ "java/lang/invoke/MethodHandle" ∧ by_M_resource.cls ≠ "java/lang/invoke/VarHandle" ∧ (parseMethodDescriptor by_M_resource.desc).map (fun d => d.parameters.length) = some 3 := by decide +kernel
abbrev bc_M_tank : ByteArray := prog_8_method_8_code
abbrev by_M_tank : MethodName := ⟨bR_M, "tank", "(III)Z"⟩
abbrev brm_M_tank : Room := { frames := 1, cells := 0, slots := 0, locals := 23 }
theorem bh_M_tank : by_M_tank.cls = bR_M ∧ by_M_tank.cls ≠ "java/lang/invoke/MethodHandle" ∧ by_M_tank.cls ≠ "java/lang/invoke/VarHandle" ∧ (parseMethodDescriptor by_M_tank.desc).map (fun d => d.parameters.length) = some 3 := by decide +kernel
abbrev bc_M_enter : ByteArray := prog_8_method_9_code
abbrev by_M_enter : MethodName := ⟨bR_M, "enter", "(IIJ)V"⟩
abbrev brm_M_enter : Room := { frames := 0, cells := 0, slots := 0, locals := 0 }
theorem bh_M_enter : by_M_enter.cls = bR_M ∧ by_M_enter.cls ≠ "java/lang/invoke/MethodHandle" ∧ by_M_enter.cls ≠ "java/lang/invoke/VarHandle" ∧ (parseMethodDescriptor by_M_enter.desc).map (fun d => d.parameters.length) = some 3 := by decide +kernel
abbrev bc_M_sooner : ByteArray := prog_8_method_10_code
abbrev by_M_sooner : MethodName := ⟨bR_M, "sooner", "(II)Z"⟩
abbrev brm_M_sooner : Room := { frames := 0, cells := 0, slots := 0, locals := 0 }
theorem bh_M_sooner : by_M_sooner.cls = bR_M ∧ by_M_sooner.cls ≠ "java/lang/invoke/MethodHandle" ∧ by_M_sooner.cls ≠ "java/lang/invoke/VarHandle" ∧ (parseMethodDescriptor by_M_sooner.desc).map (fun d => d.parameters.length) = some 2 := by decide +kernel
abbrev bc_M_first : ByteArray := prog_8_method_11_code
abbrev by_M_first : MethodName := ⟨bR_M, "first", "()I"⟩
abbrev brm_M_first : Room := { frames := 1, cells := 0, slots := 0, locals := 22 }
theorem bh_M_first : by_M_first.cls = bR_M ∧ by_M_first.cls ≠ "java/lang/invoke/MethodHandle" ∧ by_M_first.cls ≠ "java/lang/invoke/VarHandle" ∧ (parseMethodDescriptor by_M_first.desc).map (fun d => d.parameters.length) = some 0 := by decide +kernel
abbrev bc_M_seized : ByteArray := prog_8_method_12_code
abbrev by_M_seized : MethodName := ⟨bR_M, "seized", "(I)I"⟩
abbrev brm_M_seized : Room := { frames := 0, cells := 0, slots := 0, locals := 0 }
theorem bh_M_seized : by_M_seized.cls = bR_M ∧ by_M_seized.cls ≠ "java/lang/invoke/MethodHandle" ∧ by_M_seized.cls ≠ "java/lang/invoke/VarHandle" ∧ (parseMethodDescriptor by_M_seized.desc).map (fun d => d.parameters.length) = some 1 := by decide +kernel
abbrev bc_M_rest : ByteArray := prog_8_method_13_code
abbrev by_M_rest : MethodName := ⟨bR_M, "rest", "(I)I"⟩
abbrev brm_M_rest : Room := { frames := 1, cells := 0, slots := 0, locals := 23 }
theorem bh_M_rest : by_M_rest.cls = bR_M ∧ by_M_rest.cls ≠ "java/lang/invoke/MethodHandle" ∧ by_M_rest.cls ≠ "java/lang/invoke/VarHandle" ∧ (parseMethodDescriptor by_M_rest.desc).map (fun d => d.parameters.length) = some 1 := by decide +kernel
abbrev bc_M_done : ByteArray := prog_8_method_14_code
abbrev by_M_done : MethodName := ⟨bR_M, "done", "(I)I"⟩
abbrev brm_M_done : Room := { frames := 0, cells := 0, slots := 0, locals := 0 }
theorem bh_M_done : by_M_done.cls = bR_M ∧ by_M_done.cls ≠ "java/lang/invoke/MethodHandle" ∧ by_M_done.cls ≠ "java/lang/invoke/VarHandle" ∧ (parseMethodDescriptor by_M_done.desc).map (fun d => d.parameters.length) = some 1 := by decide +kernel
abbrev bc_M_head : ByteArray := prog_8_method_15_code
abbrev by_M_head : MethodName := ⟨bR_M, "head", "(I)I"⟩
abbrev brm_M_head : Room := { frames := 1, cells := 0, slots := 0, locals := 21 }
theorem bh_M_head : by_M_head.cls = bR_M ∧ by_M_head.cls ≠ "java/lang/invoke/MethodHandle" ∧ by_M_head.cls ≠ "java/lang/invoke/VarHandle" ∧ (parseMethodDescriptor by_M_head.desc).map (fun d => d.parameters.length) = some 1 := by decide +kernel
abbrev bc_M_serve : ByteArray := prog_8_method_16_code
abbrev by_M_serve : MethodName := ⟨bR_M, "serve", "(I)V"⟩
abbrev brm_M_serve : Room := { frames := 2, cells := 0, slots := 0, locals := 44 }
theorem bh_M_serve : by_M_serve.cls = bR_M ∧ by_M_serve.cls ≠ "java/lang/invoke/MethodHandle" ∧ by_M_serve.cls ≠ "java/lang/invoke/VarHandle" ∧ (parseMethodDescriptor by_M_serve.desc).map (fun d => d.parameters.length) = some 1 := by decide +kernel
abbrev bc_M_seize : ByteArray := prog_8_method_17_code
abbrev by_M_seize : MethodName := ⟨bR_M, "seize", "(III)Z"⟩
abbrev brm_M_seize : Room := { frames := 5, cells := 0, slots := 0, locals := 115 }
theorem bh_M_seize : by_M_seize.cls = bR_M ∧ by_M_seize.cls ≠ "java/lang/invoke/MethodHandle" ∧ by_M_seize.cls ≠ "java/lang/invoke/VarHandle" ∧ (parseMethodDescriptor by_M_seize.desc).map (fun d => d.parameters.length) = some 3 := by decide +kernel
abbrev bc_M_reach : ByteArray := prog_8_method_18_code
abbrev by_M_reach : MethodName := ⟨bR_M, "reach", "(II)I"⟩
abbrev brm_M_reach : Room := { frames := 2, cells := 0, slots := 0, locals := 44 }
theorem bh_M_reach : by_M_reach.cls = bR_M ∧ by_M_reach.cls ≠ "java/lang/invoke/MethodHandle" ∧ by_M_reach.cls ≠ "java/lang/invoke/VarHandle" ∧ (parseMethodDescriptor by_M_reach.desc).map (fun d => d.parameters.length) = some 2 := by decide +kernel
abbrev bc_M_victim : ByteArray := prog_8_method_19_code
abbrev by_M_victim : MethodName := ⟨bR_M, "victim", "(II)I"⟩
abbrev brm_M_victim : Room := { frames := 0, cells := 0, slots := 0, locals := 0 }
theorem bh_M_victim : by_M_victim.cls = bR_M ∧ by_M_victim.cls ≠ "java/lang/invoke/MethodHandle" ∧ by_M_victim.cls ≠ "java/lang/invoke/VarHandle" ∧ (parseMethodDescriptor by_M_victim.desc).map (fun d => d.parameters.length) = some 2 := by decide +kernel
abbrev bc_M_preempt : ByteArray := prog_8_method_20_code
abbrev by_M_preempt : MethodName := ⟨bR_M, "preempt", "(III)V"⟩
abbrev brm_M_preempt : Room := { frames := 4, cells := 0, slots := 0, locals := 89 }
theorem bh_M_preempt : by_M_preempt.cls = bR_M ∧ by_M_preempt.cls ≠ "java/lang/invoke/MethodHandle" ∧ by_M_preempt.cls ≠ "java/lang/invoke/VarHandle" ∧ (parseMethodDescriptor by_M_preempt.desc).map (fun d => d.parameters.length) = some 3 := by decide +kernel
abbrev bc_M_release : ByteArray := prog_8_method_21_code
abbrev by_M_release : MethodName := ⟨bR_M, "release", "(III)V"⟩
abbrev brm_M_release : Room := { frames := 3, cells := 0, slots := 0, locals := 67 }
theorem bh_M_release : by_M_release.cls = bR_M ∧ by_M_release.cls ≠ "java/lang/invoke/MethodHandle" ∧ by_M_release.cls ≠ "java/lang/invoke/VarHandle" ∧ (parseMethodDescriptor by_M_release.desc).map (fun d => d.parameters.length) = some 3 := by decide +kernel
abbrev bc_M_holds : ByteArray := prog_8_method_22_code
abbrev by_M_holds : MethodName := ⟨bR_M, "holds", "(I)Z"⟩
abbrev brm_M_holds : Room := { frames := 0, cells := 0, slots := 0, locals := 0 }
theorem bh_M_holds : by_M_holds.cls = bR_M ∧ by_M_holds.cls ≠ "java/lang/invoke/MethodHandle" ∧ by_M_holds.cls ≠ "java/lang/invoke/VarHandle" ∧ (parseMethodDescriptor by_M_holds.desc).map (fun d => d.parameters.length) = some 1 := by decide +kernel
abbrev bc_M_pour : ByteArray := prog_8_method_23_code
abbrev by_M_pour : MethodName := ⟨bR_M, "pour", "(I)V"⟩
abbrev brm_M_pour : Room := { frames := 0, cells := 0, slots := 0, locals := 0 }
theorem bh_M_pour : by_M_pour.cls = bR_M ∧ by_M_pour.cls ≠ "java/lang/invoke/MethodHandle" ∧ by_M_pour.cls ≠ "java/lang/invoke/VarHandle" ∧ (parseMethodDescriptor by_M_pour.desc).map (fun d => d.parameters.length) = some 1 := by decide +kernel
abbrev bc_M_goOver : ByteArray := prog_8_method_24_code
abbrev by_M_goOver : MethodName := ⟨bR_M, "goOver", "()V"⟩
abbrev brm_M_goOver : Room := { frames := 1, cells := 0, slots := 0, locals := 24 }
theorem bh_M_goOver : by_M_goOver.cls = bR_M ∧ by_M_goOver.cls ≠ "java/lang/invoke/MethodHandle" ∧ by_M_goOver.cls ≠ "java/lang/invoke/VarHandle" ∧ (parseMethodDescriptor by_M_goOver.desc).map (fun d => d.parameters.length) = some 0 := by decide +kernel
abbrev bc_M_perform : ByteArray := prog_8_method_25_code
abbrev by_M_perform : MethodName := ⟨bR_M, "perform", "(II)Z"⟩
abbrev brm_M_perform : Room := { frames := 6, cells := 0, slots := 0, locals := 140 }
theorem bh_M_perform : by_M_perform.cls = bR_M ∧ by_M_perform.cls ≠ "java/lang/invoke/MethodHandle" ∧ by_M_perform.cls ≠ "java/lang/invoke/VarHandle" ∧ (parseMethodDescriptor by_M_perform.desc).map (fun d => d.parameters.length) = some 2 := by decide +kernel
abbrev bc_M_turn : ByteArray := prog_8_method_26_code
abbrev by_M_turn : MethodName := ⟨bR_M, "turn", "(I)V"⟩
abbrev brm_M_turn : Room := { frames := 7, cells := 0, slots := 0, locals := 163 }
theorem bh_M_turn : by_M_turn.cls = bR_M ∧ by_M_turn.cls ≠ "java/lang/invoke/MethodHandle" ∧ by_M_turn.cls ≠ "java/lang/invoke/VarHandle" ∧ (parseMethodDescriptor by_M_turn.desc).map (fun d => d.parameters.length) = some 1 := by decide +kernel
abbrev bc_M_advance : ByteArray := prog_8_method_27_code
abbrev by_M_advance : MethodName := ⟨bR_M, "advance", "(J)V"⟩
abbrev brm_M_advance : Room := { frames := 1, cells := 0, slots := 0, locals := 23 }
theorem bh_M_advance : by_M_advance.cls = bR_M ∧ by_M_advance.cls ≠ "java/lang/invoke/MethodHandle" ∧ by_M_advance.cls ≠ "java/lang/invoke/VarHandle" ∧ (parseMethodDescriptor by_M_advance.desc).map (fun d => d.parameters.length) = some 1 := by decide +kernel
abbrev bc_M_event : ByteArray := prog_8_method_28_code
abbrev by_M_event : MethodName := ⟨bR_M, "event", "(I)V"⟩
abbrev brm_M_event : Room := { frames := 8, cells := 0, slots := 0, locals := 185 }
theorem bh_M_event : by_M_event.cls = bR_M ∧ by_M_event.cls ≠ "java/lang/invoke/MethodHandle" ∧ by_M_event.cls ≠ "java/lang/invoke/VarHandle" ∧ (parseMethodDescriptor by_M_event.desc).map (fun d => d.parameters.length) = some 1 := by decide +kernel
abbrev bc_M_run : ByteArray := prog_8_method_29_code
abbrev by_M_run : MethodName := ⟨bR_M, "run", "(IJ)I"⟩
abbrev brm_M_run : Room := { frames := 9, cells := 0, slots := 0, locals := 207 }
theorem bh_M_run : by_M_run.cls = bR_M ∧ by_M_run.cls ≠ "java/lang/invoke/MethodHandle" ∧ by_M_run.cls ≠ "java/lang/invoke/VarHandle" ∧ (parseMethodDescriptor by_M_run.desc).map (fun d => d.parameters.length) = some 2 := by decide +kernel
abbrev bc_M_activate : ByteArray := prog_8_method_30_code
abbrev by_M_activate : MethodName := ⟨bR_M, "activate", "(II)Z"⟩
abbrev brm_M_activate : Room := { frames := 1, cells := 0, slots := 0, locals := 24 }
theorem bh_M_activate : by_M_activate.cls = bR_M ∧ by_M_activate.cls ≠ "java/lang/invoke/MethodHandle" ∧ by_M_activate.cls ≠ "java/lang/invoke/VarHandle" ∧ (parseMethodDescriptor by_M_activate.desc).map (fun d => d.parameters.length) = some 2 := by decide +kernel
abbrev bc_M_interrupt : ByteArray := prog_8_method_31_code
abbrev by_M_interrupt : MethodName := ⟨bR_M, "interrupt", "(I)Z"⟩
abbrev brm_M_interrupt : Room := { frames := 3, cells := 0, slots := 0, locals := 67 }
theorem bh_M_interrupt : by_M_interrupt.cls = bR_M ∧ by_M_interrupt.cls ≠ "java/lang/invoke/MethodHandle" ∧ by_M_interrupt.cls ≠ "java/lang/invoke/VarHandle" ∧ (parseMethodDescriptor by_M_interrupt.desc).map (fun d => d.parameters.length) = some 1 := by decide +kernel
abbrev bc_M_kill : ByteArray := prog_8_method_32_code
abbrev by_M_kill : MethodName := ⟨bR_M, "kill", "(I)Z"⟩
abbrev brm_M_kill : Room := { frames := 4, cells := 0, slots := 0, locals := 91 }
theorem bh_M_kill : by_M_kill.cls = bR_M ∧ by_M_kill.cls ≠ "java/lang/invoke/MethodHandle" ∧ by_M_kill.cls ≠ "java/lang/invoke/VarHandle" ∧ (parseMethodDescriptor by_M_kill.desc).map (fun d => d.parameters.length) = some 1 := by decide +kernel
abbrev bc_M_now : ByteArray := prog_8_method_33_code
abbrev by_M_now : MethodName := ⟨bR_M, "now", "()J"⟩
abbrev brm_M_now : Room := { frames := 0, cells := 0, slots := 0, locals := 0 }
theorem bh_M_now : by_M_now.cls = bR_M ∧ by_M_now.cls ≠ "java/lang/invoke/MethodHandle" ∧ by_M_now.cls ≠ "java/lang/invoke/VarHandle" ∧ (parseMethodDescriptor by_M_now.desc).map (fun d => d.parameters.length) = some 0 := by decide +kernel
abbrev bc_M_next : ByteArray := prog_8_method_34_code
abbrev by_M_next : MethodName := ⟨bR_M, "next", "()J"⟩
abbrev brm_M_next : Room := { frames := 2, cells := 0, slots := 0, locals := 44 }
theorem bh_M_next : by_M_next.cls = bR_M ∧ by_M_next.cls ≠ "java/lang/invoke/MethodHandle" ∧ by_M_next.cls ≠ "java/lang/invoke/VarHandle" ∧ (parseMethodDescriptor by_M_next.desc).map (fun d => d.parameters.length) = some 0 := by decide +kernel
abbrev bc_M_state : ByteArray := prog_8_method_35_code
abbrev by_M_state : MethodName := ⟨bR_M, "state", "(I)I"⟩
abbrev brm_M_state : Room := { frames := 1, cells := 0, slots := 0, locals := 21 }
theorem bh_M_state : by_M_state.cls = bR_M ∧ by_M_state.cls ≠ "java/lang/invoke/MethodHandle" ∧ by_M_state.cls ≠ "java/lang/invoke/VarHandle" ∧ (parseMethodDescriptor by_M_state.desc).map (fun d => d.parameters.length) = some 1 := by decide +kernel
abbrev bc_M_place : ByteArray := prog_8_method_36_code
abbrev by_M_place : MethodName := ⟨bR_M, "place", "(I)I"⟩
abbrev brm_M_place : Room := { frames := 1, cells := 0, slots := 0, locals := 21 }
theorem bh_M_place : by_M_place.cls = bR_M ∧ by_M_place.cls ≠ "java/lang/invoke/MethodHandle" ∧ by_M_place.cls ≠ "java/lang/invoke/VarHandle" ∧ (parseMethodDescriptor by_M_place.desc).map (fun d => d.parameters.length) = some 1 := by decide +kernel
abbrev bc_M_held : ByteArray := prog_8_method_37_code
abbrev by_M_held : MethodName := ⟨bR_M, "held", "(II)I"⟩
abbrev brm_M_held : Room := { frames := 1, cells := 0, slots := 0, locals := 23 }
theorem bh_M_held : by_M_held.cls = bR_M ∧ by_M_held.cls ≠ "java/lang/invoke/MethodHandle" ∧ by_M_held.cls ≠ "java/lang/invoke/VarHandle" ∧ (parseMethodDescriptor by_M_held.desc).map (fun d => d.parameters.length) = some 2 := by decide +kernel
abbrev bc_M_free : ByteArray := prog_8_method_38_code
abbrev by_M_free : MethodName := ⟨bR_M, "free", "(I)I"⟩
abbrev brm_M_free : Room := { frames := 2, cells := 0, slots := 0, locals := 44 }
theorem bh_M_free : by_M_free.cls = bR_M ∧ by_M_free.cls ≠ "java/lang/invoke/MethodHandle" ∧ by_M_free.cls ≠ "java/lang/invoke/VarHandle" ∧ (parseMethodDescriptor by_M_free.desc).map (fun d => d.parameters.length) = some 1 := by decide +kernel
abbrev bc_M_waiting : ByteArray := prog_8_method_39_code
abbrev by_M_waiting : MethodName := ⟨bR_M, "waiting", "(I)I"⟩
abbrev brm_M_waiting : Room := { frames := 1, cells := 0, slots := 0, locals := 23 }
theorem bh_M_waiting : by_M_waiting.cls = bR_M ∧ by_M_waiting.cls ≠ "java/lang/invoke/MethodHandle" ∧ by_M_waiting.cls ≠ "java/lang/invoke/VarHandle" ∧ (parseMethodDescriptor by_M_waiting.desc).map (fun d => d.parameters.length) = some 1 := by decide +kernel
abbrev bc_M_area : ByteArray := prog_8_method_40_code
abbrev by_M_area : MethodName := ⟨bR_M, "area", "(I)J"⟩
abbrev brm_M_area : Room := { frames := 1, cells := 0, slots := 0, locals := 23 }
theorem bh_M_area : by_M_area.cls = bR_M ∧ by_M_area.cls ≠ "java/lang/invoke/MethodHandle" ∧ by_M_area.cls ≠ "java/lang/invoke/VarHandle" ∧ (parseMethodDescriptor by_M_area.desc).map (fun d => d.parameters.length) = some 1 := by decide +kernel
abbrev bc_M_waited : ByteArray := prog_8_method_41_code
abbrev by_M_waited : MethodName := ⟨bR_M, "waited", "(I)J"⟩
abbrev brm_M_waited : Room := { frames := 1, cells := 0, slots := 0, locals := 23 }
theorem bh_M_waited : by_M_waited.cls = bR_M ∧ by_M_waited.cls ≠ "java/lang/invoke/MethodHandle" ∧ by_M_waited.cls ≠ "java/lang/invoke/VarHandle" ∧ (parseMethodDescriptor by_M_waited.desc).map (fun d => d.parameters.length) = some 1 := by decide +kernel
abbrev bc_M_level : ByteArray := prog_8_method_42_code
abbrev by_M_level : MethodName := ⟨bR_M, "level", "(I)I"⟩
abbrev brm_M_level : Room := { frames := 1, cells := 0, slots := 0, locals := 23 }
theorem bh_M_level : by_M_level.cls = bR_M ∧ by_M_level.cls ≠ "java/lang/invoke/MethodHandle" ∧ by_M_level.cls ≠ "java/lang/invoke/VarHandle" ∧ (parseMethodDescriptor by_M_level.desc).map (fun d => d.parameters.length) = some 1 := by decide +kernel
abbrev bc_M_stuck : ByteArray := prog_8_method_43_code
abbrev by_M_stuck : MethodName := ⟨bR_M, "stuck", "()Z"⟩
abbrev brm_M_stuck : Room := { frames := 2, cells := 0, slots := 0, locals := 44 }
theorem bh_M_stuck : by_M_stuck.cls = bR_M ∧ by_M_stuck.cls ≠ "java/lang/invoke/MethodHandle" ∧ by_M_stuck.cls ≠ "java/lang/invoke/VarHandle" ∧ (parseMethodDescriptor by_M_stuck.desc).map (fun d => d.parameters.length) = some 0 := by decide +kernel
abbrev bc_M_traced : ByteArray := prog_8_method_44_code
abbrev by_M_traced : MethodName := ⟨bR_M, "traced", "(I)I"⟩
abbrev brm_M_traced : Room := { frames := 1, cells := 0, slots := 0, locals := 23 }
theorem bh_M_traced : by_M_traced.cls = bR_M ∧ by_M_traced.cls ≠ "java/lang/invoke/MethodHandle" ∧ by_M_traced.cls ≠ "java/lang/invoke/VarHandle" ∧ (parseMethodDescriptor by_M_traced.desc).map (fun d => d.parameters.length) = some 1 := by decide +kernel
abbrev bR_L : String := "BatonKernel$Line"
def bT_L : u_T := fun k => match k with
  | 0 => ("BatonKernel$Line", "members", "[I", true)
  | _ => ("BatonKernel$Line", "size", "I", false)
def bty_L : Nat → FieldType := fun k => match k with
  | 0 => .array .int
  | _ => .int
theorem bn_L : ∀ a, a < 2 → ∀ b, b < 2 → a ≠ b → (bT_L a).2.1 ≠ (bT_L b).2.1 := by decide +kernel
theorem bo_L : ∀ k, k < 2 → parseFieldDescriptor (bT_L k).2.2.1 = some (bty_L k) := by decide +kernel
theorem bcl_L (k : Nat) : (bT_L k).1 = bR_L := by unfold bT_L; split <;> rfl
abbrev bc_L_init : ByteArray := prog_2_method_1_code
abbrev by_L_init : MethodName := ⟨bR_L, "<init>", "()V"⟩
abbrev brm_L_init : Room := { frames := 1, cells := 0, slots := 0, locals := 21 }
theorem bh_L_init : by_L_init.cls = bR_L ∧ by_L_init.cls ≠ "java/lang/invoke/MethodHandle" ∧ by_L_init.cls ≠ "java/lang/invoke/VarHandle" ∧ (parseMethodDescriptor by_L_init.desc).map (fun d => d.parameters.length) = some 0 := by decide +kernel
abbrev bc_L_insert : ByteArray := prog_2_method_2_code
abbrev by_L_insert : MethodName := ⟨bR_L, "insert", "(II)V"⟩
abbrev brm_L_insert : Room := { frames := 0, cells := 0, slots := 0, locals := 0 }
theorem bh_L_insert : by_L_insert.cls = bR_L ∧ by_L_insert.cls ≠ "java/lang/invoke/MethodHandle" ∧ by_L_insert.cls ≠ "java/lang/invoke/VarHandle" ∧ (parseMethodDescriptor by_L_insert.desc).map (fun d => d.parameters.length) = some 2 := by decide +kernel
abbrev bc_L_drop : ByteArray := prog_2_method_3_code
abbrev by_L_drop : MethodName := ⟨bR_L, "drop", "(I)V"⟩
abbrev brm_L_drop : Room := { frames := 0, cells := 0, slots := 0, locals := 0 }
theorem bh_L_drop : by_L_drop.cls = bR_L ∧ by_L_drop.cls ≠ "java/lang/invoke/MethodHandle" ∧ by_L_drop.cls ≠ "java/lang/invoke/VarHandle" ∧ (parseMethodDescriptor by_L_drop.desc).map (fun d => d.parameters.length) = some 1 := by decide +kernel
abbrev bR_P : String := "BatonKernel$Proc"
def bT_P : u_T := fun k => match k with
  | 0 => ("BatonKernel$Proc", "number", "I", true)
  | 1 => ("BatonKernel$Proc", "ops", "[I", true)
  | 2 => ("BatonKernel$Proc", "as", "[I", true)
  | 3 => ("BatonKernel$Proc", "bs", "[I", true)
  | 4 => ("BatonKernel$Proc", "units", "[I", true)
  | 5 => ("BatonKernel$Proc", "length", "I", false)
  | 6 => ("BatonKernel$Proc", "priority", "I", false)
  | 7 => ("BatonKernel$Proc", "roundsLeft", "I", false)
  | 8 => ("BatonKernel$Proc", "handler", "I", false)
  | 9 => ("BatonKernel$Proc", "state", "I", false)
  | 10 => ("BatonKernel$Proc", "place", "I", false)
  | 11 => ("BatonKernel$Proc", "doing", "I", false)
  | 12 => ("BatonKernel$Proc", "listed", "Z", false)
  | 13 => ("BatonKernel$Proc", "time", "J", false)
  | 14 => ("BatonKernel$Proc", "entry", "J", false)
  | _ => ("BatonKernel$Proc", "since", "J", false)
def bty_P : Nat → FieldType := fun k => match k with
  | 0 => .int
  | 1 => .array .int
  | 2 => .array .int
  | 3 => .array .int
  | 4 => .array .int
  | 5 => .int
  | 6 => .int
  | 7 => .int
  | 8 => .int
  | 9 => .int
  | 10 => .int
  | 11 => .int
  | 12 => .boolean
  | 13 => .long
  | 14 => .long
  | _ => .long
theorem bn_P : ∀ a, a < 16 → ∀ b, b < 16 → a ≠ b → (bT_P a).2.1 ≠ (bT_P b).2.1 := by decide +kernel
theorem bo_P : ∀ k, k < 16 → parseFieldDescriptor (bT_P k).2.2.1 = some (bty_P k) := by decide +kernel
theorem bcl_P (k : Nat) : (bT_P k).1 = bR_P := by unfold bT_P; split <;> rfl
abbrev bc_P_init : ByteArray := prog_3_method_1_code
abbrev by_P_init : MethodName := ⟨bR_P, "<init>", "(I)V"⟩
abbrev brm_P_init : Room := { frames := 1, cells := 0, slots := 0, locals := 21 }
theorem bh_P_init : by_P_init.cls = bR_P ∧ by_P_init.cls ≠ "java/lang/invoke/MethodHandle" ∧ by_P_init.cls ≠ "java/lang/invoke/VarHandle" ∧ (parseMethodDescriptor by_P_init.desc).map (fun d => d.parameters.length) = some 1 := by decide +kernel
abbrev bc_P_append : ByteArray := prog_3_method_2_code
abbrev by_P_append : MethodName := ⟨bR_P, "append", "(III)V"⟩
abbrev brm_P_append : Room := { frames := 0, cells := 0, slots := 0, locals := 0 }
theorem bh_P_append : by_P_append.cls = bR_P ∧ by_P_append.cls ≠ "java/lang/invoke/MethodHandle" ∧ by_P_append.cls ≠ "java/lang/invoke/VarHandle" ∧ (parseMethodDescriptor by_P_append.desc).map (fun d => d.parameters.length) = some 3 := by decide +kernel
abbrev bc_P_firstOperand : ByteArray := prog_3_method_3_code
abbrev by_P_firstOperand : MethodName := ⟨bR_P, "firstOperand", "()I"⟩
abbrev brm_P_firstOperand : Room := { frames := 0, cells := 0, slots := 0, locals := 0 }
theorem bh_P_firstOperand : by_P_firstOperand.cls = bR_P ∧ by_P_firstOperand.cls ≠ "java/lang/invoke/MethodHandle" ∧ by_P_firstOperand.cls ≠ "java/lang/invoke/VarHandle" ∧ (parseMethodDescriptor by_P_firstOperand.desc).map (fun d => d.parameters.length) = some 0 := by decide +kernel
abbrev bc_P_secondOperand : ByteArray := prog_3_method_4_code
abbrev by_P_secondOperand : MethodName := ⟨bR_P, "secondOperand", "()I"⟩
abbrev brm_P_secondOperand : Room := { frames := 0, cells := 0, slots := 0, locals := 0 }
theorem bh_P_secondOperand : by_P_secondOperand.cls = bR_P ∧ by_P_secondOperand.cls ≠ "java/lang/invoke/MethodHandle" ∧ by_P_secondOperand.cls ≠ "java/lang/invoke/VarHandle" ∧ (parseMethodDescriptor by_P_secondOperand.desc).map (fun d => d.parameters.length) = some 0 := by decide +kernel
abbrev bc_P_isOver : ByteArray := prog_3_method_5_code
abbrev by_P_isOver : MethodName := ⟨bR_P, "isOver", "()Z"⟩
abbrev brm_P_isOver : Room := { frames := 0, cells := 0, slots := 0, locals := 0 }
theorem bh_P_isOver : by_P_isOver.cls = bR_P ∧ by_P_isOver.cls ≠ "java/lang/invoke/MethodHandle" ∧ by_P_isOver.cls ≠ "java/lang/invoke/VarHandle" ∧ (parseMethodDescriptor by_P_isOver.desc).map (fun d => d.parameters.length) = some 0 := by decide +kernel
abbrev bc_P_isBreakable : ByteArray := prog_3_method_6_code
abbrev by_P_isBreakable : MethodName := ⟨bR_P, "isBreakable", "()Z"⟩
abbrev brm_P_isBreakable : Room := { frames := 0, cells := 0, slots := 0, locals := 0 }
theorem bh_P_isBreakable : by_P_isBreakable.cls = bR_P ∧ by_P_isBreakable.cls ≠ "java/lang/invoke/MethodHandle" ∧ by_P_isBreakable.cls ≠ "java/lang/invoke/VarHandle" ∧ (parseMethodDescriptor by_P_isBreakable.desc).map (fun d => d.parameters.length) = some 0 := by decide +kernel
abbrev bc_P_isBefore : ByteArray := prog_3_method_7_code
abbrev by_P_isBefore : MethodName := ⟨bR_P, "isBefore", "(LBatonKernel$Proc;)Z"⟩
abbrev brm_P_isBefore : Room := { frames := 0, cells := 0, slots := 0, locals := 0 }
theorem bh_P_isBefore : by_P_isBefore.cls = bR_P ∧ by_P_isBefore.cls ≠ "java/lang/invoke/MethodHandle" ∧ by_P_isBefore.cls ≠ "java/lang/invoke/VarHandle" ∧ (parseMethodDescriptor by_P_isBefore.desc).map (fun d => d.parameters.length) = some 1 := by decide +kernel
abbrev bc_P_beginRound : ByteArray := prog_3_method_8_code
abbrev by_P_beginRound : MethodName := ⟨bR_P, "beginRound", "()Z"⟩
abbrev brm_P_beginRound : Room := { frames := 0, cells := 0, slots := 0, locals := 0 }
theorem bh_P_beginRound : by_P_beginRound.cls = bR_P ∧ by_P_beginRound.cls ≠ "java/lang/invoke/MethodHandle" ∧ by_P_beginRound.cls ≠ "java/lang/invoke/VarHandle" ∧ (parseMethodDescriptor by_P_beginRound.desc).map (fun d => d.parameters.length) = some 0 := by decide +kernel
abbrev bR_E : String := "BatonKernel$Resource"
def bT_E : u_T := fun k => match k with
  | 0 => ("BatonKernel$Resource", "line", "LBatonKernel$Line;", true)
  | 1 => ("BatonKernel$Resource", "capacity", "I", false)
  | 2 => ("BatonKernel$Resource", "seized", "I", false)
  | 3 => ("BatonKernel$Resource", "preempts", "Z", false)
  | 4 => ("BatonKernel$Resource", "area", "J", false)
  | _ => ("BatonKernel$Resource", "waited", "J", false)
def bty_E : Nat → FieldType := fun k => match k with
  | 0 => .object "BatonKernel$Line"
  | 1 => .int
  | 2 => .int
  | 3 => .boolean
  | 4 => .long
  | _ => .long
theorem bn_E : ∀ a, a < 6 → ∀ b, b < 6 → a ≠ b → (bT_E a).2.1 ≠ (bT_E b).2.1 := by decide +kernel
theorem bo_E : ∀ k, k < 6 → parseFieldDescriptor (bT_E k).2.2.1 = some (bty_E k) := by decide +kernel
theorem bcl_E (k : Nat) : (bT_E k).1 = bR_E := by unfold bT_E; split <;> rfl
abbrev bc_E_init : ByteArray := prog_4_method_1_code
abbrev by_E_init : MethodName := ⟨bR_E, "<init>", "()V"⟩
abbrev brm_E_init : Room := { frames := 2, cells := 0, slots := 0, locals := 41 }
theorem bh_E_init : by_E_init.cls = bR_E ∧ by_E_init.cls ≠ "java/lang/invoke/MethodHandle" ∧ by_E_init.cls ≠ "java/lang/invoke/VarHandle" ∧ (parseMethodDescriptor by_E_init.desc).map (fun d => d.parameters.length) = some 0 := by decide +kernel
abbrev bc_E_unseized : ByteArray := prog_4_method_2_code
abbrev by_E_unseized : MethodName := ⟨bR_E, "unseized", "()I"⟩
abbrev brm_E_unseized : Room := { frames := 0, cells := 0, slots := 0, locals := 0 }
theorem bh_E_unseized : by_E_unseized.cls = bR_E ∧ by_E_unseized.cls ≠ "java/lang/invoke/MethodHandle" ∧ by_E_unseized.cls ≠ "java/lang/invoke/VarHandle" ∧ (parseMethodDescriptor by_E_unseized.desc).map (fun d => d.parameters.length) = some 0 := by decide +kernel
abbrev bR_T : String := "BatonKernel$Tank"
def bT_T : u_T := fun k => match k with
  | 0 => ("BatonKernel$Tank", "capacity", "I", false)
  | _ => ("BatonKernel$Tank", "level", "I", false)
def bty_T : Nat → FieldType := fun k => match k with
  | 0 => .int
  | _ => .int
theorem bn_T : ∀ a, a < 2 → ∀ b, b < 2 → a ≠ b → (bT_T a).2.1 ≠ (bT_T b).2.1 := by decide +kernel
theorem bo_T : ∀ k, k < 2 → parseFieldDescriptor (bT_T k).2.2.1 = some (bty_T k) := by decide +kernel
theorem bcl_T (k : Nat) : (bT_T k).1 = bR_T := by unfold bT_T; split <;> rfl
abbrev bc_T_init : ByteArray := prog_5_method_1_code
abbrev by_T_init : MethodName := ⟨bR_T, "<init>", "()V"⟩
abbrev brm_T_init : Room := { frames := 1, cells := 0, slots := 0, locals := 21 }
theorem bh_T_init : by_T_init.cls = bR_T ∧ by_T_init.cls ≠ "java/lang/invoke/MethodHandle" ∧ by_T_init.cls ≠ "java/lang/invoke/VarHandle" ∧ (parseMethodDescriptor by_T_init.desc).map (fun d => d.parameters.length) = some 0 := by decide +kernel
abbrev bc_T_put : ByteArray := prog_5_method_2_code
abbrev by_T_put : MethodName := ⟨bR_T, "put", "(I)Z"⟩
abbrev brm_T_put : Room := { frames := 0, cells := 0, slots := 0, locals := 0 }
theorem bh_T_put : by_T_put.cls = bR_T ∧ by_T_put.cls ≠ "java/lang/invoke/MethodHandle" ∧ by_T_put.cls ≠ "java/lang/invoke/VarHandle" ∧ (parseMethodDescriptor by_T_put.desc).map (fun d => d.parameters.length) = some 1 := by decide +kernel
abbrev bc_T_take : ByteArray := prog_5_method_3_code
abbrev by_T_take : MethodName := ⟨bR_T, "take", "(I)Z"⟩
abbrev brm_T_take : Room := { frames := 0, cells := 0, slots := 0, locals := 0 }
theorem bh_T_take : by_T_take.cls = bR_T ∧ by_T_take.cls ≠ "java/lang/invoke/MethodHandle" ∧ by_T_take.cls ≠ "java/lang/invoke/VarHandle" ∧ (parseMethodDescriptor by_T_take.desc).map (fun d => d.parameters.length) = some 1 := by decide +kernel
abbrev bR_C : String := "BatonKernel$Trace"
def bT_C : u_T := fun k => match k with
  | 0 => ("BatonKernel$Trace", "rows", "[I", true)
  | 1 => ("BatonKernel$Trace", "latest", "I", false)
  | _ => ("BatonKernel$Trace", "size", "I", false)
def bty_C : Nat → FieldType := fun k => match k with
  | 0 => .array .int
  | 1 => .int
  | _ => .int
theorem bn_C : ∀ a, a < 3 → ∀ b, b < 3 → a ≠ b → (bT_C a).2.1 ≠ (bT_C b).2.1 := by decide +kernel
theorem bo_C : ∀ k, k < 3 → parseFieldDescriptor (bT_C k).2.2.1 = some (bty_C k) := by decide +kernel
theorem bcl_C (k : Nat) : (bT_C k).1 = bR_C := by unfold bT_C; split <;> rfl
abbrev bc_C_init : ByteArray := prog_6_method_1_code
abbrev by_C_init : MethodName := ⟨bR_C, "<init>", "()V"⟩
abbrev brm_C_init : Room := { frames := 1, cells := 0, slots := 0, locals := 21 }
theorem bh_C_init : by_C_init.cls = bR_C ∧ by_C_init.cls ≠ "java/lang/invoke/MethodHandle" ∧ by_C_init.cls ≠ "java/lang/invoke/VarHandle" ∧ (parseMethodDescriptor by_C_init.desc).map (fun d => d.parameters.length) = some 0 := by decide +kernel
abbrev bc_C_add : ByteArray := prog_6_method_2_code
abbrev by_C_add : MethodName := ⟨bR_C, "add", "(I)V"⟩
abbrev brm_C_add : Room := { frames := 1, cells := 0, slots := 0, locals := 21 }
theorem bh_C_add : by_C_add.cls = bR_C ∧ by_C_add.cls ≠ "java/lang/invoke/MethodHandle" ∧ by_C_add.cls ≠ "java/lang/invoke/VarHandle" ∧ (parseMethodDescriptor by_C_add.desc).map (fun d => d.parameters.length) = some 1 := by decide +kernel
abbrev bc_C_before : ByteArray := prog_6_method_3_code
abbrev by_C_before : MethodName := ⟨bR_C, "before", "(I)I"⟩
abbrev brm_C_before : Room := { frames := 0, cells := 0, slots := 0, locals := 0 }
theorem bh_C_before : by_C_before.cls = bR_C ∧ by_C_before.cls ≠ "java/lang/invoke/MethodHandle" ∧ by_C_before.cls ≠ "java/lang/invoke/VarHandle" ∧ (parseMethodDescriptor by_C_before.desc).map (fun d => d.parameters.length) = some 1 := by decide +kernel
abbrev bR_W : String := "BatonKernelLaw"
end
section
theorem lw_in1 {w : Cond} (h : w ∈ tables_1_1) : w ∈ lw_tbl := List.mem_append_right _ (List.mem_append_left _ h)
theorem lw_in2 {w : Cond} (h : w ∈ tables_1_2) : w ∈ lw_tbl := List.mem_append_right _ (List.mem_append_right _ (List.mem_append_left _ h))
theorem lw_in3 {w : Cond} (h : w ∈ tables_1_3) : w ∈ lw_tbl := List.mem_append_right _ (List.mem_append_right _ (List.mem_append_right _ h))
theorem lw_sel {q : MethodName × Nat} (h : q ∈ lw_privs) : Cond.selects q.1.cls q.1 q.1 ∈ lw_tbl := List.mem_append_left _ (List.mem_map.mpr ⟨q, h, rfl⟩)
def lw_g : List Cond := lw_tbl.filter goodWord
theorem lw_gd {w : Cond} (h : w ∈ lw_tbl) (hg : goodWord w = true) : w ∈ lw_g := List.mem_filter.mpr ⟨h, hg⟩
theorem lw_gt {w : Cond} (h : w ∈ lw_g) : w ∈ lw_tbl := (List.mem_filter.mp h).1
theorem lw_good : ∀ w ∈ lw_g, goodWord w = true := fun w h => (List.mem_filter.mp h).2
theorem gi_in {y : MethodName} {bs : ByteArray} {n : Nat} {ret : Option FieldType} (h : Cond.code y bs n ret ∈ lw_g) : GoodIn lw_g (.code y bs n ret :: lw_g) := fun w hw => (List.mem_cons.mp hw).elim (fun e => ⟨e ▸ h, good_of_word (lw_good w (e ▸ h))⟩) (fun h9 => ⟨h9, good_of_word (lw_good w h9)⟩)
theorem gv_in {own C : String} {idx : Nat} {y : MethodName} {bs : ByteArray} {n : Nat} {ret : Option FieldType} (h1 : Cond.methodLink own idx y ∈ lw_g) (h2 : Cond.instanceMethod y ∈ lw_g) (h3 : Cond.selects C y y ∈ lw_g) (h4 : Cond.initialized C ∈ lw_g) (h5 : Cond.code y bs n ret ∈ lw_g) : GoodIn lw_g (wsV own idx C y (.code y bs n ret :: lw_g)) := by
  intro w hw
  rcases List.mem_append.mp hw with h | h
  · have hm : w ∈ lw_g := by
      simp only [List.mem_cons, List.not_mem_nil, or_false] at h
      rcases h with rfl | rfl | rfl | rfl
      · exact h1
      · exact h2
      · exact h3
      · exact h4
    exact ⟨hm, good_of_word (lw_good w hm)⟩
  · exact gi_in h5 w h
theorem gs_in {own : String} {idx : Nat} {y : MethodName} {bs : ByteArray} {n : Nat} {ret : Option FieldType} (h1 : Cond.methodLink own idx y ∈ lw_g) (h2 : Cond.static y ∈ lw_g) (h3 : Cond.initialized own ∈ lw_g) (h5 : Cond.code y bs n ret ∈ lw_g) : GoodIn lw_g (wsS own idx y (.code y bs n ret :: lw_g)) := by
  intro w hw
  rcases List.mem_append.mp hw with h | h
  · have hm : w ∈ lw_g := by
      simp only [List.mem_cons, List.not_mem_nil, or_false] at h
      rcases h with rfl | rfl | rfl
      · exact h1
      · exact h2
      · exact h3
    exact ⟨hm, good_of_word (lw_good w hm)⟩
  · exact gi_in h5 w h
theorem tw_1_1 : (Jvm.Cond.initialized "BatonKernel") ∈ lw_g := lw_gd (lw_in1 (List.mem_of_getElem? (i := 1) (by decide +kernel))) rfl
theorem tw_1_2 : (Jvm.Cond.initialized "BatonKernel$Line") ∈ lw_g := lw_gd (lw_in1 (List.mem_of_getElem? (i := 2) (by decide +kernel))) rfl
theorem tw_1_3 : (Jvm.Cond.initialized "BatonKernel$Trace") ∈ lw_g := lw_gd (lw_in1 (List.mem_of_getElem? (i := 3) (by decide +kernel))) rfl
theorem tw_1_4 : (Jvm.Cond.initialized "BatonKernel$Proc") ∈ lw_g := lw_gd (lw_in1 (List.mem_of_getElem? (i := 4) (by decide +kernel))) rfl
theorem tw_1_5 : (Jvm.Cond.initialized "BatonKernel$Resource") ∈ lw_g := lw_gd (lw_in1 (List.mem_of_getElem? (i := 5) (by decide +kernel))) rfl
theorem tw_1_6 : (Jvm.Cond.initialized "BatonKernel$Tank") ∈ lw_g := lw_gd (lw_in1 (List.mem_of_getElem? (i := 6) (by decide +kernel))) rfl
theorem tw_1_7 : (Jvm.Cond.initialized "BatonKernelModel") ∈ lw_g := lw_gd (lw_in1 (List.mem_of_getElem? (i := 7) (by decide +kernel))) rfl
theorem tw_1_8 : (Jvm.Cond.initialized "java/lang/Math") ∈ lw_g := lw_gd (lw_in1 (List.mem_of_getElem? (i := 8) (by decide +kernel))) rfl
theorem tw_1_29 : (Jvm.Cond.fieldLink "BatonKernel$Line" (9 : Nat) "BatonKernel$Line" "members" "[I") ∈ lw_g := lw_gd (lw_in1 (List.mem_of_getElem? (i := 29) (by decide +kernel))) rfl
theorem tw_1_30 : (Jvm.Cond.fieldLink "BatonKernel" (251 : Nat) "BatonKernel$Line" "members" "[I") ∈ lw_g := lw_gd (lw_in1 (List.mem_of_getElem? (i := 30) (by decide +kernel))) rfl
theorem tw_1_31 : (Jvm.Cond.fieldLink "BatonKernel$Line" (15 : Nat) "BatonKernel$Line" "size" "I") ∈ lw_g := lw_gd (lw_in1 (List.mem_of_getElem? (i := 31) (by decide +kernel))) rfl
theorem tw_1_32 : (Jvm.Cond.fieldLink "BatonKernel" (182 : Nat) "BatonKernel$Line" "size" "I") ∈ lw_g := lw_gd (lw_in1 (List.mem_of_getElem? (i := 32) (by decide +kernel))) rfl
theorem tw_1_33 : (Jvm.Cond.laysFinal "BatonKernel$Line" "BatonKernel$Line" "members" "[I") ∈ lw_g := lw_gd (lw_in1 (List.mem_of_getElem? (i := 33) (by decide +kernel))) rfl
theorem tw_1_35 : (Jvm.Cond.lays "BatonKernel$Line" "BatonKernel$Line" "size" "I") ∈ lw_g := lw_gd (lw_in1 (List.mem_of_getElem? (i := 35) (by decide +kernel))) rfl
theorem tw_1_45 : (Jvm.Cond.fieldLink "BatonKernel$Trace" (9 : Nat) "BatonKernel$Trace" "rows" "[I") ∈ lw_g := lw_gd (lw_in1 (List.mem_of_getElem? (i := 45) (by decide +kernel))) rfl
theorem tw_1_46 : (Jvm.Cond.fieldLink "BatonKernel$Trace" (15 : Nat) "BatonKernel$Trace" "latest" "I") ∈ lw_g := lw_gd (lw_in1 (List.mem_of_getElem? (i := 46) (by decide +kernel))) rfl
theorem tw_1_47 : (Jvm.Cond.fieldLink "BatonKernel$Trace" (19 : Nat) "BatonKernel$Trace" "size" "I") ∈ lw_g := lw_gd (lw_in1 (List.mem_of_getElem? (i := 47) (by decide +kernel))) rfl
theorem tw_1_48 : (Jvm.Cond.laysFinal "BatonKernel$Trace" "BatonKernel$Trace" "rows" "[I") ∈ lw_g := lw_gd (lw_in1 (List.mem_of_getElem? (i := 48) (by decide +kernel))) rfl
theorem tw_1_50 : (Jvm.Cond.lays "BatonKernel$Trace" "BatonKernel$Trace" "latest" "I") ∈ lw_g := lw_gd (lw_in1 (List.mem_of_getElem? (i := 50) (by decide +kernel))) rfl
theorem tw_1_52 : (Jvm.Cond.lays "BatonKernel$Trace" "BatonKernel$Trace" "size" "I") ∈ lw_g := lw_gd (lw_in1 (List.mem_of_getElem? (i := 52) (by decide +kernel))) rfl
theorem tw_1_61 : (Jvm.Cond.fieldLink "BatonKernel" (74 : Nat) "BatonKernel$Proc" "number" "I") ∈ lw_g := lw_gd (lw_in1 (List.mem_of_getElem? (i := 61) (by decide +kernel))) rfl
theorem tw_1_62 : (Jvm.Cond.fieldLink "BatonKernel$Proc" (9 : Nat) "BatonKernel$Proc" "ops" "[I") ∈ lw_g := lw_gd (lw_in1 (List.mem_of_getElem? (i := 62) (by decide +kernel))) rfl
theorem tw_1_63 : (Jvm.Cond.fieldLink "BatonKernel" (140 : Nat) "BatonKernel$Proc" "ops" "[I") ∈ lw_g := lw_gd (lw_in1 (List.mem_of_getElem? (i := 63) (by decide +kernel))) rfl
theorem tw_1_64 : (Jvm.Cond.fieldLink "BatonKernel$Proc" (15 : Nat) "BatonKernel$Proc" "as" "[I") ∈ lw_g := lw_gd (lw_in1 (List.mem_of_getElem? (i := 64) (by decide +kernel))) rfl
theorem tw_1_65 : (Jvm.Cond.fieldLink "BatonKernel" (143 : Nat) "BatonKernel$Proc" "as" "[I") ∈ lw_g := lw_gd (lw_in1 (List.mem_of_getElem? (i := 65) (by decide +kernel))) rfl
theorem tw_1_66 : (Jvm.Cond.fieldLink "BatonKernel$Proc" (18 : Nat) "BatonKernel$Proc" "bs" "[I") ∈ lw_g := lw_gd (lw_in1 (List.mem_of_getElem? (i := 66) (by decide +kernel))) rfl
theorem tw_1_67 : (Jvm.Cond.fieldLink "BatonKernel" (146 : Nat) "BatonKernel$Proc" "bs" "[I") ∈ lw_g := lw_gd (lw_in1 (List.mem_of_getElem? (i := 67) (by decide +kernel))) rfl
theorem tw_1_69 : (Jvm.Cond.fieldLink "BatonKernel" (176 : Nat) "BatonKernel$Proc" "units" "[I") ∈ lw_g := lw_gd (lw_in1 (List.mem_of_getElem? (i := 69) (by decide +kernel))) rfl
theorem tw_1_70 : (Jvm.Cond.fieldLink "BatonKernel$Proc" (24 : Nat) "BatonKernel$Proc" "length" "I") ∈ lw_g := lw_gd (lw_in1 (List.mem_of_getElem? (i := 70) (by decide +kernel))) rfl
theorem tw_1_71 : (Jvm.Cond.fieldLink "BatonKernel" (87 : Nat) "BatonKernel$Proc" "length" "I") ∈ lw_g := lw_gd (lw_in1 (List.mem_of_getElem? (i := 71) (by decide +kernel))) rfl
theorem tw_1_72 : (Jvm.Cond.fieldLink "BatonKernel$Proc" (28 : Nat) "BatonKernel$Proc" "priority" "I") ∈ lw_g := lw_gd (lw_in1 (List.mem_of_getElem? (i := 72) (by decide +kernel))) rfl
theorem tw_1_73 : (Jvm.Cond.fieldLink "BatonKernel" (65 : Nat) "BatonKernel$Proc" "priority" "I") ∈ lw_g := lw_gd (lw_in1 (List.mem_of_getElem? (i := 73) (by decide +kernel))) rfl
theorem tw_1_74 : (Jvm.Cond.fieldLink "BatonKernel$Proc" (31 : Nat) "BatonKernel$Proc" "roundsLeft" "I") ∈ lw_g := lw_gd (lw_in1 (List.mem_of_getElem? (i := 74) (by decide +kernel))) rfl
theorem tw_1_75 : (Jvm.Cond.fieldLink "BatonKernel" (68 : Nat) "BatonKernel$Proc" "roundsLeft" "I") ∈ lw_g := lw_gd (lw_in1 (List.mem_of_getElem? (i := 75) (by decide +kernel))) rfl
theorem tw_1_77 : (Jvm.Cond.fieldLink "BatonKernel" (71 : Nat) "BatonKernel$Proc" "handler" "I") ∈ lw_g := lw_gd (lw_in1 (List.mem_of_getElem? (i := 77) (by decide +kernel))) rfl
theorem tw_1_78 : (Jvm.Cond.fieldLink "BatonKernel$Proc" (37 : Nat) "BatonKernel$Proc" "state" "I") ∈ lw_g := lw_gd (lw_in1 (List.mem_of_getElem? (i := 78) (by decide +kernel))) rfl
theorem tw_1_79 : (Jvm.Cond.fieldLink "BatonKernel" (84 : Nat) "BatonKernel$Proc" "state" "I") ∈ lw_g := lw_gd (lw_in1 (List.mem_of_getElem? (i := 79) (by decide +kernel))) rfl
theorem tw_1_80 : (Jvm.Cond.fieldLink "BatonKernel$Proc" (40 : Nat) "BatonKernel$Proc" "place" "I") ∈ lw_g := lw_gd (lw_in1 (List.mem_of_getElem? (i := 80) (by decide +kernel))) rfl
theorem tw_1_81 : (Jvm.Cond.fieldLink "BatonKernel" (134 : Nat) "BatonKernel$Proc" "place" "I") ∈ lw_g := lw_gd (lw_in1 (List.mem_of_getElem? (i := 81) (by decide +kernel))) rfl
theorem tw_1_82 : (Jvm.Cond.fieldLink "BatonKernel$Proc" (43 : Nat) "BatonKernel$Proc" "doing" "I") ∈ lw_g := lw_gd (lw_in1 (List.mem_of_getElem? (i := 82) (by decide +kernel))) rfl
theorem tw_1_83 : (Jvm.Cond.fieldLink "BatonKernel" (217 : Nat) "BatonKernel$Proc" "doing" "I") ∈ lw_g := lw_gd (lw_in1 (List.mem_of_getElem? (i := 83) (by decide +kernel))) rfl
theorem tw_1_85 : (Jvm.Cond.fieldLink "BatonKernel" (198 : Nat) "BatonKernel$Proc" "listed" "Z") ∈ lw_g := lw_gd (lw_in1 (List.mem_of_getElem? (i := 85) (by decide +kernel))) rfl
theorem tw_1_86 : (Jvm.Cond.fieldLink "BatonKernel$Proc" (50 : Nat) "BatonKernel$Proc" "time" "J") ∈ lw_g := lw_gd (lw_in1 (List.mem_of_getElem? (i := 86) (by decide +kernel))) rfl
theorem tw_1_87 : (Jvm.Cond.fieldLink "BatonKernel" (158 : Nat) "BatonKernel$Proc" "time" "J") ∈ lw_g := lw_gd (lw_in1 (List.mem_of_getElem? (i := 87) (by decide +kernel))) rfl
theorem tw_1_88 : (Jvm.Cond.fieldLink "BatonKernel$Proc" (54 : Nat) "BatonKernel$Proc" "entry" "J") ∈ lw_g := lw_gd (lw_in1 (List.mem_of_getElem? (i := 88) (by decide +kernel))) rfl
theorem tw_1_89 : (Jvm.Cond.fieldLink "BatonKernel" (201 : Nat) "BatonKernel$Proc" "entry" "J") ∈ lw_g := lw_gd (lw_in1 (List.mem_of_getElem? (i := 89) (by decide +kernel))) rfl
theorem tw_1_91 : (Jvm.Cond.fieldLink "BatonKernel" (273 : Nat) "BatonKernel$Proc" "since" "J") ∈ lw_g := lw_gd (lw_in1 (List.mem_of_getElem? (i := 91) (by decide +kernel))) rfl
theorem tw_1_92 : (Jvm.Cond.laysFinal "BatonKernel$Proc" "BatonKernel$Proc" "number" "I") ∈ lw_g := lw_gd (lw_in1 (List.mem_of_getElem? (i := 92) (by decide +kernel))) rfl
theorem tw_1_94 : (Jvm.Cond.laysFinal "BatonKernel$Proc" "BatonKernel$Proc" "ops" "[I") ∈ lw_g := lw_gd (lw_in1 (List.mem_of_getElem? (i := 94) (by decide +kernel))) rfl
theorem tw_1_96 : (Jvm.Cond.laysFinal "BatonKernel$Proc" "BatonKernel$Proc" "as" "[I") ∈ lw_g := lw_gd (lw_in1 (List.mem_of_getElem? (i := 96) (by decide +kernel))) rfl
theorem tw_1_98 : (Jvm.Cond.laysFinal "BatonKernel$Proc" "BatonKernel$Proc" "bs" "[I") ∈ lw_g := lw_gd (lw_in1 (List.mem_of_getElem? (i := 98) (by decide +kernel))) rfl
theorem tw_1_100 : (Jvm.Cond.laysFinal "BatonKernel$Proc" "BatonKernel$Proc" "units" "[I") ∈ lw_g := lw_gd (lw_in1 (List.mem_of_getElem? (i := 100) (by decide +kernel))) rfl
theorem tw_1_102 : (Jvm.Cond.lays "BatonKernel$Proc" "BatonKernel$Proc" "length" "I") ∈ lw_g := lw_gd (lw_in1 (List.mem_of_getElem? (i := 102) (by decide +kernel))) rfl
theorem tw_1_104 : (Jvm.Cond.lays "BatonKernel$Proc" "BatonKernel$Proc" "priority" "I") ∈ lw_g := lw_gd (lw_in1 (List.mem_of_getElem? (i := 104) (by decide +kernel))) rfl
theorem tw_1_106 : (Jvm.Cond.lays "BatonKernel$Proc" "BatonKernel$Proc" "roundsLeft" "I") ∈ lw_g := lw_gd (lw_in1 (List.mem_of_getElem? (i := 106) (by decide +kernel))) rfl
theorem tw_1_108 : (Jvm.Cond.lays "BatonKernel$Proc" "BatonKernel$Proc" "handler" "I") ∈ lw_g := lw_gd (lw_in1 (List.mem_of_getElem? (i := 108) (by decide +kernel))) rfl
theorem tw_1_110 : (Jvm.Cond.lays "BatonKernel$Proc" "BatonKernel$Proc" "state" "I") ∈ lw_g := lw_gd (lw_in1 (List.mem_of_getElem? (i := 110) (by decide +kernel))) rfl
theorem tw_1_112 : (Jvm.Cond.lays "BatonKernel$Proc" "BatonKernel$Proc" "place" "I") ∈ lw_g := lw_gd (lw_in1 (List.mem_of_getElem? (i := 112) (by decide +kernel))) rfl
theorem tw_1_114 : (Jvm.Cond.lays "BatonKernel$Proc" "BatonKernel$Proc" "doing" "I") ∈ lw_g := lw_gd (lw_in1 (List.mem_of_getElem? (i := 114) (by decide +kernel))) rfl
theorem tw_1_116 : (Jvm.Cond.lays "BatonKernel$Proc" "BatonKernel$Proc" "listed" "Z") ∈ lw_g := lw_gd (lw_in1 (List.mem_of_getElem? (i := 116) (by decide +kernel))) rfl
theorem tw_1_118 : (Jvm.Cond.lays "BatonKernel$Proc" "BatonKernel$Proc" "time" "J") ∈ lw_g := lw_gd (lw_in1 (List.mem_of_getElem? (i := 118) (by decide +kernel))) rfl
theorem tw_1_120 : (Jvm.Cond.lays "BatonKernel$Proc" "BatonKernel$Proc" "entry" "J") ∈ lw_g := lw_gd (lw_in1 (List.mem_of_getElem? (i := 120) (by decide +kernel))) rfl
theorem tw_1_122 : (Jvm.Cond.lays "BatonKernel$Proc" "BatonKernel$Proc" "since" "J") ∈ lw_g := lw_gd (lw_in1 (List.mem_of_getElem? (i := 122) (by decide +kernel))) rfl
theorem tw_1_133 : (Jvm.Cond.fieldLink "BatonKernel" (185 : Nat) "BatonKernel$Resource" "line" "LBatonKernel$Line;") ∈ lw_g := lw_gd (lw_in1 (List.mem_of_getElem? (i := 133) (by decide +kernel))) rfl
theorem tw_1_134 : (Jvm.Cond.fieldLink "BatonKernel$Resource" (16 : Nat) "BatonKernel$Resource" "capacity" "I") ∈ lw_g := lw_gd (lw_in1 (List.mem_of_getElem? (i := 134) (by decide +kernel))) rfl
theorem tw_1_135 : (Jvm.Cond.fieldLink "BatonKernel" (100 : Nat) "BatonKernel$Resource" "capacity" "I") ∈ lw_g := lw_gd (lw_in1 (List.mem_of_getElem? (i := 135) (by decide +kernel))) rfl
theorem tw_1_136 : (Jvm.Cond.fieldLink "BatonKernel$Resource" (20 : Nat) "BatonKernel$Resource" "seized" "I") ∈ lw_g := lw_gd (lw_in1 (List.mem_of_getElem? (i := 136) (by decide +kernel))) rfl
theorem tw_1_137 : (Jvm.Cond.fieldLink "BatonKernel" (97 : Nat) "BatonKernel$Resource" "seized" "I") ∈ lw_g := lw_gd (lw_in1 (List.mem_of_getElem? (i := 137) (by decide +kernel))) rfl
theorem tw_1_139 : (Jvm.Cond.fieldLink "BatonKernel" (103 : Nat) "BatonKernel$Resource" "preempts" "Z") ∈ lw_g := lw_gd (lw_in1 (List.mem_of_getElem? (i := 139) (by decide +kernel))) rfl
theorem tw_1_141 : (Jvm.Cond.fieldLink "BatonKernel" (188 : Nat) "BatonKernel$Resource" "area" "J") ∈ lw_g := lw_gd (lw_in1 (List.mem_of_getElem? (i := 141) (by decide +kernel))) rfl
theorem tw_1_143 : (Jvm.Cond.fieldLink "BatonKernel" (191 : Nat) "BatonKernel$Resource" "waited" "J") ∈ lw_g := lw_gd (lw_in1 (List.mem_of_getElem? (i := 143) (by decide +kernel))) rfl
theorem tw_1_144 : (Jvm.Cond.laysFinal "BatonKernel$Resource" "BatonKernel$Resource" "line" "LBatonKernel$Line;") ∈ lw_g := lw_gd (lw_in1 (List.mem_of_getElem? (i := 144) (by decide +kernel))) rfl
theorem tw_1_146 : (Jvm.Cond.lays "BatonKernel$Resource" "BatonKernel$Resource" "capacity" "I") ∈ lw_g := lw_gd (lw_in1 (List.mem_of_getElem? (i := 146) (by decide +kernel))) rfl
theorem tw_1_148 : (Jvm.Cond.lays "BatonKernel$Resource" "BatonKernel$Resource" "seized" "I") ∈ lw_g := lw_gd (lw_in1 (List.mem_of_getElem? (i := 148) (by decide +kernel))) rfl
theorem tw_1_150 : (Jvm.Cond.lays "BatonKernel$Resource" "BatonKernel$Resource" "preempts" "Z") ∈ lw_g := lw_gd (lw_in1 (List.mem_of_getElem? (i := 150) (by decide +kernel))) rfl
theorem tw_1_152 : (Jvm.Cond.lays "BatonKernel$Resource" "BatonKernel$Resource" "area" "J") ∈ lw_g := lw_gd (lw_in1 (List.mem_of_getElem? (i := 152) (by decide +kernel))) rfl
theorem tw_1_154 : (Jvm.Cond.lays "BatonKernel$Resource" "BatonKernel$Resource" "waited" "J") ∈ lw_g := lw_gd (lw_in1 (List.mem_of_getElem? (i := 154) (by decide +kernel))) rfl
theorem tw_1_162 : (Jvm.Cond.fieldLink "BatonKernel$Tank" (9 : Nat) "BatonKernel$Tank" "capacity" "I") ∈ lw_g := lw_gd (lw_in1 (List.mem_of_getElem? (i := 162) (by decide +kernel))) rfl
theorem tw_1_163 : (Jvm.Cond.fieldLink "BatonKernel" (113 : Nat) "BatonKernel$Tank" "capacity" "I") ∈ lw_g := lw_gd (lw_in1 (List.mem_of_getElem? (i := 163) (by decide +kernel))) rfl
theorem tw_1_164 : (Jvm.Cond.fieldLink "BatonKernel$Tank" (15 : Nat) "BatonKernel$Tank" "level" "I") ∈ lw_g := lw_gd (lw_in1 (List.mem_of_getElem? (i := 164) (by decide +kernel))) rfl
theorem tw_1_165 : (Jvm.Cond.fieldLink "BatonKernel" (114 : Nat) "BatonKernel$Tank" "level" "I") ∈ lw_g := lw_gd (lw_in1 (List.mem_of_getElem? (i := 165) (by decide +kernel))) rfl
theorem tw_1_166 : (Jvm.Cond.lays "BatonKernel$Tank" "BatonKernel$Tank" "capacity" "I") ∈ lw_g := lw_gd (lw_in1 (List.mem_of_getElem? (i := 166) (by decide +kernel))) rfl
theorem tw_1_168 : (Jvm.Cond.lays "BatonKernel$Tank" "BatonKernel$Tank" "level" "I") ∈ lw_g := lw_gd (lw_in1 (List.mem_of_getElem? (i := 168) (by decide +kernel))) rfl
theorem tw_1_171 : (Jvm.Cond.fieldLink "BatonKernel" (11 : Nat) "BatonKernel" "procs" "[LBatonKernel$Proc;") ∈ lw_g := lw_gd (lw_in1 (List.mem_of_getElem? (i := 171) (by decide +kernel))) rfl
theorem tw_1_172 : (Jvm.Cond.fieldLink "BatonKernel" (17 : Nat) "BatonKernel" "resources" "[LBatonKernel$Resource;") ∈ lw_g := lw_gd (lw_in1 (List.mem_of_getElem? (i := 172) (by decide +kernel))) rfl
theorem tw_1_173 : (Jvm.Cond.fieldLink "BatonKernel" (23 : Nat) "BatonKernel" "tanks" "[LBatonKernel$Tank;") ∈ lw_g := lw_gd (lw_in1 (List.mem_of_getElem? (i := 173) (by decide +kernel))) rfl
theorem tw_1_174 : (Jvm.Cond.fieldLink "BatonKernel" (30 : Nat) "BatonKernel" "conditions" "LBatonKernel$Line;") ∈ lw_g := lw_gd (lw_in1 (List.mem_of_getElem? (i := 174) (by decide +kernel))) rfl
theorem tw_1_175 : (Jvm.Cond.fieldLink "BatonKernel" (37 : Nat) "BatonKernel" "trace" "LBatonKernel$Trace;") ∈ lw_g := lw_gd (lw_in1 (List.mem_of_getElem? (i := 175) (by decide +kernel))) rfl
theorem tw_1_176 : (Jvm.Cond.fieldLink "BatonKernel" (41 : Nat) "BatonKernel" "losers" "[I") ∈ lw_g := lw_gd (lw_in1 (List.mem_of_getElem? (i := 176) (by decide +kernel))) rfl
theorem tw_1_177 : (Jvm.Cond.fieldLink "BatonKernel" (45 : Nat) "BatonKernel" "made" "I") ∈ lw_g := lw_gd (lw_in1 (List.mem_of_getElem? (i := 177) (by decide +kernel))) rfl
theorem tw_1_178 : (Jvm.Cond.fieldLink "BatonKernel" (49 : Nat) "BatonKernel" "clock" "J") ∈ lw_g := lw_gd (lw_in1 (List.mem_of_getElem? (i := 178) (by decide +kernel))) rfl
theorem tw_1_179 : (Jvm.Cond.fieldLink "BatonKernel" (53 : Nat) "BatonKernel" "entries" "J") ∈ lw_g := lw_gd (lw_in1 (List.mem_of_getElem? (i := 179) (by decide +kernel))) rfl
theorem tw_1_180 : (Jvm.Cond.laysFinal "BatonKernel" "BatonKernel" "procs" "[LBatonKernel$Proc;") ∈ lw_g := lw_gd (lw_in1 (List.mem_of_getElem? (i := 180) (by decide +kernel))) rfl
theorem tw_1_182 : (Jvm.Cond.laysFinal "BatonKernel" "BatonKernel" "resources" "[LBatonKernel$Resource;") ∈ lw_g := lw_gd (lw_in1 (List.mem_of_getElem? (i := 182) (by decide +kernel))) rfl
theorem tw_1_184 : (Jvm.Cond.laysFinal "BatonKernel" "BatonKernel" "tanks" "[LBatonKernel$Tank;") ∈ lw_g := lw_gd (lw_in1 (List.mem_of_getElem? (i := 184) (by decide +kernel))) rfl
theorem tw_1_186 : (Jvm.Cond.laysFinal "BatonKernel" "BatonKernel" "conditions" "LBatonKernel$Line;") ∈ lw_g := lw_gd (lw_in1 (List.mem_of_getElem? (i := 186) (by decide +kernel))) rfl
theorem tw_1_188 : (Jvm.Cond.laysFinal "BatonKernel" "BatonKernel" "trace" "LBatonKernel$Trace;") ∈ lw_g := lw_gd (lw_in1 (List.mem_of_getElem? (i := 188) (by decide +kernel))) rfl
theorem tw_1_190 : (Jvm.Cond.laysFinal "BatonKernel" "BatonKernel" "losers" "[I") ∈ lw_g := lw_gd (lw_in1 (List.mem_of_getElem? (i := 190) (by decide +kernel))) rfl
theorem tw_1_192 : (Jvm.Cond.lays "BatonKernel" "BatonKernel" "made" "I") ∈ lw_g := lw_gd (lw_in1 (List.mem_of_getElem? (i := 192) (by decide +kernel))) rfl
theorem tw_1_194 : (Jvm.Cond.lays "BatonKernel" "BatonKernel" "clock" "J") ∈ lw_g := lw_gd (lw_in1 (List.mem_of_getElem? (i := 194) (by decide +kernel))) rfl
theorem tw_1_196 : (Jvm.Cond.lays "BatonKernel" "BatonKernel" "entries" "J") ∈ lw_g := lw_gd (lw_in1 (List.mem_of_getElem? (i := 196) (by decide +kernel))) rfl
theorem tw_1_203 : (Jvm.Cond.methodLink "BatonKernel" (61 : Nat) ({ cls := "BatonKernel", name := "isWithin", desc := "(III)Z" } : Jvm.MethodName)) ∈ lw_g := lw_gd (lw_in1 (List.mem_of_getElem? (i := 203) (by decide +kernel))) rfl
theorem tw_1_204 : (Jvm.Cond.static ({ cls := "BatonKernel", name := "isWithin", desc := "(III)Z" } : Jvm.MethodName)) ∈ lw_g := lw_gd (lw_in1 (List.mem_of_getElem? (i := 204) (by decide +kernel))) rfl
theorem tw_1_210 : (Jvm.Cond.methodLink "BatonKernel" (77 : Nat) ({ cls := "BatonKernel", name := "isProcess", desc := "(I)Z" } : Jvm.MethodName)) ∈ lw_g := lw_gd (lw_in1 (List.mem_of_getElem? (i := 210) (by decide +kernel))) rfl
theorem tw_1_212 : (Jvm.Cond.instanceMethod ({ cls := "BatonKernel", name := "isProcess", desc := "(I)Z" } : Jvm.MethodName)) ∈ lw_g := lw_gd (lw_in1 (List.mem_of_getElem? (i := 212) (by decide +kernel))) rfl
theorem tw_1_214 : (Jvm.Cond.methodLink "BatonKernel" (81 : Nat) ({ cls := "BatonKernel", name := "isInstruction", desc := "(III)Z" } : Jvm.MethodName)) ∈ lw_g := lw_gd (lw_in1 (List.mem_of_getElem? (i := 214) (by decide +kernel))) rfl
theorem tw_1_215 : (Jvm.Cond.static ({ cls := "BatonKernel", name := "isInstruction", desc := "(III)Z" } : Jvm.MethodName)) ∈ lw_g := lw_gd (lw_in1 (List.mem_of_getElem? (i := 215) (by decide +kernel))) rfl
theorem tw_1_217 : (Jvm.Cond.constant "BatonKernel" (117 : Nat) (1000000 : Int32)) ∈ lw_g := lw_gd (lw_in1 (List.mem_of_getElem? (i := 217) (by decide +kernel))) rfl
theorem tw_1_218 : (Jvm.Cond.methodLink "BatonKernel" (94 : Nat) ({ cls := "BatonKernel", name := "isResource", desc := "(I)Z" } : Jvm.MethodName)) ∈ lw_g := lw_gd (lw_in1 (List.mem_of_getElem? (i := 218) (by decide +kernel))) rfl
theorem tw_1_219 : (Jvm.Cond.static ({ cls := "BatonKernel", name := "isResource", desc := "(I)Z" } : Jvm.MethodName)) ∈ lw_g := lw_gd (lw_in1 (List.mem_of_getElem? (i := 219) (by decide +kernel))) rfl
theorem tw_1_221 : (Jvm.Cond.methodLink "BatonKernel" (110 : Nat) ({ cls := "BatonKernel", name := "isTank", desc := "(I)Z" } : Jvm.MethodName)) ∈ lw_g := lw_gd (lw_in1 (List.mem_of_getElem? (i := 221) (by decide +kernel))) rfl
theorem tw_1_222 : (Jvm.Cond.static ({ cls := "BatonKernel", name := "isTank", desc := "(I)Z" } : Jvm.MethodName)) ∈ lw_g := lw_gd (lw_in1 (List.mem_of_getElem? (i := 222) (by decide +kernel))) rfl
theorem tw_1_224 : (Jvm.Cond.methodLink "BatonKernel" (90 : Nat) ({ cls := "BatonKernel$Proc", name := "append", desc := "(III)V" } : Jvm.MethodName)) ∈ lw_g := lw_gd (lw_in1 (List.mem_of_getElem? (i := 224) (by decide +kernel))) rfl
theorem tw_1_225 : (Jvm.Cond.instanceMethod ({ cls := "BatonKernel$Proc", name := "append", desc := "(III)V" } : Jvm.MethodName)) ∈ lw_g := lw_gd (lw_in1 (List.mem_of_getElem? (i := 225) (by decide +kernel))) rfl
theorem tw_1_226 : (Jvm.Cond.selects "BatonKernel$Proc" ({ cls := "BatonKernel$Proc", name := "append", desc := "(III)V" } : Jvm.MethodName) ({ cls := "BatonKernel$Proc", name := "append", desc := "(III)V" } : Jvm.MethodName)) ∈ lw_g := lw_gd (lw_in1 (List.mem_of_getElem? (i := 226) (by decide +kernel))) rfl
theorem tw_1_232 : (Jvm.Cond.methodLink "BatonKernel" (107 : Nat) ({ cls := "BatonKernel", name := "serve", desc := "(I)V" } : Jvm.MethodName)) ∈ lw_g := lw_gd (lw_in1 (List.mem_of_getElem? (i := 232) (by decide +kernel))) rfl
theorem tw_1_234 : (Jvm.Cond.instanceMethod ({ cls := "BatonKernel", name := "serve", desc := "(I)V" } : Jvm.MethodName)) ∈ lw_g := lw_gd (lw_in1 (List.mem_of_getElem? (i := 234) (by decide +kernel))) rfl
theorem tw_1_236 : (Jvm.Cond.methodLink "BatonKernel" (232 : Nat) ({ cls := "BatonKernel$Proc", name := "secondOperand", desc := "()I" } : Jvm.MethodName)) ∈ lw_g := lw_gd (lw_in1 (List.mem_of_getElem? (i := 236) (by decide +kernel))) rfl
theorem tw_1_237 : (Jvm.Cond.instanceMethod ({ cls := "BatonKernel$Proc", name := "secondOperand", desc := "()I" } : Jvm.MethodName)) ∈ lw_g := lw_gd (lw_in1 (List.mem_of_getElem? (i := 237) (by decide +kernel))) rfl
theorem tw_1_238 : (Jvm.Cond.selects "BatonKernel$Proc" ({ cls := "BatonKernel$Proc", name := "secondOperand", desc := "()I" } : Jvm.MethodName) ({ cls := "BatonKernel$Proc", name := "secondOperand", desc := "()I" } : Jvm.MethodName)) ∈ lw_g := lw_gd (lw_in1 (List.mem_of_getElem? (i := 238) (by decide +kernel))) rfl
theorem tw_2_0 : (Jvm.Cond.methodLink "BatonKernel" (179 : Nat) ({ cls := "BatonKernel$Resource", name := "unseized", desc := "()I" } : Jvm.MethodName)) ∈ lw_g := lw_gd (lw_in2 (List.mem_of_getElem? (i := 0) (by decide +kernel))) rfl
theorem tw_2_1 : (Jvm.Cond.instanceMethod ({ cls := "BatonKernel$Resource", name := "unseized", desc := "()I" } : Jvm.MethodName)) ∈ lw_g := lw_gd (lw_in2 (List.mem_of_getElem? (i := 1) (by decide +kernel))) rfl
theorem tw_2_2 : (Jvm.Cond.selects "BatonKernel$Resource" ({ cls := "BatonKernel$Resource", name := "unseized", desc := "()I" } : Jvm.MethodName) ({ cls := "BatonKernel$Resource", name := "unseized", desc := "()I" } : Jvm.MethodName)) ∈ lw_g := lw_gd (lw_in2 (List.mem_of_getElem? (i := 2) (by decide +kernel))) rfl
theorem tw_2_4 : (Jvm.Cond.methodLink "BatonKernel" (258 : Nat) ({ cls := "BatonKernel", name := "give", desc := "(LBatonKernel$Proc;II)V" } : Jvm.MethodName)) ∈ lw_g := lw_gd (lw_in2 (List.mem_of_getElem? (i := 4) (by decide +kernel))) rfl
theorem tw_2_6 : (Jvm.Cond.instanceMethod ({ cls := "BatonKernel", name := "give", desc := "(LBatonKernel$Proc;II)V" } : Jvm.MethodName)) ∈ lw_g := lw_gd (lw_in2 (List.mem_of_getElem? (i := 6) (by decide +kernel))) rfl
theorem tw_2_8 : (Jvm.Cond.methodLink "BatonKernel" (287 : Nat) ({ cls := "BatonKernel$Line", name := "drop", desc := "(I)V" } : Jvm.MethodName)) ∈ lw_g := lw_gd (lw_in2 (List.mem_of_getElem? (i := 8) (by decide +kernel))) rfl
theorem tw_2_9 : (Jvm.Cond.instanceMethod ({ cls := "BatonKernel$Line", name := "drop", desc := "(I)V" } : Jvm.MethodName)) ∈ lw_g := lw_gd (lw_in2 (List.mem_of_getElem? (i := 9) (by decide +kernel))) rfl
theorem tw_2_10 : (Jvm.Cond.selects "BatonKernel$Line" ({ cls := "BatonKernel$Line", name := "drop", desc := "(I)V" } : Jvm.MethodName) ({ cls := "BatonKernel$Line", name := "drop", desc := "(I)V" } : Jvm.MethodName)) ∈ lw_g := lw_gd (lw_in2 (List.mem_of_getElem? (i := 10) (by decide +kernel))) rfl
theorem tw_2_12 : (Jvm.Cond.methodLink "BatonKernel" (118 : Nat) ({ cls := "BatonKernel", name := "enter", desc := "(LBatonKernel$Proc;II)V" } : Jvm.MethodName)) ∈ lw_g := lw_gd (lw_in2 (List.mem_of_getElem? (i := 12) (by decide +kernel))) rfl
theorem tw_2_14 : (Jvm.Cond.instanceMethod ({ cls := "BatonKernel", name := "enter", desc := "(LBatonKernel$Proc;II)V" } : Jvm.MethodName)) ∈ lw_g := lw_gd (lw_in2 (List.mem_of_getElem? (i := 14) (by decide +kernel))) rfl
theorem tw_2_21 : (Jvm.Cond.instanceMethod ({ cls := "BatonKernel", name := "activate", desc := "(II)Z" } : Jvm.MethodName)) ∈ lw_g := lw_gd (lw_in2 (List.mem_of_getElem? (i := 21) (by decide +kernel))) rfl
theorem tw_2_22 : (Jvm.Cond.selects "BatonKernel" ({ cls := "BatonKernel", name := "activate", desc := "(II)Z" } : Jvm.MethodName) ({ cls := "BatonKernel", name := "activate", desc := "(II)Z" } : Jvm.MethodName)) ∈ lw_g := lw_gd (lw_in2 (List.mem_of_getElem? (i := 22) (by decide +kernel))) rfl
theorem tw_2_25 : (Jvm.Cond.instanceMethod ({ cls := "BatonKernel", name := "interrupt", desc := "(I)Z" } : Jvm.MethodName)) ∈ lw_g := lw_gd (lw_in2 (List.mem_of_getElem? (i := 25) (by decide +kernel))) rfl
theorem tw_2_26 : (Jvm.Cond.selects "BatonKernel" ({ cls := "BatonKernel", name := "interrupt", desc := "(I)Z" } : Jvm.MethodName) ({ cls := "BatonKernel", name := "interrupt", desc := "(I)Z" } : Jvm.MethodName)) ∈ lw_g := lw_gd (lw_in2 (List.mem_of_getElem? (i := 26) (by decide +kernel))) rfl
theorem tw_2_28 : (Jvm.Cond.methodLink "BatonKernel" (122 : Nat) ({ cls := "BatonKernel$Proc", name := "isBreakable", desc := "()Z" } : Jvm.MethodName)) ∈ lw_g := lw_gd (lw_in2 (List.mem_of_getElem? (i := 28) (by decide +kernel))) rfl
theorem tw_2_29 : (Jvm.Cond.instanceMethod ({ cls := "BatonKernel$Proc", name := "isBreakable", desc := "()Z" } : Jvm.MethodName)) ∈ lw_g := lw_gd (lw_in2 (List.mem_of_getElem? (i := 29) (by decide +kernel))) rfl
theorem tw_2_30 : (Jvm.Cond.selects "BatonKernel$Proc" ({ cls := "BatonKernel$Proc", name := "isBreakable", desc := "()Z" } : Jvm.MethodName) ({ cls := "BatonKernel$Proc", name := "isBreakable", desc := "()Z" } : Jvm.MethodName)) ∈ lw_g := lw_gd (lw_in2 (List.mem_of_getElem? (i := 30) (by decide +kernel))) rfl
theorem tw_2_32 : (Jvm.Cond.methodLink "BatonKernel" (126 : Nat) ({ cls := "BatonKernel", name := "lineOf", desc := "(LBatonKernel$Proc;)I" } : Jvm.MethodName)) ∈ lw_g := lw_gd (lw_in2 (List.mem_of_getElem? (i := 32) (by decide +kernel))) rfl
theorem tw_2_34 : (Jvm.Cond.instanceMethod ({ cls := "BatonKernel", name := "lineOf", desc := "(LBatonKernel$Proc;)I" } : Jvm.MethodName)) ∈ lw_g := lw_gd (lw_in2 (List.mem_of_getElem? (i := 34) (by decide +kernel))) rfl
theorem tw_2_36 : (Jvm.Cond.methodLink "BatonKernel" (220 : Nat) ({ cls := "BatonKernel$Proc", name := "firstOperand", desc := "()I" } : Jvm.MethodName)) ∈ lw_g := lw_gd (lw_in2 (List.mem_of_getElem? (i := 36) (by decide +kernel))) rfl
theorem tw_2_37 : (Jvm.Cond.instanceMethod ({ cls := "BatonKernel$Proc", name := "firstOperand", desc := "()I" } : Jvm.MethodName)) ∈ lw_g := lw_gd (lw_in2 (List.mem_of_getElem? (i := 37) (by decide +kernel))) rfl
theorem tw_2_38 : (Jvm.Cond.selects "BatonKernel$Proc" ({ cls := "BatonKernel$Proc", name := "firstOperand", desc := "()I" } : Jvm.MethodName) ({ cls := "BatonKernel$Proc", name := "firstOperand", desc := "()I" } : Jvm.MethodName)) ∈ lw_g := lw_gd (lw_in2 (List.mem_of_getElem? (i := 38) (by decide +kernel))) rfl
theorem tw_2_40 : (Jvm.Cond.methodLink "BatonKernel" (130 : Nat) ({ cls := "BatonKernel", name := "leave", desc := "(LBatonKernel$Proc;)V" } : Jvm.MethodName)) ∈ lw_g := lw_gd (lw_in2 (List.mem_of_getElem? (i := 40) (by decide +kernel))) rfl
theorem tw_2_42 : (Jvm.Cond.instanceMethod ({ cls := "BatonKernel", name := "leave", desc := "(LBatonKernel$Proc;)V" } : Jvm.MethodName)) ∈ lw_g := lw_gd (lw_in2 (List.mem_of_getElem? (i := 42) (by decide +kernel))) rfl
theorem tw_2_45 : (Jvm.Cond.instanceMethod ({ cls := "BatonKernel", name := "kill", desc := "(I)Z" } : Jvm.MethodName)) ∈ lw_g := lw_gd (lw_in2 (List.mem_of_getElem? (i := 45) (by decide +kernel))) rfl
theorem tw_2_46 : (Jvm.Cond.selects "BatonKernel" ({ cls := "BatonKernel", name := "kill", desc := "(I)Z" } : Jvm.MethodName) ({ cls := "BatonKernel", name := "kill", desc := "(I)Z" } : Jvm.MethodName)) ∈ lw_g := lw_gd (lw_in2 (List.mem_of_getElem? (i := 46) (by decide +kernel))) rfl
theorem tw_2_48 : (Jvm.Cond.methodLink "BatonKernel" (137 : Nat) ({ cls := "BatonKernel$Proc", name := "isOver", desc := "()Z" } : Jvm.MethodName)) ∈ lw_g := lw_gd (lw_in2 (List.mem_of_getElem? (i := 48) (by decide +kernel))) rfl
theorem tw_2_49 : (Jvm.Cond.instanceMethod ({ cls := "BatonKernel$Proc", name := "isOver", desc := "()Z" } : Jvm.MethodName)) ∈ lw_g := lw_gd (lw_in2 (List.mem_of_getElem? (i := 49) (by decide +kernel))) rfl
theorem tw_2_50 : (Jvm.Cond.selects "BatonKernel$Proc" ({ cls := "BatonKernel$Proc", name := "isOver", desc := "()Z" } : Jvm.MethodName) ({ cls := "BatonKernel$Proc", name := "isOver", desc := "()Z" } : Jvm.MethodName)) ∈ lw_g := lw_gd (lw_in2 (List.mem_of_getElem? (i := 50) (by decide +kernel))) rfl
theorem tw_2_52 : (Jvm.Cond.methodLink "BatonKernel" (149 : Nat) ({ cls := "BatonKernel", name := "giveBack", desc := "(LBatonKernel$Proc;II)V" } : Jvm.MethodName)) ∈ lw_g := lw_gd (lw_in2 (List.mem_of_getElem? (i := 52) (by decide +kernel))) rfl
theorem tw_2_54 : (Jvm.Cond.instanceMethod ({ cls := "BatonKernel", name := "giveBack", desc := "(LBatonKernel$Proc;II)V" } : Jvm.MethodName)) ∈ lw_g := lw_gd (lw_in2 (List.mem_of_getElem? (i := 54) (by decide +kernel))) rfl
theorem tw_2_56 : (Jvm.Cond.methodLink "BatonKernel" (282 : Nat) ({ cls := "java/lang/Math", name := "min", desc := "(II)I" } : Jvm.MethodName)) ∈ lw_g := lw_gd (lw_in2 (List.mem_of_getElem? (i := 56) (by decide +kernel))) rfl
theorem tw_2_57 : (Jvm.Cond.static ({ cls := "java/lang/Math", name := "min", desc := "(II)I" } : Jvm.MethodName)) ∈ lw_g := lw_gd (lw_in2 (List.mem_of_getElem? (i := 57) (by decide +kernel))) rfl
theorem tw_2_59 : (Jvm.Cond.methodLink "BatonKernel" (279 : Nat) ({ cls := "BatonKernel", name := "takeBack", desc := "(LBatonKernel$Proc;II)V" } : Jvm.MethodName)) ∈ lw_g := lw_gd (lw_in2 (List.mem_of_getElem? (i := 59) (by decide +kernel))) rfl
theorem tw_2_61 : (Jvm.Cond.instanceMethod ({ cls := "BatonKernel", name := "takeBack", desc := "(LBatonKernel$Proc;II)V" } : Jvm.MethodName)) ∈ lw_g := lw_gd (lw_in2 (List.mem_of_getElem? (i := 61) (by decide +kernel))) rfl
theorem tw_2_67 : (Jvm.Cond.constantLong "BatonKernel" (152 : Nat) (1000000000000 : Int64)) ∈ lw_g := lw_gd (lw_in2 (List.mem_of_getElem? (i := 67) (by decide +kernel))) rfl
theorem tw_2_68 : (Jvm.Cond.methodLink "BatonKernel" (154 : Nat) ({ cls := "BatonKernel", name := "firstEntry", desc := "()I" } : Jvm.MethodName)) ∈ lw_g := lw_gd (lw_in2 (List.mem_of_getElem? (i := 68) (by decide +kernel))) rfl
theorem tw_2_70 : (Jvm.Cond.instanceMethod ({ cls := "BatonKernel", name := "firstEntry", desc := "()I" } : Jvm.MethodName)) ∈ lw_g := lw_gd (lw_in2 (List.mem_of_getElem? (i := 70) (by decide +kernel))) rfl
theorem tw_2_72 : (Jvm.Cond.methodLink "BatonKernel" (204 : Nat) ({ cls := "BatonKernel$Proc", name := "isBefore", desc := "(LBatonKernel$Proc;)Z" } : Jvm.MethodName)) ∈ lw_g := lw_gd (lw_in2 (List.mem_of_getElem? (i := 72) (by decide +kernel))) rfl
theorem tw_2_73 : (Jvm.Cond.instanceMethod ({ cls := "BatonKernel$Proc", name := "isBefore", desc := "(LBatonKernel$Proc;)Z" } : Jvm.MethodName)) ∈ lw_g := lw_gd (lw_in2 (List.mem_of_getElem? (i := 73) (by decide +kernel))) rfl
theorem tw_2_74 : (Jvm.Cond.selects "BatonKernel$Proc" ({ cls := "BatonKernel$Proc", name := "isBefore", desc := "(LBatonKernel$Proc;)Z" } : Jvm.MethodName) ({ cls := "BatonKernel$Proc", name := "isBefore", desc := "(LBatonKernel$Proc;)Z" } : Jvm.MethodName)) ∈ lw_g := lw_gd (lw_in2 (List.mem_of_getElem? (i := 74) (by decide +kernel))) rfl
theorem tw_2_76 : (Jvm.Cond.methodLink "BatonKernel" (161 : Nat) ({ cls := "BatonKernel", name := "begin", desc := "(LBatonKernel$Proc;)V" } : Jvm.MethodName)) ∈ lw_g := lw_gd (lw_in2 (List.mem_of_getElem? (i := 76) (by decide +kernel))) rfl
theorem tw_2_78 : (Jvm.Cond.instanceMethod ({ cls := "BatonKernel", name := "begin", desc := "(LBatonKernel$Proc;)V" } : Jvm.MethodName)) ∈ lw_g := lw_gd (lw_in2 (List.mem_of_getElem? (i := 78) (by decide +kernel))) rfl
theorem tw_2_80 : (Jvm.Cond.methodLink "BatonKernel" (170 : Nat) ({ cls := "BatonKernel", name := "moveClock", desc := "(J)V" } : Jvm.MethodName)) ∈ lw_g := lw_gd (lw_in2 (List.mem_of_getElem? (i := 80) (by decide +kernel))) rfl
theorem tw_2_82 : (Jvm.Cond.instanceMethod ({ cls := "BatonKernel", name := "moveClock", desc := "(J)V" } : Jvm.MethodName)) ∈ lw_g := lw_gd (lw_in2 (List.mem_of_getElem? (i := 82) (by decide +kernel))) rfl
theorem tw_2_84 : (Jvm.Cond.methodLink "BatonKernel" (208 : Nat) ({ cls := "BatonKernel$Trace", name := "add", desc := "(I)V" } : Jvm.MethodName)) ∈ lw_g := lw_gd (lw_in2 (List.mem_of_getElem? (i := 84) (by decide +kernel))) rfl
theorem tw_2_85 : (Jvm.Cond.instanceMethod ({ cls := "BatonKernel$Trace", name := "add", desc := "(I)V" } : Jvm.MethodName)) ∈ lw_g := lw_gd (lw_in2 (List.mem_of_getElem? (i := 85) (by decide +kernel))) rfl
theorem tw_2_86 : (Jvm.Cond.selects "BatonKernel$Trace" ({ cls := "BatonKernel$Trace", name := "add", desc := "(I)V" } : Jvm.MethodName) ({ cls := "BatonKernel$Trace", name := "add", desc := "(I)V" } : Jvm.MethodName)) ∈ lw_g := lw_gd (lw_in2 (List.mem_of_getElem? (i := 86) (by decide +kernel))) rfl
theorem tw_2_88 : (Jvm.Cond.methodLink "BatonKernel$Trace" (22 : Nat) ({ cls := "java/lang/Math", name := "min", desc := "(II)I" } : Jvm.MethodName)) ∈ lw_g := lw_gd (lw_in2 (List.mem_of_getElem? (i := 88) (by decide +kernel))) rfl
theorem tw_2_89 : (Jvm.Cond.methodLink "BatonKernel" (164 : Nat) ({ cls := "BatonKernel", name := "doTurn", desc := "(LBatonKernel$Proc;)V" } : Jvm.MethodName)) ∈ lw_g := lw_gd (lw_in2 (List.mem_of_getElem? (i := 89) (by decide +kernel))) rfl
theorem tw_2_91 : (Jvm.Cond.instanceMethod ({ cls := "BatonKernel", name := "doTurn", desc := "(LBatonKernel$Proc;)V" } : Jvm.MethodName)) ∈ lw_g := lw_gd (lw_in2 (List.mem_of_getElem? (i := 91) (by decide +kernel))) rfl
theorem tw_2_93 : (Jvm.Cond.methodLink "BatonKernel" (211 : Nat) ({ cls := "BatonKernel", name := "perform", desc := "(LBatonKernel$Proc;)Z" } : Jvm.MethodName)) ∈ lw_g := lw_gd (lw_in2 (List.mem_of_getElem? (i := 93) (by decide +kernel))) rfl
theorem tw_2_95 : (Jvm.Cond.instanceMethod ({ cls := "BatonKernel", name := "perform", desc := "(LBatonKernel$Proc;)Z" } : Jvm.MethodName)) ∈ lw_g := lw_gd (lw_in2 (List.mem_of_getElem? (i := 95) (by decide +kernel))) rfl
theorem tw_2_97 : (Jvm.Cond.methodLink "BatonKernel" (223 : Nat) ({ cls := "BatonKernel", name := "seizeFree", desc := "(LBatonKernel$Proc;)Z" } : Jvm.MethodName)) ∈ lw_g := lw_gd (lw_in2 (List.mem_of_getElem? (i := 97) (by decide +kernel))) rfl
theorem tw_2_99 : (Jvm.Cond.instanceMethod ({ cls := "BatonKernel", name := "seizeFree", desc := "(LBatonKernel$Proc;)Z" } : Jvm.MethodName)) ∈ lw_g := lw_gd (lw_in2 (List.mem_of_getElem? (i := 99) (by decide +kernel))) rfl
theorem tw_2_101 : (Jvm.Cond.methodLink "BatonKernel" (254 : Nat) ({ cls := "BatonKernel", name := "countBefore", desc := "(II)I" } : Jvm.MethodName)) ∈ lw_g := lw_gd (lw_in2 (List.mem_of_getElem? (i := 101) (by decide +kernel))) rfl
theorem tw_2_103 : (Jvm.Cond.instanceMethod ({ cls := "BatonKernel", name := "countBefore", desc := "(II)I" } : Jvm.MethodName)) ∈ lw_g := lw_gd (lw_in2 (List.mem_of_getElem? (i := 103) (by decide +kernel))) rfl
theorem tw_2_105 : (Jvm.Cond.methodLink "BatonKernel" (226 : Nat) ({ cls := "BatonKernel", name := "seizeByForce", desc := "(LBatonKernel$Proc;)Z" } : Jvm.MethodName)) ∈ lw_g := lw_gd (lw_in2 (List.mem_of_getElem? (i := 105) (by decide +kernel))) rfl
theorem tw_2_107 : (Jvm.Cond.instanceMethod ({ cls := "BatonKernel", name := "seizeByForce", desc := "(LBatonKernel$Proc;)Z" } : Jvm.MethodName)) ∈ lw_g := lw_gd (lw_in2 (List.mem_of_getElem? (i := 107) (by decide +kernel))) rfl
theorem tw_2_109 : (Jvm.Cond.methodLink "BatonKernel" (261 : Nat) ({ cls := "BatonKernel", name := "withinReach", desc := "(LBatonKernel$Proc;I)I" } : Jvm.MethodName)) ∈ lw_g := lw_gd (lw_in2 (List.mem_of_getElem? (i := 109) (by decide +kernel))) rfl
theorem tw_2_111 : (Jvm.Cond.instanceMethod ({ cls := "BatonKernel", name := "withinReach", desc := "(LBatonKernel$Proc;I)I" } : Jvm.MethodName)) ∈ lw_g := lw_gd (lw_in2 (List.mem_of_getElem? (i := 111) (by decide +kernel))) rfl
theorem tw_2_113 : (Jvm.Cond.methodLink "BatonKernel" (265 : Nat) ({ cls := "BatonKernel", name := "takeFromLosers", desc := "(LBatonKernel$Proc;II)I" } : Jvm.MethodName)) ∈ lw_g := lw_gd (lw_in2 (List.mem_of_getElem? (i := 113) (by decide +kernel))) rfl
theorem tw_2_115 : (Jvm.Cond.instanceMethod ({ cls := "BatonKernel", name := "takeFromLosers", desc := "(LBatonKernel$Proc;II)I" } : Jvm.MethodName)) ∈ lw_g := lw_gd (lw_in2 (List.mem_of_getElem? (i := 115) (by decide +kernel))) rfl
theorem tw_2_117 : (Jvm.Cond.methodLink "BatonKernel" (276 : Nat) ({ cls := "BatonKernel", name := "nextLoser", desc := "(LBatonKernel$Proc;I)I" } : Jvm.MethodName)) ∈ lw_g := lw_gd (lw_in2 (List.mem_of_getElem? (i := 117) (by decide +kernel))) rfl
theorem tw_2_119 : (Jvm.Cond.instanceMethod ({ cls := "BatonKernel", name := "nextLoser", desc := "(LBatonKernel$Proc;I)I" } : Jvm.MethodName)) ∈ lw_g := lw_gd (lw_in2 (List.mem_of_getElem? (i := 119) (by decide +kernel))) rfl
theorem tw_2_121 : (Jvm.Cond.methodLink "BatonKernel" (245 : Nat) ({ cls := "BatonKernel", name := "interrupt", desc := "(I)Z" } : Jvm.MethodName)) ∈ lw_g := lw_gd (lw_in2 (List.mem_of_getElem? (i := 121) (by decide +kernel))) rfl
theorem tw_2_122 : (Jvm.Cond.methodLink "BatonKernel" (229 : Nat) ({ cls := "BatonKernel", name := "standInLine", desc := "(LBatonKernel$Proc;)Z" } : Jvm.MethodName)) ∈ lw_g := lw_gd (lw_in2 (List.mem_of_getElem? (i := 122) (by decide +kernel))) rfl
theorem tw_2_124 : (Jvm.Cond.instanceMethod ({ cls := "BatonKernel", name := "standInLine", desc := "(LBatonKernel$Proc;)Z" } : Jvm.MethodName)) ∈ lw_g := lw_gd (lw_in2 (List.mem_of_getElem? (i := 124) (by decide +kernel))) rfl
theorem tw_2_126 : (Jvm.Cond.methodLink "BatonKernel" (269 : Nat) ({ cls := "BatonKernel$Line", name := "insert", desc := "(II)V" } : Jvm.MethodName)) ∈ lw_g := lw_gd (lw_in2 (List.mem_of_getElem? (i := 126) (by decide +kernel))) rfl
theorem tw_2_127 : (Jvm.Cond.instanceMethod ({ cls := "BatonKernel$Line", name := "insert", desc := "(II)V" } : Jvm.MethodName)) ∈ lw_g := lw_gd (lw_in2 (List.mem_of_getElem? (i := 127) (by decide +kernel))) rfl
theorem tw_2_128 : (Jvm.Cond.selects "BatonKernel$Line" ({ cls := "BatonKernel$Line", name := "insert", desc := "(II)V" } : Jvm.MethodName) ({ cls := "BatonKernel$Line", name := "insert", desc := "(II)V" } : Jvm.MethodName)) ∈ lw_g := lw_gd (lw_in2 (List.mem_of_getElem? (i := 128) (by decide +kernel))) rfl
theorem tw_2_130 : (Jvm.Cond.methodLink "BatonKernel" (235 : Nat) ({ cls := "BatonKernel", name := "meetCondition", desc := "(LBatonKernel$Proc;)Z" } : Jvm.MethodName)) ∈ lw_g := lw_gd (lw_in2 (List.mem_of_getElem? (i := 130) (by decide +kernel))) rfl
theorem tw_2_132 : (Jvm.Cond.instanceMethod ({ cls := "BatonKernel", name := "meetCondition", desc := "(LBatonKernel$Proc;)Z" } : Jvm.MethodName)) ∈ lw_g := lw_gd (lw_in2 (List.mem_of_getElem? (i := 132) (by decide +kernel))) rfl
theorem tw_2_134 : (Jvm.Cond.methodLink "BatonKernel" (290 : Nat) ({ cls := "BatonKernel$Tank", name := "put", desc := "(I)Z" } : Jvm.MethodName)) ∈ lw_g := lw_gd (lw_in2 (List.mem_of_getElem? (i := 134) (by decide +kernel))) rfl
theorem tw_2_135 : (Jvm.Cond.instanceMethod ({ cls := "BatonKernel$Tank", name := "put", desc := "(I)Z" } : Jvm.MethodName)) ∈ lw_g := lw_gd (lw_in2 (List.mem_of_getElem? (i := 135) (by decide +kernel))) rfl
theorem tw_2_136 : (Jvm.Cond.selects "BatonKernel$Tank" ({ cls := "BatonKernel$Tank", name := "put", desc := "(I)Z" } : Jvm.MethodName) ({ cls := "BatonKernel$Tank", name := "put", desc := "(I)Z" } : Jvm.MethodName)) ∈ lw_g := lw_gd (lw_in2 (List.mem_of_getElem? (i := 136) (by decide +kernel))) rfl
theorem tw_2_138 : (Jvm.Cond.methodLink "BatonKernel" (293 : Nat) ({ cls := "BatonKernel$Tank", name := "take", desc := "(I)Z" } : Jvm.MethodName)) ∈ lw_g := lw_gd (lw_in2 (List.mem_of_getElem? (i := 138) (by decide +kernel))) rfl
theorem tw_2_139 : (Jvm.Cond.instanceMethod ({ cls := "BatonKernel$Tank", name := "take", desc := "(I)Z" } : Jvm.MethodName)) ∈ lw_g := lw_gd (lw_in2 (List.mem_of_getElem? (i := 139) (by decide +kernel))) rfl
theorem tw_2_140 : (Jvm.Cond.selects "BatonKernel$Tank" ({ cls := "BatonKernel$Tank", name := "take", desc := "(I)Z" } : Jvm.MethodName) ({ cls := "BatonKernel$Tank", name := "take", desc := "(I)Z" } : Jvm.MethodName)) ∈ lw_g := lw_gd (lw_in2 (List.mem_of_getElem? (i := 140) (by decide +kernel))) rfl
theorem tw_2_142 : (Jvm.Cond.methodLink "BatonKernel" (238 : Nat) ({ cls := "BatonKernel", name := "waitForCondition", desc := "(LBatonKernel$Proc;)Z" } : Jvm.MethodName)) ∈ lw_g := lw_gd (lw_in2 (List.mem_of_getElem? (i := 142) (by decide +kernel))) rfl
theorem tw_2_144 : (Jvm.Cond.instanceMethod ({ cls := "BatonKernel", name := "waitForCondition", desc := "(LBatonKernel$Proc;)Z" } : Jvm.MethodName)) ∈ lw_g := lw_gd (lw_in2 (List.mem_of_getElem? (i := 144) (by decide +kernel))) rfl
theorem tw_2_146 : (Jvm.Cond.methodLink "BatonKernel" (241 : Nat) ({ cls := "BatonKernel", name := "activate", desc := "(II)Z" } : Jvm.MethodName)) ∈ lw_g := lw_gd (lw_in2 (List.mem_of_getElem? (i := 146) (by decide +kernel))) rfl
theorem tw_2_147 : (Jvm.Cond.methodLink "BatonKernel" (248 : Nat) ({ cls := "BatonKernel", name := "kill", desc := "(I)Z" } : Jvm.MethodName)) ∈ lw_g := lw_gd (lw_in2 (List.mem_of_getElem? (i := 147) (by decide +kernel))) rfl
theorem tw_2_148 : (Jvm.Cond.methodLink "BatonKernel" (214 : Nat) ({ cls := "BatonKernel$Proc", name := "beginRound", desc := "()Z" } : Jvm.MethodName)) ∈ lw_g := lw_gd (lw_in2 (List.mem_of_getElem? (i := 148) (by decide +kernel))) rfl
theorem tw_2_149 : (Jvm.Cond.instanceMethod ({ cls := "BatonKernel$Proc", name := "beginRound", desc := "()Z" } : Jvm.MethodName)) ∈ lw_g := lw_gd (lw_in2 (List.mem_of_getElem? (i := 149) (by decide +kernel))) rfl
theorem tw_2_150 : (Jvm.Cond.selects "BatonKernel$Proc" ({ cls := "BatonKernel$Proc", name := "beginRound", desc := "()Z" } : Jvm.MethodName) ({ cls := "BatonKernel$Proc", name := "beginRound", desc := "()Z" } : Jvm.MethodName)) ∈ lw_g := lw_gd (lw_in2 (List.mem_of_getElem? (i := 150) (by decide +kernel))) rfl
theorem tw_2_152 : (Jvm.Cond.methodLink "BatonKernel" (167 : Nat) ({ cls := "BatonKernel", name := "goOverConditions", desc := "()V" } : Jvm.MethodName)) ∈ lw_g := lw_gd (lw_in2 (List.mem_of_getElem? (i := 152) (by decide +kernel))) rfl
theorem tw_2_154 : (Jvm.Cond.instanceMethod ({ cls := "BatonKernel", name := "goOverConditions", desc := "()V" } : Jvm.MethodName)) ∈ lw_g := lw_gd (lw_in2 (List.mem_of_getElem? (i := 154) (by decide +kernel))) rfl
theorem tw_2_164 : (Jvm.Cond.constantLong "BatonKernel" (174 : Nat) (-1 : Int64)) ∈ lw_g := lw_gd (lw_in2 (List.mem_of_getElem? (i := 164) (by decide +kernel))) rfl
theorem tw_2_205 : (Jvm.Cond.methodLink "BatonKernel" (194 : Nat) ({ cls := "BatonKernel$Trace", name := "before", desc := "(I)I" } : Jvm.MethodName)) ∈ lw_g := lw_gd (lw_in2 (List.mem_of_getElem? (i := 205) (by decide +kernel))) rfl
theorem tw_2_206 : (Jvm.Cond.instanceMethod ({ cls := "BatonKernel$Trace", name := "before", desc := "(I)I" } : Jvm.MethodName)) ∈ lw_g := lw_gd (lw_in2 (List.mem_of_getElem? (i := 206) (by decide +kernel))) rfl
theorem tw_2_207 : (Jvm.Cond.selects "BatonKernel$Trace" ({ cls := "BatonKernel$Trace", name := "before", desc := "(I)I" } : Jvm.MethodName) ({ cls := "BatonKernel$Trace", name := "before", desc := "(I)I" } : Jvm.MethodName)) ∈ lw_g := lw_gd (lw_in2 (List.mem_of_getElem? (i := 207) (by decide +kernel))) rfl
theorem tw_2_215 : (Jvm.Cond.fieldLink "BatonKernelModel" (78 : Nat) "BatonKernelModel" "count" "I") ∈ lw_g := lw_gd (lw_in2 (List.mem_of_getElem? (i := 215) (by decide +kernel))) rfl
theorem tw_2_216 : (Jvm.Cond.fieldLink "BatonKernelModel" (102 : Nat) "BatonKernelModel" "order" "I") ∈ lw_g := lw_gd (lw_in2 (List.mem_of_getElem? (i := 216) (by decide +kernel))) rfl
theorem tw_2_217 : (Jvm.Cond.fieldLink "BatonKernelModel" (134 : Nat) "BatonKernelModel" "coming" "I") ∈ lw_g := lw_gd (lw_in2 (List.mem_of_getElem? (i := 217) (by decide +kernel))) rfl
theorem tw_2_218 : (Jvm.Cond.fieldLink "BatonKernelModel" (168 : Nat) "BatonKernelModel" "events" "I") ∈ lw_g := lw_gd (lw_in2 (List.mem_of_getElem? (i := 218) (by decide +kernel))) rfl
theorem tw_2_219 : (Jvm.Cond.fieldLink "BatonKernelModel" (118 : Nat) "BatonKernelModel" "clock" "J") ∈ lw_g := lw_gd (lw_in2 (List.mem_of_getElem? (i := 219) (by decide +kernel))) rfl
theorem tw_2_220 : (Jvm.Cond.fieldLink "BatonKernelModel" (7 : Nat) "BatonKernelModel" "priority" "[I") ∈ lw_g := lw_gd (lw_in2 (List.mem_of_getElem? (i := 220) (by decide +kernel))) rfl
theorem tw_2_221 : (Jvm.Cond.fieldLink "BatonKernelModel" (13 : Nat) "BatonKernelModel" "rounds" "[I") ∈ lw_g := lw_gd (lw_in2 (List.mem_of_getElem? (i := 221) (by decide +kernel))) rfl
theorem tw_2_222 : (Jvm.Cond.fieldLink "BatonKernelModel" (16 : Nat) "BatonKernelModel" "handler" "[I") ∈ lw_g := lw_gd (lw_in2 (List.mem_of_getElem? (i := 222) (by decide +kernel))) rfl
theorem tw_2_223 : (Jvm.Cond.fieldLink "BatonKernelModel" (19 : Nat) "BatonKernelModel" "length" "[I") ∈ lw_g := lw_gd (lw_in2 (List.mem_of_getElem? (i := 223) (by decide +kernel))) rfl
theorem tw_2_224 : (Jvm.Cond.fieldLink "BatonKernelModel" (22 : Nat) "BatonKernelModel" "spot" "[I") ∈ lw_g := lw_gd (lw_in2 (List.mem_of_getElem? (i := 224) (by decide +kernel))) rfl
theorem tw_2_225 : (Jvm.Cond.fieldLink "BatonKernelModel" (25 : Nat) "BatonKernelModel" "mode" "[I") ∈ lw_g := lw_gd (lw_in2 (List.mem_of_getElem? (i := 225) (by decide +kernel))) rfl
theorem tw_2_226 : (Jvm.Cond.fieldLink "BatonKernelModel" (28 : Nat) "BatonKernelModel" "time" "[J") ∈ lw_g := lw_gd (lw_in2 (List.mem_of_getElem? (i := 226) (by decide +kernel))) rfl
theorem tw_2_227 : (Jvm.Cond.fieldLink "BatonKernelModel" (32 : Nat) "BatonKernelModel" "entry" "[I") ∈ lw_g := lw_gd (lw_in2 (List.mem_of_getElem? (i := 227) (by decide +kernel))) rfl
theorem tw_2_228 : (Jvm.Cond.fieldLink "BatonKernelModel" (35 : Nat) "BatonKernelModel" "came" "[I") ∈ lw_g := lw_gd (lw_in2 (List.mem_of_getElem? (i := 228) (by decide +kernel))) rfl
theorem tw_2_229 : (Jvm.Cond.fieldLink "BatonKernelModel" (38 : Nat) "BatonKernelModel" "since" "[J") ∈ lw_g := lw_gd (lw_in2 (List.mem_of_getElem? (i := 229) (by decide +kernel))) rfl
theorem tw_2_230 : (Jvm.Cond.fieldLink "BatonKernelModel" (41 : Nat) "BatonKernelModel" "op" "[I") ∈ lw_g := lw_gd (lw_in2 (List.mem_of_getElem? (i := 230) (by decide +kernel))) rfl
theorem tw_2_231 : (Jvm.Cond.fieldLink "BatonKernelModel" (44 : Nat) "BatonKernelModel" "argA" "[I") ∈ lw_g := lw_gd (lw_in2 (List.mem_of_getElem? (i := 231) (by decide +kernel))) rfl
theorem tw_2_232 : (Jvm.Cond.fieldLink "BatonKernelModel" (47 : Nat) "BatonKernelModel" "argB" "[I") ∈ lw_g := lw_gd (lw_in2 (List.mem_of_getElem? (i := 232) (by decide +kernel))) rfl
theorem tw_2_233 : (Jvm.Cond.fieldLink "BatonKernelModel" (50 : Nat) "BatonKernelModel" "has" "[I") ∈ lw_g := lw_gd (lw_in2 (List.mem_of_getElem? (i := 233) (by decide +kernel))) rfl
theorem tw_2_234 : (Jvm.Cond.fieldLink "BatonKernelModel" (53 : Nat) "BatonKernelModel" "units" "[I") ∈ lw_g := lw_gd (lw_in2 (List.mem_of_getElem? (i := 234) (by decide +kernel))) rfl
theorem tw_2_235 : (Jvm.Cond.fieldLink "BatonKernelModel" (56 : Nat) "BatonKernelModel" "strong" "[Z") ∈ lw_g := lw_gd (lw_in2 (List.mem_of_getElem? (i := 235) (by decide +kernel))) rfl
theorem tw_2_236 : (Jvm.Cond.fieldLink "BatonKernelModel" (60 : Nat) "BatonKernelModel" "sum" "[J") ∈ lw_g := lw_gd (lw_in2 (List.mem_of_getElem? (i := 236) (by decide +kernel))) rfl
theorem tw_2_237 : (Jvm.Cond.fieldLink "BatonKernelModel" (63 : Nat) "BatonKernelModel" "lined" "[J") ∈ lw_g := lw_gd (lw_in2 (List.mem_of_getElem? (i := 237) (by decide +kernel))) rfl
theorem tw_2_238 : (Jvm.Cond.fieldLink "BatonKernelModel" (66 : Nat) "BatonKernelModel" "most" "[I") ∈ lw_g := lw_gd (lw_in2 (List.mem_of_getElem? (i := 238) (by decide +kernel))) rfl
theorem tw_2_239 : (Jvm.Cond.fieldLink "BatonKernelModel" (69 : Nat) "BatonKernelModel" "full" "[I") ∈ lw_g := lw_gd (lw_in2 (List.mem_of_getElem? (i := 239) (by decide +kernel))) rfl
theorem tw_3_0 : (Jvm.Cond.fieldLink "BatonKernelModel" (72 : Nat) "BatonKernelModel" "lost" "[I") ∈ lw_g := lw_gd (lw_in3 (List.mem_of_getElem? (i := 0) (by decide +kernel))) rfl
theorem tw_3_1 : (Jvm.Cond.fieldLink "BatonKernelModel" (75 : Nat) "BatonKernelModel" "trace" "[I") ∈ lw_g := lw_gd (lw_in3 (List.mem_of_getElem? (i := 1) (by decide +kernel))) rfl
theorem tw_3_2 : (Jvm.Cond.lays "BatonKernelModel" "BatonKernelModel" "count" "I") ∈ lw_g := lw_gd (lw_in3 (List.mem_of_getElem? (i := 2) (by decide +kernel))) rfl
theorem tw_3_4 : (Jvm.Cond.lays "BatonKernelModel" "BatonKernelModel" "order" "I") ∈ lw_g := lw_gd (lw_in3 (List.mem_of_getElem? (i := 4) (by decide +kernel))) rfl
theorem tw_3_6 : (Jvm.Cond.lays "BatonKernelModel" "BatonKernelModel" "coming" "I") ∈ lw_g := lw_gd (lw_in3 (List.mem_of_getElem? (i := 6) (by decide +kernel))) rfl
theorem tw_3_8 : (Jvm.Cond.lays "BatonKernelModel" "BatonKernelModel" "events" "I") ∈ lw_g := lw_gd (lw_in3 (List.mem_of_getElem? (i := 8) (by decide +kernel))) rfl
theorem tw_3_10 : (Jvm.Cond.lays "BatonKernelModel" "BatonKernelModel" "clock" "J") ∈ lw_g := lw_gd (lw_in3 (List.mem_of_getElem? (i := 10) (by decide +kernel))) rfl
theorem tw_3_12 : (Jvm.Cond.lays "BatonKernelModel" "BatonKernelModel" "priority" "[I") ∈ lw_g := lw_gd (lw_in3 (List.mem_of_getElem? (i := 12) (by decide +kernel))) rfl
theorem tw_3_14 : (Jvm.Cond.lays "BatonKernelModel" "BatonKernelModel" "rounds" "[I") ∈ lw_g := lw_gd (lw_in3 (List.mem_of_getElem? (i := 14) (by decide +kernel))) rfl
theorem tw_3_16 : (Jvm.Cond.lays "BatonKernelModel" "BatonKernelModel" "handler" "[I") ∈ lw_g := lw_gd (lw_in3 (List.mem_of_getElem? (i := 16) (by decide +kernel))) rfl
theorem tw_3_18 : (Jvm.Cond.lays "BatonKernelModel" "BatonKernelModel" "length" "[I") ∈ lw_g := lw_gd (lw_in3 (List.mem_of_getElem? (i := 18) (by decide +kernel))) rfl
theorem tw_3_20 : (Jvm.Cond.lays "BatonKernelModel" "BatonKernelModel" "spot" "[I") ∈ lw_g := lw_gd (lw_in3 (List.mem_of_getElem? (i := 20) (by decide +kernel))) rfl
theorem tw_3_22 : (Jvm.Cond.lays "BatonKernelModel" "BatonKernelModel" "mode" "[I") ∈ lw_g := lw_gd (lw_in3 (List.mem_of_getElem? (i := 22) (by decide +kernel))) rfl
theorem tw_3_24 : (Jvm.Cond.lays "BatonKernelModel" "BatonKernelModel" "time" "[J") ∈ lw_g := lw_gd (lw_in3 (List.mem_of_getElem? (i := 24) (by decide +kernel))) rfl
theorem tw_3_26 : (Jvm.Cond.lays "BatonKernelModel" "BatonKernelModel" "entry" "[I") ∈ lw_g := lw_gd (lw_in3 (List.mem_of_getElem? (i := 26) (by decide +kernel))) rfl
theorem tw_3_28 : (Jvm.Cond.lays "BatonKernelModel" "BatonKernelModel" "came" "[I") ∈ lw_g := lw_gd (lw_in3 (List.mem_of_getElem? (i := 28) (by decide +kernel))) rfl
theorem tw_3_30 : (Jvm.Cond.lays "BatonKernelModel" "BatonKernelModel" "since" "[J") ∈ lw_g := lw_gd (lw_in3 (List.mem_of_getElem? (i := 30) (by decide +kernel))) rfl
theorem tw_3_32 : (Jvm.Cond.lays "BatonKernelModel" "BatonKernelModel" "op" "[I") ∈ lw_g := lw_gd (lw_in3 (List.mem_of_getElem? (i := 32) (by decide +kernel))) rfl
theorem tw_3_34 : (Jvm.Cond.lays "BatonKernelModel" "BatonKernelModel" "argA" "[I") ∈ lw_g := lw_gd (lw_in3 (List.mem_of_getElem? (i := 34) (by decide +kernel))) rfl
theorem tw_3_36 : (Jvm.Cond.lays "BatonKernelModel" "BatonKernelModel" "argB" "[I") ∈ lw_g := lw_gd (lw_in3 (List.mem_of_getElem? (i := 36) (by decide +kernel))) rfl
theorem tw_3_38 : (Jvm.Cond.lays "BatonKernelModel" "BatonKernelModel" "has" "[I") ∈ lw_g := lw_gd (lw_in3 (List.mem_of_getElem? (i := 38) (by decide +kernel))) rfl
theorem tw_3_40 : (Jvm.Cond.lays "BatonKernelModel" "BatonKernelModel" "units" "[I") ∈ lw_g := lw_gd (lw_in3 (List.mem_of_getElem? (i := 40) (by decide +kernel))) rfl
theorem tw_3_42 : (Jvm.Cond.lays "BatonKernelModel" "BatonKernelModel" "strong" "[Z") ∈ lw_g := lw_gd (lw_in3 (List.mem_of_getElem? (i := 42) (by decide +kernel))) rfl
theorem tw_3_44 : (Jvm.Cond.lays "BatonKernelModel" "BatonKernelModel" "sum" "[J") ∈ lw_g := lw_gd (lw_in3 (List.mem_of_getElem? (i := 44) (by decide +kernel))) rfl
theorem tw_3_46 : (Jvm.Cond.lays "BatonKernelModel" "BatonKernelModel" "lined" "[J") ∈ lw_g := lw_gd (lw_in3 (List.mem_of_getElem? (i := 46) (by decide +kernel))) rfl
theorem tw_3_48 : (Jvm.Cond.lays "BatonKernelModel" "BatonKernelModel" "most" "[I") ∈ lw_g := lw_gd (lw_in3 (List.mem_of_getElem? (i := 48) (by decide +kernel))) rfl
theorem tw_3_50 : (Jvm.Cond.lays "BatonKernelModel" "BatonKernelModel" "full" "[I") ∈ lw_g := lw_gd (lw_in3 (List.mem_of_getElem? (i := 50) (by decide +kernel))) rfl
theorem tw_3_52 : (Jvm.Cond.lays "BatonKernelModel" "BatonKernelModel" "lost" "[I") ∈ lw_g := lw_gd (lw_in3 (List.mem_of_getElem? (i := 52) (by decide +kernel))) rfl
theorem tw_3_54 : (Jvm.Cond.lays "BatonKernelModel" "BatonKernelModel" "trace" "[I") ∈ lw_g := lw_gd (lw_in3 (List.mem_of_getElem? (i := 54) (by decide +kernel))) rfl
theorem tw_3_67 : (Jvm.Cond.methodLink "BatonKernelModel" (87 : Nat) ({ cls := "BatonKernelModel", name := "none", desc := "(I)Z" } : Jvm.MethodName)) ∈ lw_g := lw_gd (lw_in3 (List.mem_of_getElem? (i := 67) (by decide +kernel))) rfl
theorem tw_3_69 : (Jvm.Cond.instanceMethod ({ cls := "BatonKernelModel", name := "none", desc := "(I)Z" } : Jvm.MethodName)) ∈ lw_g := lw_gd (lw_in3 (List.mem_of_getElem? (i := 69) (by decide +kernel))) rfl
theorem tw_3_71 : (Jvm.Cond.methodLink "BatonKernelModel" (83 : Nat) ({ cls := "BatonKernelModel", name := "within", desc := "(III)Z" } : Jvm.MethodName)) ∈ lw_g := lw_gd (lw_in3 (List.mem_of_getElem? (i := 71) (by decide +kernel))) rfl
theorem tw_3_73 : (Jvm.Cond.instanceMethod ({ cls := "BatonKernelModel", name := "within", desc := "(III)Z" } : Jvm.MethodName)) ∈ lw_g := lw_gd (lw_in3 (List.mem_of_getElem? (i := 73) (by decide +kernel))) rfl
theorem tw_3_75 : (Jvm.Cond.methodLink "BatonKernelModel" (91 : Nat) ({ cls := "BatonKernelModel", name := "fits", desc := "(III)Z" } : Jvm.MethodName)) ∈ lw_g := lw_gd (lw_in3 (List.mem_of_getElem? (i := 75) (by decide +kernel))) rfl
theorem tw_3_77 : (Jvm.Cond.instanceMethod ({ cls := "BatonKernelModel", name := "fits", desc := "(III)Z" } : Jvm.MethodName)) ∈ lw_g := lw_gd (lw_in3 (List.mem_of_getElem? (i := 77) (by decide +kernel))) rfl
theorem tw_3_79 : (Jvm.Cond.constant "BatonKernelModel" (82 : Nat) (1000000 : Int32)) ∈ lw_g := lw_gd (lw_in3 (List.mem_of_getElem? (i := 79) (by decide +kernel))) rfl
theorem tw_3_84 : (Jvm.Cond.methodLink "BatonKernelModel" (94 : Nat) ({ cls := "BatonKernelModel", name := "seized", desc := "(I)I" } : Jvm.MethodName)) ∈ lw_g := lw_gd (lw_in3 (List.mem_of_getElem? (i := 84) (by decide +kernel))) rfl
theorem tw_3_86 : (Jvm.Cond.instanceMethod ({ cls := "BatonKernelModel", name := "seized", desc := "(I)I" } : Jvm.MethodName)) ∈ lw_g := lw_gd (lw_in3 (List.mem_of_getElem? (i := 86) (by decide +kernel))) rfl
theorem tw_3_88 : (Jvm.Cond.methodLink "BatonKernelModel" (98 : Nat) ({ cls := "BatonKernelModel", name := "serve", desc := "(I)V" } : Jvm.MethodName)) ∈ lw_g := lw_gd (lw_in3 (List.mem_of_getElem? (i := 88) (by decide +kernel))) rfl
theorem tw_3_90 : (Jvm.Cond.instanceMethod ({ cls := "BatonKernelModel", name := "serve", desc := "(I)V" } : Jvm.MethodName)) ∈ lw_g := lw_gd (lw_in3 (List.mem_of_getElem? (i := 90) (by decide +kernel))) rfl
theorem tw_3_92 : (Jvm.Cond.methodLink "BatonKernelModel" (112 : Nat) ({ cls := "BatonKernelModel", name := "head", desc := "(I)I" } : Jvm.MethodName)) ∈ lw_g := lw_gd (lw_in3 (List.mem_of_getElem? (i := 92) (by decide +kernel))) rfl
theorem tw_3_94 : (Jvm.Cond.instanceMethod ({ cls := "BatonKernelModel", name := "head", desc := "(I)I" } : Jvm.MethodName)) ∈ lw_g := lw_gd (lw_in3 (List.mem_of_getElem? (i := 94) (by decide +kernel))) rfl
theorem tw_3_96 : (Jvm.Cond.methodLink "BatonKernelModel" (109 : Nat) ({ cls := "BatonKernelModel", name := "done", desc := "(I)I" } : Jvm.MethodName)) ∈ lw_g := lw_gd (lw_in3 (List.mem_of_getElem? (i := 96) (by decide +kernel))) rfl
theorem tw_3_98 : (Jvm.Cond.instanceMethod ({ cls := "BatonKernelModel", name := "done", desc := "(I)I" } : Jvm.MethodName)) ∈ lw_g := lw_gd (lw_in3 (List.mem_of_getElem? (i := 98) (by decide +kernel))) rfl
theorem tw_3_100 : (Jvm.Cond.methodLink "BatonKernelModel" (115 : Nat) ({ cls := "BatonKernelModel", name := "rest", desc := "(I)I" } : Jvm.MethodName)) ∈ lw_g := lw_gd (lw_in3 (List.mem_of_getElem? (i := 100) (by decide +kernel))) rfl
theorem tw_3_102 : (Jvm.Cond.instanceMethod ({ cls := "BatonKernelModel", name := "rest", desc := "(I)I" } : Jvm.MethodName)) ∈ lw_g := lw_gd (lw_in3 (List.mem_of_getElem? (i := 102) (by decide +kernel))) rfl
theorem tw_3_104 : (Jvm.Cond.methodLink "BatonKernelModel" (122 : Nat) ({ cls := "BatonKernelModel", name := "enter", desc := "(IIJ)V" } : Jvm.MethodName)) ∈ lw_g := lw_gd (lw_in3 (List.mem_of_getElem? (i := 104) (by decide +kernel))) rfl
theorem tw_3_106 : (Jvm.Cond.instanceMethod ({ cls := "BatonKernelModel", name := "enter", desc := "(IIJ)V" } : Jvm.MethodName)) ∈ lw_g := lw_gd (lw_in3 (List.mem_of_getElem? (i := 106) (by decide +kernel))) rfl
theorem tw_3_116 : (Jvm.Cond.constantLong "BatonKernelModel" (177 : Nat) (1000000000000 : Int64)) ∈ lw_g := lw_gd (lw_in3 (List.mem_of_getElem? (i := 116) (by decide +kernel))) rfl
theorem tw_3_117 : (Jvm.Cond.methodLink "BatonKernelModel" (179 : Nat) ({ cls := "BatonKernelModel", name := "first", desc := "()I" } : Jvm.MethodName)) ∈ lw_g := lw_gd (lw_in3 (List.mem_of_getElem? (i := 117) (by decide +kernel))) rfl
theorem tw_3_119 : (Jvm.Cond.instanceMethod ({ cls := "BatonKernelModel", name := "first", desc := "()I" } : Jvm.MethodName)) ∈ lw_g := lw_gd (lw_in3 (List.mem_of_getElem? (i := 119) (by decide +kernel))) rfl
theorem tw_3_121 : (Jvm.Cond.methodLink "BatonKernelModel" (105 : Nat) ({ cls := "BatonKernelModel", name := "sooner", desc := "(II)Z" } : Jvm.MethodName)) ∈ lw_g := lw_gd (lw_in3 (List.mem_of_getElem? (i := 121) (by decide +kernel))) rfl
theorem tw_3_123 : (Jvm.Cond.instanceMethod ({ cls := "BatonKernelModel", name := "sooner", desc := "(II)Z" } : Jvm.MethodName)) ∈ lw_g := lw_gd (lw_in3 (List.mem_of_getElem? (i := 123) (by decide +kernel))) rfl
theorem tw_3_125 : (Jvm.Cond.methodLink "BatonKernelModel" (183 : Nat) ({ cls := "BatonKernelModel", name := "event", desc := "(I)V" } : Jvm.MethodName)) ∈ lw_g := lw_gd (lw_in3 (List.mem_of_getElem? (i := 125) (by decide +kernel))) rfl
theorem tw_3_127 : (Jvm.Cond.instanceMethod ({ cls := "BatonKernelModel", name := "event", desc := "(I)V" } : Jvm.MethodName)) ∈ lw_g := lw_gd (lw_in3 (List.mem_of_getElem? (i := 127) (by decide +kernel))) rfl
theorem tw_3_129 : (Jvm.Cond.methodLink "BatonKernelModel" (164 : Nat) ({ cls := "BatonKernelModel", name := "advance", desc := "(J)V" } : Jvm.MethodName)) ∈ lw_g := lw_gd (lw_in3 (List.mem_of_getElem? (i := 129) (by decide +kernel))) rfl
theorem tw_3_131 : (Jvm.Cond.instanceMethod ({ cls := "BatonKernelModel", name := "advance", desc := "(J)V" } : Jvm.MethodName)) ∈ lw_g := lw_gd (lw_in3 (List.mem_of_getElem? (i := 131) (by decide +kernel))) rfl
theorem tw_3_133 : (Jvm.Cond.methodLink "BatonKernelModel" (171 : Nat) ({ cls := "BatonKernelModel", name := "turn", desc := "(I)V" } : Jvm.MethodName)) ∈ lw_g := lw_gd (lw_in3 (List.mem_of_getElem? (i := 133) (by decide +kernel))) rfl
theorem tw_3_135 : (Jvm.Cond.instanceMethod ({ cls := "BatonKernelModel", name := "turn", desc := "(I)V" } : Jvm.MethodName)) ∈ lw_g := lw_gd (lw_in3 (List.mem_of_getElem? (i := 135) (by decide +kernel))) rfl
theorem tw_3_137 : (Jvm.Cond.methodLink "BatonKernelModel" (161 : Nat) ({ cls := "BatonKernelModel", name := "perform", desc := "(II)Z" } : Jvm.MethodName)) ∈ lw_g := lw_gd (lw_in3 (List.mem_of_getElem? (i := 137) (by decide +kernel))) rfl
theorem tw_3_139 : (Jvm.Cond.instanceMethod ({ cls := "BatonKernelModel", name := "perform", desc := "(II)Z" } : Jvm.MethodName)) ∈ lw_g := lw_gd (lw_in3 (List.mem_of_getElem? (i := 139) (by decide +kernel))) rfl
theorem tw_3_141 : (Jvm.Cond.methodLink "BatonKernelModel" (149 : Nat) ({ cls := "BatonKernelModel", name := "seize", desc := "(III)Z" } : Jvm.MethodName)) ∈ lw_g := lw_gd (lw_in3 (List.mem_of_getElem? (i := 141) (by decide +kernel))) rfl
theorem tw_3_143 : (Jvm.Cond.instanceMethod ({ cls := "BatonKernelModel", name := "seize", desc := "(III)Z" } : Jvm.MethodName)) ∈ lw_g := lw_gd (lw_in3 (List.mem_of_getElem? (i := 143) (by decide +kernel))) rfl
theorem tw_3_145 : (Jvm.Cond.methodLink "BatonKernelModel" (126 : Nat) ({ cls := "BatonKernelModel", name := "reach", desc := "(II)I" } : Jvm.MethodName)) ∈ lw_g := lw_gd (lw_in3 (List.mem_of_getElem? (i := 145) (by decide +kernel))) rfl
theorem tw_3_147 : (Jvm.Cond.instanceMethod ({ cls := "BatonKernelModel", name := "reach", desc := "(II)I" } : Jvm.MethodName)) ∈ lw_g := lw_gd (lw_in3 (List.mem_of_getElem? (i := 147) (by decide +kernel))) rfl
theorem tw_3_149 : (Jvm.Cond.methodLink "BatonKernelModel" (130 : Nat) ({ cls := "BatonKernelModel", name := "preempt", desc := "(III)V" } : Jvm.MethodName)) ∈ lw_g := lw_gd (lw_in3 (List.mem_of_getElem? (i := 149) (by decide +kernel))) rfl
theorem tw_3_151 : (Jvm.Cond.instanceMethod ({ cls := "BatonKernelModel", name := "preempt", desc := "(III)V" } : Jvm.MethodName)) ∈ lw_g := lw_gd (lw_in3 (List.mem_of_getElem? (i := 151) (by decide +kernel))) rfl
theorem tw_3_153 : (Jvm.Cond.methodLink "BatonKernelModel" (137 : Nat) ({ cls := "BatonKernelModel", name := "victim", desc := "(II)I" } : Jvm.MethodName)) ∈ lw_g := lw_gd (lw_in3 (List.mem_of_getElem? (i := 153) (by decide +kernel))) rfl
theorem tw_3_155 : (Jvm.Cond.instanceMethod ({ cls := "BatonKernelModel", name := "victim", desc := "(II)I" } : Jvm.MethodName)) ∈ lw_g := lw_gd (lw_in3 (List.mem_of_getElem? (i := 155) (by decide +kernel))) rfl
theorem tw_3_157 : (Jvm.Cond.methodLink "BatonKernelModel" (140 : Nat) ({ cls := "BatonKernelModel", name := "interrupt", desc := "(I)Z" } : Jvm.MethodName)) ∈ lw_g := lw_gd (lw_in3 (List.mem_of_getElem? (i := 157) (by decide +kernel))) rfl
theorem tw_3_158 : (Jvm.Cond.instanceMethod ({ cls := "BatonKernelModel", name := "interrupt", desc := "(I)Z" } : Jvm.MethodName)) ∈ lw_g := lw_gd (lw_in3 (List.mem_of_getElem? (i := 158) (by decide +kernel))) rfl
theorem tw_3_159 : (Jvm.Cond.selects "BatonKernelModel" ({ cls := "BatonKernelModel", name := "interrupt", desc := "(I)Z" } : Jvm.MethodName) ({ cls := "BatonKernelModel", name := "interrupt", desc := "(I)Z" } : Jvm.MethodName)) ∈ lw_g := lw_gd (lw_in3 (List.mem_of_getElem? (i := 159) (by decide +kernel))) rfl
theorem tw_3_161 : (Jvm.Cond.methodLink "BatonKernelModel" (152 : Nat) ({ cls := "BatonKernelModel", name := "release", desc := "(III)V" } : Jvm.MethodName)) ∈ lw_g := lw_gd (lw_in3 (List.mem_of_getElem? (i := 161) (by decide +kernel))) rfl
theorem tw_3_163 : (Jvm.Cond.instanceMethod ({ cls := "BatonKernelModel", name := "release", desc := "(III)V" } : Jvm.MethodName)) ∈ lw_g := lw_gd (lw_in3 (List.mem_of_getElem? (i := 163) (by decide +kernel))) rfl
theorem tw_3_165 : (Jvm.Cond.methodLink "BatonKernelModel" (155 : Nat) ({ cls := "BatonKernelModel", name := "activate", desc := "(II)Z" } : Jvm.MethodName)) ∈ lw_g := lw_gd (lw_in3 (List.mem_of_getElem? (i := 165) (by decide +kernel))) rfl
theorem tw_3_166 : (Jvm.Cond.instanceMethod ({ cls := "BatonKernelModel", name := "activate", desc := "(II)Z" } : Jvm.MethodName)) ∈ lw_g := lw_gd (lw_in3 (List.mem_of_getElem? (i := 166) (by decide +kernel))) rfl
theorem tw_3_167 : (Jvm.Cond.selects "BatonKernelModel" ({ cls := "BatonKernelModel", name := "activate", desc := "(II)Z" } : Jvm.MethodName) ({ cls := "BatonKernelModel", name := "activate", desc := "(II)Z" } : Jvm.MethodName)) ∈ lw_g := lw_gd (lw_in3 (List.mem_of_getElem? (i := 167) (by decide +kernel))) rfl
theorem tw_3_169 : (Jvm.Cond.methodLink "BatonKernelModel" (158 : Nat) ({ cls := "BatonKernelModel", name := "kill", desc := "(I)Z" } : Jvm.MethodName)) ∈ lw_g := lw_gd (lw_in3 (List.mem_of_getElem? (i := 169) (by decide +kernel))) rfl
theorem tw_3_170 : (Jvm.Cond.instanceMethod ({ cls := "BatonKernelModel", name := "kill", desc := "(I)Z" } : Jvm.MethodName)) ∈ lw_g := lw_gd (lw_in3 (List.mem_of_getElem? (i := 170) (by decide +kernel))) rfl
theorem tw_3_171 : (Jvm.Cond.selects "BatonKernelModel" ({ cls := "BatonKernelModel", name := "kill", desc := "(I)Z" } : Jvm.MethodName) ({ cls := "BatonKernelModel", name := "kill", desc := "(I)Z" } : Jvm.MethodName)) ∈ lw_g := lw_gd (lw_in3 (List.mem_of_getElem? (i := 171) (by decide +kernel))) rfl
theorem tw_3_173 : (Jvm.Cond.methodLink "BatonKernelModel" (143 : Nat) ({ cls := "BatonKernelModel", name := "holds", desc := "(I)Z" } : Jvm.MethodName)) ∈ lw_g := lw_gd (lw_in3 (List.mem_of_getElem? (i := 173) (by decide +kernel))) rfl
theorem tw_3_175 : (Jvm.Cond.instanceMethod ({ cls := "BatonKernelModel", name := "holds", desc := "(I)Z" } : Jvm.MethodName)) ∈ lw_g := lw_gd (lw_in3 (List.mem_of_getElem? (i := 175) (by decide +kernel))) rfl
theorem tw_3_177 : (Jvm.Cond.methodLink "BatonKernelModel" (146 : Nat) ({ cls := "BatonKernelModel", name := "pour", desc := "(I)V" } : Jvm.MethodName)) ∈ lw_g := lw_gd (lw_in3 (List.mem_of_getElem? (i := 177) (by decide +kernel))) rfl
theorem tw_3_179 : (Jvm.Cond.instanceMethod ({ cls := "BatonKernelModel", name := "pour", desc := "(I)V" } : Jvm.MethodName)) ∈ lw_g := lw_gd (lw_in3 (List.mem_of_getElem? (i := 179) (by decide +kernel))) rfl
theorem tw_3_181 : (Jvm.Cond.methodLink "BatonKernelModel" (174 : Nat) ({ cls := "BatonKernelModel", name := "goOver", desc := "()V" } : Jvm.MethodName)) ∈ lw_g := lw_gd (lw_in3 (List.mem_of_getElem? (i := 181) (by decide +kernel))) rfl
theorem tw_3_183 : (Jvm.Cond.instanceMethod ({ cls := "BatonKernelModel", name := "goOver", desc := "()V" } : Jvm.MethodName)) ∈ lw_g := lw_gd (lw_in3 (List.mem_of_getElem? (i := 183) (by decide +kernel))) rfl
theorem tw_3_196 : (Jvm.Cond.constantLong "BatonKernelModel" (186 : Nat) (-1 : Int64)) ∈ lw_g := lw_gd (lw_in3 (List.mem_of_getElem? (i := 196) (by decide +kernel))) rfl
set_option maxRecDepth 20000 in
theorem tc_K_init : Cond.code by_K_init bc_K_init 2 none ∈ lw_g := lw_gd (lw_in1 (List.mem_of_getElem? (i := 13) rfl)) rfl
set_option maxRecDepth 20000 in
theorem tc_K_process : Cond.code by_K_process bc_K_process 5 (some .int) ∈ lw_g := lw_gd (lw_in1 (List.mem_of_getElem? (i := 202) rfl)) rfl
set_option maxRecDepth 20000 in
theorem tc_K_instruct : Cond.code by_K_instruct bc_K_instruct 6 (some .boolean) ∈ lw_g := lw_gd (lw_in1 (List.mem_of_getElem? (i := 209) rfl)) rfl
set_option maxRecDepth 20000 in
theorem tc_K_resource : Cond.code by_K_resource bc_K_resource 4 (some .boolean) ∈ lw_g := lw_gd (lw_in1 (List.mem_of_getElem? (i := 231) rfl)) rfl
set_option maxRecDepth 20000 in
theorem tc_K_tank : Cond.code by_K_tank bc_K_tank 4 (some .boolean) ∈ lw_g := lw_gd (lw_in2 (List.mem_of_getElem? (i := 19) rfl)) rfl
set_option maxRecDepth 20000 in
theorem tc_K_activate : Cond.code by_K_activate bc_K_activate 4 (some .boolean) ∈ lw_g := lw_gd (lw_in2 (List.mem_of_getElem? (i := 23) rfl)) rfl
set_option maxRecDepth 20000 in
theorem tc_K_interrupt : Cond.code by_K_interrupt bc_K_interrupt 4 (some .boolean) ∈ lw_g := lw_gd (lw_in2 (List.mem_of_getElem? (i := 27) rfl)) rfl
set_option maxRecDepth 20000 in
theorem tc_K_kill : Cond.code by_K_kill bc_K_kill 5 (some .boolean) ∈ lw_g := lw_gd (lw_in2 (List.mem_of_getElem? (i := 47) rfl)) rfl
set_option maxRecDepth 20000 in
theorem tc_K_run : Cond.code by_K_run bc_K_run 6 (some .int) ∈ lw_g := lw_gd (lw_in2 (List.mem_of_getElem? (i := 66) rfl)) rfl
set_option maxRecDepth 20000 in
theorem tc_K_now : Cond.code by_K_now bc_K_now 1 (some .long) ∈ lw_g := lw_gd (lw_in2 (List.mem_of_getElem? (i := 159) rfl)) rfl
set_option maxRecDepth 20000 in
theorem tc_K_next : Cond.code by_K_next bc_K_next 2 (some .long) ∈ lw_g := lw_gd (lw_in2 (List.mem_of_getElem? (i := 163) rfl)) rfl
set_option maxRecDepth 20000 in
theorem tc_K_state : Cond.code by_K_state bc_K_state 2 (some .int) ∈ lw_g := lw_gd (lw_in2 (List.mem_of_getElem? (i := 168) rfl)) rfl
set_option maxRecDepth 20000 in
theorem tc_K_place : Cond.code by_K_place bc_K_place 2 (some .int) ∈ lw_g := lw_gd (lw_in2 (List.mem_of_getElem? (i := 172) rfl)) rfl
set_option maxRecDepth 20000 in
theorem tc_K_held : Cond.code by_K_held bc_K_held 3 (some .int) ∈ lw_g := lw_gd (lw_in2 (List.mem_of_getElem? (i := 176) rfl)) rfl
set_option maxRecDepth 20000 in
theorem tc_K_free : Cond.code by_K_free bc_K_free 2 (some .int) ∈ lw_g := lw_gd (lw_in2 (List.mem_of_getElem? (i := 180) rfl)) rfl
set_option maxRecDepth 20000 in
theorem tc_K_waiting : Cond.code by_K_waiting bc_K_waiting 2 (some .int) ∈ lw_g := lw_gd (lw_in2 (List.mem_of_getElem? (i := 184) rfl)) rfl
set_option maxRecDepth 20000 in
theorem tc_K_area : Cond.code by_K_area bc_K_area 2 (some .long) ∈ lw_g := lw_gd (lw_in2 (List.mem_of_getElem? (i := 188) rfl)) rfl
set_option maxRecDepth 20000 in
theorem tc_K_waited : Cond.code by_K_waited bc_K_waited 2 (some .long) ∈ lw_g := lw_gd (lw_in2 (List.mem_of_getElem? (i := 192) rfl)) rfl
set_option maxRecDepth 20000 in
theorem tc_K_level : Cond.code by_K_level bc_K_level 2 (some .int) ∈ lw_g := lw_gd (lw_in2 (List.mem_of_getElem? (i := 196) rfl)) rfl
set_option maxRecDepth 20000 in
theorem tc_K_stuck : Cond.code by_K_stuck bc_K_stuck 3 (some .boolean) ∈ lw_g := lw_gd (lw_in2 (List.mem_of_getElem? (i := 200) rfl)) rfl
set_option maxRecDepth 20000 in
theorem tc_K_traced : Cond.code by_K_traced bc_K_traced 2 (some .int) ∈ lw_g := lw_gd (lw_in2 (List.mem_of_getElem? (i := 204) rfl)) rfl
set_option maxRecDepth 20000 in
theorem tc_K_isWithin : Cond.code by_K_isWithin bc_K_isWithin 3 (some .boolean) ∈ lw_g := lw_gd (lw_in1 (List.mem_of_getElem? (i := 205) rfl)) rfl
set_option maxRecDepth 20000 in
theorem tc_K_isResource : Cond.code by_K_isResource bc_K_isResource 1 (some .boolean) ∈ lw_g := lw_gd (lw_in1 (List.mem_of_getElem? (i := 220) rfl)) rfl
set_option maxRecDepth 20000 in
theorem tc_K_isTank : Cond.code by_K_isTank bc_K_isTank 1 (some .boolean) ∈ lw_g := lw_gd (lw_in1 (List.mem_of_getElem? (i := 223) rfl)) rfl
set_option maxRecDepth 20000 in
theorem tc_K_isProcess : Cond.code by_K_isProcess bc_K_isProcess 2 (some .boolean) ∈ lw_g := lw_gd (lw_in1 (List.mem_of_getElem? (i := 213) rfl)) rfl
theorem ts_K_isProcess : Cond.selects bR_K by_K_isProcess by_K_isProcess ∈ lw_g := lw_gd (lw_sel (q := (by_K_isProcess, 9)) (by decide +kernel)) rfl
set_option maxRecDepth 20000 in
theorem tc_K_isInstruction : Cond.code by_K_isInstruction bc_K_isInstruction 3 (some .boolean) ∈ lw_g := lw_gd (lw_in1 (List.mem_of_getElem? (i := 216) rfl)) rfl
set_option maxRecDepth 20000 in
theorem tc_K_moveClock : Cond.code by_K_moveClock bc_K_moveClock 4 none ∈ lw_g := lw_gd (lw_in2 (List.mem_of_getElem? (i := 83) rfl)) rfl
theorem ts_K_moveClock : Cond.selects bR_K by_K_moveClock by_K_moveClock ∈ lw_g := lw_gd (lw_sel (q := (by_K_moveClock, 9)) (by decide +kernel)) rfl
set_option maxRecDepth 20000 in
theorem tc_K_enter : Cond.code by_K_enter bc_K_enter 4 none ∈ lw_g := lw_gd (lw_in2 (List.mem_of_getElem? (i := 15) rfl)) rfl
theorem ts_K_enter : Cond.selects bR_K by_K_enter by_K_enter ∈ lw_g := lw_gd (lw_sel (q := (by_K_enter, 9)) (by decide +kernel)) rfl
set_option maxRecDepth 20000 in
theorem tc_K_firstEntry : Cond.code by_K_firstEntry bc_K_firstEntry 3 (some .int) ∈ lw_g := lw_gd (lw_in2 (List.mem_of_getElem? (i := 71) rfl)) rfl
theorem ts_K_firstEntry : Cond.selects bR_K by_K_firstEntry by_K_firstEntry ∈ lw_g := lw_gd (lw_sel (q := (by_K_firstEntry, 9)) (by decide +kernel)) rfl
set_option maxRecDepth 20000 in
theorem tc_K_begin : Cond.code by_K_begin bc_K_begin 2 none ∈ lw_g := lw_gd (lw_in2 (List.mem_of_getElem? (i := 79) rfl)) rfl
theorem ts_K_begin : Cond.selects bR_K by_K_begin by_K_begin ∈ lw_g := lw_gd (lw_sel (q := (by_K_begin, 9)) (by decide +kernel)) rfl
set_option maxRecDepth 20000 in
theorem tc_K_doTurn : Cond.code by_K_doTurn bc_K_doTurn 4 none ∈ lw_g := lw_gd (lw_in2 (List.mem_of_getElem? (i := 92) rfl)) rfl
theorem ts_K_doTurn : Cond.selects bR_K by_K_doTurn by_K_doTurn ∈ lw_g := lw_gd (lw_sel (q := (by_K_doTurn, 9)) (by decide +kernel)) rfl
set_option maxRecDepth 20000 in
theorem tc_K_perform : Cond.code by_K_perform bc_K_perform 3 (some .boolean) ∈ lw_g := lw_gd (lw_in2 (List.mem_of_getElem? (i := 96) rfl)) rfl
theorem ts_K_perform : Cond.selects bR_K by_K_perform by_K_perform ∈ lw_g := lw_gd (lw_sel (q := (by_K_perform, 9)) (by decide +kernel)) rfl
set_option maxRecDepth 20000 in
theorem tc_K_countBefore : Cond.code by_K_countBefore bc_K_countBefore 5 (some .int) ∈ lw_g := lw_gd (lw_in2 (List.mem_of_getElem? (i := 104) rfl)) rfl
theorem ts_K_countBefore : Cond.selects bR_K by_K_countBefore by_K_countBefore ∈ lw_g := lw_gd (lw_sel (q := (by_K_countBefore, 9)) (by decide +kernel)) rfl
set_option maxRecDepth 20000 in
theorem tc_K_seizeFree : Cond.code by_K_seizeFree bc_K_seizeFree 4 (some .boolean) ∈ lw_g := lw_gd (lw_in2 (List.mem_of_getElem? (i := 100) rfl)) rfl
theorem ts_K_seizeFree : Cond.selects bR_K by_K_seizeFree by_K_seizeFree ∈ lw_g := lw_gd (lw_sel (q := (by_K_seizeFree, 9)) (by decide +kernel)) rfl
set_option maxRecDepth 20000 in
theorem tc_K_seizeByForce : Cond.code by_K_seizeByForce bc_K_seizeByForce 6 (some .boolean) ∈ lw_g := lw_gd (lw_in2 (List.mem_of_getElem? (i := 108) rfl)) rfl
theorem ts_K_seizeByForce : Cond.selects bR_K by_K_seizeByForce by_K_seizeByForce ∈ lw_g := lw_gd (lw_sel (q := (by_K_seizeByForce, 9)) (by decide +kernel)) rfl
set_option maxRecDepth 20000 in
theorem tc_K_standInLine : Cond.code by_K_standInLine bc_K_standInLine 3 (some .boolean) ∈ lw_g := lw_gd (lw_in2 (List.mem_of_getElem? (i := 125) rfl)) rfl
theorem ts_K_standInLine : Cond.selects bR_K by_K_standInLine by_K_standInLine ∈ lw_g := lw_gd (lw_sel (q := (by_K_standInLine, 9)) (by decide +kernel)) rfl
set_option maxRecDepth 20000 in
theorem tc_K_withinReach : Cond.code by_K_withinReach bc_K_withinReach 5 (some .int) ∈ lw_g := lw_gd (lw_in2 (List.mem_of_getElem? (i := 112) rfl)) rfl
theorem ts_K_withinReach : Cond.selects bR_K by_K_withinReach by_K_withinReach ∈ lw_g := lw_gd (lw_sel (q := (by_K_withinReach, 9)) (by decide +kernel)) rfl
set_option maxRecDepth 20000 in
theorem tc_K_takeFromLosers : Cond.code by_K_takeFromLosers bc_K_takeFromLosers 6 (some .int) ∈ lw_g := lw_gd (lw_in2 (List.mem_of_getElem? (i := 116) rfl)) rfl
theorem ts_K_takeFromLosers : Cond.selects bR_K by_K_takeFromLosers by_K_takeFromLosers ∈ lw_g := lw_gd (lw_sel (q := (by_K_takeFromLosers, 9)) (by decide +kernel)) rfl
set_option maxRecDepth 20000 in
theorem tc_K_nextLoser : Cond.code by_K_nextLoser bc_K_nextLoser 6 (some .int) ∈ lw_g := lw_gd (lw_in2 (List.mem_of_getElem? (i := 120) rfl)) rfl
theorem ts_K_nextLoser : Cond.selects bR_K by_K_nextLoser by_K_nextLoser ∈ lw_g := lw_gd (lw_sel (q := (by_K_nextLoser, 9)) (by decide +kernel)) rfl
set_option maxRecDepth 20000 in
theorem tc_K_give : Cond.code by_K_give bc_K_give 4 none ∈ lw_g := lw_gd (lw_in2 (List.mem_of_getElem? (i := 7) rfl)) rfl
theorem ts_K_give : Cond.selects bR_K by_K_give by_K_give ∈ lw_g := lw_gd (lw_sel (q := (by_K_give, 9)) (by decide +kernel)) rfl
set_option maxRecDepth 20000 in
theorem tc_K_takeBack : Cond.code by_K_takeBack bc_K_takeBack 4 none ∈ lw_g := lw_gd (lw_in2 (List.mem_of_getElem? (i := 62) rfl)) rfl
theorem ts_K_takeBack : Cond.selects bR_K by_K_takeBack by_K_takeBack ∈ lw_g := lw_gd (lw_sel (q := (by_K_takeBack, 9)) (by decide +kernel)) rfl
set_option maxRecDepth 20000 in
theorem tc_K_giveBack : Cond.code by_K_giveBack bc_K_giveBack 4 none ∈ lw_g := lw_gd (lw_in2 (List.mem_of_getElem? (i := 55) rfl)) rfl
theorem ts_K_giveBack : Cond.selects bR_K by_K_giveBack by_K_giveBack ∈ lw_g := lw_gd (lw_sel (q := (by_K_giveBack, 9)) (by decide +kernel)) rfl
set_option maxRecDepth 20000 in
theorem tc_K_serve : Cond.code by_K_serve bc_K_serve 5 none ∈ lw_g := lw_gd (lw_in1 (List.mem_of_getElem? (i := 235) rfl)) rfl
theorem ts_K_serve : Cond.selects bR_K by_K_serve by_K_serve ∈ lw_g := lw_gd (lw_sel (q := (by_K_serve, 9)) (by decide +kernel)) rfl
set_option maxRecDepth 20000 in
theorem tc_K_meetCondition : Cond.code by_K_meetCondition bc_K_meetCondition 3 (some .boolean) ∈ lw_g := lw_gd (lw_in2 (List.mem_of_getElem? (i := 133) rfl)) rfl
theorem ts_K_meetCondition : Cond.selects bR_K by_K_meetCondition by_K_meetCondition ∈ lw_g := lw_gd (lw_sel (q := (by_K_meetCondition, 9)) (by decide +kernel)) rfl
set_option maxRecDepth 20000 in
theorem tc_K_waitForCondition : Cond.code by_K_waitForCondition bc_K_waitForCondition 2 (some .boolean) ∈ lw_g := lw_gd (lw_in2 (List.mem_of_getElem? (i := 145) rfl)) rfl
theorem ts_K_waitForCondition : Cond.selects bR_K by_K_waitForCondition by_K_waitForCondition ∈ lw_g := lw_gd (lw_sel (q := (by_K_waitForCondition, 9)) (by decide +kernel)) rfl
set_option maxRecDepth 20000 in
theorem tc_K_goOverConditions : Cond.code by_K_goOverConditions bc_K_goOverConditions 4 none ∈ lw_g := lw_gd (lw_in2 (List.mem_of_getElem? (i := 155) rfl)) rfl
theorem ts_K_goOverConditions : Cond.selects bR_K by_K_goOverConditions by_K_goOverConditions ∈ lw_g := lw_gd (lw_sel (q := (by_K_goOverConditions, 9)) (by decide +kernel)) rfl
set_option maxRecDepth 20000 in
theorem tc_K_lineOf : Cond.code by_K_lineOf bc_K_lineOf 2 (some .int) ∈ lw_g := lw_gd (lw_in2 (List.mem_of_getElem? (i := 35) rfl)) rfl
theorem ts_K_lineOf : Cond.selects bR_K by_K_lineOf by_K_lineOf ∈ lw_g := lw_gd (lw_sel (q := (by_K_lineOf, 9)) (by decide +kernel)) rfl
set_option maxRecDepth 20000 in
theorem tc_K_leave : Cond.code by_K_leave bc_K_leave 2 none ∈ lw_g := lw_gd (lw_in2 (List.mem_of_getElem? (i := 43) rfl)) rfl
theorem ts_K_leave : Cond.selects bR_K by_K_leave by_K_leave ∈ lw_g := lw_gd (lw_sel (q := (by_K_leave, 9)) (by decide +kernel)) rfl
set_option maxRecDepth 20000 in
theorem tc_M_init : Cond.code by_M_init bc_M_init 2 none ∈ lw_g := lw_gd (lw_in2 (List.mem_of_getElem? (i := 213) rfl)) rfl
set_option maxRecDepth 20000 in
theorem tc_M_process : Cond.code by_M_process bc_M_process 4 (some .int) ∈ lw_g := lw_gd (lw_in3 (List.mem_of_getElem? (i := 62) rfl)) rfl
set_option maxRecDepth 20000 in
theorem tc_M_within : Cond.code by_M_within bc_M_within 4 (some .boolean) ∈ lw_g := lw_gd (lw_in3 (List.mem_of_getElem? (i := 74) rfl)) rfl
theorem ts_M_within : Cond.selects bR_M by_M_within by_M_within ∈ lw_g := lw_gd (lw_sel (q := (by_M_within, 27)) (by decide +kernel)) rfl
set_option maxRecDepth 20000 in
theorem tc_M_fits : Cond.code by_M_fits bc_M_fits 4 (some .boolean) ∈ lw_g := lw_gd (lw_in3 (List.mem_of_getElem? (i := 78) rfl)) rfl
theorem ts_M_fits : Cond.selects bR_M by_M_fits by_M_fits ∈ lw_g := lw_gd (lw_sel (q := (by_M_fits, 27)) (by decide +kernel)) rfl
set_option maxRecDepth 20000 in
theorem tc_M_none : Cond.code by_M_none bc_M_none 2 (some .boolean) ∈ lw_g := lw_gd (lw_in3 (List.mem_of_getElem? (i := 70) rfl)) rfl
theorem ts_M_none : Cond.selects bR_M by_M_none by_M_none ∈ lw_g := lw_gd (lw_sel (q := (by_M_none, 27)) (by decide +kernel)) rfl
set_option maxRecDepth 20000 in
theorem tc_M_instruct : Cond.code by_M_instruct bc_M_instruct 6 (some .boolean) ∈ lw_g := lw_gd (lw_in3 (List.mem_of_getElem? (i := 66) rfl)) rfl
set_option maxRecDepth 20000 in
theorem tc_M_resource : Cond.code by_M_resource bc_M_resource 4 (some .boolean) ∈ lw_g := lw_gd (lw_in3 (List.mem_of_getElem? (i := 83) rfl)) rfl
set_option maxRecDepth 20000 in
theorem tc_M_tank : Cond.code by_M_tank bc_M_tank 4 (some .boolean) ∈ lw_g := lw_gd (lw_in3 (List.mem_of_getElem? (i := 111) rfl)) rfl
set_option maxRecDepth 20000 in
theorem tc_M_enter : Cond.code by_M_enter bc_M_enter 5 none ∈ lw_g := lw_gd (lw_in3 (List.mem_of_getElem? (i := 107) rfl)) rfl
theorem ts_M_enter : Cond.selects bR_M by_M_enter by_M_enter ∈ lw_g := lw_gd (lw_sel (q := (by_M_enter, 27)) (by decide +kernel)) rfl
set_option maxRecDepth 20000 in
theorem tc_M_sooner : Cond.code by_M_sooner bc_M_sooner 3 (some .boolean) ∈ lw_g := lw_gd (lw_in3 (List.mem_of_getElem? (i := 124) rfl)) rfl
theorem ts_M_sooner : Cond.selects bR_M by_M_sooner by_M_sooner ∈ lw_g := lw_gd (lw_sel (q := (by_M_sooner, 27)) (by decide +kernel)) rfl
set_option maxRecDepth 20000 in
theorem tc_M_first : Cond.code by_M_first bc_M_first 3 (some .int) ∈ lw_g := lw_gd (lw_in3 (List.mem_of_getElem? (i := 120) rfl)) rfl
theorem ts_M_first : Cond.selects bR_M by_M_first by_M_first ∈ lw_g := lw_gd (lw_sel (q := (by_M_first, 27)) (by decide +kernel)) rfl
set_option maxRecDepth 20000 in
theorem tc_M_seized : Cond.code by_M_seized bc_M_seized 4 (some .int) ∈ lw_g := lw_gd (lw_in3 (List.mem_of_getElem? (i := 87) rfl)) rfl
theorem ts_M_seized : Cond.selects bR_M by_M_seized by_M_seized ∈ lw_g := lw_gd (lw_sel (q := (by_M_seized, 27)) (by decide +kernel)) rfl
set_option maxRecDepth 20000 in
theorem tc_M_rest : Cond.code by_M_rest bc_M_rest 2 (some .int) ∈ lw_g := lw_gd (lw_in3 (List.mem_of_getElem? (i := 103) rfl)) rfl
theorem ts_M_rest : Cond.selects bR_M by_M_rest by_M_rest ∈ lw_g := lw_gd (lw_sel (q := (by_M_rest, 27)) (by decide +kernel)) rfl
set_option maxRecDepth 20000 in
theorem tc_M_done : Cond.code by_M_done bc_M_done 2 (some .int) ∈ lw_g := lw_gd (lw_in3 (List.mem_of_getElem? (i := 99) rfl)) rfl
theorem ts_M_done : Cond.selects bR_M by_M_done by_M_done ∈ lw_g := lw_gd (lw_sel (q := (by_M_done, 27)) (by decide +kernel)) rfl
set_option maxRecDepth 20000 in
theorem tc_M_head : Cond.code by_M_head bc_M_head 4 (some .int) ∈ lw_g := lw_gd (lw_in3 (List.mem_of_getElem? (i := 95) rfl)) rfl
theorem ts_M_head : Cond.selects bR_M by_M_head by_M_head ∈ lw_g := lw_gd (lw_sel (q := (by_M_head, 27)) (by decide +kernel)) rfl
set_option maxRecDepth 20000 in
theorem tc_M_serve : Cond.code by_M_serve bc_M_serve 4 none ∈ lw_g := lw_gd (lw_in3 (List.mem_of_getElem? (i := 91) rfl)) rfl
theorem ts_M_serve : Cond.selects bR_M by_M_serve by_M_serve ∈ lw_g := lw_gd (lw_sel (q := (by_M_serve, 27)) (by decide +kernel)) rfl
set_option maxRecDepth 20000 in
theorem tc_M_seize : Cond.code by_M_seize bc_M_seize 6 (some .boolean) ∈ lw_g := lw_gd (lw_in3 (List.mem_of_getElem? (i := 144) rfl)) rfl
theorem ts_M_seize : Cond.selects bR_M by_M_seize by_M_seize ∈ lw_g := lw_gd (lw_sel (q := (by_M_seize, 27)) (by decide +kernel)) rfl
set_option maxRecDepth 20000 in
theorem tc_M_reach : Cond.code by_M_reach bc_M_reach 5 (some .int) ∈ lw_g := lw_gd (lw_in3 (List.mem_of_getElem? (i := 148) rfl)) rfl
theorem ts_M_reach : Cond.selects bR_M by_M_reach by_M_reach ∈ lw_g := lw_gd (lw_sel (q := (by_M_reach, 27)) (by decide +kernel)) rfl
set_option maxRecDepth 20000 in
theorem tc_M_victim : Cond.code by_M_victim bc_M_victim 5 (some .int) ∈ lw_g := lw_gd (lw_in3 (List.mem_of_getElem? (i := 156) rfl)) rfl
theorem ts_M_victim : Cond.selects bR_M by_M_victim by_M_victim ∈ lw_g := lw_gd (lw_sel (q := (by_M_victim, 27)) (by decide +kernel)) rfl
set_option maxRecDepth 20000 in
theorem tc_M_preempt : Cond.code by_M_preempt bc_M_preempt 7 none ∈ lw_g := lw_gd (lw_in3 (List.mem_of_getElem? (i := 152) rfl)) rfl
theorem ts_M_preempt : Cond.selects bR_M by_M_preempt by_M_preempt ∈ lw_g := lw_gd (lw_sel (q := (by_M_preempt, 27)) (by decide +kernel)) rfl
set_option maxRecDepth 20000 in
theorem tc_M_release : Cond.code by_M_release bc_M_release 5 none ∈ lw_g := lw_gd (lw_in3 (List.mem_of_getElem? (i := 164) rfl)) rfl
theorem ts_M_release : Cond.selects bR_M by_M_release by_M_release ∈ lw_g := lw_gd (lw_sel (q := (by_M_release, 27)) (by decide +kernel)) rfl
set_option maxRecDepth 20000 in
theorem tc_M_holds : Cond.code by_M_holds bc_M_holds 3 (some .boolean) ∈ lw_g := lw_gd (lw_in3 (List.mem_of_getElem? (i := 176) rfl)) rfl
theorem ts_M_holds : Cond.selects bR_M by_M_holds by_M_holds ∈ lw_g := lw_gd (lw_sel (q := (by_M_holds, 27)) (by decide +kernel)) rfl
set_option maxRecDepth 20000 in
theorem tc_M_pour : Cond.code by_M_pour bc_M_pour 2 none ∈ lw_g := lw_gd (lw_in3 (List.mem_of_getElem? (i := 180) rfl)) rfl
theorem ts_M_pour : Cond.selects bR_M by_M_pour by_M_pour ∈ lw_g := lw_gd (lw_sel (q := (by_M_pour, 27)) (by decide +kernel)) rfl
set_option maxRecDepth 20000 in
theorem tc_M_goOver : Cond.code by_M_goOver bc_M_goOver 5 none ∈ lw_g := lw_gd (lw_in3 (List.mem_of_getElem? (i := 184) rfl)) rfl
theorem ts_M_goOver : Cond.selects bR_M by_M_goOver by_M_goOver ∈ lw_g := lw_gd (lw_sel (q := (by_M_goOver, 27)) (by decide +kernel)) rfl
set_option maxRecDepth 20000 in
theorem tc_M_perform : Cond.code by_M_perform bc_M_perform 4 (some .boolean) ∈ lw_g := lw_gd (lw_in3 (List.mem_of_getElem? (i := 140) rfl)) rfl
theorem ts_M_perform : Cond.selects bR_M by_M_perform by_M_perform ∈ lw_g := lw_gd (lw_sel (q := (by_M_perform, 27)) (by decide +kernel)) rfl
set_option maxRecDepth 20000 in
theorem tc_M_turn : Cond.code by_M_turn bc_M_turn 3 none ∈ lw_g := lw_gd (lw_in3 (List.mem_of_getElem? (i := 136) rfl)) rfl
theorem ts_M_turn : Cond.selects bR_M by_M_turn by_M_turn ∈ lw_g := lw_gd (lw_sel (q := (by_M_turn, 27)) (by decide +kernel)) rfl
set_option maxRecDepth 20000 in
theorem tc_M_advance : Cond.code by_M_advance bc_M_advance 4 none ∈ lw_g := lw_gd (lw_in3 (List.mem_of_getElem? (i := 132) rfl)) rfl
theorem ts_M_advance : Cond.selects bR_M by_M_advance by_M_advance ∈ lw_g := lw_gd (lw_sel (q := (by_M_advance, 27)) (by decide +kernel)) rfl
set_option maxRecDepth 20000 in
theorem tc_M_event : Cond.code by_M_event bc_M_event 3 none ∈ lw_g := lw_gd (lw_in3 (List.mem_of_getElem? (i := 128) rfl)) rfl
theorem ts_M_event : Cond.selects bR_M by_M_event by_M_event ∈ lw_g := lw_gd (lw_sel (q := (by_M_event, 27)) (by decide +kernel)) rfl
set_option maxRecDepth 20000 in
theorem tc_M_run : Cond.code by_M_run bc_M_run 6 (some .int) ∈ lw_g := lw_gd (lw_in3 (List.mem_of_getElem? (i := 115) rfl)) rfl
set_option maxRecDepth 20000 in
theorem tc_M_activate : Cond.code by_M_activate bc_M_activate 3 (some .boolean) ∈ lw_g := lw_gd (lw_in3 (List.mem_of_getElem? (i := 168) rfl)) rfl
set_option maxRecDepth 20000 in
theorem tc_M_interrupt : Cond.code by_M_interrupt bc_M_interrupt 3 (some .boolean) ∈ lw_g := lw_gd (lw_in3 (List.mem_of_getElem? (i := 160) rfl)) rfl
set_option maxRecDepth 20000 in
theorem tc_M_kill : Cond.code by_M_kill bc_M_kill 4 (some .boolean) ∈ lw_g := lw_gd (lw_in3 (List.mem_of_getElem? (i := 172) rfl)) rfl
set_option maxRecDepth 20000 in
theorem tc_M_now : Cond.code by_M_now bc_M_now 1 (some .long) ∈ lw_g := lw_gd (lw_in3 (List.mem_of_getElem? (i := 191) rfl)) rfl
set_option maxRecDepth 20000 in
theorem tc_M_next : Cond.code by_M_next bc_M_next 2 (some .long) ∈ lw_g := lw_gd (lw_in3 (List.mem_of_getElem? (i := 195) rfl)) rfl
set_option maxRecDepth 20000 in
theorem tc_M_state : Cond.code by_M_state bc_M_state 2 (some .int) ∈ lw_g := lw_gd (lw_in3 (List.mem_of_getElem? (i := 200) rfl)) rfl
set_option maxRecDepth 20000 in
theorem tc_M_place : Cond.code by_M_place bc_M_place 2 (some .int) ∈ lw_g := lw_gd (lw_in3 (List.mem_of_getElem? (i := 204) rfl)) rfl
set_option maxRecDepth 20000 in
theorem tc_M_held : Cond.code by_M_held bc_M_held 3 (some .int) ∈ lw_g := lw_gd (lw_in3 (List.mem_of_getElem? (i := 208) rfl)) rfl
set_option maxRecDepth 20000 in
theorem tc_M_free : Cond.code by_M_free bc_M_free 2 (some .int) ∈ lw_g := lw_gd (lw_in3 (List.mem_of_getElem? (i := 212) rfl)) rfl
set_option maxRecDepth 20000 in
theorem tc_M_waiting : Cond.code by_M_waiting bc_M_waiting 5 (some .int) ∈ lw_g := lw_gd (lw_in3 (List.mem_of_getElem? (i := 216) rfl)) rfl
set_option maxRecDepth 20000 in
theorem tc_M_area : Cond.code by_M_area bc_M_area 2 (some .long) ∈ lw_g := lw_gd (lw_in3 (List.mem_of_getElem? (i := 220) rfl)) rfl
set_option maxRecDepth 20000 in
theorem tc_M_waited : Cond.code by_M_waited bc_M_waited 2 (some .long) ∈ lw_g := lw_gd (lw_in3 (List.mem_of_getElem? (i := 224) rfl)) rfl
set_option maxRecDepth 20000 in
theorem tc_M_level : Cond.code by_M_level bc_M_level 2 (some .int) ∈ lw_g := lw_gd (lw_in3 (List.mem_of_getElem? (i := 228) rfl)) rfl
set_option maxRecDepth 20000 in
theorem tc_M_stuck : Cond.code by_M_stuck bc_M_stuck 3 (some .boolean) ∈ lw_g := lw_gd (lw_in3 (List.mem_of_getElem? (i := 232) rfl)) rfl
set_option maxRecDepth 20000 in
theorem tc_M_traced : Cond.code by_M_traced bc_M_traced 2 (some .int) ∈ lw_g := lw_gd (lw_in3 (List.mem_of_getElem? (i := 236) rfl)) rfl
set_option maxRecDepth 20000 in
theorem tc_L_init : Cond.code by_L_init bc_L_init 1 none ∈ lw_g := lw_gd (lw_in1 (List.mem_of_getElem? (i := 27) rfl)) rfl
set_option maxRecDepth 20000 in
theorem tc_L_insert : Cond.code by_L_insert bc_L_insert 4 none ∈ lw_g := lw_gd (lw_in2 (List.mem_of_getElem? (i := 129) rfl)) rfl
set_option maxRecDepth 20000 in
theorem tc_L_drop : Cond.code by_L_drop bc_L_drop 4 none ∈ lw_g := lw_gd (lw_in2 (List.mem_of_getElem? (i := 11) rfl)) rfl
set_option maxRecDepth 20000 in
theorem tc_P_init : Cond.code by_P_init bc_P_init 2 none ∈ lw_g := lw_gd (lw_in1 (List.mem_of_getElem? (i := 58) rfl)) rfl
set_option maxRecDepth 20000 in
theorem tc_P_append : Cond.code by_P_append bc_P_append 4 none ∈ lw_g := lw_gd (lw_in1 (List.mem_of_getElem? (i := 227) rfl)) rfl
set_option maxRecDepth 20000 in
theorem tc_P_firstOperand : Cond.code by_P_firstOperand bc_P_firstOperand 1 (some .int) ∈ lw_g := lw_gd (lw_in2 (List.mem_of_getElem? (i := 39) rfl)) rfl
set_option maxRecDepth 20000 in
theorem tc_P_secondOperand : Cond.code by_P_secondOperand bc_P_secondOperand 1 (some .int) ∈ lw_g := lw_gd (lw_in1 (List.mem_of_getElem? (i := 239) rfl)) rfl
set_option maxRecDepth 20000 in
theorem tc_P_isOver : Cond.code by_P_isOver bc_P_isOver 1 (some .boolean) ∈ lw_g := lw_gd (lw_in2 (List.mem_of_getElem? (i := 51) rfl)) rfl
set_option maxRecDepth 20000 in
theorem tc_P_isBreakable : Cond.code by_P_isBreakable bc_P_isBreakable 1 (some .boolean) ∈ lw_g := lw_gd (lw_in2 (List.mem_of_getElem? (i := 31) rfl)) rfl
set_option maxRecDepth 20000 in
theorem tc_P_isBefore : Cond.code by_P_isBefore bc_P_isBefore 2 (some .boolean) ∈ lw_g := lw_gd (lw_in2 (List.mem_of_getElem? (i := 75) rfl)) rfl
set_option maxRecDepth 20000 in
theorem tc_P_beginRound : Cond.code by_P_beginRound bc_P_beginRound 1 (some .boolean) ∈ lw_g := lw_gd (lw_in2 (List.mem_of_getElem? (i := 151) rfl)) rfl
set_option maxRecDepth 20000 in
theorem tc_E_init : Cond.code by_E_init bc_E_init 1 none ∈ lw_g := lw_gd (lw_in1 (List.mem_of_getElem? (i := 128) rfl)) rfl
set_option maxRecDepth 20000 in
theorem tc_E_unseized : Cond.code by_E_unseized bc_E_unseized 1 (some .int) ∈ lw_g := lw_gd (lw_in2 (List.mem_of_getElem? (i := 3) rfl)) rfl
set_option maxRecDepth 20000 in
theorem tc_T_init : Cond.code by_T_init bc_T_init 1 none ∈ lw_g := lw_gd (lw_in1 (List.mem_of_getElem? (i := 160) rfl)) rfl
set_option maxRecDepth 20000 in
theorem tc_T_put : Cond.code by_T_put bc_T_put 2 (some .boolean) ∈ lw_g := lw_gd (lw_in2 (List.mem_of_getElem? (i := 137) rfl)) rfl
set_option maxRecDepth 20000 in
theorem tc_T_take : Cond.code by_T_take bc_T_take 2 (some .boolean) ∈ lw_g := lw_gd (lw_in2 (List.mem_of_getElem? (i := 141) rfl)) rfl
set_option maxRecDepth 20000 in
theorem tc_C_init : Cond.code by_C_init bc_C_init 1 none ∈ lw_g := lw_gd (lw_in1 (List.mem_of_getElem? (i := 43) rfl)) rfl
set_option maxRecDepth 20000 in
theorem tc_C_add : Cond.code by_C_add bc_C_add 2 none ∈ lw_g := lw_gd (lw_in2 (List.mem_of_getElem? (i := 87) rfl)) rfl
set_option maxRecDepth 20000 in
theorem tc_C_before : Cond.code by_C_before bc_C_before 2 (some .int) ∈ lw_g := lw_gd (lw_in2 (List.mem_of_getElem? (i := 208) rfl)) rfl
set_option maxRecDepth 20000 in
theorem tw_min : Cond.code Lib.Math.min.name Lib.Math.min.code 2 (some .int) ∈ lw_g := lw_gd (lw_in2 (List.mem_of_getElem? (i := 58) rfl)) rfl
theorem bin_K : ∀ w ∈ u_ws bR_K bT_K 9, w ∈ lw_g := fun w hw => by
  obtain ⟨k, hk, rfl⟩ := List.mem_map.mp hw
  have hk := List.mem_range.mp hk
  match k, hk with
  | 0, _ => exact tw_1_180
  | 1, _ => exact tw_1_182
  | 2, _ => exact tw_1_184
  | 3, _ => exact tw_1_186
  | 4, _ => exact tw_1_188
  | 5, _ => exact tw_1_190
  | 6, _ => exact tw_1_192
  | 7, _ => exact tw_1_194
  | 8, _ => exact tw_1_196
  | k + 9, hk => exact absurd hk (by omega)
theorem bin_M : ∀ w ∈ u_ws bR_M bT_M 27, w ∈ lw_g := fun w hw => by
  obtain ⟨k, hk, rfl⟩ := List.mem_map.mp hw
  have hk := List.mem_range.mp hk
  match k, hk with
  | 0, _ => exact tw_3_2
  | 1, _ => exact tw_3_4
  | 2, _ => exact tw_3_6
  | 3, _ => exact tw_3_8
  | 4, _ => exact tw_3_10
  | 5, _ => exact tw_3_12
  | 6, _ => exact tw_3_14
  | 7, _ => exact tw_3_16
  | 8, _ => exact tw_3_18
  | 9, _ => exact tw_3_20
  | 10, _ => exact tw_3_22
  | 11, _ => exact tw_3_24
  | 12, _ => exact tw_3_26
  | 13, _ => exact tw_3_28
  | 14, _ => exact tw_3_30
  | 15, _ => exact tw_3_32
  | 16, _ => exact tw_3_34
  | 17, _ => exact tw_3_36
  | 18, _ => exact tw_3_38
  | 19, _ => exact tw_3_40
  | 20, _ => exact tw_3_42
  | 21, _ => exact tw_3_44
  | 22, _ => exact tw_3_46
  | 23, _ => exact tw_3_48
  | 24, _ => exact tw_3_50
  | 25, _ => exact tw_3_52
  | 26, _ => exact tw_3_54
  | k + 27, hk => exact absurd hk (by omega)
theorem bin_L : ∀ w ∈ u_ws bR_L bT_L 2, w ∈ lw_g := fun w hw => by
  obtain ⟨k, hk, rfl⟩ := List.mem_map.mp hw
  have hk := List.mem_range.mp hk
  match k, hk with
  | 0, _ => exact tw_1_33
  | 1, _ => exact tw_1_35
  | k + 2, hk => exact absurd hk (by omega)
theorem bin_P : ∀ w ∈ u_ws bR_P bT_P 16, w ∈ lw_g := fun w hw => by
  obtain ⟨k, hk, rfl⟩ := List.mem_map.mp hw
  have hk := List.mem_range.mp hk
  match k, hk with
  | 0, _ => exact tw_1_92
  | 1, _ => exact tw_1_94
  | 2, _ => exact tw_1_96
  | 3, _ => exact tw_1_98
  | 4, _ => exact tw_1_100
  | 5, _ => exact tw_1_102
  | 6, _ => exact tw_1_104
  | 7, _ => exact tw_1_106
  | 8, _ => exact tw_1_108
  | 9, _ => exact tw_1_110
  | 10, _ => exact tw_1_112
  | 11, _ => exact tw_1_114
  | 12, _ => exact tw_1_116
  | 13, _ => exact tw_1_118
  | 14, _ => exact tw_1_120
  | 15, _ => exact tw_1_122
  | k + 16, hk => exact absurd hk (by omega)
theorem bin_E : ∀ w ∈ u_ws bR_E bT_E 6, w ∈ lw_g := fun w hw => by
  obtain ⟨k, hk, rfl⟩ := List.mem_map.mp hw
  have hk := List.mem_range.mp hk
  match k, hk with
  | 0, _ => exact tw_1_144
  | 1, _ => exact tw_1_146
  | 2, _ => exact tw_1_148
  | 3, _ => exact tw_1_150
  | 4, _ => exact tw_1_152
  | 5, _ => exact tw_1_154
  | k + 6, hk => exact absurd hk (by omega)
theorem bin_T : ∀ w ∈ u_ws bR_T bT_T 2, w ∈ lw_g := fun w hw => by
  obtain ⟨k, hk, rfl⟩ := List.mem_map.mp hw
  have hk := List.mem_range.mp hk
  match k, hk with
  | 0, _ => exact tw_1_166
  | 1, _ => exact tw_1_168
  | k + 2, hk => exact absurd hk (by omega)
theorem bin_C : ∀ w ∈ u_ws bR_C bT_C 3, w ∈ lw_g := fun w hw => by
  obtain ⟨k, hk, rfl⟩ := List.mem_map.mp hw
  have hk := List.mem_range.mp hk
  match k, hk with
  | 0, _ => exact tw_1_48
  | 1, _ => exact tw_1_50
  | 2, _ => exact tw_1_52
  | k + 3, hk => exact absurd hk (by omega)
end
section
theorem de_L_init_0 : decode bc_L_init 0 = .ok (.aload_n 0, 1) := by decide +kernel
theorem de_L_init_1 : decode bc_L_init 1 = .ok (.invokespecial 3, 3) := by decide +kernel
theorem de_L_init_4 : decode bc_L_init 4 = .ok (.aload_n 0, 1) := by decide +kernel
theorem de_L_init_5 : decode bc_L_init 5 = .ok (.bipush 12, 2) := by decide +kernel
theorem de_L_init_7 : decode bc_L_init 7 = .ok (.newarray .int, 2) := by decide +kernel
theorem de_L_init_9 : decode bc_L_init 9 = .ok (.putfield 9, 3) := by decide +kernel
theorem de_L_init_12 : decode bc_L_init 12 = .ok (.aload_n 0, 1) := by decide +kernel
theorem de_L_init_13 : decode bc_L_init 13 = .ok (.iconst 0, 1) := by decide +kernel
theorem de_L_init_14 : decode bc_L_init 14 = .ok (.putfield 15, 3) := by decide +kernel
theorem de_L_init_17 : decode bc_L_init 17 = .ok (.return_, 1) := by decide +kernel
theorem de_C_init_0 : decode bc_C_init 0 = .ok (.aload_n 0, 1) := by decide +kernel
theorem de_C_init_1 : decode bc_C_init 1 = .ok (.invokespecial 3, 3) := by decide +kernel
theorem de_C_init_4 : decode bc_C_init 4 = .ok (.aload_n 0, 1) := by decide +kernel
theorem de_C_init_5 : decode bc_C_init 5 = .ok (.bipush 64, 2) := by decide +kernel
theorem de_C_init_7 : decode bc_C_init 7 = .ok (.newarray .int, 2) := by decide +kernel
theorem de_C_init_9 : decode bc_C_init 9 = .ok (.putfield 9, 3) := by decide +kernel
theorem de_C_init_12 : decode bc_C_init 12 = .ok (.aload_n 0, 1) := by decide +kernel
theorem de_C_init_13 : decode bc_C_init 13 = .ok (.iconst 0, 1) := by decide +kernel
theorem de_C_init_14 : decode bc_C_init 14 = .ok (.putfield 15, 3) := by decide +kernel
theorem de_C_init_17 : decode bc_C_init 17 = .ok (.aload_n 0, 1) := by decide +kernel
theorem de_C_init_18 : decode bc_C_init 18 = .ok (.iconst 0, 1) := by decide +kernel
theorem de_C_init_19 : decode bc_C_init 19 = .ok (.putfield 19, 3) := by decide +kernel
theorem de_C_init_22 : decode bc_C_init 22 = .ok (.return_, 1) := by decide +kernel
theorem de_P_init_0 : decode bc_P_init 0 = .ok (.aload_n 0, 1) := by decide +kernel
theorem de_P_init_1 : decode bc_P_init 1 = .ok (.invokespecial 3, 3) := by decide +kernel
theorem de_P_init_4 : decode bc_P_init 4 = .ok (.aload_n 0, 1) := by decide +kernel
theorem de_P_init_5 : decode bc_P_init 5 = .ok (.bipush 10, 2) := by decide +kernel
theorem de_P_init_7 : decode bc_P_init 7 = .ok (.newarray .int, 2) := by decide +kernel
theorem de_P_init_9 : decode bc_P_init 9 = .ok (.putfield 9, 3) := by decide +kernel
theorem de_P_init_12 : decode bc_P_init 12 = .ok (.aload_n 0, 1) := by decide +kernel
theorem de_P_init_13 : decode bc_P_init 13 = .ok (.bipush 10, 2) := by decide +kernel
theorem de_P_init_15 : decode bc_P_init 15 = .ok (.newarray .int, 2) := by decide +kernel
theorem de_P_init_17 : decode bc_P_init 17 = .ok (.putfield 15, 3) := by decide +kernel
theorem de_P_init_20 : decode bc_P_init 20 = .ok (.aload_n 0, 1) := by decide +kernel
theorem de_P_init_21 : decode bc_P_init 21 = .ok (.bipush 10, 2) := by decide +kernel
theorem de_P_init_23 : decode bc_P_init 23 = .ok (.newarray .int, 2) := by decide +kernel
theorem de_P_init_25 : decode bc_P_init 25 = .ok (.putfield 18, 3) := by decide +kernel
theorem de_P_init_28 : decode bc_P_init 28 = .ok (.aload_n 0, 1) := by decide +kernel
theorem de_P_init_29 : decode bc_P_init 29 = .ok (.iconst 4, 1) := by decide +kernel
theorem de_P_init_30 : decode bc_P_init 30 = .ok (.newarray .int, 2) := by decide +kernel
theorem de_P_init_32 : decode bc_P_init 32 = .ok (.putfield 21, 3) := by decide +kernel
theorem de_P_init_35 : decode bc_P_init 35 = .ok (.aload_n 0, 1) := by decide +kernel
theorem de_P_init_36 : decode bc_P_init 36 = .ok (.iconst 0, 1) := by decide +kernel
theorem de_P_init_37 : decode bc_P_init 37 = .ok (.putfield 24, 3) := by decide +kernel
theorem de_P_init_40 : decode bc_P_init 40 = .ok (.aload_n 0, 1) := by decide +kernel
theorem de_P_init_41 : decode bc_P_init 41 = .ok (.iconst 0, 1) := by decide +kernel
theorem de_P_init_42 : decode bc_P_init 42 = .ok (.putfield 28, 3) := by decide +kernel
theorem de_P_init_45 : decode bc_P_init 45 = .ok (.aload_n 0, 1) := by decide +kernel
theorem de_P_init_46 : decode bc_P_init 46 = .ok (.iconst 1, 1) := by decide +kernel
theorem de_P_init_47 : decode bc_P_init 47 = .ok (.putfield 31, 3) := by decide +kernel
theorem de_P_init_50 : decode bc_P_init 50 = .ok (.aload_n 0, 1) := by decide +kernel
theorem de_P_init_51 : decode bc_P_init 51 = .ok (.iconst 0, 1) := by decide +kernel
theorem de_P_init_52 : decode bc_P_init 52 = .ok (.putfield 34, 3) := by decide +kernel
theorem de_P_init_55 : decode bc_P_init 55 = .ok (.aload_n 0, 1) := by decide +kernel
theorem de_P_init_56 : decode bc_P_init 56 = .ok (.iconst 0, 1) := by decide +kernel
theorem de_P_init_57 : decode bc_P_init 57 = .ok (.putfield 37, 3) := by decide +kernel
theorem de_P_init_60 : decode bc_P_init 60 = .ok (.aload_n 0, 1) := by decide +kernel
theorem de_P_init_61 : decode bc_P_init 61 = .ok (.iconst 0, 1) := by decide +kernel
theorem de_P_init_62 : decode bc_P_init 62 = .ok (.putfield 40, 3) := by decide +kernel
theorem de_P_init_65 : decode bc_P_init 65 = .ok (.aload_n 0, 1) := by decide +kernel
theorem de_P_init_66 : decode bc_P_init 66 = .ok (.iconst 0, 1) := by decide +kernel
theorem de_P_init_67 : decode bc_P_init 67 = .ok (.putfield 43, 3) := by decide +kernel
theorem de_P_init_70 : decode bc_P_init 70 = .ok (.aload_n 0, 1) := by decide +kernel
theorem de_P_init_71 : decode bc_P_init 71 = .ok (.iconst 0, 1) := by decide +kernel
theorem de_P_init_72 : decode bc_P_init 72 = .ok (.putfield 46, 3) := by decide +kernel
theorem de_P_init_75 : decode bc_P_init 75 = .ok (.aload_n 0, 1) := by decide +kernel
theorem de_P_init_76 : decode bc_P_init 76 = .ok (.lconst 0, 1) := by decide +kernel
theorem de_P_init_77 : decode bc_P_init 77 = .ok (.putfield 50, 3) := by decide +kernel
theorem de_P_init_80 : decode bc_P_init 80 = .ok (.aload_n 0, 1) := by decide +kernel
theorem de_P_init_81 : decode bc_P_init 81 = .ok (.lconst 0, 1) := by decide +kernel
theorem de_P_init_82 : decode bc_P_init 82 = .ok (.putfield 54, 3) := by decide +kernel
theorem de_P_init_85 : decode bc_P_init 85 = .ok (.aload_n 0, 1) := by decide +kernel
theorem de_P_init_86 : decode bc_P_init 86 = .ok (.lconst 0, 1) := by decide +kernel
theorem de_P_init_87 : decode bc_P_init 87 = .ok (.putfield 57, 3) := by decide +kernel
theorem de_P_init_90 : decode bc_P_init 90 = .ok (.aload_n 0, 1) := by decide +kernel
theorem de_P_init_91 : decode bc_P_init 91 = .ok (.iload_n 1, 1) := by decide +kernel
theorem de_P_init_92 : decode bc_P_init 92 = .ok (.putfield 60, 3) := by decide +kernel
theorem de_P_init_95 : decode bc_P_init 95 = .ok (.return_, 1) := by decide +kernel
theorem de_E_init_0 : decode bc_E_init 0 = .ok (.aload_n 0, 1) := by decide +kernel
theorem de_E_init_1 : decode bc_E_init 1 = .ok (.invokespecial 1, 3) := by decide +kernel
theorem de_E_init_4 : decode bc_E_init 4 = .ok (.aload_n 0, 1) := by decide +kernel
theorem de_E_init_5 : decode bc_E_init 5 = .ok (.new 7, 3) := by decide +kernel
theorem de_E_init_8 : decode bc_E_init 8 = .ok (.dup, 1) := by decide +kernel
theorem de_E_init_9 : decode bc_E_init 9 = .ok (.invokespecial 9, 3) := by decide +kernel
theorem de_E_init_12 : decode bc_E_init 12 = .ok (.putfield 10, 3) := by decide +kernel
theorem de_E_init_15 : decode bc_E_init 15 = .ok (.aload_n 0, 1) := by decide +kernel
theorem de_E_init_16 : decode bc_E_init 16 = .ok (.iconst 1, 1) := by decide +kernel
theorem de_E_init_17 : decode bc_E_init 17 = .ok (.putfield 16, 3) := by decide +kernel
theorem de_E_init_20 : decode bc_E_init 20 = .ok (.aload_n 0, 1) := by decide +kernel
theorem de_E_init_21 : decode bc_E_init 21 = .ok (.iconst 0, 1) := by decide +kernel
theorem de_E_init_22 : decode bc_E_init 22 = .ok (.putfield 20, 3) := by decide +kernel
theorem de_E_init_25 : decode bc_E_init 25 = .ok (.aload_n 0, 1) := by decide +kernel
theorem de_E_init_26 : decode bc_E_init 26 = .ok (.iconst 0, 1) := by decide +kernel
theorem de_E_init_27 : decode bc_E_init 27 = .ok (.putfield 23, 3) := by decide +kernel
theorem de_E_init_30 : decode bc_E_init 30 = .ok (.aload_n 0, 1) := by decide +kernel
theorem de_E_init_31 : decode bc_E_init 31 = .ok (.lconst 0, 1) := by decide +kernel
theorem de_E_init_32 : decode bc_E_init 32 = .ok (.putfield 27, 3) := by decide +kernel
theorem de_E_init_35 : decode bc_E_init 35 = .ok (.aload_n 0, 1) := by decide +kernel
theorem de_E_init_36 : decode bc_E_init 36 = .ok (.lconst 0, 1) := by decide +kernel
theorem de_E_init_37 : decode bc_E_init 37 = .ok (.putfield 31, 3) := by decide +kernel
theorem de_E_init_40 : decode bc_E_init 40 = .ok (.return_, 1) := by decide +kernel
theorem de_T_init_0 : decode bc_T_init 0 = .ok (.aload_n 0, 1) := by decide +kernel
theorem de_T_init_1 : decode bc_T_init 1 = .ok (.invokespecial 3, 3) := by decide +kernel
theorem de_T_init_4 : decode bc_T_init 4 = .ok (.aload_n 0, 1) := by decide +kernel
theorem de_T_init_5 : decode bc_T_init 5 = .ok (.sipush 1000, 3) := by decide +kernel
theorem de_T_init_8 : decode bc_T_init 8 = .ok (.putfield 9, 3) := by decide +kernel
theorem de_T_init_11 : decode bc_T_init 11 = .ok (.aload_n 0, 1) := by decide +kernel
theorem de_T_init_12 : decode bc_T_init 12 = .ok (.iconst 0, 1) := by decide +kernel
theorem de_T_init_13 : decode bc_T_init 13 = .ok (.putfield 15, 3) := by decide +kernel
theorem de_T_init_16 : decode bc_T_init 16 = .ok (.return_, 1) := by decide +kernel
theorem de_K_init_0 : decode bc_K_init 0 = .ok (.aload_n 0, 1) := by decide +kernel
theorem de_K_init_1 : decode bc_K_init 1 = .ok (.invokespecial 3, 3) := by decide +kernel
theorem de_K_init_4 : decode bc_K_init 4 = .ok (.aload_n 0, 1) := by decide +kernel
theorem de_K_init_5 : decode bc_K_init 5 = .ok (.bipush 12, 2) := by decide +kernel
theorem de_K_init_7 : decode bc_K_init 7 = .ok (.anewarray 9, 3) := by decide +kernel
theorem de_K_init_10 : decode bc_K_init 10 = .ok (.putfield 11, 3) := by decide +kernel
theorem de_K_init_13 : decode bc_K_init 13 = .ok (.aload_n 0, 1) := by decide +kernel
theorem de_K_init_14 : decode bc_K_init 14 = .ok (.iconst 4, 1) := by decide +kernel
theorem de_K_init_15 : decode bc_K_init 15 = .ok (.anewarray 15, 3) := by decide +kernel
theorem de_K_init_18 : decode bc_K_init 18 = .ok (.putfield 17, 3) := by decide +kernel
theorem de_K_init_21 : decode bc_K_init 21 = .ok (.aload_n 0, 1) := by decide +kernel
theorem de_K_init_22 : decode bc_K_init 22 = .ok (.iconst 4, 1) := by decide +kernel
theorem de_K_init_23 : decode bc_K_init 23 = .ok (.anewarray 21, 3) := by decide +kernel
theorem de_K_init_26 : decode bc_K_init 26 = .ok (.putfield 23, 3) := by decide +kernel
theorem de_K_init_29 : decode bc_K_init 29 = .ok (.aload_n 0, 1) := by decide +kernel
theorem de_K_init_30 : decode bc_K_init 30 = .ok (.new 27, 3) := by decide +kernel
theorem de_K_init_33 : decode bc_K_init 33 = .ok (.dup, 1) := by decide +kernel
theorem de_K_init_34 : decode bc_K_init 34 = .ok (.invokespecial 29, 3) := by decide +kernel
theorem de_K_init_37 : decode bc_K_init 37 = .ok (.putfield 30, 3) := by decide +kernel
theorem de_K_init_40 : decode bc_K_init 40 = .ok (.aload_n 0, 1) := by decide +kernel
theorem de_K_init_41 : decode bc_K_init 41 = .ok (.new 34, 3) := by decide +kernel
theorem de_K_init_44 : decode bc_K_init 44 = .ok (.dup, 1) := by decide +kernel
theorem de_K_init_45 : decode bc_K_init 45 = .ok (.invokespecial 36, 3) := by decide +kernel
theorem de_K_init_48 : decode bc_K_init 48 = .ok (.putfield 37, 3) := by decide +kernel
theorem de_K_init_51 : decode bc_K_init 51 = .ok (.aload_n 0, 1) := by decide +kernel
theorem de_K_init_52 : decode bc_K_init 52 = .ok (.bipush 12, 2) := by decide +kernel
theorem de_K_init_54 : decode bc_K_init 54 = .ok (.newarray .int, 2) := by decide +kernel
theorem de_K_init_56 : decode bc_K_init 56 = .ok (.putfield 41, 3) := by decide +kernel
theorem de_K_init_59 : decode bc_K_init 59 = .ok (.aload_n 0, 1) := by decide +kernel
theorem de_K_init_60 : decode bc_K_init 60 = .ok (.iconst 0, 1) := by decide +kernel
theorem de_K_init_61 : decode bc_K_init 61 = .ok (.putfield 45, 3) := by decide +kernel
theorem de_K_init_64 : decode bc_K_init 64 = .ok (.aload_n 0, 1) := by decide +kernel
theorem de_K_init_65 : decode bc_K_init 65 = .ok (.lconst 0, 1) := by decide +kernel
theorem de_K_init_66 : decode bc_K_init 66 = .ok (.putfield 49, 3) := by decide +kernel
theorem de_K_init_69 : decode bc_K_init 69 = .ok (.aload_n 0, 1) := by decide +kernel
theorem de_K_init_70 : decode bc_K_init 70 = .ok (.lconst 0, 1) := by decide +kernel
theorem de_K_init_71 : decode bc_K_init 71 = .ok (.putfield 53, 3) := by decide +kernel
theorem de_K_init_74 : decode bc_K_init 74 = .ok (.iconst 0, 1) := by decide +kernel
theorem de_K_init_75 : decode bc_K_init 75 = .ok (.istore_n 1, 1) := by decide +kernel
theorem de_K_init_76 : decode bc_K_init 76 = .ok (.iload_n 1, 1) := by decide +kernel
theorem de_K_init_77 : decode bc_K_init 77 = .ok (.bipush 12, 2) := by decide +kernel
theorem de_K_init_79 : decode bc_K_init 79 = .ok (.if_icmp .ge 23, 3) := by decide +kernel
theorem de_K_init_82 : decode bc_K_init 82 = .ok (.aload_n 0, 1) := by decide +kernel
theorem de_K_init_83 : decode bc_K_init 83 = .ok (.getfield 11, 3) := by decide +kernel
theorem de_K_init_86 : decode bc_K_init 86 = .ok (.iload_n 1, 1) := by decide +kernel
theorem de_K_init_87 : decode bc_K_init 87 = .ok (.new 9, 3) := by decide +kernel
theorem de_K_init_90 : decode bc_K_init 90 = .ok (.dup, 1) := by decide +kernel
theorem de_K_init_91 : decode bc_K_init 91 = .ok (.iload_n 1, 1) := by decide +kernel
theorem de_K_init_92 : decode bc_K_init 92 = .ok (.invokespecial 56, 3) := by decide +kernel
theorem de_K_init_95 : decode bc_K_init 95 = .ok (.aastore, 1) := by decide +kernel
theorem de_K_init_96 : decode bc_K_init 96 = .ok (.iinc 1 1, 3) := by decide +kernel
theorem de_K_init_99 : decode bc_K_init 99 = .ok (.goto (-23), 3) := by decide +kernel
theorem de_K_init_102 : decode bc_K_init 102 = .ok (.iconst 0, 1) := by decide +kernel
theorem de_K_init_103 : decode bc_K_init 103 = .ok (.istore_n 1, 1) := by decide +kernel
theorem de_K_init_104 : decode bc_K_init 104 = .ok (.iload_n 1, 1) := by decide +kernel
theorem de_K_init_105 : decode bc_K_init 105 = .ok (.iconst 4, 1) := by decide +kernel
theorem de_K_init_106 : decode bc_K_init 106 = .ok (.if_icmp .ge 22, 3) := by decide +kernel
theorem de_K_init_109 : decode bc_K_init 109 = .ok (.aload_n 0, 1) := by decide +kernel
theorem de_K_init_110 : decode bc_K_init 110 = .ok (.getfield 17, 3) := by decide +kernel
theorem de_K_init_113 : decode bc_K_init 113 = .ok (.iload_n 1, 1) := by decide +kernel
theorem de_K_init_114 : decode bc_K_init 114 = .ok (.new 15, 3) := by decide +kernel
theorem de_K_init_117 : decode bc_K_init 117 = .ok (.dup, 1) := by decide +kernel
theorem de_K_init_118 : decode bc_K_init 118 = .ok (.invokespecial 59, 3) := by decide +kernel
theorem de_K_init_121 : decode bc_K_init 121 = .ok (.aastore, 1) := by decide +kernel
theorem de_K_init_122 : decode bc_K_init 122 = .ok (.iinc 1 1, 3) := by decide +kernel
theorem de_K_init_125 : decode bc_K_init 125 = .ok (.goto (-21), 3) := by decide +kernel
theorem de_K_init_128 : decode bc_K_init 128 = .ok (.iconst 0, 1) := by decide +kernel
theorem de_K_init_129 : decode bc_K_init 129 = .ok (.istore_n 1, 1) := by decide +kernel
theorem de_K_init_130 : decode bc_K_init 130 = .ok (.iload_n 1, 1) := by decide +kernel
theorem de_K_init_131 : decode bc_K_init 131 = .ok (.iconst 4, 1) := by decide +kernel
theorem de_K_init_132 : decode bc_K_init 132 = .ok (.if_icmp .ge 22, 3) := by decide +kernel
theorem de_K_init_135 : decode bc_K_init 135 = .ok (.aload_n 0, 1) := by decide +kernel
theorem de_K_init_136 : decode bc_K_init 136 = .ok (.getfield 23, 3) := by decide +kernel
theorem de_K_init_139 : decode bc_K_init 139 = .ok (.iload_n 1, 1) := by decide +kernel
theorem de_K_init_140 : decode bc_K_init 140 = .ok (.new 21, 3) := by decide +kernel
theorem de_K_init_143 : decode bc_K_init 143 = .ok (.dup, 1) := by decide +kernel
theorem de_K_init_144 : decode bc_K_init 144 = .ok (.invokespecial 60, 3) := by decide +kernel
theorem de_K_init_147 : decode bc_K_init 147 = .ok (.aastore, 1) := by decide +kernel
theorem de_K_init_148 : decode bc_K_init 148 = .ok (.iinc 1 1, 3) := by decide +kernel
theorem de_K_init_151 : decode bc_K_init 151 = .ok (.goto (-21), 3) := by decide +kernel
theorem de_K_init_154 : decode bc_K_init 154 = .ok (.return_, 1) := by decide +kernel
theorem de_M_init_0 : decode bc_M_init 0 = .ok (.aload_n 0, 1) := by decide +kernel
theorem de_M_init_1 : decode bc_M_init 1 = .ok (.invokespecial 1, 3) := by decide +kernel
theorem de_M_init_4 : decode bc_M_init 4 = .ok (.aload_n 0, 1) := by decide +kernel
theorem de_M_init_5 : decode bc_M_init 5 = .ok (.bipush 12, 2) := by decide +kernel
theorem de_M_init_7 : decode bc_M_init 7 = .ok (.newarray .int, 2) := by decide +kernel
theorem de_M_init_9 : decode bc_M_init 9 = .ok (.putfield 7, 3) := by decide +kernel
theorem de_M_init_12 : decode bc_M_init 12 = .ok (.aload_n 0, 1) := by decide +kernel
theorem de_M_init_13 : decode bc_M_init 13 = .ok (.bipush 12, 2) := by decide +kernel
theorem de_M_init_15 : decode bc_M_init 15 = .ok (.newarray .int, 2) := by decide +kernel
theorem de_M_init_17 : decode bc_M_init 17 = .ok (.putfield 13, 3) := by decide +kernel
theorem de_M_init_20 : decode bc_M_init 20 = .ok (.aload_n 0, 1) := by decide +kernel
theorem de_M_init_21 : decode bc_M_init 21 = .ok (.bipush 12, 2) := by decide +kernel
theorem de_M_init_23 : decode bc_M_init 23 = .ok (.newarray .int, 2) := by decide +kernel
theorem de_M_init_25 : decode bc_M_init 25 = .ok (.putfield 16, 3) := by decide +kernel
theorem de_M_init_28 : decode bc_M_init 28 = .ok (.aload_n 0, 1) := by decide +kernel
theorem de_M_init_29 : decode bc_M_init 29 = .ok (.bipush 12, 2) := by decide +kernel
theorem de_M_init_31 : decode bc_M_init 31 = .ok (.newarray .int, 2) := by decide +kernel
theorem de_M_init_33 : decode bc_M_init 33 = .ok (.putfield 19, 3) := by decide +kernel
theorem de_M_init_36 : decode bc_M_init 36 = .ok (.aload_n 0, 1) := by decide +kernel
theorem de_M_init_37 : decode bc_M_init 37 = .ok (.bipush 12, 2) := by decide +kernel
theorem de_M_init_39 : decode bc_M_init 39 = .ok (.newarray .int, 2) := by decide +kernel
theorem de_M_init_41 : decode bc_M_init 41 = .ok (.putfield 22, 3) := by decide +kernel
theorem de_M_init_44 : decode bc_M_init 44 = .ok (.aload_n 0, 1) := by decide +kernel
theorem de_M_init_45 : decode bc_M_init 45 = .ok (.bipush 12, 2) := by decide +kernel
theorem de_M_init_47 : decode bc_M_init 47 = .ok (.newarray .int, 2) := by decide +kernel
theorem de_M_init_49 : decode bc_M_init 49 = .ok (.putfield 25, 3) := by decide +kernel
theorem de_M_init_52 : decode bc_M_init 52 = .ok (.aload_n 0, 1) := by decide +kernel
theorem de_M_init_53 : decode bc_M_init 53 = .ok (.bipush 12, 2) := by decide +kernel
theorem de_M_init_55 : decode bc_M_init 55 = .ok (.newarray .long, 2) := by decide +kernel
theorem de_M_init_57 : decode bc_M_init 57 = .ok (.putfield 28, 3) := by decide +kernel
theorem de_M_init_60 : decode bc_M_init 60 = .ok (.aload_n 0, 1) := by decide +kernel
theorem de_M_init_61 : decode bc_M_init 61 = .ok (.bipush 12, 2) := by decide +kernel
theorem de_M_init_63 : decode bc_M_init 63 = .ok (.newarray .int, 2) := by decide +kernel
theorem de_M_init_65 : decode bc_M_init 65 = .ok (.putfield 32, 3) := by decide +kernel
theorem de_M_init_68 : decode bc_M_init 68 = .ok (.aload_n 0, 1) := by decide +kernel
theorem de_M_init_69 : decode bc_M_init 69 = .ok (.bipush 12, 2) := by decide +kernel
theorem de_M_init_71 : decode bc_M_init 71 = .ok (.newarray .int, 2) := by decide +kernel
theorem de_M_init_73 : decode bc_M_init 73 = .ok (.putfield 35, 3) := by decide +kernel
theorem de_M_init_76 : decode bc_M_init 76 = .ok (.aload_n 0, 1) := by decide +kernel
theorem de_M_init_77 : decode bc_M_init 77 = .ok (.bipush 12, 2) := by decide +kernel
theorem de_M_init_79 : decode bc_M_init 79 = .ok (.newarray .long, 2) := by decide +kernel
theorem de_M_init_81 : decode bc_M_init 81 = .ok (.putfield 38, 3) := by decide +kernel
theorem de_M_init_84 : decode bc_M_init 84 = .ok (.aload_n 0, 1) := by decide +kernel
theorem de_M_init_85 : decode bc_M_init 85 = .ok (.bipush 120, 2) := by decide +kernel
theorem de_M_init_87 : decode bc_M_init 87 = .ok (.newarray .int, 2) := by decide +kernel
theorem de_M_init_89 : decode bc_M_init 89 = .ok (.putfield 41, 3) := by decide +kernel
theorem de_M_init_92 : decode bc_M_init 92 = .ok (.aload_n 0, 1) := by decide +kernel
theorem de_M_init_93 : decode bc_M_init 93 = .ok (.bipush 120, 2) := by decide +kernel
theorem de_M_init_95 : decode bc_M_init 95 = .ok (.newarray .int, 2) := by decide +kernel
theorem de_M_init_97 : decode bc_M_init 97 = .ok (.putfield 44, 3) := by decide +kernel
theorem de_M_init_100 : decode bc_M_init 100 = .ok (.aload_n 0, 1) := by decide +kernel
theorem de_M_init_101 : decode bc_M_init 101 = .ok (.bipush 120, 2) := by decide +kernel
theorem de_M_init_103 : decode bc_M_init 103 = .ok (.newarray .int, 2) := by decide +kernel
theorem de_M_init_105 : decode bc_M_init 105 = .ok (.putfield 47, 3) := by decide +kernel
theorem de_M_init_108 : decode bc_M_init 108 = .ok (.aload_n 0, 1) := by decide +kernel
theorem de_M_init_109 : decode bc_M_init 109 = .ok (.bipush 48, 2) := by decide +kernel
theorem de_M_init_111 : decode bc_M_init 111 = .ok (.newarray .int, 2) := by decide +kernel
theorem de_M_init_113 : decode bc_M_init 113 = .ok (.putfield 50, 3) := by decide +kernel
theorem de_M_init_116 : decode bc_M_init 116 = .ok (.aload_n 0, 1) := by decide +kernel
theorem de_M_init_117 : decode bc_M_init 117 = .ok (.iconst 4, 1) := by decide +kernel
theorem de_M_init_118 : decode bc_M_init 118 = .ok (.newarray .int, 2) := by decide +kernel
theorem de_M_init_120 : decode bc_M_init 120 = .ok (.putfield 53, 3) := by decide +kernel
theorem de_M_init_123 : decode bc_M_init 123 = .ok (.aload_n 0, 1) := by decide +kernel
theorem de_M_init_124 : decode bc_M_init 124 = .ok (.iconst 4, 1) := by decide +kernel
theorem de_M_init_125 : decode bc_M_init 125 = .ok (.newarray .boolean, 2) := by decide +kernel
theorem de_M_init_127 : decode bc_M_init 127 = .ok (.putfield 56, 3) := by decide +kernel
theorem de_M_init_130 : decode bc_M_init 130 = .ok (.aload_n 0, 1) := by decide +kernel
theorem de_M_init_131 : decode bc_M_init 131 = .ok (.iconst 4, 1) := by decide +kernel
theorem de_M_init_132 : decode bc_M_init 132 = .ok (.newarray .long, 2) := by decide +kernel
theorem de_M_init_134 : decode bc_M_init 134 = .ok (.putfield 60, 3) := by decide +kernel
theorem de_M_init_137 : decode bc_M_init 137 = .ok (.aload_n 0, 1) := by decide +kernel
theorem de_M_init_138 : decode bc_M_init 138 = .ok (.iconst 4, 1) := by decide +kernel
theorem de_M_init_139 : decode bc_M_init 139 = .ok (.newarray .long, 2) := by decide +kernel
theorem de_M_init_141 : decode bc_M_init 141 = .ok (.putfield 63, 3) := by decide +kernel
theorem de_M_init_144 : decode bc_M_init 144 = .ok (.aload_n 0, 1) := by decide +kernel
theorem de_M_init_145 : decode bc_M_init 145 = .ok (.iconst 4, 1) := by decide +kernel
theorem de_M_init_146 : decode bc_M_init 146 = .ok (.newarray .int, 2) := by decide +kernel
theorem de_M_init_148 : decode bc_M_init 148 = .ok (.putfield 66, 3) := by decide +kernel
theorem de_M_init_151 : decode bc_M_init 151 = .ok (.aload_n 0, 1) := by decide +kernel
theorem de_M_init_152 : decode bc_M_init 152 = .ok (.iconst 4, 1) := by decide +kernel
theorem de_M_init_153 : decode bc_M_init 153 = .ok (.newarray .int, 2) := by decide +kernel
theorem de_M_init_155 : decode bc_M_init 155 = .ok (.putfield 69, 3) := by decide +kernel
theorem de_M_init_158 : decode bc_M_init 158 = .ok (.aload_n 0, 1) := by decide +kernel
theorem de_M_init_159 : decode bc_M_init 159 = .ok (.bipush 12, 2) := by decide +kernel
theorem de_M_init_161 : decode bc_M_init 161 = .ok (.newarray .int, 2) := by decide +kernel
theorem de_M_init_163 : decode bc_M_init 163 = .ok (.putfield 72, 3) := by decide +kernel
theorem de_M_init_166 : decode bc_M_init 166 = .ok (.aload_n 0, 1) := by decide +kernel
theorem de_M_init_167 : decode bc_M_init 167 = .ok (.bipush 64, 2) := by decide +kernel
theorem de_M_init_169 : decode bc_M_init 169 = .ok (.newarray .int, 2) := by decide +kernel
theorem de_M_init_171 : decode bc_M_init 171 = .ok (.putfield 75, 3) := by decide +kernel
theorem de_M_init_174 : decode bc_M_init 174 = .ok (.iconst 0, 1) := by decide +kernel
theorem de_M_init_175 : decode bc_M_init 175 = .ok (.istore_n 1, 1) := by decide +kernel
theorem de_M_init_176 : decode bc_M_init 176 = .ok (.iload_n 1, 1) := by decide +kernel
theorem de_M_init_177 : decode bc_M_init 177 = .ok (.iconst 4, 1) := by decide +kernel
theorem de_M_init_178 : decode bc_M_init 178 = .ok (.if_icmp .ge 25, 3) := by decide +kernel
theorem de_M_init_181 : decode bc_M_init 181 = .ok (.aload_n 0, 1) := by decide +kernel
theorem de_M_init_182 : decode bc_M_init 182 = .ok (.getfield 53, 3) := by decide +kernel
theorem de_M_init_185 : decode bc_M_init 185 = .ok (.iload_n 1, 1) := by decide +kernel
theorem de_M_init_186 : decode bc_M_init 186 = .ok (.iconst 1, 1) := by decide +kernel
theorem de_M_init_187 : decode bc_M_init 187 = .ok (.iastore, 1) := by decide +kernel
theorem de_M_init_188 : decode bc_M_init 188 = .ok (.aload_n 0, 1) := by decide +kernel
theorem de_M_init_189 : decode bc_M_init 189 = .ok (.getfield 66, 3) := by decide +kernel
theorem de_M_init_192 : decode bc_M_init 192 = .ok (.iload_n 1, 1) := by decide +kernel
theorem de_M_init_193 : decode bc_M_init 193 = .ok (.sipush 1000, 3) := by decide +kernel
theorem de_M_init_196 : decode bc_M_init 196 = .ok (.iastore, 1) := by decide +kernel
theorem de_M_init_197 : decode bc_M_init 197 = .ok (.iinc 1 1, 3) := by decide +kernel
theorem de_M_init_200 : decode bc_M_init 200 = .ok (.goto (-24), 3) := by decide +kernel
theorem de_M_init_203 : decode bc_M_init 203 = .ok (.return_, 1) := by decide +kernel
theorem de_K_isWithin_0 : decode bc_K_isWithin 0 = .ok (.iload_n 0, 1) := by decide +kernel
theorem de_K_isWithin_1 : decode bc_K_isWithin 1 = .ok (.iload_n 1, 1) := by decide +kernel
theorem de_K_isWithin_2 : decode bc_K_isWithin 2 = .ok (.if_icmp .lt 12, 3) := by decide +kernel
theorem de_K_isWithin_5 : decode bc_K_isWithin 5 = .ok (.iload_n 0, 1) := by decide +kernel
theorem de_K_isWithin_6 : decode bc_K_isWithin 6 = .ok (.iload_n 2, 1) := by decide +kernel
theorem de_K_isWithin_7 : decode bc_K_isWithin 7 = .ok (.if_icmp .gt 7, 3) := by decide +kernel
theorem de_K_isWithin_10 : decode bc_K_isWithin 10 = .ok (.iconst 1, 1) := by decide +kernel
theorem de_K_isWithin_11 : decode bc_K_isWithin 11 = .ok (.goto 4, 3) := by decide +kernel
theorem de_K_isWithin_14 : decode bc_K_isWithin 14 = .ok (.iconst 0, 1) := by decide +kernel
theorem de_K_isWithin_15 : decode bc_K_isWithin 15 = .ok (.ireturn, 1) := by decide +kernel
theorem de_K_process_0 : decode bc_K_process 0 = .ok (.aload_n 0, 1) := by decide +kernel
theorem de_K_process_1 : decode bc_K_process 1 = .ok (.getfield 45, 3) := by decide +kernel
theorem de_K_process_4 : decode bc_K_process 4 = .ok (.bipush 12, 2) := by decide +kernel
theorem de_K_process_6 : decode bc_K_process 6 = .ok (.if_icmp .ge 33, 3) := by decide +kernel
theorem de_K_process_9 : decode bc_K_process 9 = .ok (.iload_n 1, 1) := by decide +kernel
theorem de_K_process_10 : decode bc_K_process 10 = .ok (.bipush (-4), 2) := by decide +kernel
theorem de_K_process_12 : decode bc_K_process 12 = .ok (.iconst 4, 1) := by decide +kernel
theorem de_K_process_13 : decode bc_K_process 13 = .ok (.invokestatic 61, 3) := by decide +kernel
theorem de_K_process_16 : decode bc_K_process 16 = .ok (.ifCond .eq 23, 3) := by decide +kernel
theorem de_K_process_19 : decode bc_K_process 19 = .ok (.iload_n 2, 1) := by decide +kernel
theorem de_K_process_20 : decode bc_K_process 20 = .ok (.iconst 1, 1) := by decide +kernel
theorem de_K_process_21 : decode bc_K_process 21 = .ok (.bipush 9, 2) := by decide +kernel
theorem de_K_process_23 : decode bc_K_process 23 = .ok (.invokestatic 61, 3) := by decide +kernel
theorem de_K_process_26 : decode bc_K_process 26 = .ok (.ifCond .eq 13, 3) := by decide +kernel
theorem de_K_process_29 : decode bc_K_process 29 = .ok (.iload_n 3, 1) := by decide +kernel
theorem de_K_process_30 : decode bc_K_process 30 = .ok (.iconst 0, 1) := by decide +kernel
theorem de_K_process_31 : decode bc_K_process 31 = .ok (.bipush 10, 2) := by decide +kernel
theorem de_K_process_33 : decode bc_K_process 33 = .ok (.invokestatic 61, 3) := by decide +kernel
theorem de_K_process_36 : decode bc_K_process 36 = .ok (.ifCond .ne 5, 3) := by decide +kernel
theorem de_K_process_39 : decode bc_K_process 39 = .ok (.iconst (-1), 1) := by decide +kernel
theorem de_K_process_40 : decode bc_K_process 40 = .ok (.ireturn, 1) := by decide +kernel
theorem de_K_process_41 : decode bc_K_process 41 = .ok (.aload_n 0, 1) := by decide +kernel
theorem de_K_process_42 : decode bc_K_process 42 = .ok (.getfield 11, 3) := by decide +kernel
theorem de_K_process_45 : decode bc_K_process 45 = .ok (.aload_n 0, 1) := by decide +kernel
theorem de_K_process_46 : decode bc_K_process 46 = .ok (.getfield 45, 3) := by decide +kernel
theorem de_K_process_49 : decode bc_K_process 49 = .ok (.aaload, 1) := by decide +kernel
theorem de_K_process_50 : decode bc_K_process 50 = .ok (.astore 4, 2) := by decide +kernel
theorem de_K_process_52 : decode bc_K_process 52 = .ok (.aload 4, 2) := by decide +kernel
theorem de_K_process_54 : decode bc_K_process 54 = .ok (.iload_n 1, 1) := by decide +kernel
theorem de_K_process_55 : decode bc_K_process 55 = .ok (.putfield 65, 3) := by decide +kernel
theorem de_K_process_58 : decode bc_K_process 58 = .ok (.aload 4, 2) := by decide +kernel
theorem de_K_process_60 : decode bc_K_process 60 = .ok (.iload_n 2, 1) := by decide +kernel
theorem de_K_process_61 : decode bc_K_process 61 = .ok (.putfield 68, 3) := by decide +kernel
theorem de_K_process_64 : decode bc_K_process 64 = .ok (.aload 4, 2) := by decide +kernel
theorem de_K_process_66 : decode bc_K_process 66 = .ok (.iload_n 3, 1) := by decide +kernel
theorem de_K_process_67 : decode bc_K_process 67 = .ok (.putfield 71, 3) := by decide +kernel
theorem de_K_process_70 : decode bc_K_process 70 = .ok (.aload_n 0, 1) := by decide +kernel
theorem de_K_process_71 : decode bc_K_process 71 = .ok (.dup, 1) := by decide +kernel
theorem de_K_process_72 : decode bc_K_process 72 = .ok (.getfield 45, 3) := by decide +kernel
theorem de_K_process_75 : decode bc_K_process 75 = .ok (.iconst 1, 1) := by decide +kernel
theorem de_K_process_76 : decode bc_K_process 76 = .ok (.iadd, 1) := by decide +kernel
theorem de_K_process_77 : decode bc_K_process 77 = .ok (.putfield 45, 3) := by decide +kernel
theorem de_K_process_80 : decode bc_K_process 80 = .ok (.aload 4, 2) := by decide +kernel
theorem de_K_process_82 : decode bc_K_process 82 = .ok (.getfield 74, 3) := by decide +kernel
theorem de_K_process_85 : decode bc_K_process 85 = .ok (.ireturn, 1) := by decide +kernel
theorem de_K_isProcess_0 : decode bc_K_isProcess 0 = .ok (.iload_n 1, 1) := by decide +kernel
theorem de_K_isProcess_1 : decode bc_K_isProcess 1 = .ok (.ifCond .lt 15, 3) := by decide +kernel
theorem de_K_isProcess_4 : decode bc_K_isProcess 4 = .ok (.iload_n 1, 1) := by decide +kernel
theorem de_K_isProcess_5 : decode bc_K_isProcess 5 = .ok (.aload_n 0, 1) := by decide +kernel
theorem de_K_isProcess_6 : decode bc_K_isProcess 6 = .ok (.getfield 45, 3) := by decide +kernel
theorem de_K_isProcess_9 : decode bc_K_isProcess 9 = .ok (.if_icmp .ge 7, 3) := by decide +kernel
theorem de_K_isProcess_12 : decode bc_K_isProcess 12 = .ok (.iconst 1, 1) := by decide +kernel
theorem de_K_isProcess_13 : decode bc_K_isProcess 13 = .ok (.goto 4, 3) := by decide +kernel
theorem de_K_isProcess_16 : decode bc_K_isProcess 16 = .ok (.iconst 0, 1) := by decide +kernel
theorem de_K_isProcess_17 : decode bc_K_isProcess 17 = .ok (.ireturn, 1) := by decide +kernel
theorem de_K_isResource_0 : decode bc_K_isResource 0 = .ok (.iload_n 0, 1) := by decide +kernel
theorem de_K_isResource_1 : decode bc_K_isResource 1 = .ok (.iconst 0, 1) := by decide +kernel
theorem de_K_isResource_2 : decode bc_K_isResource 2 = .ok (.iconst 3, 1) := by decide +kernel
theorem de_K_isResource_3 : decode bc_K_isResource 3 = .ok (.invokestatic 61, 3) := by decide +kernel
theorem de_K_isResource_6 : decode bc_K_isResource 6 = .ok (.ireturn, 1) := by decide +kernel
theorem de_K_isTank_0 : decode bc_K_isTank 0 = .ok (.iload_n 0, 1) := by decide +kernel
theorem de_K_isTank_1 : decode bc_K_isTank 1 = .ok (.iconst 0, 1) := by decide +kernel
theorem de_K_isTank_2 : decode bc_K_isTank 2 = .ok (.iconst 3, 1) := by decide +kernel
theorem de_K_isTank_3 : decode bc_K_isTank 3 = .ok (.invokestatic 61, 3) := by decide +kernel
theorem de_K_isTank_6 : decode bc_K_isTank 6 = .ok (.ireturn, 1) := by decide +kernel
theorem de_K_isInstruction_0 : decode bc_K_isInstruction 0 = .ok (.iload_n 0, 1) := by decide +kernel
theorem de_K_isInstruction_1 : decode bc_K_isInstruction 1 = .ok (.tableswitch 120 0 9 #[55, 63, 65, 65, 88, 88, 112, 112, 112, 112], 55) := by decide +kernel
theorem de_K_isInstruction_56 : decode bc_K_isInstruction 56 = .ok (.iload_n 1, 1) := by decide +kernel
theorem de_K_isInstruction_57 : decode bc_K_isInstruction 57 = .ok (.iconst 0, 1) := by decide +kernel
theorem de_K_isInstruction_58 : decode bc_K_isInstruction 58 = .ok (.ldc 117, 2) := by decide +kernel
theorem de_K_isInstruction_60 : decode bc_K_isInstruction 60 = .ok (.invokestatic 61, 3) := by decide +kernel
theorem de_K_isInstruction_63 : decode bc_K_isInstruction 63 = .ok (.ireturn, 1) := by decide +kernel
theorem de_K_isInstruction_64 : decode bc_K_isInstruction 64 = .ok (.iconst 1, 1) := by decide +kernel
theorem de_K_isInstruction_65 : decode bc_K_isInstruction 65 = .ok (.ireturn, 1) := by decide +kernel
theorem de_K_isInstruction_66 : decode bc_K_isInstruction 66 = .ok (.iload_n 1, 1) := by decide +kernel
theorem de_K_isInstruction_67 : decode bc_K_isInstruction 67 = .ok (.invokestatic 94, 3) := by decide +kernel
theorem de_K_isInstruction_70 : decode bc_K_isInstruction 70 = .ok (.ifCond .eq 17, 3) := by decide +kernel
theorem de_K_isInstruction_73 : decode bc_K_isInstruction 73 = .ok (.iload_n 2, 1) := by decide +kernel
theorem de_K_isInstruction_74 : decode bc_K_isInstruction 74 = .ok (.iconst 1, 1) := by decide +kernel
theorem de_K_isInstruction_75 : decode bc_K_isInstruction 75 = .ok (.bipush 9, 2) := by decide +kernel
theorem de_K_isInstruction_77 : decode bc_K_isInstruction 77 = .ok (.invokestatic 61, 3) := by decide +kernel
theorem de_K_isInstruction_80 : decode bc_K_isInstruction 80 = .ok (.ifCond .eq 7, 3) := by decide +kernel
theorem de_K_isInstruction_83 : decode bc_K_isInstruction 83 = .ok (.iconst 1, 1) := by decide +kernel
theorem de_K_isInstruction_84 : decode bc_K_isInstruction 84 = .ok (.goto 4, 3) := by decide +kernel
theorem de_K_isInstruction_87 : decode bc_K_isInstruction 87 = .ok (.iconst 0, 1) := by decide +kernel
theorem de_K_isInstruction_88 : decode bc_K_isInstruction 88 = .ok (.ireturn, 1) := by decide +kernel
theorem de_K_isInstruction_89 : decode bc_K_isInstruction 89 = .ok (.iload_n 1, 1) := by decide +kernel
theorem de_K_isInstruction_90 : decode bc_K_isInstruction 90 = .ok (.invokestatic 110, 3) := by decide +kernel
theorem de_K_isInstruction_93 : decode bc_K_isInstruction 93 = .ok (.ifCond .eq 18, 3) := by decide +kernel
theorem de_K_isInstruction_96 : decode bc_K_isInstruction 96 = .ok (.iload_n 2, 1) := by decide +kernel
theorem de_K_isInstruction_97 : decode bc_K_isInstruction 97 = .ok (.iconst 1, 1) := by decide +kernel
theorem de_K_isInstruction_98 : decode bc_K_isInstruction 98 = .ok (.sipush 1000, 3) := by decide +kernel
theorem de_K_isInstruction_101 : decode bc_K_isInstruction 101 = .ok (.invokestatic 61, 3) := by decide +kernel
theorem de_K_isInstruction_104 : decode bc_K_isInstruction 104 = .ok (.ifCond .eq 7, 3) := by decide +kernel
theorem de_K_isInstruction_107 : decode bc_K_isInstruction 107 = .ok (.iconst 1, 1) := by decide +kernel
theorem de_K_isInstruction_108 : decode bc_K_isInstruction 108 = .ok (.goto 4, 3) := by decide +kernel
theorem de_K_isInstruction_111 : decode bc_K_isInstruction 111 = .ok (.iconst 0, 1) := by decide +kernel
theorem de_K_isInstruction_112 : decode bc_K_isInstruction 112 = .ok (.ireturn, 1) := by decide +kernel
theorem de_K_isInstruction_113 : decode bc_K_isInstruction 113 = .ok (.iload_n 1, 1) := by decide +kernel
theorem de_K_isInstruction_114 : decode bc_K_isInstruction 114 = .ok (.iconst 0, 1) := by decide +kernel
theorem de_K_isInstruction_115 : decode bc_K_isInstruction 115 = .ok (.bipush 11, 2) := by decide +kernel
theorem de_K_isInstruction_117 : decode bc_K_isInstruction 117 = .ok (.invokestatic 61, 3) := by decide +kernel
theorem de_K_isInstruction_120 : decode bc_K_isInstruction 120 = .ok (.ireturn, 1) := by decide +kernel
theorem de_K_isInstruction_121 : decode bc_K_isInstruction 121 = .ok (.iconst 0, 1) := by decide +kernel
theorem de_K_isInstruction_122 : decode bc_K_isInstruction 122 = .ok (.ireturn, 1) := by decide +kernel
theorem de_P_append_0 : decode bc_P_append 0 = .ok (.aload_n 0, 1) := by decide +kernel
theorem de_P_append_1 : decode bc_P_append 1 = .ok (.getfield 9, 3) := by decide +kernel
theorem de_P_append_4 : decode bc_P_append 4 = .ok (.aload_n 0, 1) := by decide +kernel
theorem de_P_append_5 : decode bc_P_append 5 = .ok (.getfield 24, 3) := by decide +kernel
theorem de_P_append_8 : decode bc_P_append 8 = .ok (.iload_n 1, 1) := by decide +kernel
theorem de_P_append_9 : decode bc_P_append 9 = .ok (.iastore, 1) := by decide +kernel
theorem de_P_append_10 : decode bc_P_append 10 = .ok (.aload_n 0, 1) := by decide +kernel
theorem de_P_append_11 : decode bc_P_append 11 = .ok (.getfield 15, 3) := by decide +kernel
theorem de_P_append_14 : decode bc_P_append 14 = .ok (.aload_n 0, 1) := by decide +kernel
theorem de_P_append_15 : decode bc_P_append 15 = .ok (.getfield 24, 3) := by decide +kernel
theorem de_P_append_18 : decode bc_P_append 18 = .ok (.iload_n 2, 1) := by decide +kernel
theorem de_P_append_19 : decode bc_P_append 19 = .ok (.iastore, 1) := by decide +kernel
theorem de_P_append_20 : decode bc_P_append 20 = .ok (.aload_n 0, 1) := by decide +kernel
theorem de_P_append_21 : decode bc_P_append 21 = .ok (.getfield 18, 3) := by decide +kernel
theorem de_P_append_24 : decode bc_P_append 24 = .ok (.aload_n 0, 1) := by decide +kernel
theorem de_P_append_25 : decode bc_P_append 25 = .ok (.getfield 24, 3) := by decide +kernel
theorem de_P_append_28 : decode bc_P_append 28 = .ok (.iload_n 3, 1) := by decide +kernel
theorem de_P_append_29 : decode bc_P_append 29 = .ok (.iastore, 1) := by decide +kernel
theorem de_P_append_30 : decode bc_P_append 30 = .ok (.aload_n 0, 1) := by decide +kernel
theorem de_P_append_31 : decode bc_P_append 31 = .ok (.dup, 1) := by decide +kernel
theorem de_P_append_32 : decode bc_P_append 32 = .ok (.getfield 24, 3) := by decide +kernel
theorem de_P_append_35 : decode bc_P_append 35 = .ok (.iconst 1, 1) := by decide +kernel
theorem de_P_append_36 : decode bc_P_append 36 = .ok (.iadd, 1) := by decide +kernel
theorem de_P_append_37 : decode bc_P_append 37 = .ok (.putfield 24, 3) := by decide +kernel
theorem de_P_append_40 : decode bc_P_append 40 = .ok (.return_, 1) := by decide +kernel
theorem de_K_instruct_0 : decode bc_K_instruct 0 = .ok (.aload_n 0, 1) := by decide +kernel
theorem de_K_instruct_1 : decode bc_K_instruct 1 = .ok (.iload_n 1, 1) := by decide +kernel
theorem de_K_instruct_2 : decode bc_K_instruct 2 = .ok (.invokevirtual 77, 3) := by decide +kernel
theorem de_K_instruct_5 : decode bc_K_instruct 5 = .ok (.ifCond .eq 13, 3) := by decide +kernel
theorem de_K_instruct_8 : decode bc_K_instruct 8 = .ok (.iload_n 2, 1) := by decide +kernel
theorem de_K_instruct_9 : decode bc_K_instruct 9 = .ok (.iload_n 3, 1) := by decide +kernel
theorem de_K_instruct_10 : decode bc_K_instruct 10 = .ok (.iload 4, 2) := by decide +kernel
theorem de_K_instruct_12 : decode bc_K_instruct 12 = .ok (.invokestatic 81, 3) := by decide +kernel
theorem de_K_instruct_15 : decode bc_K_instruct 15 = .ok (.ifCond .ne 5, 3) := by decide +kernel
theorem de_K_instruct_18 : decode bc_K_instruct 18 = .ok (.iconst 0, 1) := by decide +kernel
theorem de_K_instruct_19 : decode bc_K_instruct 19 = .ok (.ireturn, 1) := by decide +kernel
theorem de_K_instruct_20 : decode bc_K_instruct 20 = .ok (.aload_n 0, 1) := by decide +kernel
theorem de_K_instruct_21 : decode bc_K_instruct 21 = .ok (.getfield 11, 3) := by decide +kernel
theorem de_K_instruct_24 : decode bc_K_instruct 24 = .ok (.iload_n 1, 1) := by decide +kernel
theorem de_K_instruct_25 : decode bc_K_instruct 25 = .ok (.aaload, 1) := by decide +kernel
theorem de_K_instruct_26 : decode bc_K_instruct 26 = .ok (.astore 5, 2) := by decide +kernel
theorem de_K_instruct_28 : decode bc_K_instruct 28 = .ok (.aload 5, 2) := by decide +kernel
theorem de_K_instruct_30 : decode bc_K_instruct 30 = .ok (.getfield 84, 3) := by decide +kernel
theorem de_K_instruct_33 : decode bc_K_instruct 33 = .ok (.ifCond .ne 13, 3) := by decide +kernel
theorem de_K_instruct_36 : decode bc_K_instruct 36 = .ok (.aload 5, 2) := by decide +kernel
theorem de_K_instruct_38 : decode bc_K_instruct 38 = .ok (.getfield 87, 3) := by decide +kernel
theorem de_K_instruct_41 : decode bc_K_instruct 41 = .ok (.bipush 10, 2) := by decide +kernel
theorem de_K_instruct_43 : decode bc_K_instruct 43 = .ok (.if_icmp .lt 5, 3) := by decide +kernel
theorem de_K_instruct_46 : decode bc_K_instruct 46 = .ok (.iconst 0, 1) := by decide +kernel
theorem de_K_instruct_47 : decode bc_K_instruct 47 = .ok (.ireturn, 1) := by decide +kernel
theorem de_K_instruct_48 : decode bc_K_instruct 48 = .ok (.aload 5, 2) := by decide +kernel
theorem de_K_instruct_50 : decode bc_K_instruct 50 = .ok (.iload_n 2, 1) := by decide +kernel
theorem de_K_instruct_51 : decode bc_K_instruct 51 = .ok (.iload_n 3, 1) := by decide +kernel
theorem de_K_instruct_52 : decode bc_K_instruct 52 = .ok (.iload 4, 2) := by decide +kernel
theorem de_K_instruct_54 : decode bc_K_instruct 54 = .ok (.invokevirtual 90, 3) := by decide +kernel
theorem de_K_instruct_57 : decode bc_K_instruct 57 = .ok (.iconst 1, 1) := by decide +kernel
theorem de_K_instruct_58 : decode bc_K_instruct 58 = .ok (.ireturn, 1) := by decide +kernel
theorem de_P_secondOperand_0 : decode bc_P_secondOperand 0 = .ok (.aload_n 0, 1) := by decide +kernel
theorem de_P_secondOperand_1 : decode bc_P_secondOperand 1 = .ok (.getfield 18, 3) := by decide +kernel
theorem de_P_secondOperand_4 : decode bc_P_secondOperand 4 = .ok (.aload_n 0, 1) := by decide +kernel
theorem de_P_secondOperand_5 : decode bc_P_secondOperand 5 = .ok (.getfield 43, 3) := by decide +kernel
theorem de_P_secondOperand_8 : decode bc_P_secondOperand 8 = .ok (.iaload, 1) := by decide +kernel
theorem de_P_secondOperand_9 : decode bc_P_secondOperand 9 = .ok (.ireturn, 1) := by decide +kernel
theorem de_E_unseized_0 : decode bc_E_unseized 0 = .ok (.aload_n 0, 1) := by decide +kernel
theorem de_E_unseized_1 : decode bc_E_unseized 1 = .ok (.getfield 16, 3) := by decide +kernel
theorem de_E_unseized_4 : decode bc_E_unseized 4 = .ok (.aload_n 0, 1) := by decide +kernel
theorem de_E_unseized_5 : decode bc_E_unseized 5 = .ok (.getfield 20, 3) := by decide +kernel
theorem de_E_unseized_8 : decode bc_E_unseized 8 = .ok (.isub, 1) := by decide +kernel
theorem de_E_unseized_9 : decode bc_E_unseized 9 = .ok (.ireturn, 1) := by decide +kernel
theorem de_K_give_0 : decode bc_K_give 0 = .ok (.aload_n 1, 1) := by decide +kernel
theorem de_K_give_1 : decode bc_K_give 1 = .ok (.getfield 176, 3) := by decide +kernel
theorem de_K_give_4 : decode bc_K_give 4 = .ok (.iload_n 2, 1) := by decide +kernel
theorem de_K_give_5 : decode bc_K_give 5 = .ok (.dup2, 1) := by decide +kernel
theorem de_K_give_6 : decode bc_K_give 6 = .ok (.iaload, 1) := by decide +kernel
theorem de_K_give_7 : decode bc_K_give 7 = .ok (.iload_n 3, 1) := by decide +kernel
theorem de_K_give_8 : decode bc_K_give 8 = .ok (.iadd, 1) := by decide +kernel
theorem de_K_give_9 : decode bc_K_give 9 = .ok (.iastore, 1) := by decide +kernel
theorem de_K_give_10 : decode bc_K_give 10 = .ok (.aload_n 0, 1) := by decide +kernel
theorem de_K_give_11 : decode bc_K_give 11 = .ok (.getfield 17, 3) := by decide +kernel
theorem de_K_give_14 : decode bc_K_give 14 = .ok (.iload_n 2, 1) := by decide +kernel
theorem de_K_give_15 : decode bc_K_give 15 = .ok (.aaload, 1) := by decide +kernel
theorem de_K_give_16 : decode bc_K_give 16 = .ok (.dup, 1) := by decide +kernel
theorem de_K_give_17 : decode bc_K_give 17 = .ok (.getfield 97, 3) := by decide +kernel
theorem de_K_give_20 : decode bc_K_give 20 = .ok (.iload_n 3, 1) := by decide +kernel
theorem de_K_give_21 : decode bc_K_give 21 = .ok (.iadd, 1) := by decide +kernel
theorem de_K_give_22 : decode bc_K_give 22 = .ok (.putfield 97, 3) := by decide +kernel
end
section
theorem de_K_give_25 : decode bc_K_give 25 = .ok (.return_, 1) := by decide +kernel
theorem de_L_drop_0 : decode bc_L_drop 0 = .ok (.iconst 0, 1) := by decide +kernel
theorem de_L_drop_1 : decode bc_L_drop 1 = .ok (.istore_n 2, 1) := by decide +kernel
theorem de_L_drop_2 : decode bc_L_drop 2 = .ok (.iconst 0, 1) := by decide +kernel
theorem de_L_drop_3 : decode bc_L_drop 3 = .ok (.istore_n 3, 1) := by decide +kernel
theorem de_L_drop_4 : decode bc_L_drop 4 = .ok (.iload_n 3, 1) := by decide +kernel
theorem de_L_drop_5 : decode bc_L_drop 5 = .ok (.aload_n 0, 1) := by decide +kernel
theorem de_L_drop_6 : decode bc_L_drop 6 = .ok (.getfield 15, 3) := by decide +kernel
theorem de_L_drop_9 : decode bc_L_drop 9 = .ok (.if_icmp .ge 34, 3) := by decide +kernel
theorem de_L_drop_12 : decode bc_L_drop 12 = .ok (.aload_n 0, 1) := by decide +kernel
theorem de_L_drop_13 : decode bc_L_drop 13 = .ok (.getfield 9, 3) := by decide +kernel
theorem de_L_drop_16 : decode bc_L_drop 16 = .ok (.iload_n 3, 1) := by decide +kernel
theorem de_L_drop_17 : decode bc_L_drop 17 = .ok (.iaload, 1) := by decide +kernel
theorem de_L_drop_18 : decode bc_L_drop 18 = .ok (.iload_n 1, 1) := by decide +kernel
theorem de_L_drop_19 : decode bc_L_drop 19 = .ok (.if_icmp .eq 18, 3) := by decide +kernel
theorem de_L_drop_22 : decode bc_L_drop 22 = .ok (.aload_n 0, 1) := by decide +kernel
theorem de_L_drop_23 : decode bc_L_drop 23 = .ok (.getfield 9, 3) := by decide +kernel
theorem de_L_drop_26 : decode bc_L_drop 26 = .ok (.iload_n 2, 1) := by decide +kernel
theorem de_L_drop_27 : decode bc_L_drop 27 = .ok (.aload_n 0, 1) := by decide +kernel
theorem de_L_drop_28 : decode bc_L_drop 28 = .ok (.getfield 9, 3) := by decide +kernel
theorem de_L_drop_31 : decode bc_L_drop 31 = .ok (.iload_n 3, 1) := by decide +kernel
theorem de_L_drop_32 : decode bc_L_drop 32 = .ok (.iaload, 1) := by decide +kernel
theorem de_L_drop_33 : decode bc_L_drop 33 = .ok (.iastore, 1) := by decide +kernel
theorem de_L_drop_34 : decode bc_L_drop 34 = .ok (.iinc 2 1, 3) := by decide +kernel
theorem de_L_drop_37 : decode bc_L_drop 37 = .ok (.iinc 3 1, 3) := by decide +kernel
theorem de_L_drop_40 : decode bc_L_drop 40 = .ok (.goto (-36), 3) := by decide +kernel
theorem de_L_drop_43 : decode bc_L_drop 43 = .ok (.aload_n 0, 1) := by decide +kernel
theorem de_L_drop_44 : decode bc_L_drop 44 = .ok (.iload_n 2, 1) := by decide +kernel
theorem de_L_drop_45 : decode bc_L_drop 45 = .ok (.putfield 15, 3) := by decide +kernel
theorem de_L_drop_48 : decode bc_L_drop 48 = .ok (.return_, 1) := by decide +kernel
theorem de_K_enter_0 : decode bc_K_enter 0 = .ok (.aload_n 1, 1) := by decide +kernel
theorem de_K_enter_1 : decode bc_K_enter 1 = .ok (.iload_n 2, 1) := by decide +kernel
theorem de_K_enter_2 : decode bc_K_enter 2 = .ok (.putfield 84, 3) := by decide +kernel
theorem de_K_enter_5 : decode bc_K_enter 5 = .ok (.aload_n 1, 1) := by decide +kernel
theorem de_K_enter_6 : decode bc_K_enter 6 = .ok (.iconst 1, 1) := by decide +kernel
theorem de_K_enter_7 : decode bc_K_enter 7 = .ok (.putfield 198, 3) := by decide +kernel
theorem de_K_enter_10 : decode bc_K_enter 10 = .ok (.aload_n 1, 1) := by decide +kernel
theorem de_K_enter_11 : decode bc_K_enter 11 = .ok (.aload_n 0, 1) := by decide +kernel
theorem de_K_enter_12 : decode bc_K_enter 12 = .ok (.getfield 49, 3) := by decide +kernel
theorem de_K_enter_15 : decode bc_K_enter 15 = .ok (.iload_n 3, 1) := by decide +kernel
theorem de_K_enter_16 : decode bc_K_enter 16 = .ok (.i2l, 1) := by decide +kernel
theorem de_K_enter_17 : decode bc_K_enter 17 = .ok (.ladd, 1) := by decide +kernel
theorem de_K_enter_18 : decode bc_K_enter 18 = .ok (.putfield 158, 3) := by decide +kernel
theorem de_K_enter_21 : decode bc_K_enter 21 = .ok (.aload_n 1, 1) := by decide +kernel
theorem de_K_enter_22 : decode bc_K_enter 22 = .ok (.aload_n 0, 1) := by decide +kernel
theorem de_K_enter_23 : decode bc_K_enter 23 = .ok (.getfield 53, 3) := by decide +kernel
theorem de_K_enter_26 : decode bc_K_enter 26 = .ok (.putfield 201, 3) := by decide +kernel
theorem de_K_enter_29 : decode bc_K_enter 29 = .ok (.aload_n 0, 1) := by decide +kernel
theorem de_K_enter_30 : decode bc_K_enter 30 = .ok (.dup, 1) := by decide +kernel
theorem de_K_enter_31 : decode bc_K_enter 31 = .ok (.getfield 53, 3) := by decide +kernel
theorem de_K_enter_34 : decode bc_K_enter 34 = .ok (.lconst 1, 1) := by decide +kernel
theorem de_K_enter_35 : decode bc_K_enter 35 = .ok (.ladd, 1) := by decide +kernel
theorem de_K_enter_36 : decode bc_K_enter 36 = .ok (.putfield 53, 3) := by decide +kernel
theorem de_K_enter_39 : decode bc_K_enter 39 = .ok (.return_, 1) := by decide +kernel
theorem de_K_serve_0 : decode bc_K_serve 0 = .ok (.iload_n 1, 1) := by decide +kernel
theorem de_K_serve_1 : decode bc_K_serve 1 = .ok (.iconst (-1), 1) := by decide +kernel
theorem de_K_serve_2 : decode bc_K_serve 2 = .ok (.if_icmp .ne 4, 3) := by decide +kernel
theorem de_K_serve_5 : decode bc_K_serve 5 = .ok (.return_, 1) := by decide +kernel
theorem de_K_serve_6 : decode bc_K_serve 6 = .ok (.aload_n 0, 1) := by decide +kernel
theorem de_K_serve_7 : decode bc_K_serve 7 = .ok (.getfield 17, 3) := by decide +kernel
theorem de_K_serve_10 : decode bc_K_serve 10 = .ok (.iload_n 1, 1) := by decide +kernel
theorem de_K_serve_11 : decode bc_K_serve 11 = .ok (.aaload, 1) := by decide +kernel
theorem de_K_serve_12 : decode bc_K_serve 12 = .ok (.astore_n 2, 1) := by decide +kernel
theorem de_K_serve_13 : decode bc_K_serve 13 = .ok (.aload_n 2, 1) := by decide +kernel
theorem de_K_serve_14 : decode bc_K_serve 14 = .ok (.getfield 185, 3) := by decide +kernel
theorem de_K_serve_17 : decode bc_K_serve 17 = .ok (.getfield 182, 3) := by decide +kernel
theorem de_K_serve_20 : decode bc_K_serve 20 = .ok (.istore_n 3, 1) := by decide +kernel
theorem de_K_serve_21 : decode bc_K_serve 21 = .ok (.iload_n 3, 1) := by decide +kernel
theorem de_K_serve_22 : decode bc_K_serve 22 = .ok (.ifCond .le 89, 3) := by decide +kernel
theorem de_K_serve_25 : decode bc_K_serve 25 = .ok (.aload_n 0, 1) := by decide +kernel
theorem de_K_serve_26 : decode bc_K_serve 26 = .ok (.getfield 11, 3) := by decide +kernel
theorem de_K_serve_29 : decode bc_K_serve 29 = .ok (.aload_n 2, 1) := by decide +kernel
theorem de_K_serve_30 : decode bc_K_serve 30 = .ok (.getfield 185, 3) := by decide +kernel
theorem de_K_serve_33 : decode bc_K_serve 33 = .ok (.getfield 251, 3) := by decide +kernel
theorem de_K_serve_36 : decode bc_K_serve 36 = .ok (.iconst 0, 1) := by decide +kernel
theorem de_K_serve_37 : decode bc_K_serve 37 = .ok (.iaload, 1) := by decide +kernel
theorem de_K_serve_38 : decode bc_K_serve 38 = .ok (.aaload, 1) := by decide +kernel
theorem de_K_serve_39 : decode bc_K_serve 39 = .ok (.astore 4, 2) := by decide +kernel
theorem de_K_serve_41 : decode bc_K_serve 41 = .ok (.aload 4, 2) := by decide +kernel
theorem de_K_serve_43 : decode bc_K_serve 43 = .ok (.invokevirtual 232, 3) := by decide +kernel
theorem de_K_serve_46 : decode bc_K_serve 46 = .ok (.aload_n 2, 1) := by decide +kernel
theorem de_K_serve_47 : decode bc_K_serve 47 = .ok (.invokevirtual 179, 3) := by decide +kernel
theorem de_K_serve_50 : decode bc_K_serve 50 = .ok (.if_icmp .le 4, 3) := by decide +kernel
theorem de_K_serve_53 : decode bc_K_serve 53 = .ok (.return_, 1) := by decide +kernel
theorem de_K_serve_54 : decode bc_K_serve 54 = .ok (.aload_n 0, 1) := by decide +kernel
theorem de_K_serve_55 : decode bc_K_serve 55 = .ok (.aload 4, 2) := by decide +kernel
theorem de_K_serve_57 : decode bc_K_serve 57 = .ok (.iload_n 1, 1) := by decide +kernel
theorem de_K_serve_58 : decode bc_K_serve 58 = .ok (.aload 4, 2) := by decide +kernel
theorem de_K_serve_60 : decode bc_K_serve 60 = .ok (.invokevirtual 232, 3) := by decide +kernel
theorem de_K_serve_63 : decode bc_K_serve 63 = .ok (.invokevirtual 258, 3) := by decide +kernel
theorem de_K_serve_66 : decode bc_K_serve 66 = .ok (.aload_n 2, 1) := by decide +kernel
theorem de_K_serve_67 : decode bc_K_serve 67 = .ok (.dup, 1) := by decide +kernel
theorem de_K_serve_68 : decode bc_K_serve 68 = .ok (.getfield 191, 3) := by decide +kernel
theorem de_K_serve_71 : decode bc_K_serve 71 = .ok (.aload_n 0, 1) := by decide +kernel
theorem de_K_serve_72 : decode bc_K_serve 72 = .ok (.getfield 49, 3) := by decide +kernel
theorem de_K_serve_75 : decode bc_K_serve 75 = .ok (.aload 4, 2) := by decide +kernel
theorem de_K_serve_77 : decode bc_K_serve 77 = .ok (.getfield 273, 3) := by decide +kernel
theorem de_K_serve_80 : decode bc_K_serve 80 = .ok (.lsub, 1) := by decide +kernel
theorem de_K_serve_81 : decode bc_K_serve 81 = .ok (.ladd, 1) := by decide +kernel
theorem de_K_serve_82 : decode bc_K_serve 82 = .ok (.putfield 191, 3) := by decide +kernel
theorem de_K_serve_85 : decode bc_K_serve 85 = .ok (.aload_n 2, 1) := by decide +kernel
theorem de_K_serve_86 : decode bc_K_serve 86 = .ok (.getfield 185, 3) := by decide +kernel
theorem de_K_serve_89 : decode bc_K_serve 89 = .ok (.aload 4, 2) := by decide +kernel
theorem de_K_serve_91 : decode bc_K_serve 91 = .ok (.getfield 74, 3) := by decide +kernel
theorem de_K_serve_94 : decode bc_K_serve 94 = .ok (.invokevirtual 287, 3) := by decide +kernel
theorem de_K_serve_97 : decode bc_K_serve 97 = .ok (.aload_n 0, 1) := by decide +kernel
theorem de_K_serve_98 : decode bc_K_serve 98 = .ok (.aload 4, 2) := by decide +kernel
theorem de_K_serve_100 : decode bc_K_serve 100 = .ok (.iconst 1, 1) := by decide +kernel
theorem de_K_serve_101 : decode bc_K_serve 101 = .ok (.iconst 0, 1) := by decide +kernel
theorem de_K_serve_102 : decode bc_K_serve 102 = .ok (.invokevirtual 118, 3) := by decide +kernel
theorem de_K_serve_105 : decode bc_K_serve 105 = .ok (.iinc 3 (-1), 3) := by decide +kernel
theorem de_K_serve_108 : decode bc_K_serve 108 = .ok (.goto (-87), 3) := by decide +kernel
theorem de_K_serve_111 : decode bc_K_serve 111 = .ok (.return_, 1) := by decide +kernel
theorem de_K_resource_0 : decode bc_K_resource 0 = .ok (.iload_n 1, 1) := by decide +kernel
theorem de_K_resource_1 : decode bc_K_resource 1 = .ok (.invokestatic 94, 3) := by decide +kernel
theorem de_K_resource_4 : decode bc_K_resource 4 = .ok (.ifCond .eq 26, 3) := by decide +kernel
theorem de_K_resource_7 : decode bc_K_resource 7 = .ok (.iload_n 2, 1) := by decide +kernel
theorem de_K_resource_8 : decode bc_K_resource 8 = .ok (.iconst 0, 1) := by decide +kernel
theorem de_K_resource_9 : decode bc_K_resource 9 = .ok (.bipush 9, 2) := by decide +kernel
theorem de_K_resource_11 : decode bc_K_resource 11 = .ok (.invokestatic 61, 3) := by decide +kernel
theorem de_K_resource_14 : decode bc_K_resource 14 = .ok (.ifCond .eq 16, 3) := by decide +kernel
theorem de_K_resource_17 : decode bc_K_resource 17 = .ok (.aload_n 0, 1) := by decide +kernel
theorem de_K_resource_18 : decode bc_K_resource 18 = .ok (.getfield 17, 3) := by decide +kernel
theorem de_K_resource_21 : decode bc_K_resource 21 = .ok (.iload_n 1, 1) := by decide +kernel
theorem de_K_resource_22 : decode bc_K_resource 22 = .ok (.aaload, 1) := by decide +kernel
theorem de_K_resource_23 : decode bc_K_resource 23 = .ok (.getfield 97, 3) := by decide +kernel
theorem de_K_resource_26 : decode bc_K_resource 26 = .ok (.iload_n 2, 1) := by decide +kernel
theorem de_K_resource_27 : decode bc_K_resource 27 = .ok (.if_icmp .le 5, 3) := by decide +kernel
theorem de_K_resource_30 : decode bc_K_resource 30 = .ok (.iconst 0, 1) := by decide +kernel
theorem de_K_resource_31 : decode bc_K_resource 31 = .ok (.ireturn, 1) := by decide +kernel
theorem de_K_resource_32 : decode bc_K_resource 32 = .ok (.aload_n 0, 1) := by decide +kernel
theorem de_K_resource_33 : decode bc_K_resource 33 = .ok (.getfield 17, 3) := by decide +kernel
theorem de_K_resource_36 : decode bc_K_resource 36 = .ok (.iload_n 1, 1) := by decide +kernel
theorem de_K_resource_37 : decode bc_K_resource 37 = .ok (.aaload, 1) := by decide +kernel
theorem de_K_resource_38 : decode bc_K_resource 38 = .ok (.iload_n 2, 1) := by decide +kernel
theorem de_K_resource_39 : decode bc_K_resource 39 = .ok (.putfield 100, 3) := by decide +kernel
theorem de_K_resource_42 : decode bc_K_resource 42 = .ok (.aload_n 0, 1) := by decide +kernel
theorem de_K_resource_43 : decode bc_K_resource 43 = .ok (.getfield 17, 3) := by decide +kernel
theorem de_K_resource_46 : decode bc_K_resource 46 = .ok (.iload_n 1, 1) := by decide +kernel
theorem de_K_resource_47 : decode bc_K_resource 47 = .ok (.aaload, 1) := by decide +kernel
theorem de_K_resource_48 : decode bc_K_resource 48 = .ok (.iload_n 3, 1) := by decide +kernel
theorem de_K_resource_49 : decode bc_K_resource 49 = .ok (.putfield 103, 3) := by decide +kernel
theorem de_K_resource_52 : decode bc_K_resource 52 = .ok (.aload_n 0, 1) := by decide +kernel
theorem de_K_resource_53 : decode bc_K_resource 53 = .ok (.iload_n 1, 1) := by decide +kernel
theorem de_K_resource_54 : decode bc_K_resource 54 = .ok (.invokevirtual 107, 3) := by decide +kernel
theorem de_K_resource_57 : decode bc_K_resource 57 = .ok (.iconst 1, 1) := by decide +kernel
theorem de_K_resource_58 : decode bc_K_resource 58 = .ok (.ireturn, 1) := by decide +kernel
theorem de_K_tank_0 : decode bc_K_tank 0 = .ok (.iload_n 1, 1) := by decide +kernel
theorem de_K_tank_1 : decode bc_K_tank 1 = .ok (.invokestatic 110, 3) := by decide +kernel
theorem de_K_tank_4 : decode bc_K_tank 4 = .ok (.ifCond .eq 23, 3) := by decide +kernel
theorem de_K_tank_7 : decode bc_K_tank 7 = .ok (.iload_n 2, 1) := by decide +kernel
theorem de_K_tank_8 : decode bc_K_tank 8 = .ok (.iconst 0, 1) := by decide +kernel
theorem de_K_tank_9 : decode bc_K_tank 9 = .ok (.sipush 1000, 3) := by decide +kernel
theorem de_K_tank_12 : decode bc_K_tank 12 = .ok (.invokestatic 61, 3) := by decide +kernel
theorem de_K_tank_15 : decode bc_K_tank 15 = .ok (.ifCond .eq 12, 3) := by decide +kernel
theorem de_K_tank_18 : decode bc_K_tank 18 = .ok (.iload_n 3, 1) := by decide +kernel
theorem de_K_tank_19 : decode bc_K_tank 19 = .ok (.iconst 0, 1) := by decide +kernel
theorem de_K_tank_20 : decode bc_K_tank 20 = .ok (.iload_n 2, 1) := by decide +kernel
theorem de_K_tank_21 : decode bc_K_tank 21 = .ok (.invokestatic 61, 3) := by decide +kernel
theorem de_K_tank_24 : decode bc_K_tank 24 = .ok (.ifCond .ne 5, 3) := by decide +kernel
theorem de_K_tank_27 : decode bc_K_tank 27 = .ok (.iconst 0, 1) := by decide +kernel
theorem de_K_tank_28 : decode bc_K_tank 28 = .ok (.ireturn, 1) := by decide +kernel
theorem de_K_tank_29 : decode bc_K_tank 29 = .ok (.aload_n 0, 1) := by decide +kernel
theorem de_K_tank_30 : decode bc_K_tank 30 = .ok (.getfield 23, 3) := by decide +kernel
theorem de_K_tank_33 : decode bc_K_tank 33 = .ok (.iload_n 1, 1) := by decide +kernel
theorem de_K_tank_34 : decode bc_K_tank 34 = .ok (.aaload, 1) := by decide +kernel
theorem de_K_tank_35 : decode bc_K_tank 35 = .ok (.iload_n 2, 1) := by decide +kernel
theorem de_K_tank_36 : decode bc_K_tank 36 = .ok (.putfield 113, 3) := by decide +kernel
theorem de_K_tank_39 : decode bc_K_tank 39 = .ok (.aload_n 0, 1) := by decide +kernel
theorem de_K_tank_40 : decode bc_K_tank 40 = .ok (.getfield 23, 3) := by decide +kernel
theorem de_K_tank_43 : decode bc_K_tank 43 = .ok (.iload_n 1, 1) := by decide +kernel
theorem de_K_tank_44 : decode bc_K_tank 44 = .ok (.aaload, 1) := by decide +kernel
theorem de_K_tank_45 : decode bc_K_tank 45 = .ok (.iload_n 3, 1) := by decide +kernel
theorem de_K_tank_46 : decode bc_K_tank 46 = .ok (.putfield 114, 3) := by decide +kernel
theorem de_K_tank_49 : decode bc_K_tank 49 = .ok (.iconst 1, 1) := by decide +kernel
theorem de_K_tank_50 : decode bc_K_tank 50 = .ok (.ireturn, 1) := by decide +kernel
theorem de_K_activate_0 : decode bc_K_activate 0 = .ok (.aload_n 0, 1) := by decide +kernel
theorem de_K_activate_1 : decode bc_K_activate 1 = .ok (.iload_n 1, 1) := by decide +kernel
theorem de_K_activate_2 : decode bc_K_activate 2 = .ok (.invokevirtual 77, 3) := by decide +kernel
theorem de_K_activate_5 : decode bc_K_activate 5 = .ok (.ifCond .eq 13, 3) := by decide +kernel
theorem de_K_activate_8 : decode bc_K_activate 8 = .ok (.iload_n 2, 1) := by decide +kernel
theorem de_K_activate_9 : decode bc_K_activate 9 = .ok (.iconst 0, 1) := by decide +kernel
theorem de_K_activate_10 : decode bc_K_activate 10 = .ok (.ldc 117, 2) := by decide +kernel
theorem de_K_activate_12 : decode bc_K_activate 12 = .ok (.invokestatic 61, 3) := by decide +kernel
theorem de_K_activate_15 : decode bc_K_activate 15 = .ok (.ifCond .ne 5, 3) := by decide +kernel
theorem de_K_activate_18 : decode bc_K_activate 18 = .ok (.iconst 0, 1) := by decide +kernel
theorem de_K_activate_19 : decode bc_K_activate 19 = .ok (.ireturn, 1) := by decide +kernel
theorem de_K_activate_20 : decode bc_K_activate 20 = .ok (.aload_n 0, 1) := by decide +kernel
theorem de_K_activate_21 : decode bc_K_activate 21 = .ok (.getfield 11, 3) := by decide +kernel
theorem de_K_activate_24 : decode bc_K_activate 24 = .ok (.iload_n 1, 1) := by decide +kernel
theorem de_K_activate_25 : decode bc_K_activate 25 = .ok (.aaload, 1) := by decide +kernel
theorem de_K_activate_26 : decode bc_K_activate 26 = .ok (.astore_n 3, 1) := by decide +kernel
theorem de_K_activate_27 : decode bc_K_activate 27 = .ok (.aload_n 3, 1) := by decide +kernel
theorem de_K_activate_28 : decode bc_K_activate 28 = .ok (.getfield 84, 3) := by decide +kernel
theorem de_K_activate_31 : decode bc_K_activate 31 = .ok (.ifCond .eq 13, 3) := by decide +kernel
theorem de_K_activate_34 : decode bc_K_activate 34 = .ok (.aload_n 3, 1) := by decide +kernel
theorem de_K_activate_35 : decode bc_K_activate 35 = .ok (.getfield 84, 3) := by decide +kernel
theorem de_K_activate_38 : decode bc_K_activate 38 = .ok (.iconst 3, 1) := by decide +kernel
theorem de_K_activate_39 : decode bc_K_activate 39 = .ok (.if_icmp .eq 5, 3) := by decide +kernel
theorem de_K_activate_42 : decode bc_K_activate 42 = .ok (.iconst 0, 1) := by decide +kernel
theorem de_K_activate_43 : decode bc_K_activate 43 = .ok (.ireturn, 1) := by decide +kernel
theorem de_K_activate_44 : decode bc_K_activate 44 = .ok (.aload_n 0, 1) := by decide +kernel
theorem de_K_activate_45 : decode bc_K_activate 45 = .ok (.aload_n 3, 1) := by decide +kernel
theorem de_K_activate_46 : decode bc_K_activate 46 = .ok (.iconst 1, 1) := by decide +kernel
theorem de_K_activate_47 : decode bc_K_activate 47 = .ok (.iload_n 2, 1) := by decide +kernel
theorem de_K_activate_48 : decode bc_K_activate 48 = .ok (.invokevirtual 118, 3) := by decide +kernel
theorem de_K_activate_51 : decode bc_K_activate 51 = .ok (.iconst 1, 1) := by decide +kernel
theorem de_K_activate_52 : decode bc_K_activate 52 = .ok (.ireturn, 1) := by decide +kernel
theorem de_P_isBreakable_0 : decode bc_P_isBreakable 0 = .ok (.aload_n 0, 1) := by decide +kernel
theorem de_P_isBreakable_1 : decode bc_P_isBreakable 1 = .ok (.getfield 37, 3) := by decide +kernel
theorem de_P_isBreakable_4 : decode bc_P_isBreakable 4 = .ok (.iconst 2, 1) := by decide +kernel
theorem de_P_isBreakable_5 : decode bc_P_isBreakable 5 = .ok (.if_icmp .eq 27, 3) := by decide +kernel
theorem de_P_isBreakable_8 : decode bc_P_isBreakable 8 = .ok (.aload_n 0, 1) := by decide +kernel
theorem de_P_isBreakable_9 : decode bc_P_isBreakable 9 = .ok (.getfield 37, 3) := by decide +kernel
theorem de_P_isBreakable_12 : decode bc_P_isBreakable 12 = .ok (.iconst 3, 1) := by decide +kernel
theorem de_P_isBreakable_13 : decode bc_P_isBreakable 13 = .ok (.if_icmp .eq 19, 3) := by decide +kernel
theorem de_P_isBreakable_16 : decode bc_P_isBreakable 16 = .ok (.aload_n 0, 1) := by decide +kernel
theorem de_P_isBreakable_17 : decode bc_P_isBreakable 17 = .ok (.getfield 37, 3) := by decide +kernel
theorem de_P_isBreakable_20 : decode bc_P_isBreakable 20 = .ok (.iconst 4, 1) := by decide +kernel
theorem de_P_isBreakable_21 : decode bc_P_isBreakable 21 = .ok (.if_icmp .eq 11, 3) := by decide +kernel
theorem de_P_isBreakable_24 : decode bc_P_isBreakable 24 = .ok (.aload_n 0, 1) := by decide +kernel
theorem de_P_isBreakable_25 : decode bc_P_isBreakable 25 = .ok (.getfield 37, 3) := by decide +kernel
theorem de_P_isBreakable_28 : decode bc_P_isBreakable 28 = .ok (.iconst 5, 1) := by decide +kernel
theorem de_P_isBreakable_29 : decode bc_P_isBreakable 29 = .ok (.if_icmp .ne 7, 3) := by decide +kernel
theorem de_P_isBreakable_32 : decode bc_P_isBreakable 32 = .ok (.iconst 1, 1) := by decide +kernel
theorem de_P_isBreakable_33 : decode bc_P_isBreakable 33 = .ok (.goto 4, 3) := by decide +kernel
theorem de_P_isBreakable_36 : decode bc_P_isBreakable 36 = .ok (.iconst 0, 1) := by decide +kernel
theorem de_P_isBreakable_37 : decode bc_P_isBreakable 37 = .ok (.ireturn, 1) := by decide +kernel
theorem de_P_firstOperand_0 : decode bc_P_firstOperand 0 = .ok (.aload_n 0, 1) := by decide +kernel
theorem de_P_firstOperand_1 : decode bc_P_firstOperand 1 = .ok (.getfield 15, 3) := by decide +kernel
theorem de_P_firstOperand_4 : decode bc_P_firstOperand 4 = .ok (.aload_n 0, 1) := by decide +kernel
theorem de_P_firstOperand_5 : decode bc_P_firstOperand 5 = .ok (.getfield 43, 3) := by decide +kernel
theorem de_P_firstOperand_8 : decode bc_P_firstOperand 8 = .ok (.iaload, 1) := by decide +kernel
theorem de_P_firstOperand_9 : decode bc_P_firstOperand 9 = .ok (.ireturn, 1) := by decide +kernel
theorem de_K_lineOf_0 : decode bc_K_lineOf 0 = .ok (.aload_n 1, 1) := by decide +kernel
theorem de_K_lineOf_1 : decode bc_K_lineOf 1 = .ok (.getfield 84, 3) := by decide +kernel
theorem de_K_lineOf_4 : decode bc_K_lineOf 4 = .ok (.iconst 4, 1) := by decide +kernel
theorem de_K_lineOf_5 : decode bc_K_lineOf 5 = .ok (.if_icmp .ne 10, 3) := by decide +kernel
theorem de_K_lineOf_8 : decode bc_K_lineOf 8 = .ok (.aload_n 1, 1) := by decide +kernel
theorem de_K_lineOf_9 : decode bc_K_lineOf 9 = .ok (.invokevirtual 220, 3) := by decide +kernel
theorem de_K_lineOf_12 : decode bc_K_lineOf 12 = .ok (.goto 4, 3) := by decide +kernel
theorem de_K_lineOf_15 : decode bc_K_lineOf 15 = .ok (.iconst (-1), 1) := by decide +kernel
theorem de_K_lineOf_16 : decode bc_K_lineOf 16 = .ok (.ireturn, 1) := by decide +kernel
theorem de_K_leave_0 : decode bc_K_leave 0 = .ok (.aload_n 1, 1) := by decide +kernel
theorem de_K_leave_1 : decode bc_K_leave 1 = .ok (.iconst 0, 1) := by decide +kernel
theorem de_K_leave_2 : decode bc_K_leave 2 = .ok (.putfield 198, 3) := by decide +kernel
theorem de_K_leave_5 : decode bc_K_leave 5 = .ok (.aload_n 1, 1) := by decide +kernel
theorem de_K_leave_6 : decode bc_K_leave 6 = .ok (.getfield 84, 3) := by decide +kernel
theorem de_K_leave_9 : decode bc_K_leave 9 = .ok (.iconst 4, 1) := by decide +kernel
theorem de_K_leave_10 : decode bc_K_leave 10 = .ok (.if_icmp .ne 22, 3) := by decide +kernel
theorem de_K_leave_13 : decode bc_K_leave 13 = .ok (.aload_n 0, 1) := by decide +kernel
theorem de_K_leave_14 : decode bc_K_leave 14 = .ok (.getfield 17, 3) := by decide +kernel
theorem de_K_leave_17 : decode bc_K_leave 17 = .ok (.aload_n 1, 1) := by decide +kernel
theorem de_K_leave_18 : decode bc_K_leave 18 = .ok (.invokevirtual 220, 3) := by decide +kernel
theorem de_K_leave_21 : decode bc_K_leave 21 = .ok (.aaload, 1) := by decide +kernel
theorem de_K_leave_22 : decode bc_K_leave 22 = .ok (.getfield 185, 3) := by decide +kernel
theorem de_K_leave_25 : decode bc_K_leave 25 = .ok (.aload_n 1, 1) := by decide +kernel
theorem de_K_leave_26 : decode bc_K_leave 26 = .ok (.getfield 74, 3) := by decide +kernel
theorem de_K_leave_29 : decode bc_K_leave 29 = .ok (.invokevirtual 287, 3) := by decide +kernel
theorem de_K_leave_32 : decode bc_K_leave 32 = .ok (.aload_n 1, 1) := by decide +kernel
theorem de_K_leave_33 : decode bc_K_leave 33 = .ok (.getfield 84, 3) := by decide +kernel
theorem de_K_leave_36 : decode bc_K_leave 36 = .ok (.iconst 5, 1) := by decide +kernel
theorem de_K_leave_37 : decode bc_K_leave 37 = .ok (.if_icmp .ne 14, 3) := by decide +kernel
theorem de_K_leave_40 : decode bc_K_leave 40 = .ok (.aload_n 0, 1) := by decide +kernel
theorem de_K_leave_41 : decode bc_K_leave 41 = .ok (.getfield 30, 3) := by decide +kernel
theorem de_K_leave_44 : decode bc_K_leave 44 = .ok (.aload_n 1, 1) := by decide +kernel
theorem de_K_leave_45 : decode bc_K_leave 45 = .ok (.getfield 74, 3) := by decide +kernel
theorem de_K_leave_48 : decode bc_K_leave 48 = .ok (.invokevirtual 287, 3) := by decide +kernel
theorem de_K_leave_51 : decode bc_K_leave 51 = .ok (.return_, 1) := by decide +kernel
theorem de_K_interrupt_0 : decode bc_K_interrupt 0 = .ok (.aload_n 0, 1) := by decide +kernel
theorem de_K_interrupt_1 : decode bc_K_interrupt 1 = .ok (.iload_n 1, 1) := by decide +kernel
theorem de_K_interrupt_2 : decode bc_K_interrupt 2 = .ok (.invokevirtual 77, 3) := by decide +kernel
theorem de_K_interrupt_5 : decode bc_K_interrupt 5 = .ok (.ifCond .eq 15, 3) := by decide +kernel
theorem de_K_interrupt_8 : decode bc_K_interrupt 8 = .ok (.aload_n 0, 1) := by decide +kernel
theorem de_K_interrupt_9 : decode bc_K_interrupt 9 = .ok (.getfield 11, 3) := by decide +kernel
theorem de_K_interrupt_12 : decode bc_K_interrupt 12 = .ok (.iload_n 1, 1) := by decide +kernel
theorem de_K_interrupt_13 : decode bc_K_interrupt 13 = .ok (.aaload, 1) := by decide +kernel
theorem de_K_interrupt_14 : decode bc_K_interrupt 14 = .ok (.invokevirtual 122, 3) := by decide +kernel
theorem de_K_interrupt_17 : decode bc_K_interrupt 17 = .ok (.ifCond .ne 5, 3) := by decide +kernel
theorem de_K_interrupt_20 : decode bc_K_interrupt 20 = .ok (.iconst 0, 1) := by decide +kernel
theorem de_K_interrupt_21 : decode bc_K_interrupt 21 = .ok (.ireturn, 1) := by decide +kernel
theorem de_K_interrupt_22 : decode bc_K_interrupt 22 = .ok (.aload_n 0, 1) := by decide +kernel
theorem de_K_interrupt_23 : decode bc_K_interrupt 23 = .ok (.getfield 11, 3) := by decide +kernel
theorem de_K_interrupt_26 : decode bc_K_interrupt 26 = .ok (.iload_n 1, 1) := by decide +kernel
theorem de_K_interrupt_27 : decode bc_K_interrupt 27 = .ok (.aaload, 1) := by decide +kernel
theorem de_K_interrupt_28 : decode bc_K_interrupt 28 = .ok (.astore_n 2, 1) := by decide +kernel
theorem de_K_interrupt_29 : decode bc_K_interrupt 29 = .ok (.aload_n 0, 1) := by decide +kernel
theorem de_K_interrupt_30 : decode bc_K_interrupt 30 = .ok (.aload_n 2, 1) := by decide +kernel
theorem de_K_interrupt_31 : decode bc_K_interrupt 31 = .ok (.invokevirtual 126, 3) := by decide +kernel
theorem de_K_interrupt_34 : decode bc_K_interrupt 34 = .ok (.istore_n 3, 1) := by decide +kernel
theorem de_K_interrupt_35 : decode bc_K_interrupt 35 = .ok (.aload_n 0, 1) := by decide +kernel
theorem de_K_interrupt_36 : decode bc_K_interrupt 36 = .ok (.aload_n 2, 1) := by decide +kernel
theorem de_K_interrupt_37 : decode bc_K_interrupt 37 = .ok (.invokevirtual 130, 3) := by decide +kernel
theorem de_K_interrupt_40 : decode bc_K_interrupt 40 = .ok (.aload_n 2, 1) := by decide +kernel
theorem de_K_interrupt_41 : decode bc_K_interrupt 41 = .ok (.aload_n 2, 1) := by decide +kernel
theorem de_K_interrupt_42 : decode bc_K_interrupt 42 = .ok (.getfield 71, 3) := by decide +kernel
theorem de_K_interrupt_45 : decode bc_K_interrupt 45 = .ok (.putfield 134, 3) := by decide +kernel
theorem de_K_interrupt_48 : decode bc_K_interrupt 48 = .ok (.aload_n 0, 1) := by decide +kernel
theorem de_K_interrupt_49 : decode bc_K_interrupt 49 = .ok (.aload_n 2, 1) := by decide +kernel
theorem de_K_interrupt_50 : decode bc_K_interrupt 50 = .ok (.iconst 1, 1) := by decide +kernel
theorem de_K_interrupt_51 : decode bc_K_interrupt 51 = .ok (.iconst 0, 1) := by decide +kernel
theorem de_K_interrupt_52 : decode bc_K_interrupt 52 = .ok (.invokevirtual 118, 3) := by decide +kernel
theorem de_K_interrupt_55 : decode bc_K_interrupt 55 = .ok (.aload_n 0, 1) := by decide +kernel
theorem de_K_interrupt_56 : decode bc_K_interrupt 56 = .ok (.iload_n 3, 1) := by decide +kernel
theorem de_K_interrupt_57 : decode bc_K_interrupt 57 = .ok (.invokevirtual 107, 3) := by decide +kernel
theorem de_K_interrupt_60 : decode bc_K_interrupt 60 = .ok (.iconst 1, 1) := by decide +kernel
theorem de_K_interrupt_61 : decode bc_K_interrupt 61 = .ok (.ireturn, 1) := by decide +kernel
theorem de_P_isOver_0 : decode bc_P_isOver 0 = .ok (.aload_n 0, 1) := by decide +kernel
theorem de_P_isOver_1 : decode bc_P_isOver 1 = .ok (.getfield 37, 3) := by decide +kernel
theorem de_P_isOver_4 : decode bc_P_isOver 4 = .ok (.bipush 6, 2) := by decide +kernel
theorem de_P_isOver_6 : decode bc_P_isOver 6 = .ok (.if_icmp .eq 12, 3) := by decide +kernel
theorem de_P_isOver_9 : decode bc_P_isOver 9 = .ok (.aload_n 0, 1) := by decide +kernel
theorem de_P_isOver_10 : decode bc_P_isOver 10 = .ok (.getfield 37, 3) := by decide +kernel
theorem de_P_isOver_13 : decode bc_P_isOver 13 = .ok (.bipush 7, 2) := by decide +kernel
theorem de_P_isOver_15 : decode bc_P_isOver 15 = .ok (.if_icmp .ne 7, 3) := by decide +kernel
theorem de_P_isOver_18 : decode bc_P_isOver 18 = .ok (.iconst 1, 1) := by decide +kernel
theorem de_P_isOver_19 : decode bc_P_isOver 19 = .ok (.goto 4, 3) := by decide +kernel
theorem de_P_isOver_22 : decode bc_P_isOver 22 = .ok (.iconst 0, 1) := by decide +kernel
theorem de_P_isOver_23 : decode bc_P_isOver 23 = .ok (.ireturn, 1) := by decide +kernel
theorem de_K_takeBack_0 : decode bc_K_takeBack 0 = .ok (.aload_n 1, 1) := by decide +kernel
theorem de_K_takeBack_1 : decode bc_K_takeBack 1 = .ok (.getfield 176, 3) := by decide +kernel
theorem de_K_takeBack_4 : decode bc_K_takeBack 4 = .ok (.iload_n 2, 1) := by decide +kernel
theorem de_K_takeBack_5 : decode bc_K_takeBack 5 = .ok (.dup2, 1) := by decide +kernel
theorem de_K_takeBack_6 : decode bc_K_takeBack 6 = .ok (.iaload, 1) := by decide +kernel
theorem de_K_takeBack_7 : decode bc_K_takeBack 7 = .ok (.iload_n 3, 1) := by decide +kernel
theorem de_K_takeBack_8 : decode bc_K_takeBack 8 = .ok (.isub, 1) := by decide +kernel
theorem de_K_takeBack_9 : decode bc_K_takeBack 9 = .ok (.iastore, 1) := by decide +kernel
theorem de_K_takeBack_10 : decode bc_K_takeBack 10 = .ok (.aload_n 0, 1) := by decide +kernel
theorem de_K_takeBack_11 : decode bc_K_takeBack 11 = .ok (.getfield 17, 3) := by decide +kernel
theorem de_K_takeBack_14 : decode bc_K_takeBack 14 = .ok (.iload_n 2, 1) := by decide +kernel
theorem de_K_takeBack_15 : decode bc_K_takeBack 15 = .ok (.aaload, 1) := by decide +kernel
theorem de_K_takeBack_16 : decode bc_K_takeBack 16 = .ok (.dup, 1) := by decide +kernel
theorem de_K_takeBack_17 : decode bc_K_takeBack 17 = .ok (.getfield 97, 3) := by decide +kernel
theorem de_K_takeBack_20 : decode bc_K_takeBack 20 = .ok (.iload_n 3, 1) := by decide +kernel
theorem de_K_takeBack_21 : decode bc_K_takeBack 21 = .ok (.isub, 1) := by decide +kernel
theorem de_K_takeBack_22 : decode bc_K_takeBack 22 = .ok (.putfield 97, 3) := by decide +kernel
theorem de_K_takeBack_25 : decode bc_K_takeBack 25 = .ok (.return_, 1) := by decide +kernel
theorem de_K_giveBack_0 : decode bc_K_giveBack 0 = .ok (.aload_n 0, 1) := by decide +kernel
theorem de_K_giveBack_1 : decode bc_K_giveBack 1 = .ok (.aload_n 1, 1) := by decide +kernel
theorem de_K_giveBack_2 : decode bc_K_giveBack 2 = .ok (.iload_n 2, 1) := by decide +kernel
theorem de_K_giveBack_3 : decode bc_K_giveBack 3 = .ok (.iload_n 3, 1) := by decide +kernel
theorem de_K_giveBack_4 : decode bc_K_giveBack 4 = .ok (.aload_n 1, 1) := by decide +kernel
theorem de_K_giveBack_5 : decode bc_K_giveBack 5 = .ok (.getfield 176, 3) := by decide +kernel
theorem de_K_giveBack_8 : decode bc_K_giveBack 8 = .ok (.iload_n 2, 1) := by decide +kernel
theorem de_K_giveBack_9 : decode bc_K_giveBack 9 = .ok (.iaload, 1) := by decide +kernel
theorem de_K_giveBack_10 : decode bc_K_giveBack 10 = .ok (.invokestatic 282, 3) := by decide +kernel
theorem de_K_giveBack_13 : decode bc_K_giveBack 13 = .ok (.invokevirtual 279, 3) := by decide +kernel
theorem de_K_giveBack_16 : decode bc_K_giveBack 16 = .ok (.aload_n 0, 1) := by decide +kernel
theorem de_K_giveBack_17 : decode bc_K_giveBack 17 = .ok (.iload_n 2, 1) := by decide +kernel
theorem de_K_giveBack_18 : decode bc_K_giveBack 18 = .ok (.invokevirtual 107, 3) := by decide +kernel
theorem de_K_giveBack_21 : decode bc_K_giveBack 21 = .ok (.return_, 1) := by decide +kernel
theorem de_K_kill_0 : decode bc_K_kill 0 = .ok (.aload_n 0, 1) := by decide +kernel
theorem de_K_kill_1 : decode bc_K_kill 1 = .ok (.iload_n 1, 1) := by decide +kernel
theorem de_K_kill_2 : decode bc_K_kill 2 = .ok (.invokevirtual 77, 3) := by decide +kernel
theorem de_K_kill_5 : decode bc_K_kill 5 = .ok (.ifCond .eq 15, 3) := by decide +kernel
theorem de_K_kill_8 : decode bc_K_kill 8 = .ok (.aload_n 0, 1) := by decide +kernel
theorem de_K_kill_9 : decode bc_K_kill 9 = .ok (.getfield 11, 3) := by decide +kernel
theorem de_K_kill_12 : decode bc_K_kill 12 = .ok (.iload_n 1, 1) := by decide +kernel
theorem de_K_kill_13 : decode bc_K_kill 13 = .ok (.aaload, 1) := by decide +kernel
theorem de_K_kill_14 : decode bc_K_kill 14 = .ok (.invokevirtual 137, 3) := by decide +kernel
theorem de_K_kill_17 : decode bc_K_kill 17 = .ok (.ifCond .eq 5, 3) := by decide +kernel
theorem de_K_kill_20 : decode bc_K_kill 20 = .ok (.iconst 0, 1) := by decide +kernel
theorem de_K_kill_21 : decode bc_K_kill 21 = .ok (.ireturn, 1) := by decide +kernel
theorem de_K_kill_22 : decode bc_K_kill 22 = .ok (.aload_n 0, 1) := by decide +kernel
theorem de_K_kill_23 : decode bc_K_kill 23 = .ok (.getfield 11, 3) := by decide +kernel
theorem de_K_kill_26 : decode bc_K_kill 26 = .ok (.iload_n 1, 1) := by decide +kernel
theorem de_K_kill_27 : decode bc_K_kill 27 = .ok (.aaload, 1) := by decide +kernel
theorem de_K_kill_28 : decode bc_K_kill 28 = .ok (.astore_n 2, 1) := by decide +kernel
theorem de_K_kill_29 : decode bc_K_kill 29 = .ok (.aload_n 0, 1) := by decide +kernel
theorem de_K_kill_30 : decode bc_K_kill 30 = .ok (.aload_n 2, 1) := by decide +kernel
theorem de_K_kill_31 : decode bc_K_kill 31 = .ok (.invokevirtual 126, 3) := by decide +kernel
theorem de_K_kill_34 : decode bc_K_kill 34 = .ok (.istore_n 3, 1) := by decide +kernel
theorem de_K_kill_35 : decode bc_K_kill 35 = .ok (.aload_n 0, 1) := by decide +kernel
theorem de_K_kill_36 : decode bc_K_kill 36 = .ok (.aload_n 2, 1) := by decide +kernel
theorem de_K_kill_37 : decode bc_K_kill 37 = .ok (.invokevirtual 130, 3) := by decide +kernel
theorem de_K_kill_40 : decode bc_K_kill 40 = .ok (.aload_n 2, 1) := by decide +kernel
theorem de_K_kill_41 : decode bc_K_kill 41 = .ok (.bipush 7, 2) := by decide +kernel
theorem de_K_kill_43 : decode bc_K_kill 43 = .ok (.putfield 84, 3) := by decide +kernel
theorem de_K_kill_46 : decode bc_K_kill 46 = .ok (.aload_n 2, 1) := by decide +kernel
theorem de_K_kill_47 : decode bc_K_kill 47 = .ok (.getfield 134, 3) := by decide +kernel
theorem de_K_kill_50 : decode bc_K_kill 50 = .ok (.istore 4, 2) := by decide +kernel
theorem de_K_kill_52 : decode bc_K_kill 52 = .ok (.iload 4, 2) := by decide +kernel
theorem de_K_kill_54 : decode bc_K_kill 54 = .ok (.aload_n 2, 1) := by decide +kernel
theorem de_K_kill_55 : decode bc_K_kill 55 = .ok (.getfield 87, 3) := by decide +kernel
theorem de_K_kill_58 : decode bc_K_kill 58 = .ok (.if_icmp .ge 39, 3) := by decide +kernel
theorem de_K_kill_61 : decode bc_K_kill 61 = .ok (.aload_n 2, 1) := by decide +kernel
theorem de_K_kill_62 : decode bc_K_kill 62 = .ok (.getfield 140, 3) := by decide +kernel
theorem de_K_kill_65 : decode bc_K_kill 65 = .ok (.iload 4, 2) := by decide +kernel
theorem de_K_kill_67 : decode bc_K_kill 67 = .ok (.iaload, 1) := by decide +kernel
theorem de_K_kill_68 : decode bc_K_kill 68 = .ok (.iconst 3, 1) := by decide +kernel
theorem de_K_kill_69 : decode bc_K_kill 69 = .ok (.if_icmp .ne 22, 3) := by decide +kernel
theorem de_K_kill_72 : decode bc_K_kill 72 = .ok (.aload_n 0, 1) := by decide +kernel
theorem de_K_kill_73 : decode bc_K_kill 73 = .ok (.aload_n 2, 1) := by decide +kernel
theorem de_K_kill_74 : decode bc_K_kill 74 = .ok (.aload_n 2, 1) := by decide +kernel
theorem de_K_kill_75 : decode bc_K_kill 75 = .ok (.getfield 143, 3) := by decide +kernel
theorem de_K_kill_78 : decode bc_K_kill 78 = .ok (.iload 4, 2) := by decide +kernel
theorem de_K_kill_80 : decode bc_K_kill 80 = .ok (.iaload, 1) := by decide +kernel
theorem de_K_kill_81 : decode bc_K_kill 81 = .ok (.aload_n 2, 1) := by decide +kernel
theorem de_K_kill_82 : decode bc_K_kill 82 = .ok (.getfield 146, 3) := by decide +kernel
theorem de_K_kill_85 : decode bc_K_kill 85 = .ok (.iload 4, 2) := by decide +kernel
theorem de_K_kill_87 : decode bc_K_kill 87 = .ok (.iaload, 1) := by decide +kernel
theorem de_K_kill_88 : decode bc_K_kill 88 = .ok (.invokevirtual 149, 3) := by decide +kernel
theorem de_K_kill_91 : decode bc_K_kill 91 = .ok (.iinc 4 1, 3) := by decide +kernel
theorem de_K_kill_94 : decode bc_K_kill 94 = .ok (.goto (-42), 3) := by decide +kernel
theorem de_K_kill_97 : decode bc_K_kill 97 = .ok (.aload_n 0, 1) := by decide +kernel
theorem de_K_kill_98 : decode bc_K_kill 98 = .ok (.iload_n 3, 1) := by decide +kernel
theorem de_K_kill_99 : decode bc_K_kill 99 = .ok (.invokevirtual 107, 3) := by decide +kernel
theorem de_K_kill_102 : decode bc_K_kill 102 = .ok (.iconst 1, 1) := by decide +kernel
theorem de_K_kill_103 : decode bc_K_kill 103 = .ok (.ireturn, 1) := by decide +kernel
theorem de_P_isBefore_0 : decode bc_P_isBefore 0 = .ok (.aload_n 0, 1) := by decide +kernel
theorem de_P_isBefore_1 : decode bc_P_isBefore 1 = .ok (.getfield 50, 3) := by decide +kernel
theorem de_P_isBefore_4 : decode bc_P_isBefore 4 = .ok (.aload_n 1, 1) := by decide +kernel
theorem de_P_isBefore_5 : decode bc_P_isBefore 5 = .ok (.getfield 50, 3) := by decide +kernel
theorem de_P_isBefore_8 : decode bc_P_isBefore 8 = .ok (.lcmp, 1) := by decide +kernel
theorem de_P_isBefore_9 : decode bc_P_isBefore 9 = .ok (.ifCond .eq 21, 3) := by decide +kernel
theorem de_P_isBefore_12 : decode bc_P_isBefore 12 = .ok (.aload_n 0, 1) := by decide +kernel
theorem de_P_isBefore_13 : decode bc_P_isBefore 13 = .ok (.getfield 50, 3) := by decide +kernel
theorem de_P_isBefore_16 : decode bc_P_isBefore 16 = .ok (.aload_n 1, 1) := by decide +kernel
theorem de_P_isBefore_17 : decode bc_P_isBefore 17 = .ok (.getfield 50, 3) := by decide +kernel
theorem de_P_isBefore_20 : decode bc_P_isBefore 20 = .ok (.lcmp, 1) := by decide +kernel
theorem de_P_isBefore_21 : decode bc_P_isBefore 21 = .ok (.ifCond .ge 7, 3) := by decide +kernel
theorem de_P_isBefore_24 : decode bc_P_isBefore 24 = .ok (.iconst 1, 1) := by decide +kernel
theorem de_P_isBefore_25 : decode bc_P_isBefore 25 = .ok (.goto 4, 3) := by decide +kernel
theorem de_P_isBefore_28 : decode bc_P_isBefore 28 = .ok (.iconst 0, 1) := by decide +kernel
theorem de_P_isBefore_29 : decode bc_P_isBefore 29 = .ok (.ireturn, 1) := by decide +kernel
theorem de_P_isBefore_30 : decode bc_P_isBefore 30 = .ok (.aload_n 0, 1) := by decide +kernel
theorem de_P_isBefore_31 : decode bc_P_isBefore 31 = .ok (.getfield 28, 3) := by decide +kernel
theorem de_P_isBefore_34 : decode bc_P_isBefore 34 = .ok (.aload_n 1, 1) := by decide +kernel
theorem de_P_isBefore_35 : decode bc_P_isBefore 35 = .ok (.getfield 28, 3) := by decide +kernel
theorem de_P_isBefore_38 : decode bc_P_isBefore 38 = .ok (.if_icmp .eq 20, 3) := by decide +kernel
theorem de_P_isBefore_41 : decode bc_P_isBefore 41 = .ok (.aload_n 0, 1) := by decide +kernel
theorem de_P_isBefore_42 : decode bc_P_isBefore 42 = .ok (.getfield 28, 3) := by decide +kernel
theorem de_P_isBefore_45 : decode bc_P_isBefore 45 = .ok (.aload_n 1, 1) := by decide +kernel
theorem de_P_isBefore_46 : decode bc_P_isBefore 46 = .ok (.getfield 28, 3) := by decide +kernel
theorem de_P_isBefore_49 : decode bc_P_isBefore 49 = .ok (.if_icmp .ge 7, 3) := by decide +kernel
theorem de_P_isBefore_52 : decode bc_P_isBefore 52 = .ok (.iconst 1, 1) := by decide +kernel
theorem de_P_isBefore_53 : decode bc_P_isBefore 53 = .ok (.goto 4, 3) := by decide +kernel
theorem de_P_isBefore_56 : decode bc_P_isBefore 56 = .ok (.iconst 0, 1) := by decide +kernel
theorem de_P_isBefore_57 : decode bc_P_isBefore 57 = .ok (.ireturn, 1) := by decide +kernel
theorem de_P_isBefore_58 : decode bc_P_isBefore 58 = .ok (.aload_n 0, 1) := by decide +kernel
theorem de_P_isBefore_59 : decode bc_P_isBefore 59 = .ok (.getfield 54, 3) := by decide +kernel
theorem de_P_isBefore_62 : decode bc_P_isBefore 62 = .ok (.aload_n 1, 1) := by decide +kernel
theorem de_P_isBefore_63 : decode bc_P_isBefore 63 = .ok (.getfield 54, 3) := by decide +kernel
theorem de_P_isBefore_66 : decode bc_P_isBefore 66 = .ok (.lcmp, 1) := by decide +kernel
theorem de_P_isBefore_67 : decode bc_P_isBefore 67 = .ok (.ifCond .ge 7, 3) := by decide +kernel
theorem de_P_isBefore_70 : decode bc_P_isBefore 70 = .ok (.iconst 1, 1) := by decide +kernel
theorem de_P_isBefore_71 : decode bc_P_isBefore 71 = .ok (.goto 4, 3) := by decide +kernel
theorem de_P_isBefore_74 : decode bc_P_isBefore 74 = .ok (.iconst 0, 1) := by decide +kernel
theorem de_P_isBefore_75 : decode bc_P_isBefore 75 = .ok (.ireturn, 1) := by decide +kernel
theorem de_K_firstEntry_0 : decode bc_K_firstEntry 0 = .ok (.iconst (-1), 1) := by decide +kernel
theorem de_K_firstEntry_1 : decode bc_K_firstEntry 1 = .ok (.istore_n 1, 1) := by decide +kernel
theorem de_K_firstEntry_2 : decode bc_K_firstEntry 2 = .ok (.iconst 0, 1) := by decide +kernel
theorem de_K_firstEntry_3 : decode bc_K_firstEntry 3 = .ok (.istore_n 2, 1) := by decide +kernel
theorem de_K_firstEntry_4 : decode bc_K_firstEntry 4 = .ok (.iload_n 2, 1) := by decide +kernel
theorem de_K_firstEntry_5 : decode bc_K_firstEntry 5 = .ok (.aload_n 0, 1) := by decide +kernel
theorem de_K_firstEntry_6 : decode bc_K_firstEntry 6 = .ok (.getfield 45, 3) := by decide +kernel
theorem de_K_firstEntry_9 : decode bc_K_firstEntry 9 = .ok (.if_icmp .ge 46, 3) := by decide +kernel
theorem de_K_firstEntry_12 : decode bc_K_firstEntry 12 = .ok (.aload_n 0, 1) := by decide +kernel
theorem de_K_firstEntry_13 : decode bc_K_firstEntry 13 = .ok (.getfield 11, 3) := by decide +kernel
theorem de_K_firstEntry_16 : decode bc_K_firstEntry 16 = .ok (.iload_n 2, 1) := by decide +kernel
theorem de_K_firstEntry_17 : decode bc_K_firstEntry 17 = .ok (.aaload, 1) := by decide +kernel
theorem de_K_firstEntry_18 : decode bc_K_firstEntry 18 = .ok (.getfield 198, 3) := by decide +kernel
theorem de_K_firstEntry_21 : decode bc_K_firstEntry 21 = .ok (.ifCond .eq 28, 3) := by decide +kernel
theorem de_K_firstEntry_24 : decode bc_K_firstEntry 24 = .ok (.iload_n 1, 1) := by decide +kernel
theorem de_K_firstEntry_25 : decode bc_K_firstEntry 25 = .ok (.iconst (-1), 1) := by decide +kernel
theorem de_K_firstEntry_26 : decode bc_K_firstEntry 26 = .ok (.if_icmp .eq 21, 3) := by decide +kernel
theorem de_K_firstEntry_29 : decode bc_K_firstEntry 29 = .ok (.aload_n 0, 1) := by decide +kernel
theorem de_K_firstEntry_30 : decode bc_K_firstEntry 30 = .ok (.getfield 11, 3) := by decide +kernel
theorem de_K_firstEntry_33 : decode bc_K_firstEntry 33 = .ok (.iload_n 2, 1) := by decide +kernel
theorem de_K_firstEntry_34 : decode bc_K_firstEntry 34 = .ok (.aaload, 1) := by decide +kernel
theorem de_K_firstEntry_35 : decode bc_K_firstEntry 35 = .ok (.aload_n 0, 1) := by decide +kernel
theorem de_K_firstEntry_36 : decode bc_K_firstEntry 36 = .ok (.getfield 11, 3) := by decide +kernel
theorem de_K_firstEntry_39 : decode bc_K_firstEntry 39 = .ok (.iload_n 1, 1) := by decide +kernel
theorem de_K_firstEntry_40 : decode bc_K_firstEntry 40 = .ok (.aaload, 1) := by decide +kernel
theorem de_K_firstEntry_41 : decode bc_K_firstEntry 41 = .ok (.invokevirtual 204, 3) := by decide +kernel
theorem de_K_firstEntry_44 : decode bc_K_firstEntry 44 = .ok (.ifCond .eq 5, 3) := by decide +kernel
theorem de_K_firstEntry_47 : decode bc_K_firstEntry 47 = .ok (.iload_n 2, 1) := by decide +kernel
theorem de_K_firstEntry_48 : decode bc_K_firstEntry 48 = .ok (.istore_n 1, 1) := by decide +kernel
theorem de_K_firstEntry_49 : decode bc_K_firstEntry 49 = .ok (.iinc 2 1, 3) := by decide +kernel
theorem de_K_firstEntry_52 : decode bc_K_firstEntry 52 = .ok (.goto (-48), 3) := by decide +kernel
theorem de_K_firstEntry_55 : decode bc_K_firstEntry 55 = .ok (.iload_n 1, 1) := by decide +kernel
theorem de_K_firstEntry_56 : decode bc_K_firstEntry 56 = .ok (.ireturn, 1) := by decide +kernel
theorem de_K_moveClock_0 : decode bc_K_moveClock 0 = .ok (.iconst 0, 1) := by decide +kernel
theorem de_K_moveClock_1 : decode bc_K_moveClock 1 = .ok (.istore_n 3, 1) := by decide +kernel
theorem de_K_moveClock_2 : decode bc_K_moveClock 2 = .ok (.iload_n 3, 1) := by decide +kernel
theorem de_K_moveClock_3 : decode bc_K_moveClock 3 = .ok (.iconst 4, 1) := by decide +kernel
theorem de_K_moveClock_4 : decode bc_K_moveClock 4 = .ok (.if_icmp .ge 40, 3) := by decide +kernel
theorem de_K_moveClock_7 : decode bc_K_moveClock 7 = .ok (.aload_n 0, 1) := by decide +kernel
theorem de_K_moveClock_8 : decode bc_K_moveClock 8 = .ok (.getfield 17, 3) := by decide +kernel
theorem de_K_moveClock_11 : decode bc_K_moveClock 11 = .ok (.iload_n 3, 1) := by decide +kernel
theorem de_K_moveClock_12 : decode bc_K_moveClock 12 = .ok (.aaload, 1) := by decide +kernel
theorem de_K_moveClock_13 : decode bc_K_moveClock 13 = .ok (.dup, 1) := by decide +kernel
theorem de_K_moveClock_14 : decode bc_K_moveClock 14 = .ok (.getfield 188, 3) := by decide +kernel
theorem de_K_moveClock_17 : decode bc_K_moveClock 17 = .ok (.aload_n 0, 1) := by decide +kernel
theorem de_K_moveClock_18 : decode bc_K_moveClock 18 = .ok (.getfield 17, 3) := by decide +kernel
theorem de_K_moveClock_21 : decode bc_K_moveClock 21 = .ok (.iload_n 3, 1) := by decide +kernel
theorem de_K_moveClock_22 : decode bc_K_moveClock 22 = .ok (.aaload, 1) := by decide +kernel
theorem de_K_moveClock_23 : decode bc_K_moveClock 23 = .ok (.getfield 97, 3) := by decide +kernel
theorem de_K_moveClock_26 : decode bc_K_moveClock 26 = .ok (.i2l, 1) := by decide +kernel
theorem de_K_moveClock_27 : decode bc_K_moveClock 27 = .ok (.lload_n 1, 1) := by decide +kernel
end
section
theorem de_K_moveClock_28 : decode bc_K_moveClock 28 = .ok (.aload_n 0, 1) := by decide +kernel
theorem de_K_moveClock_29 : decode bc_K_moveClock 29 = .ok (.getfield 49, 3) := by decide +kernel
theorem de_K_moveClock_32 : decode bc_K_moveClock 32 = .ok (.lsub, 1) := by decide +kernel
theorem de_K_moveClock_33 : decode bc_K_moveClock 33 = .ok (.lmul, 1) := by decide +kernel
theorem de_K_moveClock_34 : decode bc_K_moveClock 34 = .ok (.ladd, 1) := by decide +kernel
theorem de_K_moveClock_35 : decode bc_K_moveClock 35 = .ok (.putfield 188, 3) := by decide +kernel
theorem de_K_moveClock_38 : decode bc_K_moveClock 38 = .ok (.iinc 3 1, 3) := by decide +kernel
theorem de_K_moveClock_41 : decode bc_K_moveClock 41 = .ok (.goto (-39), 3) := by decide +kernel
theorem de_K_moveClock_44 : decode bc_K_moveClock 44 = .ok (.aload_n 0, 1) := by decide +kernel
theorem de_K_moveClock_45 : decode bc_K_moveClock 45 = .ok (.lload_n 1, 1) := by decide +kernel
theorem de_K_moveClock_46 : decode bc_K_moveClock 46 = .ok (.putfield 49, 3) := by decide +kernel
theorem de_K_moveClock_49 : decode bc_K_moveClock 49 = .ok (.return_, 1) := by decide +kernel
theorem de_C_add_0 : decode bc_C_add 0 = .ok (.aload_n 0, 1) := by decide +kernel
theorem de_C_add_1 : decode bc_C_add 1 = .ok (.aload_n 0, 1) := by decide +kernel
theorem de_C_add_2 : decode bc_C_add 2 = .ok (.getfield 15, 3) := by decide +kernel
theorem de_C_add_5 : decode bc_C_add 5 = .ok (.iconst 1, 1) := by decide +kernel
theorem de_C_add_6 : decode bc_C_add 6 = .ok (.iadd, 1) := by decide +kernel
theorem de_C_add_7 : decode bc_C_add 7 = .ok (.bipush 64, 2) := by decide +kernel
theorem de_C_add_9 : decode bc_C_add 9 = .ok (.irem, 1) := by decide +kernel
theorem de_C_add_10 : decode bc_C_add 10 = .ok (.putfield 15, 3) := by decide +kernel
theorem de_C_add_13 : decode bc_C_add 13 = .ok (.aload_n 0, 1) := by decide +kernel
theorem de_C_add_14 : decode bc_C_add 14 = .ok (.getfield 9, 3) := by decide +kernel
theorem de_C_add_17 : decode bc_C_add 17 = .ok (.aload_n 0, 1) := by decide +kernel
theorem de_C_add_18 : decode bc_C_add 18 = .ok (.getfield 15, 3) := by decide +kernel
theorem de_C_add_21 : decode bc_C_add 21 = .ok (.iload_n 1, 1) := by decide +kernel
theorem de_C_add_22 : decode bc_C_add 22 = .ok (.iastore, 1) := by decide +kernel
theorem de_C_add_23 : decode bc_C_add 23 = .ok (.aload_n 0, 1) := by decide +kernel
theorem de_C_add_24 : decode bc_C_add 24 = .ok (.aload_n 0, 1) := by decide +kernel
theorem de_C_add_25 : decode bc_C_add 25 = .ok (.getfield 19, 3) := by decide +kernel
theorem de_C_add_28 : decode bc_C_add 28 = .ok (.iconst 1, 1) := by decide +kernel
theorem de_C_add_29 : decode bc_C_add 29 = .ok (.iadd, 1) := by decide +kernel
theorem de_C_add_30 : decode bc_C_add 30 = .ok (.bipush 64, 2) := by decide +kernel
theorem de_C_add_32 : decode bc_C_add 32 = .ok (.invokestatic 22, 3) := by decide +kernel
theorem de_C_add_35 : decode bc_C_add 35 = .ok (.putfield 19, 3) := by decide +kernel
theorem de_C_add_38 : decode bc_C_add 38 = .ok (.return_, 1) := by decide +kernel
theorem de_K_begin_0 : decode bc_K_begin 0 = .ok (.aload_n 1, 1) := by decide +kernel
theorem de_K_begin_1 : decode bc_K_begin 1 = .ok (.iconst 0, 1) := by decide +kernel
theorem de_K_begin_2 : decode bc_K_begin 2 = .ok (.putfield 198, 3) := by decide +kernel
theorem de_K_begin_5 : decode bc_K_begin 5 = .ok (.aload_n 0, 1) := by decide +kernel
theorem de_K_begin_6 : decode bc_K_begin 6 = .ok (.aload_n 1, 1) := by decide +kernel
theorem de_K_begin_7 : decode bc_K_begin 7 = .ok (.getfield 158, 3) := by decide +kernel
theorem de_K_begin_10 : decode bc_K_begin 10 = .ok (.invokevirtual 170, 3) := by decide +kernel
theorem de_K_begin_13 : decode bc_K_begin 13 = .ok (.aload_n 1, 1) := by decide +kernel
theorem de_K_begin_14 : decode bc_K_begin 14 = .ok (.iconst 1, 1) := by decide +kernel
theorem de_K_begin_15 : decode bc_K_begin 15 = .ok (.putfield 84, 3) := by decide +kernel
theorem de_K_begin_18 : decode bc_K_begin 18 = .ok (.aload_n 0, 1) := by decide +kernel
theorem de_K_begin_19 : decode bc_K_begin 19 = .ok (.getfield 37, 3) := by decide +kernel
theorem de_K_begin_22 : decode bc_K_begin 22 = .ok (.aload_n 1, 1) := by decide +kernel
theorem de_K_begin_23 : decode bc_K_begin 23 = .ok (.getfield 74, 3) := by decide +kernel
theorem de_K_begin_26 : decode bc_K_begin 26 = .ok (.bipush 16, 2) := by decide +kernel
theorem de_K_begin_28 : decode bc_K_begin 28 = .ok (.aload_n 1, 1) := by decide +kernel
theorem de_K_begin_29 : decode bc_K_begin 29 = .ok (.getfield 134, 3) := by decide +kernel
theorem de_K_begin_32 : decode bc_K_begin 32 = .ok (.imul, 1) := by decide +kernel
theorem de_K_begin_33 : decode bc_K_begin 33 = .ok (.iadd, 1) := by decide +kernel
theorem de_K_begin_34 : decode bc_K_begin 34 = .ok (.invokevirtual 208, 3) := by decide +kernel
theorem de_K_begin_37 : decode bc_K_begin 37 = .ok (.return_, 1) := by decide +kernel
theorem de_K_countBefore_0 : decode bc_K_countBefore 0 = .ok (.aload_n 0, 1) := by decide +kernel
theorem de_K_countBefore_1 : decode bc_K_countBefore 1 = .ok (.getfield 17, 3) := by decide +kernel
theorem de_K_countBefore_4 : decode bc_K_countBefore 4 = .ok (.iload_n 1, 1) := by decide +kernel
theorem de_K_countBefore_5 : decode bc_K_countBefore 5 = .ok (.aaload, 1) := by decide +kernel
theorem de_K_countBefore_6 : decode bc_K_countBefore 6 = .ok (.getfield 185, 3) := by decide +kernel
theorem de_K_countBefore_9 : decode bc_K_countBefore 9 = .ok (.astore_n 3, 1) := by decide +kernel
theorem de_K_countBefore_10 : decode bc_K_countBefore 10 = .ok (.iconst 0, 1) := by decide +kernel
theorem de_K_countBefore_11 : decode bc_K_countBefore 11 = .ok (.istore 4, 2) := by decide +kernel
theorem de_K_countBefore_13 : decode bc_K_countBefore 13 = .ok (.iload 4, 2) := by decide +kernel
theorem de_K_countBefore_15 : decode bc_K_countBefore 15 = .ok (.aload_n 3, 1) := by decide +kernel
theorem de_K_countBefore_16 : decode bc_K_countBefore 16 = .ok (.getfield 182, 3) := by decide +kernel
theorem de_K_countBefore_19 : decode bc_K_countBefore 19 = .ok (.if_icmp .ge 28, 3) := by decide +kernel
theorem de_K_countBefore_22 : decode bc_K_countBefore 22 = .ok (.aload_n 0, 1) := by decide +kernel
theorem de_K_countBefore_23 : decode bc_K_countBefore 23 = .ok (.getfield 11, 3) := by decide +kernel
theorem de_K_countBefore_26 : decode bc_K_countBefore 26 = .ok (.aload_n 3, 1) := by decide +kernel
theorem de_K_countBefore_27 : decode bc_K_countBefore 27 = .ok (.getfield 251, 3) := by decide +kernel
theorem de_K_countBefore_30 : decode bc_K_countBefore 30 = .ok (.iload 4, 2) := by decide +kernel
theorem de_K_countBefore_32 : decode bc_K_countBefore 32 = .ok (.iaload, 1) := by decide +kernel
theorem de_K_countBefore_33 : decode bc_K_countBefore 33 = .ok (.aaload, 1) := by decide +kernel
theorem de_K_countBefore_34 : decode bc_K_countBefore 34 = .ok (.getfield 65, 3) := by decide +kernel
theorem de_K_countBefore_37 : decode bc_K_countBefore 37 = .ok (.iload_n 2, 1) := by decide +kernel
theorem de_K_countBefore_38 : decode bc_K_countBefore 38 = .ok (.if_icmp .gt 9, 3) := by decide +kernel
theorem de_K_countBefore_41 : decode bc_K_countBefore 41 = .ok (.iinc 4 1, 3) := by decide +kernel
theorem de_K_countBefore_44 : decode bc_K_countBefore 44 = .ok (.goto (-31), 3) := by decide +kernel
theorem de_K_countBefore_47 : decode bc_K_countBefore 47 = .ok (.iload 4, 2) := by decide +kernel
theorem de_K_countBefore_49 : decode bc_K_countBefore 49 = .ok (.ireturn, 1) := by decide +kernel
theorem de_K_seizeFree_0 : decode bc_K_seizeFree 0 = .ok (.aload_n 1, 1) := by decide +kernel
theorem de_K_seizeFree_1 : decode bc_K_seizeFree 1 = .ok (.invokevirtual 220, 3) := by decide +kernel
theorem de_K_seizeFree_4 : decode bc_K_seizeFree 4 = .ok (.istore_n 2, 1) := by decide +kernel
theorem de_K_seizeFree_5 : decode bc_K_seizeFree 5 = .ok (.aload_n 1, 1) := by decide +kernel
theorem de_K_seizeFree_6 : decode bc_K_seizeFree 6 = .ok (.invokevirtual 232, 3) := by decide +kernel
theorem de_K_seizeFree_9 : decode bc_K_seizeFree 9 = .ok (.istore_n 3, 1) := by decide +kernel
theorem de_K_seizeFree_10 : decode bc_K_seizeFree 10 = .ok (.aload_n 0, 1) := by decide +kernel
theorem de_K_seizeFree_11 : decode bc_K_seizeFree 11 = .ok (.iload_n 2, 1) := by decide +kernel
theorem de_K_seizeFree_12 : decode bc_K_seizeFree 12 = .ok (.aload_n 1, 1) := by decide +kernel
theorem de_K_seizeFree_13 : decode bc_K_seizeFree 13 = .ok (.getfield 65, 3) := by decide +kernel
theorem de_K_seizeFree_16 : decode bc_K_seizeFree 16 = .ok (.invokevirtual 254, 3) := by decide +kernel
theorem de_K_seizeFree_19 : decode bc_K_seizeFree 19 = .ok (.ifCond .gt 16, 3) := by decide +kernel
theorem de_K_seizeFree_22 : decode bc_K_seizeFree 22 = .ok (.iload_n 3, 1) := by decide +kernel
theorem de_K_seizeFree_23 : decode bc_K_seizeFree 23 = .ok (.aload_n 0, 1) := by decide +kernel
theorem de_K_seizeFree_24 : decode bc_K_seizeFree 24 = .ok (.getfield 17, 3) := by decide +kernel
theorem de_K_seizeFree_27 : decode bc_K_seizeFree 27 = .ok (.iload_n 2, 1) := by decide +kernel
theorem de_K_seizeFree_28 : decode bc_K_seizeFree 28 = .ok (.aaload, 1) := by decide +kernel
theorem de_K_seizeFree_29 : decode bc_K_seizeFree 29 = .ok (.invokevirtual 179, 3) := by decide +kernel
theorem de_K_seizeFree_32 : decode bc_K_seizeFree 32 = .ok (.if_icmp .le 5, 3) := by decide +kernel
theorem de_K_seizeFree_35 : decode bc_K_seizeFree 35 = .ok (.iconst 0, 1) := by decide +kernel
theorem de_K_seizeFree_36 : decode bc_K_seizeFree 36 = .ok (.ireturn, 1) := by decide +kernel
theorem de_K_seizeFree_37 : decode bc_K_seizeFree 37 = .ok (.aload_n 0, 1) := by decide +kernel
theorem de_K_seizeFree_38 : decode bc_K_seizeFree 38 = .ok (.aload_n 1, 1) := by decide +kernel
theorem de_K_seizeFree_39 : decode bc_K_seizeFree 39 = .ok (.iload_n 2, 1) := by decide +kernel
theorem de_K_seizeFree_40 : decode bc_K_seizeFree 40 = .ok (.iload_n 3, 1) := by decide +kernel
theorem de_K_seizeFree_41 : decode bc_K_seizeFree 41 = .ok (.invokevirtual 258, 3) := by decide +kernel
theorem de_K_seizeFree_44 : decode bc_K_seizeFree 44 = .ok (.iconst 1, 1) := by decide +kernel
theorem de_K_seizeFree_45 : decode bc_K_seizeFree 45 = .ok (.ireturn, 1) := by decide +kernel
theorem de_K_withinReach_0 : decode bc_K_withinReach 0 = .ok (.aload_n 0, 1) := by decide +kernel
theorem de_K_withinReach_1 : decode bc_K_withinReach 1 = .ok (.getfield 17, 3) := by decide +kernel
theorem de_K_withinReach_4 : decode bc_K_withinReach 4 = .ok (.iload_n 2, 1) := by decide +kernel
theorem de_K_withinReach_5 : decode bc_K_withinReach 5 = .ok (.aaload, 1) := by decide +kernel
theorem de_K_withinReach_6 : decode bc_K_withinReach 6 = .ok (.invokevirtual 179, 3) := by decide +kernel
theorem de_K_withinReach_9 : decode bc_K_withinReach 9 = .ok (.istore_n 3, 1) := by decide +kernel
theorem de_K_withinReach_10 : decode bc_K_withinReach 10 = .ok (.iconst 0, 1) := by decide +kernel
theorem de_K_withinReach_11 : decode bc_K_withinReach 11 = .ok (.istore 4, 2) := by decide +kernel
theorem de_K_withinReach_13 : decode bc_K_withinReach 13 = .ok (.iload 4, 2) := by decide +kernel
theorem de_K_withinReach_15 : decode bc_K_withinReach 15 = .ok (.aload_n 0, 1) := by decide +kernel
theorem de_K_withinReach_16 : decode bc_K_withinReach 16 = .ok (.getfield 45, 3) := by decide +kernel
theorem de_K_withinReach_19 : decode bc_K_withinReach 19 = .ok (.if_icmp .ge 41, 3) := by decide +kernel
theorem de_K_withinReach_22 : decode bc_K_withinReach 22 = .ok (.aload_n 0, 1) := by decide +kernel
theorem de_K_withinReach_23 : decode bc_K_withinReach 23 = .ok (.getfield 11, 3) := by decide +kernel
theorem de_K_withinReach_26 : decode bc_K_withinReach 26 = .ok (.iload 4, 2) := by decide +kernel
theorem de_K_withinReach_28 : decode bc_K_withinReach 28 = .ok (.aaload, 1) := by decide +kernel
theorem de_K_withinReach_29 : decode bc_K_withinReach 29 = .ok (.getfield 65, 3) := by decide +kernel
theorem de_K_withinReach_32 : decode bc_K_withinReach 32 = .ok (.aload_n 1, 1) := by decide +kernel
theorem de_K_withinReach_33 : decode bc_K_withinReach 33 = .ok (.getfield 65, 3) := by decide +kernel
theorem de_K_withinReach_36 : decode bc_K_withinReach 36 = .ok (.if_icmp .le 18, 3) := by decide +kernel
theorem de_K_withinReach_39 : decode bc_K_withinReach 39 = .ok (.iload_n 3, 1) := by decide +kernel
theorem de_K_withinReach_40 : decode bc_K_withinReach 40 = .ok (.aload_n 0, 1) := by decide +kernel
theorem de_K_withinReach_41 : decode bc_K_withinReach 41 = .ok (.getfield 11, 3) := by decide +kernel
theorem de_K_withinReach_44 : decode bc_K_withinReach 44 = .ok (.iload 4, 2) := by decide +kernel
theorem de_K_withinReach_46 : decode bc_K_withinReach 46 = .ok (.aaload, 1) := by decide +kernel
theorem de_K_withinReach_47 : decode bc_K_withinReach 47 = .ok (.getfield 176, 3) := by decide +kernel
theorem de_K_withinReach_50 : decode bc_K_withinReach 50 = .ok (.iload_n 2, 1) := by decide +kernel
theorem de_K_withinReach_51 : decode bc_K_withinReach 51 = .ok (.iaload, 1) := by decide +kernel
theorem de_K_withinReach_52 : decode bc_K_withinReach 52 = .ok (.iadd, 1) := by decide +kernel
theorem de_K_withinReach_53 : decode bc_K_withinReach 53 = .ok (.istore_n 3, 1) := by decide +kernel
theorem de_K_withinReach_54 : decode bc_K_withinReach 54 = .ok (.iinc 4 1, 3) := by decide +kernel
theorem de_K_withinReach_57 : decode bc_K_withinReach 57 = .ok (.goto (-44), 3) := by decide +kernel
theorem de_K_withinReach_60 : decode bc_K_withinReach 60 = .ok (.iload_n 3, 1) := by decide +kernel
theorem de_K_withinReach_61 : decode bc_K_withinReach 61 = .ok (.ireturn, 1) := by decide +kernel
theorem de_K_nextLoser_0 : decode bc_K_nextLoser 0 = .ok (.iconst (-1), 1) := by decide +kernel
theorem de_K_nextLoser_1 : decode bc_K_nextLoser 1 = .ok (.istore_n 3, 1) := by decide +kernel
theorem de_K_nextLoser_2 : decode bc_K_nextLoser 2 = .ok (.aload_n 1, 1) := by decide +kernel
theorem de_K_nextLoser_3 : decode bc_K_nextLoser 3 = .ok (.getfield 65, 3) := by decide +kernel
theorem de_K_nextLoser_6 : decode bc_K_nextLoser 6 = .ok (.istore 4, 2) := by decide +kernel
theorem de_K_nextLoser_8 : decode bc_K_nextLoser 8 = .ok (.aload_n 0, 1) := by decide +kernel
theorem de_K_nextLoser_9 : decode bc_K_nextLoser 9 = .ok (.getfield 45, 3) := by decide +kernel
theorem de_K_nextLoser_12 : decode bc_K_nextLoser 12 = .ok (.iconst 1, 1) := by decide +kernel
theorem de_K_nextLoser_13 : decode bc_K_nextLoser 13 = .ok (.isub, 1) := by decide +kernel
theorem de_K_nextLoser_14 : decode bc_K_nextLoser 14 = .ok (.istore 5, 2) := by decide +kernel
theorem de_K_nextLoser_16 : decode bc_K_nextLoser 16 = .ok (.iload 5, 2) := by decide +kernel
theorem de_K_nextLoser_18 : decode bc_K_nextLoser 18 = .ok (.ifCond .lt 54, 3) := by decide +kernel
theorem de_K_nextLoser_21 : decode bc_K_nextLoser 21 = .ok (.aload_n 0, 1) := by decide +kernel
theorem de_K_nextLoser_22 : decode bc_K_nextLoser 22 = .ok (.getfield 11, 3) := by decide +kernel
theorem de_K_nextLoser_25 : decode bc_K_nextLoser 25 = .ok (.iload 5, 2) := by decide +kernel
theorem de_K_nextLoser_27 : decode bc_K_nextLoser 27 = .ok (.aaload, 1) := by decide +kernel
theorem de_K_nextLoser_28 : decode bc_K_nextLoser 28 = .ok (.getfield 176, 3) := by decide +kernel
theorem de_K_nextLoser_31 : decode bc_K_nextLoser 31 = .ok (.iload_n 2, 1) := by decide +kernel
theorem de_K_nextLoser_32 : decode bc_K_nextLoser 32 = .ok (.iaload, 1) := by decide +kernel
theorem de_K_nextLoser_33 : decode bc_K_nextLoser 33 = .ok (.ifCond .le 33, 3) := by decide +kernel
theorem de_K_nextLoser_36 : decode bc_K_nextLoser 36 = .ok (.aload_n 0, 1) := by decide +kernel
theorem de_K_nextLoser_37 : decode bc_K_nextLoser 37 = .ok (.getfield 11, 3) := by decide +kernel
theorem de_K_nextLoser_40 : decode bc_K_nextLoser 40 = .ok (.iload 5, 2) := by decide +kernel
theorem de_K_nextLoser_42 : decode bc_K_nextLoser 42 = .ok (.aaload, 1) := by decide +kernel
theorem de_K_nextLoser_43 : decode bc_K_nextLoser 43 = .ok (.getfield 65, 3) := by decide +kernel
theorem de_K_nextLoser_46 : decode bc_K_nextLoser 46 = .ok (.iload 4, 2) := by decide +kernel
theorem de_K_nextLoser_48 : decode bc_K_nextLoser 48 = .ok (.if_icmp .le 18, 3) := by decide +kernel
theorem de_K_nextLoser_51 : decode bc_K_nextLoser 51 = .ok (.iload 5, 2) := by decide +kernel
theorem de_K_nextLoser_53 : decode bc_K_nextLoser 53 = .ok (.istore_n 3, 1) := by decide +kernel
theorem de_K_nextLoser_54 : decode bc_K_nextLoser 54 = .ok (.aload_n 0, 1) := by decide +kernel
theorem de_K_nextLoser_55 : decode bc_K_nextLoser 55 = .ok (.getfield 11, 3) := by decide +kernel
theorem de_K_nextLoser_58 : decode bc_K_nextLoser 58 = .ok (.iload 5, 2) := by decide +kernel
theorem de_K_nextLoser_60 : decode bc_K_nextLoser 60 = .ok (.aaload, 1) := by decide +kernel
theorem de_K_nextLoser_61 : decode bc_K_nextLoser 61 = .ok (.getfield 65, 3) := by decide +kernel
theorem de_K_nextLoser_64 : decode bc_K_nextLoser 64 = .ok (.istore 4, 2) := by decide +kernel
theorem de_K_nextLoser_66 : decode bc_K_nextLoser 66 = .ok (.iinc 5 (-1), 3) := by decide +kernel
theorem de_K_nextLoser_69 : decode bc_K_nextLoser 69 = .ok (.goto (-53), 3) := by decide +kernel
theorem de_K_nextLoser_72 : decode bc_K_nextLoser 72 = .ok (.iload_n 3, 1) := by decide +kernel
theorem de_K_nextLoser_73 : decode bc_K_nextLoser 73 = .ok (.ireturn, 1) := by decide +kernel
theorem de_K_takeFromLosers_0 : decode bc_K_takeFromLosers 0 = .ok (.iconst 0, 1) := by decide +kernel
theorem de_K_takeFromLosers_1 : decode bc_K_takeFromLosers 1 = .ok (.istore 4, 2) := by decide +kernel
theorem de_K_takeFromLosers_3 : decode bc_K_takeFromLosers 3 = .ok (.iload 4, 2) := by decide +kernel
theorem de_K_takeFromLosers_5 : decode bc_K_takeFromLosers 5 = .ok (.bipush 12, 2) := by decide +kernel
theorem de_K_takeFromLosers_7 : decode bc_K_takeFromLosers 7 = .ok (.if_icmp .ge 72, 3) := by decide +kernel
theorem de_K_takeFromLosers_10 : decode bc_K_takeFromLosers 10 = .ok (.aload_n 0, 1) := by decide +kernel
theorem de_K_takeFromLosers_11 : decode bc_K_takeFromLosers 11 = .ok (.getfield 17, 3) := by decide +kernel
theorem de_K_takeFromLosers_14 : decode bc_K_takeFromLosers 14 = .ok (.iload_n 2, 1) := by decide +kernel
theorem de_K_takeFromLosers_15 : decode bc_K_takeFromLosers 15 = .ok (.aaload, 1) := by decide +kernel
theorem de_K_takeFromLosers_16 : decode bc_K_takeFromLosers 16 = .ok (.invokevirtual 179, 3) := by decide +kernel
theorem de_K_takeFromLosers_19 : decode bc_K_takeFromLosers 19 = .ok (.iload_n 3, 1) := by decide +kernel
theorem de_K_takeFromLosers_20 : decode bc_K_takeFromLosers 20 = .ok (.if_icmp .ge 59, 3) := by decide +kernel
theorem de_K_takeFromLosers_23 : decode bc_K_takeFromLosers 23 = .ok (.aload_n 0, 1) := by decide +kernel
theorem de_K_takeFromLosers_24 : decode bc_K_takeFromLosers 24 = .ok (.aload_n 1, 1) := by decide +kernel
theorem de_K_takeFromLosers_25 : decode bc_K_takeFromLosers 25 = .ok (.iload_n 2, 1) := by decide +kernel
theorem de_K_takeFromLosers_26 : decode bc_K_takeFromLosers 26 = .ok (.invokevirtual 276, 3) := by decide +kernel
theorem de_K_takeFromLosers_29 : decode bc_K_takeFromLosers 29 = .ok (.istore 5, 2) := by decide +kernel
theorem de_K_takeFromLosers_31 : decode bc_K_takeFromLosers 31 = .ok (.iload 5, 2) := by decide +kernel
theorem de_K_takeFromLosers_33 : decode bc_K_takeFromLosers 33 = .ok (.iconst (-1), 1) := by decide +kernel
theorem de_K_takeFromLosers_34 : decode bc_K_takeFromLosers 34 = .ok (.if_icmp .ne 6, 3) := by decide +kernel
theorem de_K_takeFromLosers_37 : decode bc_K_takeFromLosers 37 = .ok (.goto 42, 3) := by decide +kernel
theorem de_K_takeFromLosers_40 : decode bc_K_takeFromLosers 40 = .ok (.aload_n 0, 1) := by decide +kernel
theorem de_K_takeFromLosers_41 : decode bc_K_takeFromLosers 41 = .ok (.aload_n 0, 1) := by decide +kernel
theorem de_K_takeFromLosers_42 : decode bc_K_takeFromLosers 42 = .ok (.getfield 11, 3) := by decide +kernel
theorem de_K_takeFromLosers_45 : decode bc_K_takeFromLosers 45 = .ok (.iload 5, 2) := by decide +kernel
theorem de_K_takeFromLosers_47 : decode bc_K_takeFromLosers 47 = .ok (.aaload, 1) := by decide +kernel
theorem de_K_takeFromLosers_48 : decode bc_K_takeFromLosers 48 = .ok (.iload_n 2, 1) := by decide +kernel
theorem de_K_takeFromLosers_49 : decode bc_K_takeFromLosers 49 = .ok (.aload_n 0, 1) := by decide +kernel
theorem de_K_takeFromLosers_50 : decode bc_K_takeFromLosers 50 = .ok (.getfield 11, 3) := by decide +kernel
theorem de_K_takeFromLosers_53 : decode bc_K_takeFromLosers 53 = .ok (.iload 5, 2) := by decide +kernel
theorem de_K_takeFromLosers_55 : decode bc_K_takeFromLosers 55 = .ok (.aaload, 1) := by decide +kernel
theorem de_K_takeFromLosers_56 : decode bc_K_takeFromLosers 56 = .ok (.getfield 176, 3) := by decide +kernel
theorem de_K_takeFromLosers_59 : decode bc_K_takeFromLosers 59 = .ok (.iload_n 2, 1) := by decide +kernel
theorem de_K_takeFromLosers_60 : decode bc_K_takeFromLosers 60 = .ok (.iaload, 1) := by decide +kernel
theorem de_K_takeFromLosers_61 : decode bc_K_takeFromLosers 61 = .ok (.invokevirtual 279, 3) := by decide +kernel
theorem de_K_takeFromLosers_64 : decode bc_K_takeFromLosers 64 = .ok (.aload_n 0, 1) := by decide +kernel
theorem de_K_takeFromLosers_65 : decode bc_K_takeFromLosers 65 = .ok (.getfield 41, 3) := by decide +kernel
theorem de_K_takeFromLosers_68 : decode bc_K_takeFromLosers 68 = .ok (.iload 4, 2) := by decide +kernel
theorem de_K_takeFromLosers_70 : decode bc_K_takeFromLosers 70 = .ok (.iload 5, 2) := by decide +kernel
theorem de_K_takeFromLosers_72 : decode bc_K_takeFromLosers 72 = .ok (.iastore, 1) := by decide +kernel
theorem de_K_takeFromLosers_73 : decode bc_K_takeFromLosers 73 = .ok (.iinc 4 1, 3) := by decide +kernel
theorem de_K_takeFromLosers_76 : decode bc_K_takeFromLosers 76 = .ok (.goto (-73), 3) := by decide +kernel
theorem de_K_takeFromLosers_79 : decode bc_K_takeFromLosers 79 = .ok (.iload 4, 2) := by decide +kernel
theorem de_K_takeFromLosers_81 : decode bc_K_takeFromLosers 81 = .ok (.ireturn, 1) := by decide +kernel
theorem de_K_seizeByForce_0 : decode bc_K_seizeByForce 0 = .ok (.aload_n 1, 1) := by decide +kernel
theorem de_K_seizeByForce_1 : decode bc_K_seizeByForce 1 = .ok (.invokevirtual 220, 3) := by decide +kernel
theorem de_K_seizeByForce_4 : decode bc_K_seizeByForce 4 = .ok (.istore_n 2, 1) := by decide +kernel
theorem de_K_seizeByForce_5 : decode bc_K_seizeByForce 5 = .ok (.aload_n 1, 1) := by decide +kernel
theorem de_K_seizeByForce_6 : decode bc_K_seizeByForce 6 = .ok (.invokevirtual 232, 3) := by decide +kernel
theorem de_K_seizeByForce_9 : decode bc_K_seizeByForce 9 = .ok (.istore_n 3, 1) := by decide +kernel
theorem de_K_seizeByForce_10 : decode bc_K_seizeByForce 10 = .ok (.aload_n 0, 1) := by decide +kernel
theorem de_K_seizeByForce_11 : decode bc_K_seizeByForce 11 = .ok (.iload_n 2, 1) := by decide +kernel
theorem de_K_seizeByForce_12 : decode bc_K_seizeByForce 12 = .ok (.aload_n 1, 1) := by decide +kernel
theorem de_K_seizeByForce_13 : decode bc_K_seizeByForce 13 = .ok (.getfield 65, 3) := by decide +kernel
theorem de_K_seizeByForce_16 : decode bc_K_seizeByForce 16 = .ok (.invokevirtual 254, 3) := by decide +kernel
theorem de_K_seizeByForce_19 : decode bc_K_seizeByForce 19 = .ok (.ifCond .gt 25, 3) := by decide +kernel
theorem de_K_seizeByForce_22 : decode bc_K_seizeByForce 22 = .ok (.aload_n 0, 1) := by decide +kernel
theorem de_K_seizeByForce_23 : decode bc_K_seizeByForce 23 = .ok (.getfield 17, 3) := by decide +kernel
theorem de_K_seizeByForce_26 : decode bc_K_seizeByForce 26 = .ok (.iload_n 2, 1) := by decide +kernel
theorem de_K_seizeByForce_27 : decode bc_K_seizeByForce 27 = .ok (.aaload, 1) := by decide +kernel
theorem de_K_seizeByForce_28 : decode bc_K_seizeByForce 28 = .ok (.getfield 103, 3) := by decide +kernel
theorem de_K_seizeByForce_31 : decode bc_K_seizeByForce 31 = .ok (.ifCond .eq 13, 3) := by decide +kernel
theorem de_K_seizeByForce_34 : decode bc_K_seizeByForce 34 = .ok (.aload_n 0, 1) := by decide +kernel
theorem de_K_seizeByForce_35 : decode bc_K_seizeByForce 35 = .ok (.aload_n 1, 1) := by decide +kernel
theorem de_K_seizeByForce_36 : decode bc_K_seizeByForce 36 = .ok (.iload_n 2, 1) := by decide +kernel
theorem de_K_seizeByForce_37 : decode bc_K_seizeByForce 37 = .ok (.invokevirtual 261, 3) := by decide +kernel
theorem de_K_seizeByForce_40 : decode bc_K_seizeByForce 40 = .ok (.iload_n 3, 1) := by decide +kernel
theorem de_K_seizeByForce_41 : decode bc_K_seizeByForce 41 = .ok (.if_icmp .ge 5, 3) := by decide +kernel
theorem de_K_seizeByForce_44 : decode bc_K_seizeByForce 44 = .ok (.iconst 0, 1) := by decide +kernel
theorem de_K_seizeByForce_45 : decode bc_K_seizeByForce 45 = .ok (.ireturn, 1) := by decide +kernel
theorem de_K_seizeByForce_46 : decode bc_K_seizeByForce 46 = .ok (.aload_n 0, 1) := by decide +kernel
theorem de_K_seizeByForce_47 : decode bc_K_seizeByForce 47 = .ok (.aload_n 1, 1) := by decide +kernel
theorem de_K_seizeByForce_48 : decode bc_K_seizeByForce 48 = .ok (.iload_n 2, 1) := by decide +kernel
theorem de_K_seizeByForce_49 : decode bc_K_seizeByForce 49 = .ok (.iload_n 3, 1) := by decide +kernel
theorem de_K_seizeByForce_50 : decode bc_K_seizeByForce 50 = .ok (.invokevirtual 265, 3) := by decide +kernel
theorem de_K_seizeByForce_53 : decode bc_K_seizeByForce 53 = .ok (.istore 4, 2) := by decide +kernel
theorem de_K_seizeByForce_55 : decode bc_K_seizeByForce 55 = .ok (.aload_n 0, 1) := by decide +kernel
theorem de_K_seizeByForce_56 : decode bc_K_seizeByForce 56 = .ok (.aload_n 1, 1) := by decide +kernel
theorem de_K_seizeByForce_57 : decode bc_K_seizeByForce 57 = .ok (.iload_n 2, 1) := by decide +kernel
theorem de_K_seizeByForce_58 : decode bc_K_seizeByForce 58 = .ok (.iload_n 3, 1) := by decide +kernel
theorem de_K_seizeByForce_59 : decode bc_K_seizeByForce 59 = .ok (.invokevirtual 258, 3) := by decide +kernel
theorem de_K_seizeByForce_62 : decode bc_K_seizeByForce 62 = .ok (.iconst 0, 1) := by decide +kernel
theorem de_K_seizeByForce_63 : decode bc_K_seizeByForce 63 = .ok (.istore 5, 2) := by decide +kernel
theorem de_K_seizeByForce_65 : decode bc_K_seizeByForce 65 = .ok (.iload 5, 2) := by decide +kernel
theorem de_K_seizeByForce_67 : decode bc_K_seizeByForce 67 = .ok (.iload 4, 2) := by decide +kernel
theorem de_K_seizeByForce_69 : decode bc_K_seizeByForce 69 = .ok (.if_icmp .ge 21, 3) := by decide +kernel
theorem de_K_seizeByForce_72 : decode bc_K_seizeByForce 72 = .ok (.aload_n 0, 1) := by decide +kernel
theorem de_K_seizeByForce_73 : decode bc_K_seizeByForce 73 = .ok (.aload_n 0, 1) := by decide +kernel
theorem de_K_seizeByForce_74 : decode bc_K_seizeByForce 74 = .ok (.getfield 41, 3) := by decide +kernel
theorem de_K_seizeByForce_77 : decode bc_K_seizeByForce 77 = .ok (.iload 5, 2) := by decide +kernel
theorem de_K_seizeByForce_79 : decode bc_K_seizeByForce 79 = .ok (.iaload, 1) := by decide +kernel
theorem de_K_seizeByForce_80 : decode bc_K_seizeByForce 80 = .ok (.invokevirtual 245, 3) := by decide +kernel
theorem de_K_seizeByForce_83 : decode bc_K_seizeByForce 83 = .ok (.pop, 1) := by decide +kernel
theorem de_K_seizeByForce_84 : decode bc_K_seizeByForce 84 = .ok (.iinc 5 1, 3) := by decide +kernel
theorem de_K_seizeByForce_87 : decode bc_K_seizeByForce 87 = .ok (.goto (-22), 3) := by decide +kernel
theorem de_K_seizeByForce_90 : decode bc_K_seizeByForce 90 = .ok (.aload_n 0, 1) := by decide +kernel
theorem de_K_seizeByForce_91 : decode bc_K_seizeByForce 91 = .ok (.iload_n 2, 1) := by decide +kernel
theorem de_K_seizeByForce_92 : decode bc_K_seizeByForce 92 = .ok (.invokevirtual 107, 3) := by decide +kernel
theorem de_K_seizeByForce_95 : decode bc_K_seizeByForce 95 = .ok (.iconst 1, 1) := by decide +kernel
theorem de_K_seizeByForce_96 : decode bc_K_seizeByForce 96 = .ok (.ireturn, 1) := by decide +kernel
theorem de_L_insert_0 : decode bc_L_insert 0 = .ok (.aload_n 0, 1) := by decide +kernel
theorem de_L_insert_1 : decode bc_L_insert 1 = .ok (.getfield 15, 3) := by decide +kernel
theorem de_L_insert_4 : decode bc_L_insert 4 = .ok (.bipush 12, 2) := by decide +kernel
theorem de_L_insert_6 : decode bc_L_insert 6 = .ok (.if_icmp .lt 4, 3) := by decide +kernel
theorem de_L_insert_9 : decode bc_L_insert 9 = .ok (.return_, 1) := by decide +kernel
theorem de_L_insert_10 : decode bc_L_insert 10 = .ok (.aload_n 0, 1) := by decide +kernel
theorem de_L_insert_11 : decode bc_L_insert 11 = .ok (.getfield 15, 3) := by decide +kernel
theorem de_L_insert_14 : decode bc_L_insert 14 = .ok (.istore_n 3, 1) := by decide +kernel
theorem de_L_insert_15 : decode bc_L_insert 15 = .ok (.iload_n 3, 1) := by decide +kernel
theorem de_L_insert_16 : decode bc_L_insert 16 = .ok (.iload_n 1, 1) := by decide +kernel
theorem de_L_insert_17 : decode bc_L_insert 17 = .ok (.if_icmp .le 23, 3) := by decide +kernel
theorem de_L_insert_20 : decode bc_L_insert 20 = .ok (.aload_n 0, 1) := by decide +kernel
theorem de_L_insert_21 : decode bc_L_insert 21 = .ok (.getfield 9, 3) := by decide +kernel
theorem de_L_insert_24 : decode bc_L_insert 24 = .ok (.iload_n 3, 1) := by decide +kernel
theorem de_L_insert_25 : decode bc_L_insert 25 = .ok (.aload_n 0, 1) := by decide +kernel
theorem de_L_insert_26 : decode bc_L_insert 26 = .ok (.getfield 9, 3) := by decide +kernel
theorem de_L_insert_29 : decode bc_L_insert 29 = .ok (.iload_n 3, 1) := by decide +kernel
theorem de_L_insert_30 : decode bc_L_insert 30 = .ok (.iconst 1, 1) := by decide +kernel
theorem de_L_insert_31 : decode bc_L_insert 31 = .ok (.isub, 1) := by decide +kernel
theorem de_L_insert_32 : decode bc_L_insert 32 = .ok (.iaload, 1) := by decide +kernel
theorem de_L_insert_33 : decode bc_L_insert 33 = .ok (.iastore, 1) := by decide +kernel
theorem de_L_insert_34 : decode bc_L_insert 34 = .ok (.iinc 3 (-1), 3) := by decide +kernel
theorem de_L_insert_37 : decode bc_L_insert 37 = .ok (.goto (-22), 3) := by decide +kernel
theorem de_L_insert_40 : decode bc_L_insert 40 = .ok (.aload_n 0, 1) := by decide +kernel
theorem de_L_insert_41 : decode bc_L_insert 41 = .ok (.getfield 9, 3) := by decide +kernel
theorem de_L_insert_44 : decode bc_L_insert 44 = .ok (.iload_n 1, 1) := by decide +kernel
theorem de_L_insert_45 : decode bc_L_insert 45 = .ok (.iload_n 2, 1) := by decide +kernel
theorem de_L_insert_46 : decode bc_L_insert 46 = .ok (.iastore, 1) := by decide +kernel
theorem de_L_insert_47 : decode bc_L_insert 47 = .ok (.aload_n 0, 1) := by decide +kernel
theorem de_L_insert_48 : decode bc_L_insert 48 = .ok (.dup, 1) := by decide +kernel
theorem de_L_insert_49 : decode bc_L_insert 49 = .ok (.getfield 15, 3) := by decide +kernel
theorem de_L_insert_52 : decode bc_L_insert 52 = .ok (.iconst 1, 1) := by decide +kernel
theorem de_L_insert_53 : decode bc_L_insert 53 = .ok (.iadd, 1) := by decide +kernel
theorem de_L_insert_54 : decode bc_L_insert 54 = .ok (.putfield 15, 3) := by decide +kernel
theorem de_L_insert_57 : decode bc_L_insert 57 = .ok (.return_, 1) := by decide +kernel
theorem de_K_standInLine_0 : decode bc_K_standInLine 0 = .ok (.aload_n 1, 1) := by decide +kernel
theorem de_K_standInLine_1 : decode bc_K_standInLine 1 = .ok (.invokevirtual 220, 3) := by decide +kernel
theorem de_K_standInLine_4 : decode bc_K_standInLine 4 = .ok (.istore_n 2, 1) := by decide +kernel
theorem de_K_standInLine_5 : decode bc_K_standInLine 5 = .ok (.aload_n 0, 1) := by decide +kernel
theorem de_K_standInLine_6 : decode bc_K_standInLine 6 = .ok (.getfield 17, 3) := by decide +kernel
theorem de_K_standInLine_9 : decode bc_K_standInLine 9 = .ok (.iload_n 2, 1) := by decide +kernel
theorem de_K_standInLine_10 : decode bc_K_standInLine 10 = .ok (.aaload, 1) := by decide +kernel
theorem de_K_standInLine_11 : decode bc_K_standInLine 11 = .ok (.getfield 185, 3) := by decide +kernel
theorem de_K_standInLine_14 : decode bc_K_standInLine 14 = .ok (.aload_n 0, 1) := by decide +kernel
theorem de_K_standInLine_15 : decode bc_K_standInLine 15 = .ok (.iload_n 2, 1) := by decide +kernel
theorem de_K_standInLine_16 : decode bc_K_standInLine 16 = .ok (.aload_n 1, 1) := by decide +kernel
theorem de_K_standInLine_17 : decode bc_K_standInLine 17 = .ok (.getfield 65, 3) := by decide +kernel
theorem de_K_standInLine_20 : decode bc_K_standInLine 20 = .ok (.invokevirtual 254, 3) := by decide +kernel
theorem de_K_standInLine_23 : decode bc_K_standInLine 23 = .ok (.aload_n 1, 1) := by decide +kernel
theorem de_K_standInLine_24 : decode bc_K_standInLine 24 = .ok (.getfield 74, 3) := by decide +kernel
theorem de_K_standInLine_27 : decode bc_K_standInLine 27 = .ok (.invokevirtual 269, 3) := by decide +kernel
theorem de_K_standInLine_30 : decode bc_K_standInLine 30 = .ok (.aload_n 1, 1) := by decide +kernel
theorem de_K_standInLine_31 : decode bc_K_standInLine 31 = .ok (.iconst 4, 1) := by decide +kernel
theorem de_K_standInLine_32 : decode bc_K_standInLine 32 = .ok (.putfield 84, 3) := by decide +kernel
theorem de_K_standInLine_35 : decode bc_K_standInLine 35 = .ok (.aload_n 1, 1) := by decide +kernel
theorem de_K_standInLine_36 : decode bc_K_standInLine 36 = .ok (.aload_n 0, 1) := by decide +kernel
theorem de_K_standInLine_37 : decode bc_K_standInLine 37 = .ok (.getfield 49, 3) := by decide +kernel
theorem de_K_standInLine_40 : decode bc_K_standInLine 40 = .ok (.putfield 273, 3) := by decide +kernel
theorem de_K_standInLine_43 : decode bc_K_standInLine 43 = .ok (.iconst 0, 1) := by decide +kernel
theorem de_K_standInLine_44 : decode bc_K_standInLine 44 = .ok (.ireturn, 1) := by decide +kernel
theorem de_T_put_0 : decode bc_T_put 0 = .ok (.aload_n 0, 1) := by decide +kernel
theorem de_T_put_1 : decode bc_T_put 1 = .ok (.getfield 15, 3) := by decide +kernel
theorem de_T_put_4 : decode bc_T_put 4 = .ok (.iload_n 1, 1) := by decide +kernel
theorem de_T_put_5 : decode bc_T_put 5 = .ok (.iadd, 1) := by decide +kernel
theorem de_T_put_6 : decode bc_T_put 6 = .ok (.aload_n 0, 1) := by decide +kernel
theorem de_T_put_7 : decode bc_T_put 7 = .ok (.getfield 9, 3) := by decide +kernel
theorem de_T_put_10 : decode bc_T_put 10 = .ok (.if_icmp .le 5, 3) := by decide +kernel
theorem de_T_put_13 : decode bc_T_put 13 = .ok (.iconst 0, 1) := by decide +kernel
theorem de_T_put_14 : decode bc_T_put 14 = .ok (.ireturn, 1) := by decide +kernel
theorem de_T_put_15 : decode bc_T_put 15 = .ok (.aload_n 0, 1) := by decide +kernel
theorem de_T_put_16 : decode bc_T_put 16 = .ok (.dup, 1) := by decide +kernel
theorem de_T_put_17 : decode bc_T_put 17 = .ok (.getfield 15, 3) := by decide +kernel
theorem de_T_put_20 : decode bc_T_put 20 = .ok (.iload_n 1, 1) := by decide +kernel
theorem de_T_put_21 : decode bc_T_put 21 = .ok (.iadd, 1) := by decide +kernel
theorem de_T_put_22 : decode bc_T_put 22 = .ok (.putfield 15, 3) := by decide +kernel
theorem de_T_put_25 : decode bc_T_put 25 = .ok (.iconst 1, 1) := by decide +kernel
theorem de_T_put_26 : decode bc_T_put 26 = .ok (.ireturn, 1) := by decide +kernel
theorem de_T_take_0 : decode bc_T_take 0 = .ok (.aload_n 0, 1) := by decide +kernel
theorem de_T_take_1 : decode bc_T_take 1 = .ok (.getfield 15, 3) := by decide +kernel
theorem de_T_take_4 : decode bc_T_take 4 = .ok (.iload_n 1, 1) := by decide +kernel
theorem de_T_take_5 : decode bc_T_take 5 = .ok (.if_icmp .ge 5, 3) := by decide +kernel
theorem de_T_take_8 : decode bc_T_take 8 = .ok (.iconst 0, 1) := by decide +kernel
theorem de_T_take_9 : decode bc_T_take 9 = .ok (.ireturn, 1) := by decide +kernel
theorem de_T_take_10 : decode bc_T_take 10 = .ok (.aload_n 0, 1) := by decide +kernel
theorem de_T_take_11 : decode bc_T_take 11 = .ok (.dup, 1) := by decide +kernel
theorem de_T_take_12 : decode bc_T_take 12 = .ok (.getfield 15, 3) := by decide +kernel
theorem de_T_take_15 : decode bc_T_take 15 = .ok (.iload_n 1, 1) := by decide +kernel
theorem de_T_take_16 : decode bc_T_take 16 = .ok (.isub, 1) := by decide +kernel
theorem de_T_take_17 : decode bc_T_take 17 = .ok (.putfield 15, 3) := by decide +kernel
theorem de_T_take_20 : decode bc_T_take 20 = .ok (.iconst 1, 1) := by decide +kernel
theorem de_T_take_21 : decode bc_T_take 21 = .ok (.ireturn, 1) := by decide +kernel
theorem de_K_meetCondition_0 : decode bc_K_meetCondition 0 = .ok (.aload_n 1, 1) := by decide +kernel
theorem de_K_meetCondition_1 : decode bc_K_meetCondition 1 = .ok (.invokevirtual 220, 3) := by decide +kernel
theorem de_K_meetCondition_4 : decode bc_K_meetCondition 4 = .ok (.istore_n 2, 1) := by decide +kernel
theorem de_K_meetCondition_5 : decode bc_K_meetCondition 5 = .ok (.aload_n 1, 1) := by decide +kernel
theorem de_K_meetCondition_6 : decode bc_K_meetCondition 6 = .ok (.getfield 140, 3) := by decide +kernel
theorem de_K_meetCondition_9 : decode bc_K_meetCondition 9 = .ok (.aload_n 1, 1) := by decide +kernel
theorem de_K_meetCondition_10 : decode bc_K_meetCondition 10 = .ok (.getfield 217, 3) := by decide +kernel
theorem de_K_meetCondition_13 : decode bc_K_meetCondition 13 = .ok (.iaload, 1) := by decide +kernel
theorem de_K_meetCondition_14 : decode bc_K_meetCondition 14 = .ok (.lookupswitch 54 #[(4, 26), (5, 40)], 26) := by decide +kernel
theorem de_K_meetCondition_40 : decode bc_K_meetCondition 40 = .ok (.aload_n 0, 1) := by decide +kernel
theorem de_K_meetCondition_41 : decode bc_K_meetCondition 41 = .ok (.getfield 23, 3) := by decide +kernel
theorem de_K_meetCondition_44 : decode bc_K_meetCondition 44 = .ok (.iload_n 2, 1) := by decide +kernel
theorem de_K_meetCondition_45 : decode bc_K_meetCondition 45 = .ok (.aaload, 1) := by decide +kernel
theorem de_K_meetCondition_46 : decode bc_K_meetCondition 46 = .ok (.aload_n 1, 1) := by decide +kernel
theorem de_K_meetCondition_47 : decode bc_K_meetCondition 47 = .ok (.invokevirtual 232, 3) := by decide +kernel
theorem de_K_meetCondition_50 : decode bc_K_meetCondition 50 = .ok (.invokevirtual 290, 3) := by decide +kernel
theorem de_K_meetCondition_53 : decode bc_K_meetCondition 53 = .ok (.ireturn, 1) := by decide +kernel
theorem de_K_meetCondition_54 : decode bc_K_meetCondition 54 = .ok (.aload_n 0, 1) := by decide +kernel
theorem de_K_meetCondition_55 : decode bc_K_meetCondition 55 = .ok (.getfield 23, 3) := by decide +kernel
theorem de_K_meetCondition_58 : decode bc_K_meetCondition 58 = .ok (.iload_n 2, 1) := by decide +kernel
theorem de_K_meetCondition_59 : decode bc_K_meetCondition 59 = .ok (.aaload, 1) := by decide +kernel
theorem de_K_meetCondition_60 : decode bc_K_meetCondition 60 = .ok (.aload_n 1, 1) := by decide +kernel
theorem de_K_meetCondition_61 : decode bc_K_meetCondition 61 = .ok (.invokevirtual 232, 3) := by decide +kernel
theorem de_K_meetCondition_64 : decode bc_K_meetCondition 64 = .ok (.invokevirtual 293, 3) := by decide +kernel
theorem de_K_meetCondition_67 : decode bc_K_meetCondition 67 = .ok (.ireturn, 1) := by decide +kernel
theorem de_K_meetCondition_68 : decode bc_K_meetCondition 68 = .ok (.aload_n 0, 1) := by decide +kernel
theorem de_K_meetCondition_69 : decode bc_K_meetCondition 69 = .ok (.iload_n 2, 1) := by decide +kernel
theorem de_K_meetCondition_70 : decode bc_K_meetCondition 70 = .ok (.invokevirtual 77, 3) := by decide +kernel
theorem de_K_meetCondition_73 : decode bc_K_meetCondition 73 = .ok (.ifCond .eq 15, 3) := by decide +kernel
theorem de_K_meetCondition_76 : decode bc_K_meetCondition 76 = .ok (.aload_n 0, 1) := by decide +kernel
theorem de_K_meetCondition_77 : decode bc_K_meetCondition 77 = .ok (.getfield 11, 3) := by decide +kernel
theorem de_K_meetCondition_80 : decode bc_K_meetCondition 80 = .ok (.iload_n 2, 1) := by decide +kernel
theorem de_K_meetCondition_81 : decode bc_K_meetCondition 81 = .ok (.aaload, 1) := by decide +kernel
theorem de_K_meetCondition_82 : decode bc_K_meetCondition 82 = .ok (.invokevirtual 137, 3) := by decide +kernel
theorem de_K_meetCondition_85 : decode bc_K_meetCondition 85 = .ok (.ifCond .eq 7, 3) := by decide +kernel
theorem de_K_meetCondition_88 : decode bc_K_meetCondition 88 = .ok (.iconst 1, 1) := by decide +kernel
theorem de_K_meetCondition_89 : decode bc_K_meetCondition 89 = .ok (.goto 4, 3) := by decide +kernel
theorem de_K_meetCondition_92 : decode bc_K_meetCondition 92 = .ok (.iconst 0, 1) := by decide +kernel
theorem de_K_meetCondition_93 : decode bc_K_meetCondition 93 = .ok (.ireturn, 1) := by decide +kernel
theorem de_K_waitForCondition_0 : decode bc_K_waitForCondition 0 = .ok (.aload_n 0, 1) := by decide +kernel
theorem de_K_waitForCondition_1 : decode bc_K_waitForCondition 1 = .ok (.getfield 30, 3) := by decide +kernel
theorem de_K_waitForCondition_4 : decode bc_K_waitForCondition 4 = .ok (.aload_n 0, 1) := by decide +kernel
theorem de_K_waitForCondition_5 : decode bc_K_waitForCondition 5 = .ok (.getfield 30, 3) := by decide +kernel
theorem de_K_waitForCondition_8 : decode bc_K_waitForCondition 8 = .ok (.getfield 182, 3) := by decide +kernel
theorem de_K_waitForCondition_11 : decode bc_K_waitForCondition 11 = .ok (.aload_n 1, 1) := by decide +kernel
theorem de_K_waitForCondition_12 : decode bc_K_waitForCondition 12 = .ok (.getfield 74, 3) := by decide +kernel
theorem de_K_waitForCondition_15 : decode bc_K_waitForCondition 15 = .ok (.invokevirtual 269, 3) := by decide +kernel
theorem de_K_waitForCondition_18 : decode bc_K_waitForCondition 18 = .ok (.aload_n 1, 1) := by decide +kernel
theorem de_K_waitForCondition_19 : decode bc_K_waitForCondition 19 = .ok (.iconst 5, 1) := by decide +kernel
theorem de_K_waitForCondition_20 : decode bc_K_waitForCondition 20 = .ok (.putfield 84, 3) := by decide +kernel
theorem de_K_waitForCondition_23 : decode bc_K_waitForCondition 23 = .ok (.iconst 0, 1) := by decide +kernel
theorem de_K_waitForCondition_24 : decode bc_K_waitForCondition 24 = .ok (.ireturn, 1) := by decide +kernel
theorem de_K_perform_0 : decode bc_K_perform 0 = .ok (.aload_n 1, 1) := by decide +kernel
theorem de_K_perform_1 : decode bc_K_perform 1 = .ok (.aload_n 1, 1) := by decide +kernel
theorem de_K_perform_2 : decode bc_K_perform 2 = .ok (.getfield 134, 3) := by decide +kernel
theorem de_K_perform_5 : decode bc_K_perform 5 = .ok (.putfield 217, 3) := by decide +kernel
theorem de_K_perform_8 : decode bc_K_perform 8 = .ok (.aload_n 1, 1) := by decide +kernel
theorem de_K_perform_9 : decode bc_K_perform 9 = .ok (.dup, 1) := by decide +kernel
theorem de_K_perform_10 : decode bc_K_perform 10 = .ok (.getfield 134, 3) := by decide +kernel
theorem de_K_perform_13 : decode bc_K_perform 13 = .ok (.iconst 1, 1) := by decide +kernel
theorem de_K_perform_14 : decode bc_K_perform 14 = .ok (.iadd, 1) := by decide +kernel
theorem de_K_perform_15 : decode bc_K_perform 15 = .ok (.putfield 134, 3) := by decide +kernel
theorem de_K_perform_18 : decode bc_K_perform 18 = .ok (.aload_n 1, 1) := by decide +kernel
theorem de_K_perform_19 : decode bc_K_perform 19 = .ok (.invokevirtual 220, 3) := by decide +kernel
theorem de_K_perform_22 : decode bc_K_perform 22 = .ok (.istore_n 2, 1) := by decide +kernel
theorem de_K_perform_23 : decode bc_K_perform 23 = .ok (.aload_n 1, 1) := by decide +kernel
theorem de_K_perform_24 : decode bc_K_perform 24 = .ok (.getfield 140, 3) := by decide +kernel
theorem de_K_perform_27 : decode bc_K_perform 27 = .ok (.aload_n 1, 1) := by decide +kernel
theorem de_K_perform_28 : decode bc_K_perform 28 = .ok (.getfield 217, 3) := by decide +kernel
theorem de_K_perform_31 : decode bc_K_perform 31 = .ok (.iaload, 1) := by decide +kernel
theorem de_K_perform_32 : decode bc_K_perform 32 = .ok (.tableswitch 174 0 9 #[56, 65, 72, 102, 114, 114, 114, 136, 145, 153], 56) := by decide +kernel
theorem de_K_perform_88 : decode bc_K_perform 88 = .ok (.aload_n 0, 1) := by decide +kernel
theorem de_K_perform_89 : decode bc_K_perform 89 = .ok (.aload_n 1, 1) := by decide +kernel
theorem de_K_perform_90 : decode bc_K_perform 90 = .ok (.iconst 2, 1) := by decide +kernel
theorem de_K_perform_91 : decode bc_K_perform 91 = .ok (.iload_n 2, 1) := by decide +kernel
theorem de_K_perform_92 : decode bc_K_perform 92 = .ok (.invokevirtual 118, 3) := by decide +kernel
theorem de_K_perform_95 : decode bc_K_perform 95 = .ok (.iconst 0, 1) := by decide +kernel
theorem de_K_perform_96 : decode bc_K_perform 96 = .ok (.ireturn, 1) := by decide +kernel
theorem de_K_perform_97 : decode bc_K_perform 97 = .ok (.aload_n 1, 1) := by decide +kernel
theorem de_K_perform_98 : decode bc_K_perform 98 = .ok (.iconst 3, 1) := by decide +kernel
theorem de_K_perform_99 : decode bc_K_perform 99 = .ok (.putfield 84, 3) := by decide +kernel
theorem de_K_perform_102 : decode bc_K_perform 102 = .ok (.iconst 0, 1) := by decide +kernel
theorem de_K_perform_103 : decode bc_K_perform 103 = .ok (.ireturn, 1) := by decide +kernel
theorem de_K_perform_104 : decode bc_K_perform 104 = .ok (.aload_n 0, 1) := by decide +kernel
theorem de_K_perform_105 : decode bc_K_perform 105 = .ok (.aload_n 1, 1) := by decide +kernel
theorem de_K_perform_106 : decode bc_K_perform 106 = .ok (.invokevirtual 223, 3) := by decide +kernel
theorem de_K_perform_109 : decode bc_K_perform 109 = .ok (.ifCond .ne 19, 3) := by decide +kernel
theorem de_K_perform_112 : decode bc_K_perform 112 = .ok (.aload_n 0, 1) := by decide +kernel
theorem de_K_perform_113 : decode bc_K_perform 113 = .ok (.aload_n 1, 1) := by decide +kernel
theorem de_K_perform_114 : decode bc_K_perform 114 = .ok (.invokevirtual 226, 3) := by decide +kernel
theorem de_K_perform_117 : decode bc_K_perform 117 = .ok (.ifCond .ne 11, 3) := by decide +kernel
theorem de_K_perform_120 : decode bc_K_perform 120 = .ok (.aload_n 0, 1) := by decide +kernel
theorem de_K_perform_121 : decode bc_K_perform 121 = .ok (.aload_n 1, 1) := by decide +kernel
theorem de_K_perform_122 : decode bc_K_perform 122 = .ok (.invokevirtual 229, 3) := by decide +kernel
theorem de_K_perform_125 : decode bc_K_perform 125 = .ok (.ifCond .eq 7, 3) := by decide +kernel
theorem de_K_perform_128 : decode bc_K_perform 128 = .ok (.iconst 1, 1) := by decide +kernel
theorem de_K_perform_129 : decode bc_K_perform 129 = .ok (.goto 4, 3) := by decide +kernel
theorem de_K_perform_132 : decode bc_K_perform 132 = .ok (.iconst 0, 1) := by decide +kernel
theorem de_K_perform_133 : decode bc_K_perform 133 = .ok (.ireturn, 1) := by decide +kernel
theorem de_K_perform_134 : decode bc_K_perform 134 = .ok (.aload_n 0, 1) := by decide +kernel
theorem de_K_perform_135 : decode bc_K_perform 135 = .ok (.aload_n 1, 1) := by decide +kernel
theorem de_K_perform_136 : decode bc_K_perform 136 = .ok (.iload_n 2, 1) := by decide +kernel
theorem de_K_perform_137 : decode bc_K_perform 137 = .ok (.aload_n 1, 1) := by decide +kernel
theorem de_K_perform_138 : decode bc_K_perform 138 = .ok (.invokevirtual 232, 3) := by decide +kernel
theorem de_K_perform_141 : decode bc_K_perform 141 = .ok (.invokevirtual 149, 3) := by decide +kernel
theorem de_K_perform_144 : decode bc_K_perform 144 = .ok (.iconst 1, 1) := by decide +kernel
theorem de_K_perform_145 : decode bc_K_perform 145 = .ok (.ireturn, 1) := by decide +kernel
theorem de_K_perform_146 : decode bc_K_perform 146 = .ok (.aload_n 0, 1) := by decide +kernel
theorem de_K_perform_147 : decode bc_K_perform 147 = .ok (.aload_n 1, 1) := by decide +kernel
theorem de_K_perform_148 : decode bc_K_perform 148 = .ok (.invokevirtual 235, 3) := by decide +kernel
theorem de_K_perform_151 : decode bc_K_perform 151 = .ok (.ifCond .ne 11, 3) := by decide +kernel
theorem de_K_perform_154 : decode bc_K_perform 154 = .ok (.aload_n 0, 1) := by decide +kernel
theorem de_K_perform_155 : decode bc_K_perform 155 = .ok (.aload_n 1, 1) := by decide +kernel
theorem de_K_perform_156 : decode bc_K_perform 156 = .ok (.invokevirtual 238, 3) := by decide +kernel
theorem de_K_perform_159 : decode bc_K_perform 159 = .ok (.ifCond .eq 7, 3) := by decide +kernel
theorem de_K_perform_162 : decode bc_K_perform 162 = .ok (.iconst 1, 1) := by decide +kernel
theorem de_K_perform_163 : decode bc_K_perform 163 = .ok (.goto 4, 3) := by decide +kernel
theorem de_K_perform_166 : decode bc_K_perform 166 = .ok (.iconst 0, 1) := by decide +kernel
theorem de_K_perform_167 : decode bc_K_perform 167 = .ok (.ireturn, 1) := by decide +kernel
theorem de_K_perform_168 : decode bc_K_perform 168 = .ok (.aload_n 0, 1) := by decide +kernel
theorem de_K_perform_169 : decode bc_K_perform 169 = .ok (.iload_n 2, 1) := by decide +kernel
theorem de_K_perform_170 : decode bc_K_perform 170 = .ok (.iconst 0, 1) := by decide +kernel
theorem de_K_perform_171 : decode bc_K_perform 171 = .ok (.invokevirtual 241, 3) := by decide +kernel
theorem de_K_perform_174 : decode bc_K_perform 174 = .ok (.pop, 1) := by decide +kernel
theorem de_K_perform_175 : decode bc_K_perform 175 = .ok (.iconst 1, 1) := by decide +kernel
theorem de_K_perform_176 : decode bc_K_perform 176 = .ok (.ireturn, 1) := by decide +kernel
end
section
theorem de_K_perform_177 : decode bc_K_perform 177 = .ok (.aload_n 0, 1) := by decide +kernel
theorem de_K_perform_178 : decode bc_K_perform 178 = .ok (.iload_n 2, 1) := by decide +kernel
theorem de_K_perform_179 : decode bc_K_perform 179 = .ok (.invokevirtual 245, 3) := by decide +kernel
theorem de_K_perform_182 : decode bc_K_perform 182 = .ok (.pop, 1) := by decide +kernel
theorem de_K_perform_183 : decode bc_K_perform 183 = .ok (.iconst 1, 1) := by decide +kernel
theorem de_K_perform_184 : decode bc_K_perform 184 = .ok (.ireturn, 1) := by decide +kernel
theorem de_K_perform_185 : decode bc_K_perform 185 = .ok (.aload_n 0, 1) := by decide +kernel
theorem de_K_perform_186 : decode bc_K_perform 186 = .ok (.iload_n 2, 1) := by decide +kernel
theorem de_K_perform_187 : decode bc_K_perform 187 = .ok (.invokevirtual 248, 3) := by decide +kernel
theorem de_K_perform_190 : decode bc_K_perform 190 = .ok (.pop, 1) := by decide +kernel
theorem de_K_perform_191 : decode bc_K_perform 191 = .ok (.aload_n 1, 1) := by decide +kernel
theorem de_K_perform_192 : decode bc_K_perform 192 = .ok (.getfield 84, 3) := by decide +kernel
theorem de_K_perform_195 : decode bc_K_perform 195 = .ok (.bipush 7, 2) := by decide +kernel
theorem de_K_perform_197 : decode bc_K_perform 197 = .ok (.if_icmp .eq 7, 3) := by decide +kernel
theorem de_K_perform_200 : decode bc_K_perform 200 = .ok (.iconst 1, 1) := by decide +kernel
theorem de_K_perform_201 : decode bc_K_perform 201 = .ok (.goto 4, 3) := by decide +kernel
theorem de_K_perform_204 : decode bc_K_perform 204 = .ok (.iconst 0, 1) := by decide +kernel
theorem de_K_perform_205 : decode bc_K_perform 205 = .ok (.ireturn, 1) := by decide +kernel
theorem de_K_perform_206 : decode bc_K_perform 206 = .ok (.iconst 1, 1) := by decide +kernel
theorem de_K_perform_207 : decode bc_K_perform 207 = .ok (.ireturn, 1) := by decide +kernel
theorem de_P_beginRound_0 : decode bc_P_beginRound 0 = .ok (.aload_n 0, 1) := by decide +kernel
theorem de_P_beginRound_1 : decode bc_P_beginRound 1 = .ok (.dup, 1) := by decide +kernel
theorem de_P_beginRound_2 : decode bc_P_beginRound 2 = .ok (.getfield 31, 3) := by decide +kernel
theorem de_P_beginRound_5 : decode bc_P_beginRound 5 = .ok (.iconst 1, 1) := by decide +kernel
theorem de_P_beginRound_6 : decode bc_P_beginRound 6 = .ok (.isub, 1) := by decide +kernel
theorem de_P_beginRound_7 : decode bc_P_beginRound 7 = .ok (.putfield 31, 3) := by decide +kernel
theorem de_P_beginRound_10 : decode bc_P_beginRound 10 = .ok (.aload_n 0, 1) := by decide +kernel
theorem de_P_beginRound_11 : decode bc_P_beginRound 11 = .ok (.getfield 31, 3) := by decide +kernel
theorem de_P_beginRound_14 : decode bc_P_beginRound 14 = .ok (.ifCond .gt 11, 3) := by decide +kernel
theorem de_P_beginRound_17 : decode bc_P_beginRound 17 = .ok (.aload_n 0, 1) := by decide +kernel
theorem de_P_beginRound_18 : decode bc_P_beginRound 18 = .ok (.bipush 6, 2) := by decide +kernel
theorem de_P_beginRound_20 : decode bc_P_beginRound 20 = .ok (.putfield 37, 3) := by decide +kernel
theorem de_P_beginRound_23 : decode bc_P_beginRound 23 = .ok (.iconst 0, 1) := by decide +kernel
theorem de_P_beginRound_24 : decode bc_P_beginRound 24 = .ok (.ireturn, 1) := by decide +kernel
theorem de_P_beginRound_25 : decode bc_P_beginRound 25 = .ok (.aload_n 0, 1) := by decide +kernel
theorem de_P_beginRound_26 : decode bc_P_beginRound 26 = .ok (.iconst 0, 1) := by decide +kernel
theorem de_P_beginRound_27 : decode bc_P_beginRound 27 = .ok (.putfield 40, 3) := by decide +kernel
theorem de_P_beginRound_30 : decode bc_P_beginRound 30 = .ok (.iconst 1, 1) := by decide +kernel
theorem de_P_beginRound_31 : decode bc_P_beginRound 31 = .ok (.ireturn, 1) := by decide +kernel
theorem de_K_doTurn_0 : decode bc_K_doTurn 0 = .ok (.iconst 1, 1) := by decide +kernel
theorem de_K_doTurn_1 : decode bc_K_doTurn 1 = .ok (.istore_n 2, 1) := by decide +kernel
theorem de_K_doTurn_2 : decode bc_K_doTurn 2 = .ok (.iconst 0, 1) := by decide +kernel
theorem de_K_doTurn_3 : decode bc_K_doTurn 3 = .ok (.istore_n 3, 1) := by decide +kernel
theorem de_K_doTurn_4 : decode bc_K_doTurn 4 = .ok (.iload_n 2, 1) := by decide +kernel
theorem de_K_doTurn_5 : decode bc_K_doTurn 5 = .ok (.ifCond .eq 39, 3) := by decide +kernel
theorem de_K_doTurn_8 : decode bc_K_doTurn 8 = .ok (.iload_n 3, 1) := by decide +kernel
theorem de_K_doTurn_9 : decode bc_K_doTurn 9 = .ok (.bipush 99, 2) := by decide +kernel
theorem de_K_doTurn_11 : decode bc_K_doTurn 11 = .ok (.if_icmp .ge 33, 3) := by decide +kernel
theorem de_K_doTurn_14 : decode bc_K_doTurn 14 = .ok (.aload_n 1, 1) := by decide +kernel
theorem de_K_doTurn_15 : decode bc_K_doTurn 15 = .ok (.getfield 134, 3) := by decide +kernel
theorem de_K_doTurn_18 : decode bc_K_doTurn 18 = .ok (.aload_n 1, 1) := by decide +kernel
theorem de_K_doTurn_19 : decode bc_K_doTurn 19 = .ok (.getfield 87, 3) := by decide +kernel
theorem de_K_doTurn_22 : decode bc_K_doTurn 22 = .ok (.if_icmp .ge 11, 3) := by decide +kernel
theorem de_K_doTurn_25 : decode bc_K_doTurn 25 = .ok (.aload_n 0, 1) := by decide +kernel
theorem de_K_doTurn_26 : decode bc_K_doTurn 26 = .ok (.aload_n 1, 1) := by decide +kernel
theorem de_K_doTurn_27 : decode bc_K_doTurn 27 = .ok (.invokevirtual 211, 3) := by decide +kernel
theorem de_K_doTurn_30 : decode bc_K_doTurn 30 = .ok (.goto 7, 3) := by decide +kernel
theorem de_K_doTurn_33 : decode bc_K_doTurn 33 = .ok (.aload_n 1, 1) := by decide +kernel
theorem de_K_doTurn_34 : decode bc_K_doTurn 34 = .ok (.invokevirtual 214, 3) := by decide +kernel
theorem de_K_doTurn_37 : decode bc_K_doTurn 37 = .ok (.istore_n 2, 1) := by decide +kernel
theorem de_K_doTurn_38 : decode bc_K_doTurn 38 = .ok (.iinc 3 1, 3) := by decide +kernel
theorem de_K_doTurn_41 : decode bc_K_doTurn 41 = .ok (.goto (-37), 3) := by decide +kernel
theorem de_K_doTurn_44 : decode bc_K_doTurn 44 = .ok (.return_, 1) := by decide +kernel
theorem de_K_goOverConditions_0 : decode bc_K_goOverConditions 0 = .ok (.iconst 0, 1) := by decide +kernel
theorem de_K_goOverConditions_1 : decode bc_K_goOverConditions 1 = .ok (.istore_n 1, 1) := by decide +kernel
theorem de_K_goOverConditions_2 : decode bc_K_goOverConditions 2 = .ok (.aload_n 0, 1) := by decide +kernel
theorem de_K_goOverConditions_3 : decode bc_K_goOverConditions 3 = .ok (.getfield 30, 3) := by decide +kernel
theorem de_K_goOverConditions_6 : decode bc_K_goOverConditions 6 = .ok (.getfield 182, 3) := by decide +kernel
theorem de_K_goOverConditions_9 : decode bc_K_goOverConditions 9 = .ok (.istore_n 2, 1) := by decide +kernel
theorem de_K_goOverConditions_10 : decode bc_K_goOverConditions 10 = .ok (.iload_n 2, 1) := by decide +kernel
theorem de_K_goOverConditions_11 : decode bc_K_goOverConditions 11 = .ok (.ifCond .le 56, 3) := by decide +kernel
theorem de_K_goOverConditions_14 : decode bc_K_goOverConditions 14 = .ok (.aload_n 0, 1) := by decide +kernel
theorem de_K_goOverConditions_15 : decode bc_K_goOverConditions 15 = .ok (.getfield 11, 3) := by decide +kernel
theorem de_K_goOverConditions_18 : decode bc_K_goOverConditions 18 = .ok (.aload_n 0, 1) := by decide +kernel
theorem de_K_goOverConditions_19 : decode bc_K_goOverConditions 19 = .ok (.getfield 30, 3) := by decide +kernel
theorem de_K_goOverConditions_22 : decode bc_K_goOverConditions 22 = .ok (.getfield 251, 3) := by decide +kernel
theorem de_K_goOverConditions_25 : decode bc_K_goOverConditions 25 = .ok (.iload_n 1, 1) := by decide +kernel
theorem de_K_goOverConditions_26 : decode bc_K_goOverConditions 26 = .ok (.iaload, 1) := by decide +kernel
theorem de_K_goOverConditions_27 : decode bc_K_goOverConditions 27 = .ok (.aaload, 1) := by decide +kernel
theorem de_K_goOverConditions_28 : decode bc_K_goOverConditions 28 = .ok (.astore_n 3, 1) := by decide +kernel
theorem de_K_goOverConditions_29 : decode bc_K_goOverConditions 29 = .ok (.aload_n 0, 1) := by decide +kernel
theorem de_K_goOverConditions_30 : decode bc_K_goOverConditions 30 = .ok (.aload_n 3, 1) := by decide +kernel
theorem de_K_goOverConditions_31 : decode bc_K_goOverConditions 31 = .ok (.invokevirtual 235, 3) := by decide +kernel
theorem de_K_goOverConditions_34 : decode bc_K_goOverConditions 34 = .ok (.ifCond .eq 24, 3) := by decide +kernel
theorem de_K_goOverConditions_37 : decode bc_K_goOverConditions 37 = .ok (.aload_n 0, 1) := by decide +kernel
theorem de_K_goOverConditions_38 : decode bc_K_goOverConditions 38 = .ok (.getfield 30, 3) := by decide +kernel
theorem de_K_goOverConditions_41 : decode bc_K_goOverConditions 41 = .ok (.aload_n 3, 1) := by decide +kernel
theorem de_K_goOverConditions_42 : decode bc_K_goOverConditions 42 = .ok (.getfield 74, 3) := by decide +kernel
theorem de_K_goOverConditions_45 : decode bc_K_goOverConditions 45 = .ok (.invokevirtual 287, 3) := by decide +kernel
theorem de_K_goOverConditions_48 : decode bc_K_goOverConditions 48 = .ok (.aload_n 0, 1) := by decide +kernel
theorem de_K_goOverConditions_49 : decode bc_K_goOverConditions 49 = .ok (.aload_n 3, 1) := by decide +kernel
theorem de_K_goOverConditions_50 : decode bc_K_goOverConditions 50 = .ok (.iconst 1, 1) := by decide +kernel
theorem de_K_goOverConditions_51 : decode bc_K_goOverConditions 51 = .ok (.iconst 0, 1) := by decide +kernel
theorem de_K_goOverConditions_52 : decode bc_K_goOverConditions 52 = .ok (.invokevirtual 118, 3) := by decide +kernel
theorem de_K_goOverConditions_55 : decode bc_K_goOverConditions 55 = .ok (.goto 6, 3) := by decide +kernel
theorem de_K_goOverConditions_58 : decode bc_K_goOverConditions 58 = .ok (.iinc 1 1, 3) := by decide +kernel
theorem de_K_goOverConditions_61 : decode bc_K_goOverConditions 61 = .ok (.iinc 2 (-1), 3) := by decide +kernel
theorem de_K_goOverConditions_64 : decode bc_K_goOverConditions 64 = .ok (.goto (-54), 3) := by decide +kernel
theorem de_K_goOverConditions_67 : decode bc_K_goOverConditions 67 = .ok (.return_, 1) := by decide +kernel
theorem de_K_run_0 : decode bc_K_run 0 = .ok (.iload_n 1, 1) := by decide +kernel
theorem de_K_run_1 : decode bc_K_run 1 = .ok (.iconst 0, 1) := by decide +kernel
theorem de_K_run_2 : decode bc_K_run 2 = .ok (.bipush 100, 2) := by decide +kernel
theorem de_K_run_4 : decode bc_K_run 4 = .ok (.invokestatic 61, 3) := by decide +kernel
theorem de_K_run_7 : decode bc_K_run 7 = .ok (.ifCond .eq 20, 3) := by decide +kernel
theorem de_K_run_10 : decode bc_K_run 10 = .ok (.lload_n 2, 1) := by decide +kernel
theorem de_K_run_11 : decode bc_K_run 11 = .ok (.aload_n 0, 1) := by decide +kernel
theorem de_K_run_12 : decode bc_K_run 12 = .ok (.getfield 49, 3) := by decide +kernel
theorem de_K_run_15 : decode bc_K_run 15 = .ok (.lcmp, 1) := by decide +kernel
theorem de_K_run_16 : decode bc_K_run 16 = .ok (.ifCond .lt 11, 3) := by decide +kernel
theorem de_K_run_19 : decode bc_K_run 19 = .ok (.lload_n 2, 1) := by decide +kernel
theorem de_K_run_20 : decode bc_K_run 20 = .ok (.ldc2_w 152, 3) := by decide +kernel
theorem de_K_run_23 : decode bc_K_run 23 = .ok (.lcmp, 1) := by decide +kernel
theorem de_K_run_24 : decode bc_K_run 24 = .ok (.ifCond .le 5, 3) := by decide +kernel
theorem de_K_run_27 : decode bc_K_run 27 = .ok (.iconst (-1), 1) := by decide +kernel
theorem de_K_run_28 : decode bc_K_run 28 = .ok (.ireturn, 1) := by decide +kernel
theorem de_K_run_29 : decode bc_K_run 29 = .ok (.iconst 0, 1) := by decide +kernel
theorem de_K_run_30 : decode bc_K_run 30 = .ok (.istore 4, 2) := by decide +kernel
theorem de_K_run_32 : decode bc_K_run 32 = .ok (.aload_n 0, 1) := by decide +kernel
theorem de_K_run_33 : decode bc_K_run 33 = .ok (.invokevirtual 154, 3) := by decide +kernel
theorem de_K_run_36 : decode bc_K_run 36 = .ok (.istore 5, 2) := by decide +kernel
theorem de_K_run_38 : decode bc_K_run 38 = .ok (.iload 4, 2) := by decide +kernel
theorem de_K_run_40 : decode bc_K_run 40 = .ok (.iload_n 1, 1) := by decide +kernel
theorem de_K_run_41 : decode bc_K_run 41 = .ok (.if_icmp .ge 62, 3) := by decide +kernel
theorem de_K_run_44 : decode bc_K_run 44 = .ok (.iload 5, 2) := by decide +kernel
theorem de_K_run_46 : decode bc_K_run 46 = .ok (.iconst (-1), 1) := by decide +kernel
theorem de_K_run_47 : decode bc_K_run 47 = .ok (.if_icmp .eq 56, 3) := by decide +kernel
theorem de_K_run_50 : decode bc_K_run 50 = .ok (.aload_n 0, 1) := by decide +kernel
theorem de_K_run_51 : decode bc_K_run 51 = .ok (.getfield 11, 3) := by decide +kernel
theorem de_K_run_54 : decode bc_K_run 54 = .ok (.iload 5, 2) := by decide +kernel
theorem de_K_run_56 : decode bc_K_run 56 = .ok (.aaload, 1) := by decide +kernel
theorem de_K_run_57 : decode bc_K_run 57 = .ok (.getfield 158, 3) := by decide +kernel
theorem de_K_run_60 : decode bc_K_run 60 = .ok (.lload_n 2, 1) := by decide +kernel
theorem de_K_run_61 : decode bc_K_run 61 = .ok (.lcmp, 1) := by decide +kernel
theorem de_K_run_62 : decode bc_K_run 62 = .ok (.ifCond .gt 41, 3) := by decide +kernel
theorem de_K_run_65 : decode bc_K_run 65 = .ok (.aload_n 0, 1) := by decide +kernel
theorem de_K_run_66 : decode bc_K_run 66 = .ok (.aload_n 0, 1) := by decide +kernel
theorem de_K_run_67 : decode bc_K_run 67 = .ok (.getfield 11, 3) := by decide +kernel
theorem de_K_run_70 : decode bc_K_run 70 = .ok (.iload 5, 2) := by decide +kernel
theorem de_K_run_72 : decode bc_K_run 72 = .ok (.aaload, 1) := by decide +kernel
theorem de_K_run_73 : decode bc_K_run 73 = .ok (.invokevirtual 161, 3) := by decide +kernel
theorem de_K_run_76 : decode bc_K_run 76 = .ok (.aload_n 0, 1) := by decide +kernel
theorem de_K_run_77 : decode bc_K_run 77 = .ok (.aload_n 0, 1) := by decide +kernel
theorem de_K_run_78 : decode bc_K_run 78 = .ok (.getfield 11, 3) := by decide +kernel
theorem de_K_run_81 : decode bc_K_run 81 = .ok (.iload 5, 2) := by decide +kernel
theorem de_K_run_83 : decode bc_K_run 83 = .ok (.aaload, 1) := by decide +kernel
theorem de_K_run_84 : decode bc_K_run 84 = .ok (.invokevirtual 164, 3) := by decide +kernel
theorem de_K_run_87 : decode bc_K_run 87 = .ok (.aload_n 0, 1) := by decide +kernel
theorem de_K_run_88 : decode bc_K_run 88 = .ok (.invokevirtual 167, 3) := by decide +kernel
theorem de_K_run_91 : decode bc_K_run 91 = .ok (.iinc 4 1, 3) := by decide +kernel
theorem de_K_run_94 : decode bc_K_run 94 = .ok (.aload_n 0, 1) := by decide +kernel
theorem de_K_run_95 : decode bc_K_run 95 = .ok (.invokevirtual 154, 3) := by decide +kernel
theorem de_K_run_98 : decode bc_K_run 98 = .ok (.istore 5, 2) := by decide +kernel
theorem de_K_run_100 : decode bc_K_run 100 = .ok (.goto (-62), 3) := by decide +kernel
theorem de_K_run_103 : decode bc_K_run 103 = .ok (.iload 4, 2) := by decide +kernel
theorem de_K_run_105 : decode bc_K_run 105 = .ok (.iload_n 1, 1) := by decide +kernel
theorem de_K_run_106 : decode bc_K_run 106 = .ok (.if_icmp .ge 8, 3) := by decide +kernel
theorem de_K_run_109 : decode bc_K_run 109 = .ok (.aload_n 0, 1) := by decide +kernel
theorem de_K_run_110 : decode bc_K_run 110 = .ok (.lload_n 2, 1) := by decide +kernel
theorem de_K_run_111 : decode bc_K_run 111 = .ok (.invokevirtual 170, 3) := by decide +kernel
theorem de_K_run_114 : decode bc_K_run 114 = .ok (.iload 4, 2) := by decide +kernel
theorem de_K_run_116 : decode bc_K_run 116 = .ok (.ireturn, 1) := by decide +kernel
theorem de_K_now_0 : decode bc_K_now 0 = .ok (.aload_n 0, 1) := by decide +kernel
theorem de_K_now_1 : decode bc_K_now 1 = .ok (.getfield 49, 3) := by decide +kernel
theorem de_K_now_4 : decode bc_K_now 4 = .ok (.lreturn, 1) := by decide +kernel
theorem de_K_next_0 : decode bc_K_next 0 = .ok (.aload_n 0, 1) := by decide +kernel
theorem de_K_next_1 : decode bc_K_next 1 = .ok (.invokevirtual 154, 3) := by decide +kernel
theorem de_K_next_4 : decode bc_K_next 4 = .ok (.istore_n 1, 1) := by decide +kernel
theorem de_K_next_5 : decode bc_K_next 5 = .ok (.iload_n 1, 1) := by decide +kernel
theorem de_K_next_6 : decode bc_K_next 6 = .ok (.iconst (-1), 1) := by decide +kernel
theorem de_K_next_7 : decode bc_K_next 7 = .ok (.if_icmp .ne 9, 3) := by decide +kernel
theorem de_K_next_10 : decode bc_K_next 10 = .ok (.ldc2_w 174, 3) := by decide +kernel
theorem de_K_next_13 : decode bc_K_next 13 = .ok (.goto 12, 3) := by decide +kernel
theorem de_K_next_16 : decode bc_K_next 16 = .ok (.aload_n 0, 1) := by decide +kernel
theorem de_K_next_17 : decode bc_K_next 17 = .ok (.getfield 11, 3) := by decide +kernel
theorem de_K_next_20 : decode bc_K_next 20 = .ok (.iload_n 1, 1) := by decide +kernel
theorem de_K_next_21 : decode bc_K_next 21 = .ok (.aaload, 1) := by decide +kernel
theorem de_K_next_22 : decode bc_K_next 22 = .ok (.getfield 158, 3) := by decide +kernel
theorem de_K_next_25 : decode bc_K_next 25 = .ok (.lreturn, 1) := by decide +kernel
theorem de_K_state_0 : decode bc_K_state 0 = .ok (.aload_n 0, 1) := by decide +kernel
theorem de_K_state_1 : decode bc_K_state 1 = .ok (.iload_n 1, 1) := by decide +kernel
theorem de_K_state_2 : decode bc_K_state 2 = .ok (.invokevirtual 77, 3) := by decide +kernel
theorem de_K_state_5 : decode bc_K_state 5 = .ok (.ifCond .eq 15, 3) := by decide +kernel
theorem de_K_state_8 : decode bc_K_state 8 = .ok (.aload_n 0, 1) := by decide +kernel
theorem de_K_state_9 : decode bc_K_state 9 = .ok (.getfield 11, 3) := by decide +kernel
theorem de_K_state_12 : decode bc_K_state 12 = .ok (.iload_n 1, 1) := by decide +kernel
theorem de_K_state_13 : decode bc_K_state 13 = .ok (.aaload, 1) := by decide +kernel
theorem de_K_state_14 : decode bc_K_state 14 = .ok (.getfield 84, 3) := by decide +kernel
theorem de_K_state_17 : decode bc_K_state 17 = .ok (.goto 4, 3) := by decide +kernel
theorem de_K_state_20 : decode bc_K_state 20 = .ok (.iconst (-1), 1) := by decide +kernel
theorem de_K_state_21 : decode bc_K_state 21 = .ok (.ireturn, 1) := by decide +kernel
theorem de_K_place_0 : decode bc_K_place 0 = .ok (.aload_n 0, 1) := by decide +kernel
theorem de_K_place_1 : decode bc_K_place 1 = .ok (.iload_n 1, 1) := by decide +kernel
theorem de_K_place_2 : decode bc_K_place 2 = .ok (.invokevirtual 77, 3) := by decide +kernel
theorem de_K_place_5 : decode bc_K_place 5 = .ok (.ifCond .eq 15, 3) := by decide +kernel
theorem de_K_place_8 : decode bc_K_place 8 = .ok (.aload_n 0, 1) := by decide +kernel
theorem de_K_place_9 : decode bc_K_place 9 = .ok (.getfield 11, 3) := by decide +kernel
theorem de_K_place_12 : decode bc_K_place 12 = .ok (.iload_n 1, 1) := by decide +kernel
theorem de_K_place_13 : decode bc_K_place 13 = .ok (.aaload, 1) := by decide +kernel
theorem de_K_place_14 : decode bc_K_place 14 = .ok (.getfield 134, 3) := by decide +kernel
theorem de_K_place_17 : decode bc_K_place 17 = .ok (.goto 4, 3) := by decide +kernel
theorem de_K_place_20 : decode bc_K_place 20 = .ok (.iconst (-1), 1) := by decide +kernel
theorem de_K_place_21 : decode bc_K_place 21 = .ok (.ireturn, 1) := by decide +kernel
theorem de_K_held_0 : decode bc_K_held 0 = .ok (.aload_n 0, 1) := by decide +kernel
theorem de_K_held_1 : decode bc_K_held 1 = .ok (.iload_n 1, 1) := by decide +kernel
theorem de_K_held_2 : decode bc_K_held 2 = .ok (.invokevirtual 77, 3) := by decide +kernel
theorem de_K_held_5 : decode bc_K_held 5 = .ok (.ifCond .eq 24, 3) := by decide +kernel
theorem de_K_held_8 : decode bc_K_held 8 = .ok (.iload_n 2, 1) := by decide +kernel
theorem de_K_held_9 : decode bc_K_held 9 = .ok (.invokestatic 94, 3) := by decide +kernel
theorem de_K_held_12 : decode bc_K_held 12 = .ok (.ifCond .eq 17, 3) := by decide +kernel
theorem de_K_held_15 : decode bc_K_held 15 = .ok (.aload_n 0, 1) := by decide +kernel
theorem de_K_held_16 : decode bc_K_held 16 = .ok (.getfield 11, 3) := by decide +kernel
theorem de_K_held_19 : decode bc_K_held 19 = .ok (.iload_n 1, 1) := by decide +kernel
theorem de_K_held_20 : decode bc_K_held 20 = .ok (.aaload, 1) := by decide +kernel
theorem de_K_held_21 : decode bc_K_held 21 = .ok (.getfield 176, 3) := by decide +kernel
theorem de_K_held_24 : decode bc_K_held 24 = .ok (.iload_n 2, 1) := by decide +kernel
theorem de_K_held_25 : decode bc_K_held 25 = .ok (.iaload, 1) := by decide +kernel
theorem de_K_held_26 : decode bc_K_held 26 = .ok (.goto 4, 3) := by decide +kernel
theorem de_K_held_29 : decode bc_K_held 29 = .ok (.iconst (-1), 1) := by decide +kernel
theorem de_K_held_30 : decode bc_K_held 30 = .ok (.ireturn, 1) := by decide +kernel
theorem de_K_free_0 : decode bc_K_free 0 = .ok (.iload_n 1, 1) := by decide +kernel
theorem de_K_free_1 : decode bc_K_free 1 = .ok (.invokestatic 94, 3) := by decide +kernel
theorem de_K_free_4 : decode bc_K_free 4 = .ok (.ifCond .eq 15, 3) := by decide +kernel
theorem de_K_free_7 : decode bc_K_free 7 = .ok (.aload_n 0, 1) := by decide +kernel
theorem de_K_free_8 : decode bc_K_free 8 = .ok (.getfield 17, 3) := by decide +kernel
theorem de_K_free_11 : decode bc_K_free 11 = .ok (.iload_n 1, 1) := by decide +kernel
theorem de_K_free_12 : decode bc_K_free 12 = .ok (.aaload, 1) := by decide +kernel
theorem de_K_free_13 : decode bc_K_free 13 = .ok (.invokevirtual 179, 3) := by decide +kernel
theorem de_K_free_16 : decode bc_K_free 16 = .ok (.goto 4, 3) := by decide +kernel
theorem de_K_free_19 : decode bc_K_free 19 = .ok (.iconst (-1), 1) := by decide +kernel
theorem de_K_free_20 : decode bc_K_free 20 = .ok (.ireturn, 1) := by decide +kernel
theorem de_K_waiting_0 : decode bc_K_waiting 0 = .ok (.iload_n 1, 1) := by decide +kernel
theorem de_K_waiting_1 : decode bc_K_waiting 1 = .ok (.iconst 4, 1) := by decide +kernel
theorem de_K_waiting_2 : decode bc_K_waiting 2 = .ok (.if_icmp .ne 11, 3) := by decide +kernel
theorem de_K_waiting_5 : decode bc_K_waiting 5 = .ok (.aload_n 0, 1) := by decide +kernel
theorem de_K_waiting_6 : decode bc_K_waiting 6 = .ok (.getfield 30, 3) := by decide +kernel
theorem de_K_waiting_9 : decode bc_K_waiting 9 = .ok (.getfield 182, 3) := by decide +kernel
theorem de_K_waiting_12 : decode bc_K_waiting 12 = .ok (.ireturn, 1) := by decide +kernel
theorem de_K_waiting_13 : decode bc_K_waiting 13 = .ok (.iload_n 1, 1) := by decide +kernel
theorem de_K_waiting_14 : decode bc_K_waiting 14 = .ok (.invokestatic 94, 3) := by decide +kernel
theorem de_K_waiting_17 : decode bc_K_waiting 17 = .ok (.ifCond .eq 18, 3) := by decide +kernel
theorem de_K_waiting_20 : decode bc_K_waiting 20 = .ok (.aload_n 0, 1) := by decide +kernel
theorem de_K_waiting_21 : decode bc_K_waiting 21 = .ok (.getfield 17, 3) := by decide +kernel
theorem de_K_waiting_24 : decode bc_K_waiting 24 = .ok (.iload_n 1, 1) := by decide +kernel
theorem de_K_waiting_25 : decode bc_K_waiting 25 = .ok (.aaload, 1) := by decide +kernel
theorem de_K_waiting_26 : decode bc_K_waiting 26 = .ok (.getfield 185, 3) := by decide +kernel
theorem de_K_waiting_29 : decode bc_K_waiting 29 = .ok (.getfield 182, 3) := by decide +kernel
theorem de_K_waiting_32 : decode bc_K_waiting 32 = .ok (.goto 4, 3) := by decide +kernel
theorem de_K_waiting_35 : decode bc_K_waiting 35 = .ok (.iconst (-1), 1) := by decide +kernel
theorem de_K_waiting_36 : decode bc_K_waiting 36 = .ok (.ireturn, 1) := by decide +kernel
theorem de_K_area_0 : decode bc_K_area 0 = .ok (.iload_n 1, 1) := by decide +kernel
theorem de_K_area_1 : decode bc_K_area 1 = .ok (.invokestatic 94, 3) := by decide +kernel
theorem de_K_area_4 : decode bc_K_area 4 = .ok (.ifCond .eq 15, 3) := by decide +kernel
theorem de_K_area_7 : decode bc_K_area 7 = .ok (.aload_n 0, 1) := by decide +kernel
theorem de_K_area_8 : decode bc_K_area 8 = .ok (.getfield 17, 3) := by decide +kernel
theorem de_K_area_11 : decode bc_K_area 11 = .ok (.iload_n 1, 1) := by decide +kernel
theorem de_K_area_12 : decode bc_K_area 12 = .ok (.aaload, 1) := by decide +kernel
theorem de_K_area_13 : decode bc_K_area 13 = .ok (.getfield 188, 3) := by decide +kernel
theorem de_K_area_16 : decode bc_K_area 16 = .ok (.goto 6, 3) := by decide +kernel
theorem de_K_area_19 : decode bc_K_area 19 = .ok (.ldc2_w 174, 3) := by decide +kernel
theorem de_K_area_22 : decode bc_K_area 22 = .ok (.lreturn, 1) := by decide +kernel
theorem de_K_waited_0 : decode bc_K_waited 0 = .ok (.iload_n 1, 1) := by decide +kernel
theorem de_K_waited_1 : decode bc_K_waited 1 = .ok (.invokestatic 94, 3) := by decide +kernel
theorem de_K_waited_4 : decode bc_K_waited 4 = .ok (.ifCond .eq 15, 3) := by decide +kernel
theorem de_K_waited_7 : decode bc_K_waited 7 = .ok (.aload_n 0, 1) := by decide +kernel
theorem de_K_waited_8 : decode bc_K_waited 8 = .ok (.getfield 17, 3) := by decide +kernel
theorem de_K_waited_11 : decode bc_K_waited 11 = .ok (.iload_n 1, 1) := by decide +kernel
theorem de_K_waited_12 : decode bc_K_waited 12 = .ok (.aaload, 1) := by decide +kernel
theorem de_K_waited_13 : decode bc_K_waited 13 = .ok (.getfield 191, 3) := by decide +kernel
theorem de_K_waited_16 : decode bc_K_waited 16 = .ok (.goto 6, 3) := by decide +kernel
theorem de_K_waited_19 : decode bc_K_waited 19 = .ok (.ldc2_w 174, 3) := by decide +kernel
theorem de_K_waited_22 : decode bc_K_waited 22 = .ok (.lreturn, 1) := by decide +kernel
theorem de_K_level_0 : decode bc_K_level 0 = .ok (.iload_n 1, 1) := by decide +kernel
theorem de_K_level_1 : decode bc_K_level 1 = .ok (.invokestatic 110, 3) := by decide +kernel
theorem de_K_level_4 : decode bc_K_level 4 = .ok (.ifCond .eq 15, 3) := by decide +kernel
theorem de_K_level_7 : decode bc_K_level 7 = .ok (.aload_n 0, 1) := by decide +kernel
theorem de_K_level_8 : decode bc_K_level 8 = .ok (.getfield 23, 3) := by decide +kernel
theorem de_K_level_11 : decode bc_K_level 11 = .ok (.iload_n 1, 1) := by decide +kernel
theorem de_K_level_12 : decode bc_K_level 12 = .ok (.aaload, 1) := by decide +kernel
theorem de_K_level_13 : decode bc_K_level 13 = .ok (.getfield 114, 3) := by decide +kernel
theorem de_K_level_16 : decode bc_K_level 16 = .ok (.goto 4, 3) := by decide +kernel
theorem de_K_level_19 : decode bc_K_level 19 = .ok (.iconst (-1), 1) := by decide +kernel
theorem de_K_level_20 : decode bc_K_level 20 = .ok (.ireturn, 1) := by decide +kernel
theorem de_K_stuck_0 : decode bc_K_stuck 0 = .ok (.aload_n 0, 1) := by decide +kernel
theorem de_K_stuck_1 : decode bc_K_stuck 1 = .ok (.getfield 30, 3) := by decide +kernel
theorem de_K_stuck_4 : decode bc_K_stuck 4 = .ok (.getfield 182, 3) := by decide +kernel
theorem de_K_stuck_7 : decode bc_K_stuck 7 = .ok (.ifCond .le 7, 3) := by decide +kernel
theorem de_K_stuck_10 : decode bc_K_stuck 10 = .ok (.iconst 1, 1) := by decide +kernel
theorem de_K_stuck_11 : decode bc_K_stuck 11 = .ok (.goto 4, 3) := by decide +kernel
theorem de_K_stuck_14 : decode bc_K_stuck 14 = .ok (.iconst 0, 1) := by decide +kernel
theorem de_K_stuck_15 : decode bc_K_stuck 15 = .ok (.istore_n 1, 1) := by decide +kernel
theorem de_K_stuck_16 : decode bc_K_stuck 16 = .ok (.iconst 0, 1) := by decide +kernel
theorem de_K_stuck_17 : decode bc_K_stuck 17 = .ok (.istore_n 2, 1) := by decide +kernel
theorem de_K_stuck_18 : decode bc_K_stuck 18 = .ok (.iload_n 2, 1) := by decide +kernel
theorem de_K_stuck_19 : decode bc_K_stuck 19 = .ok (.iconst 4, 1) := by decide +kernel
theorem de_K_stuck_20 : decode bc_K_stuck 20 = .ok (.if_icmp .ge 34, 3) := by decide +kernel
theorem de_K_stuck_23 : decode bc_K_stuck 23 = .ok (.iload_n 1, 1) := by decide +kernel
theorem de_K_stuck_24 : decode bc_K_stuck 24 = .ok (.ifCond .ne 18, 3) := by decide +kernel
theorem de_K_stuck_27 : decode bc_K_stuck 27 = .ok (.aload_n 0, 1) := by decide +kernel
theorem de_K_stuck_28 : decode bc_K_stuck 28 = .ok (.getfield 17, 3) := by decide +kernel
theorem de_K_stuck_31 : decode bc_K_stuck 31 = .ok (.iload_n 2, 1) := by decide +kernel
theorem de_K_stuck_32 : decode bc_K_stuck 32 = .ok (.aaload, 1) := by decide +kernel
theorem de_K_stuck_33 : decode bc_K_stuck 33 = .ok (.getfield 185, 3) := by decide +kernel
theorem de_K_stuck_36 : decode bc_K_stuck 36 = .ok (.getfield 182, 3) := by decide +kernel
theorem de_K_stuck_39 : decode bc_K_stuck 39 = .ok (.ifCond .le 7, 3) := by decide +kernel
theorem de_K_stuck_42 : decode bc_K_stuck 42 = .ok (.iconst 1, 1) := by decide +kernel
theorem de_K_stuck_43 : decode bc_K_stuck 43 = .ok (.goto 4, 3) := by decide +kernel
theorem de_K_stuck_46 : decode bc_K_stuck 46 = .ok (.iconst 0, 1) := by decide +kernel
theorem de_K_stuck_47 : decode bc_K_stuck 47 = .ok (.istore_n 1, 1) := by decide +kernel
theorem de_K_stuck_48 : decode bc_K_stuck 48 = .ok (.iinc 2 1, 3) := by decide +kernel
theorem de_K_stuck_51 : decode bc_K_stuck 51 = .ok (.goto (-33), 3) := by decide +kernel
theorem de_K_stuck_54 : decode bc_K_stuck 54 = .ok (.iload_n 1, 1) := by decide +kernel
theorem de_K_stuck_55 : decode bc_K_stuck 55 = .ok (.ifCond .eq 15, 3) := by decide +kernel
theorem de_K_stuck_58 : decode bc_K_stuck 58 = .ok (.aload_n 0, 1) := by decide +kernel
theorem de_K_stuck_59 : decode bc_K_stuck 59 = .ok (.invokevirtual 154, 3) := by decide +kernel
theorem de_K_stuck_62 : decode bc_K_stuck 62 = .ok (.iconst (-1), 1) := by decide +kernel
theorem de_K_stuck_63 : decode bc_K_stuck 63 = .ok (.if_icmp .ne 7, 3) := by decide +kernel
theorem de_K_stuck_66 : decode bc_K_stuck 66 = .ok (.iconst 1, 1) := by decide +kernel
theorem de_K_stuck_67 : decode bc_K_stuck 67 = .ok (.goto 4, 3) := by decide +kernel
theorem de_K_stuck_70 : decode bc_K_stuck 70 = .ok (.iconst 0, 1) := by decide +kernel
theorem de_K_stuck_71 : decode bc_K_stuck 71 = .ok (.ireturn, 1) := by decide +kernel
theorem de_C_before_0 : decode bc_C_before 0 = .ok (.iload_n 1, 1) := by decide +kernel
theorem de_C_before_1 : decode bc_C_before 1 = .ok (.ifCond .lt 11, 3) := by decide +kernel
theorem de_C_before_4 : decode bc_C_before 4 = .ok (.iload_n 1, 1) := by decide +kernel
theorem de_C_before_5 : decode bc_C_before 5 = .ok (.aload_n 0, 1) := by decide +kernel
theorem de_C_before_6 : decode bc_C_before 6 = .ok (.getfield 19, 3) := by decide +kernel
theorem de_C_before_9 : decode bc_C_before 9 = .ok (.if_icmp .lt 5, 3) := by decide +kernel
theorem de_C_before_12 : decode bc_C_before 12 = .ok (.iconst (-1), 1) := by decide +kernel
theorem de_C_before_13 : decode bc_C_before 13 = .ok (.ireturn, 1) := by decide +kernel
theorem de_C_before_14 : decode bc_C_before 14 = .ok (.aload_n 0, 1) := by decide +kernel
theorem de_C_before_15 : decode bc_C_before 15 = .ok (.getfield 9, 3) := by decide +kernel
theorem de_C_before_18 : decode bc_C_before 18 = .ok (.aload_n 0, 1) := by decide +kernel
theorem de_C_before_19 : decode bc_C_before 19 = .ok (.getfield 15, 3) := by decide +kernel
theorem de_C_before_22 : decode bc_C_before 22 = .ok (.iload_n 1, 1) := by decide +kernel
theorem de_C_before_23 : decode bc_C_before 23 = .ok (.isub, 1) := by decide +kernel
theorem de_C_before_24 : decode bc_C_before 24 = .ok (.bipush 64, 2) := by decide +kernel
theorem de_C_before_26 : decode bc_C_before 26 = .ok (.iadd, 1) := by decide +kernel
theorem de_C_before_27 : decode bc_C_before 27 = .ok (.bipush 64, 2) := by decide +kernel
theorem de_C_before_29 : decode bc_C_before 29 = .ok (.irem, 1) := by decide +kernel
theorem de_C_before_30 : decode bc_C_before 30 = .ok (.iaload, 1) := by decide +kernel
theorem de_C_before_31 : decode bc_C_before 31 = .ok (.ireturn, 1) := by decide +kernel
theorem de_K_traced_0 : decode bc_K_traced 0 = .ok (.aload_n 0, 1) := by decide +kernel
theorem de_K_traced_1 : decode bc_K_traced 1 = .ok (.getfield 37, 3) := by decide +kernel
theorem de_K_traced_4 : decode bc_K_traced 4 = .ok (.iload_n 1, 1) := by decide +kernel
theorem de_K_traced_5 : decode bc_K_traced 5 = .ok (.invokevirtual 194, 3) := by decide +kernel
theorem de_K_traced_8 : decode bc_K_traced 8 = .ok (.ireturn, 1) := by decide +kernel
theorem de_M_process_0 : decode bc_M_process 0 = .ok (.aload_n 0, 1) := by decide +kernel
theorem de_M_process_1 : decode bc_M_process 1 = .ok (.getfield 78, 3) := by decide +kernel
theorem de_M_process_4 : decode bc_M_process 4 = .ok (.bipush 12, 2) := by decide +kernel
theorem de_M_process_6 : decode bc_M_process 6 = .ok (.if_icmp .eq 35, 3) := by decide +kernel
theorem de_M_process_9 : decode bc_M_process 9 = .ok (.iload_n 1, 1) := by decide +kernel
theorem de_M_process_10 : decode bc_M_process 10 = .ok (.bipush (-4), 2) := by decide +kernel
theorem de_M_process_12 : decode bc_M_process 12 = .ok (.if_icmp .lt 29, 3) := by decide +kernel
theorem de_M_process_15 : decode bc_M_process 15 = .ok (.iload_n 1, 1) := by decide +kernel
theorem de_M_process_16 : decode bc_M_process 16 = .ok (.iconst 4, 1) := by decide +kernel
theorem de_M_process_17 : decode bc_M_process 17 = .ok (.if_icmp .gt 24, 3) := by decide +kernel
theorem de_M_process_20 : decode bc_M_process 20 = .ok (.iload_n 2, 1) := by decide +kernel
theorem de_M_process_21 : decode bc_M_process 21 = .ok (.iconst 1, 1) := by decide +kernel
theorem de_M_process_22 : decode bc_M_process 22 = .ok (.if_icmp .lt 19, 3) := by decide +kernel
theorem de_M_process_25 : decode bc_M_process 25 = .ok (.iload_n 2, 1) := by decide +kernel
theorem de_M_process_26 : decode bc_M_process 26 = .ok (.bipush 9, 2) := by decide +kernel
theorem de_M_process_28 : decode bc_M_process 28 = .ok (.if_icmp .gt 13, 3) := by decide +kernel
theorem de_M_process_31 : decode bc_M_process 31 = .ok (.iload_n 3, 1) := by decide +kernel
theorem de_M_process_32 : decode bc_M_process 32 = .ok (.ifCond .lt 9, 3) := by decide +kernel
theorem de_M_process_35 : decode bc_M_process 35 = .ok (.iload_n 3, 1) := by decide +kernel
theorem de_M_process_36 : decode bc_M_process 36 = .ok (.bipush 10, 2) := by decide +kernel
theorem de_M_process_38 : decode bc_M_process 38 = .ok (.if_icmp .le 5, 3) := by decide +kernel
theorem de_M_process_41 : decode bc_M_process 41 = .ok (.iconst (-1), 1) := by decide +kernel
theorem de_M_process_42 : decode bc_M_process 42 = .ok (.ireturn, 1) := by decide +kernel
theorem de_M_process_43 : decode bc_M_process 43 = .ok (.aload_n 0, 1) := by decide +kernel
theorem de_M_process_44 : decode bc_M_process 44 = .ok (.getfield 7, 3) := by decide +kernel
theorem de_M_process_47 : decode bc_M_process 47 = .ok (.aload_n 0, 1) := by decide +kernel
theorem de_M_process_48 : decode bc_M_process 48 = .ok (.getfield 78, 3) := by decide +kernel
theorem de_M_process_51 : decode bc_M_process 51 = .ok (.iload_n 1, 1) := by decide +kernel
theorem de_M_process_52 : decode bc_M_process 52 = .ok (.iastore, 1) := by decide +kernel
theorem de_M_process_53 : decode bc_M_process 53 = .ok (.aload_n 0, 1) := by decide +kernel
theorem de_M_process_54 : decode bc_M_process 54 = .ok (.getfield 13, 3) := by decide +kernel
theorem de_M_process_57 : decode bc_M_process 57 = .ok (.aload_n 0, 1) := by decide +kernel
theorem de_M_process_58 : decode bc_M_process 58 = .ok (.getfield 78, 3) := by decide +kernel
theorem de_M_process_61 : decode bc_M_process 61 = .ok (.iload_n 2, 1) := by decide +kernel
theorem de_M_process_62 : decode bc_M_process 62 = .ok (.iastore, 1) := by decide +kernel
theorem de_M_process_63 : decode bc_M_process 63 = .ok (.aload_n 0, 1) := by decide +kernel
theorem de_M_process_64 : decode bc_M_process 64 = .ok (.getfield 16, 3) := by decide +kernel
theorem de_M_process_67 : decode bc_M_process 67 = .ok (.aload_n 0, 1) := by decide +kernel
theorem de_M_process_68 : decode bc_M_process 68 = .ok (.getfield 78, 3) := by decide +kernel
theorem de_M_process_71 : decode bc_M_process 71 = .ok (.iload_n 3, 1) := by decide +kernel
theorem de_M_process_72 : decode bc_M_process 72 = .ok (.iastore, 1) := by decide +kernel
theorem de_M_process_73 : decode bc_M_process 73 = .ok (.aload_n 0, 1) := by decide +kernel
theorem de_M_process_74 : decode bc_M_process 74 = .ok (.getfield 32, 3) := by decide +kernel
theorem de_M_process_77 : decode bc_M_process 77 = .ok (.aload_n 0, 1) := by decide +kernel
theorem de_M_process_78 : decode bc_M_process 78 = .ok (.getfield 78, 3) := by decide +kernel
theorem de_M_process_81 : decode bc_M_process 81 = .ok (.iconst (-1), 1) := by decide +kernel
theorem de_M_process_82 : decode bc_M_process 82 = .ok (.iastore, 1) := by decide +kernel
theorem de_M_process_83 : decode bc_M_process 83 = .ok (.aload_n 0, 1) := by decide +kernel
theorem de_M_process_84 : decode bc_M_process 84 = .ok (.dup, 1) := by decide +kernel
theorem de_M_process_85 : decode bc_M_process 85 = .ok (.getfield 78, 3) := by decide +kernel
theorem de_M_process_88 : decode bc_M_process 88 = .ok (.iconst 1, 1) := by decide +kernel
theorem de_M_process_89 : decode bc_M_process 89 = .ok (.iadd, 1) := by decide +kernel
theorem de_M_process_90 : decode bc_M_process 90 = .ok (.putfield 78, 3) := by decide +kernel
theorem de_M_process_93 : decode bc_M_process 93 = .ok (.aload_n 0, 1) := by decide +kernel
theorem de_M_process_94 : decode bc_M_process 94 = .ok (.getfield 78, 3) := by decide +kernel
theorem de_M_process_97 : decode bc_M_process 97 = .ok (.iconst 1, 1) := by decide +kernel
theorem de_M_process_98 : decode bc_M_process 98 = .ok (.isub, 1) := by decide +kernel
theorem de_M_process_99 : decode bc_M_process 99 = .ok (.ireturn, 1) := by decide +kernel
theorem de_M_within_0 : decode bc_M_within 0 = .ok (.iload_n 1, 1) := by decide +kernel
theorem de_M_within_1 : decode bc_M_within 1 = .ok (.iload_n 2, 1) := by decide +kernel
theorem de_M_within_2 : decode bc_M_within 2 = .ok (.if_icmp .lt 12, 3) := by decide +kernel
theorem de_M_within_5 : decode bc_M_within 5 = .ok (.iload_n 1, 1) := by decide +kernel
theorem de_M_within_6 : decode bc_M_within 6 = .ok (.iload_n 3, 1) := by decide +kernel
theorem de_M_within_7 : decode bc_M_within 7 = .ok (.if_icmp .gt 7, 3) := by decide +kernel
theorem de_M_within_10 : decode bc_M_within 10 = .ok (.iconst 1, 1) := by decide +kernel
theorem de_M_within_11 : decode bc_M_within 11 = .ok (.goto 4, 3) := by decide +kernel
theorem de_M_within_14 : decode bc_M_within 14 = .ok (.iconst 0, 1) := by decide +kernel
theorem de_M_within_15 : decode bc_M_within 15 = .ok (.ireturn, 1) := by decide +kernel
theorem de_M_fits_0 : decode bc_M_fits 0 = .ok (.iload_n 1, 1) := by decide +kernel
theorem de_M_fits_1 : decode bc_M_fits 1 = .ok (.ifCond .ne 12, 3) := by decide +kernel
theorem de_M_fits_4 : decode bc_M_fits 4 = .ok (.aload_n 0, 1) := by decide +kernel
theorem de_M_fits_5 : decode bc_M_fits 5 = .ok (.iload_n 2, 1) := by decide +kernel
theorem de_M_fits_6 : decode bc_M_fits 6 = .ok (.iconst 0, 1) := by decide +kernel
theorem de_M_fits_7 : decode bc_M_fits 7 = .ok (.ldc 82, 2) := by decide +kernel
theorem de_M_fits_9 : decode bc_M_fits 9 = .ok (.invokevirtual 83, 3) := by decide +kernel
theorem de_M_fits_12 : decode bc_M_fits 12 = .ok (.ireturn, 1) := by decide +kernel
theorem de_M_fits_13 : decode bc_M_fits 13 = .ok (.iload_n 1, 1) := by decide +kernel
theorem de_M_fits_14 : decode bc_M_fits 14 = .ok (.iconst 1, 1) := by decide +kernel
theorem de_M_fits_15 : decode bc_M_fits 15 = .ok (.if_icmp .ne 5, 3) := by decide +kernel
theorem de_M_fits_18 : decode bc_M_fits 18 = .ok (.iconst 1, 1) := by decide +kernel
theorem de_M_fits_19 : decode bc_M_fits 19 = .ok (.ireturn, 1) := by decide +kernel
theorem de_M_fits_20 : decode bc_M_fits 20 = .ok (.iload_n 1, 1) := by decide +kernel
theorem de_M_fits_21 : decode bc_M_fits 21 = .ok (.iconst 3, 1) := by decide +kernel
theorem de_M_fits_22 : decode bc_M_fits 22 = .ok (.if_icmp .gt 30, 3) := by decide +kernel
theorem de_M_fits_25 : decode bc_M_fits 25 = .ok (.aload_n 0, 1) := by decide +kernel
theorem de_M_fits_26 : decode bc_M_fits 26 = .ok (.iload_n 2, 1) := by decide +kernel
theorem de_M_fits_27 : decode bc_M_fits 27 = .ok (.iconst 0, 1) := by decide +kernel
theorem de_M_fits_28 : decode bc_M_fits 28 = .ok (.iconst 3, 1) := by decide +kernel
theorem de_M_fits_29 : decode bc_M_fits 29 = .ok (.invokevirtual 83, 3) := by decide +kernel
theorem de_M_fits_32 : decode bc_M_fits 32 = .ok (.ifCond .eq 18, 3) := by decide +kernel
theorem de_M_fits_35 : decode bc_M_fits 35 = .ok (.aload_n 0, 1) := by decide +kernel
theorem de_M_fits_36 : decode bc_M_fits 36 = .ok (.iload_n 3, 1) := by decide +kernel
theorem de_M_fits_37 : decode bc_M_fits 37 = .ok (.iconst 1, 1) := by decide +kernel
theorem de_M_fits_38 : decode bc_M_fits 38 = .ok (.bipush 9, 2) := by decide +kernel
theorem de_M_fits_40 : decode bc_M_fits 40 = .ok (.invokevirtual 83, 3) := by decide +kernel
theorem de_M_fits_43 : decode bc_M_fits 43 = .ok (.ifCond .eq 7, 3) := by decide +kernel
theorem de_M_fits_46 : decode bc_M_fits 46 = .ok (.iconst 1, 1) := by decide +kernel
theorem de_M_fits_47 : decode bc_M_fits 47 = .ok (.goto 4, 3) := by decide +kernel
theorem de_M_fits_50 : decode bc_M_fits 50 = .ok (.iconst 0, 1) := by decide +kernel
theorem de_M_fits_51 : decode bc_M_fits 51 = .ok (.ireturn, 1) := by decide +kernel
theorem de_M_fits_52 : decode bc_M_fits 52 = .ok (.iload_n 1, 1) := by decide +kernel
theorem de_M_fits_53 : decode bc_M_fits 53 = .ok (.iconst 5, 1) := by decide +kernel
theorem de_M_fits_54 : decode bc_M_fits 54 = .ok (.if_icmp .gt 31, 3) := by decide +kernel
theorem de_M_fits_57 : decode bc_M_fits 57 = .ok (.aload_n 0, 1) := by decide +kernel
theorem de_M_fits_58 : decode bc_M_fits 58 = .ok (.iload_n 2, 1) := by decide +kernel
theorem de_M_fits_59 : decode bc_M_fits 59 = .ok (.iconst 0, 1) := by decide +kernel
theorem de_M_fits_60 : decode bc_M_fits 60 = .ok (.iconst 3, 1) := by decide +kernel
theorem de_M_fits_61 : decode bc_M_fits 61 = .ok (.invokevirtual 83, 3) := by decide +kernel
theorem de_M_fits_64 : decode bc_M_fits 64 = .ok (.ifCond .eq 19, 3) := by decide +kernel
theorem de_M_fits_67 : decode bc_M_fits 67 = .ok (.aload_n 0, 1) := by decide +kernel
theorem de_M_fits_68 : decode bc_M_fits 68 = .ok (.iload_n 3, 1) := by decide +kernel
theorem de_M_fits_69 : decode bc_M_fits 69 = .ok (.iconst 1, 1) := by decide +kernel
theorem de_M_fits_70 : decode bc_M_fits 70 = .ok (.sipush 1000, 3) := by decide +kernel
theorem de_M_fits_73 : decode bc_M_fits 73 = .ok (.invokevirtual 83, 3) := by decide +kernel
theorem de_M_fits_76 : decode bc_M_fits 76 = .ok (.ifCond .eq 7, 3) := by decide +kernel
theorem de_M_fits_79 : decode bc_M_fits 79 = .ok (.iconst 1, 1) := by decide +kernel
theorem de_M_fits_80 : decode bc_M_fits 80 = .ok (.goto 4, 3) := by decide +kernel
theorem de_M_fits_83 : decode bc_M_fits 83 = .ok (.iconst 0, 1) := by decide +kernel
theorem de_M_fits_84 : decode bc_M_fits 84 = .ok (.ireturn, 1) := by decide +kernel
theorem de_M_fits_85 : decode bc_M_fits 85 = .ok (.aload_n 0, 1) := by decide +kernel
theorem de_M_fits_86 : decode bc_M_fits 86 = .ok (.iload_n 2, 1) := by decide +kernel
theorem de_M_fits_87 : decode bc_M_fits 87 = .ok (.iconst 0, 1) := by decide +kernel
theorem de_M_fits_88 : decode bc_M_fits 88 = .ok (.bipush 11, 2) := by decide +kernel
theorem de_M_fits_90 : decode bc_M_fits 90 = .ok (.invokevirtual 83, 3) := by decide +kernel
theorem de_M_fits_93 : decode bc_M_fits 93 = .ok (.ireturn, 1) := by decide +kernel
theorem de_M_none_0 : decode bc_M_none 0 = .ok (.iload_n 1, 1) := by decide +kernel
theorem de_M_none_1 : decode bc_M_none 1 = .ok (.ifCond .lt 11, 3) := by decide +kernel
theorem de_M_none_4 : decode bc_M_none 4 = .ok (.iload_n 1, 1) := by decide +kernel
theorem de_M_none_5 : decode bc_M_none 5 = .ok (.aload_n 0, 1) := by decide +kernel
theorem de_M_none_6 : decode bc_M_none 6 = .ok (.getfield 78, 3) := by decide +kernel
theorem de_M_none_9 : decode bc_M_none 9 = .ok (.if_icmp .lt 7, 3) := by decide +kernel
theorem de_M_none_12 : decode bc_M_none 12 = .ok (.iconst 1, 1) := by decide +kernel
theorem de_M_none_13 : decode bc_M_none 13 = .ok (.goto 4, 3) := by decide +kernel
theorem de_M_none_16 : decode bc_M_none 16 = .ok (.iconst 0, 1) := by decide +kernel
theorem de_M_none_17 : decode bc_M_none 17 = .ok (.ireturn, 1) := by decide +kernel
theorem de_M_instruct_0 : decode bc_M_instruct 0 = .ok (.aload_n 0, 1) := by decide +kernel
theorem de_M_instruct_1 : decode bc_M_instruct 1 = .ok (.iload_n 1, 1) := by decide +kernel
theorem de_M_instruct_2 : decode bc_M_instruct 2 = .ok (.invokevirtual 87, 3) := by decide +kernel
theorem de_M_instruct_5 : decode bc_M_instruct 5 = .ok (.ifCond .ne 45, 3) := by decide +kernel
theorem de_M_instruct_8 : decode bc_M_instruct 8 = .ok (.aload_n 0, 1) := by decide +kernel
theorem de_M_instruct_9 : decode bc_M_instruct 9 = .ok (.getfield 25, 3) := by decide +kernel
theorem de_M_instruct_12 : decode bc_M_instruct 12 = .ok (.iload_n 1, 1) := by decide +kernel
theorem de_M_instruct_13 : decode bc_M_instruct 13 = .ok (.iaload, 1) := by decide +kernel
theorem de_M_instruct_14 : decode bc_M_instruct 14 = .ok (.ifCond .ne 36, 3) := by decide +kernel
theorem de_M_instruct_17 : decode bc_M_instruct 17 = .ok (.aload_n 0, 1) := by decide +kernel
theorem de_M_instruct_18 : decode bc_M_instruct 18 = .ok (.getfield 19, 3) := by decide +kernel
theorem de_M_instruct_21 : decode bc_M_instruct 21 = .ok (.iload_n 1, 1) := by decide +kernel
theorem de_M_instruct_22 : decode bc_M_instruct 22 = .ok (.iaload, 1) := by decide +kernel
theorem de_M_instruct_23 : decode bc_M_instruct 23 = .ok (.bipush 10, 2) := by decide +kernel
theorem de_M_instruct_25 : decode bc_M_instruct 25 = .ok (.if_icmp .eq 25, 3) := by decide +kernel
theorem de_M_instruct_28 : decode bc_M_instruct 28 = .ok (.aload_n 0, 1) := by decide +kernel
theorem de_M_instruct_29 : decode bc_M_instruct 29 = .ok (.iload_n 2, 1) := by decide +kernel
theorem de_M_instruct_30 : decode bc_M_instruct 30 = .ok (.iconst 0, 1) := by decide +kernel
theorem de_M_instruct_31 : decode bc_M_instruct 31 = .ok (.bipush 9, 2) := by decide +kernel
theorem de_M_instruct_33 : decode bc_M_instruct 33 = .ok (.invokevirtual 83, 3) := by decide +kernel
end
section
theorem de_M_instruct_36 : decode bc_M_instruct 36 = .ok (.ifCond .eq 14, 3) := by decide +kernel
theorem de_M_instruct_39 : decode bc_M_instruct 39 = .ok (.aload_n 0, 1) := by decide +kernel
theorem de_M_instruct_40 : decode bc_M_instruct 40 = .ok (.iload_n 2, 1) := by decide +kernel
theorem de_M_instruct_41 : decode bc_M_instruct 41 = .ok (.iload_n 3, 1) := by decide +kernel
theorem de_M_instruct_42 : decode bc_M_instruct 42 = .ok (.iload 4, 2) := by decide +kernel
theorem de_M_instruct_44 : decode bc_M_instruct 44 = .ok (.invokevirtual 91, 3) := by decide +kernel
theorem de_M_instruct_47 : decode bc_M_instruct 47 = .ok (.ifCond .ne 5, 3) := by decide +kernel
theorem de_M_instruct_50 : decode bc_M_instruct 50 = .ok (.iconst 0, 1) := by decide +kernel
theorem de_M_instruct_51 : decode bc_M_instruct 51 = .ok (.ireturn, 1) := by decide +kernel
theorem de_M_instruct_52 : decode bc_M_instruct 52 = .ok (.bipush 10, 2) := by decide +kernel
theorem de_M_instruct_54 : decode bc_M_instruct 54 = .ok (.iload_n 1, 1) := by decide +kernel
theorem de_M_instruct_55 : decode bc_M_instruct 55 = .ok (.imul, 1) := by decide +kernel
theorem de_M_instruct_56 : decode bc_M_instruct 56 = .ok (.aload_n 0, 1) := by decide +kernel
theorem de_M_instruct_57 : decode bc_M_instruct 57 = .ok (.getfield 19, 3) := by decide +kernel
theorem de_M_instruct_60 : decode bc_M_instruct 60 = .ok (.iload_n 1, 1) := by decide +kernel
theorem de_M_instruct_61 : decode bc_M_instruct 61 = .ok (.iaload, 1) := by decide +kernel
theorem de_M_instruct_62 : decode bc_M_instruct 62 = .ok (.iadd, 1) := by decide +kernel
theorem de_M_instruct_63 : decode bc_M_instruct 63 = .ok (.istore 5, 2) := by decide +kernel
theorem de_M_instruct_65 : decode bc_M_instruct 65 = .ok (.aload_n 0, 1) := by decide +kernel
theorem de_M_instruct_66 : decode bc_M_instruct 66 = .ok (.getfield 41, 3) := by decide +kernel
theorem de_M_instruct_69 : decode bc_M_instruct 69 = .ok (.iload 5, 2) := by decide +kernel
theorem de_M_instruct_71 : decode bc_M_instruct 71 = .ok (.iload_n 2, 1) := by decide +kernel
theorem de_M_instruct_72 : decode bc_M_instruct 72 = .ok (.iastore, 1) := by decide +kernel
theorem de_M_instruct_73 : decode bc_M_instruct 73 = .ok (.aload_n 0, 1) := by decide +kernel
theorem de_M_instruct_74 : decode bc_M_instruct 74 = .ok (.getfield 44, 3) := by decide +kernel
theorem de_M_instruct_77 : decode bc_M_instruct 77 = .ok (.iload 5, 2) := by decide +kernel
theorem de_M_instruct_79 : decode bc_M_instruct 79 = .ok (.iload_n 3, 1) := by decide +kernel
theorem de_M_instruct_80 : decode bc_M_instruct 80 = .ok (.iastore, 1) := by decide +kernel
theorem de_M_instruct_81 : decode bc_M_instruct 81 = .ok (.aload_n 0, 1) := by decide +kernel
theorem de_M_instruct_82 : decode bc_M_instruct 82 = .ok (.getfield 47, 3) := by decide +kernel
theorem de_M_instruct_85 : decode bc_M_instruct 85 = .ok (.iload 5, 2) := by decide +kernel
theorem de_M_instruct_87 : decode bc_M_instruct 87 = .ok (.iload 4, 2) := by decide +kernel
theorem de_M_instruct_89 : decode bc_M_instruct 89 = .ok (.iastore, 1) := by decide +kernel
theorem de_M_instruct_90 : decode bc_M_instruct 90 = .ok (.aload_n 0, 1) := by decide +kernel
theorem de_M_instruct_91 : decode bc_M_instruct 91 = .ok (.getfield 19, 3) := by decide +kernel
theorem de_M_instruct_94 : decode bc_M_instruct 94 = .ok (.iload_n 1, 1) := by decide +kernel
theorem de_M_instruct_95 : decode bc_M_instruct 95 = .ok (.dup2, 1) := by decide +kernel
theorem de_M_instruct_96 : decode bc_M_instruct 96 = .ok (.iaload, 1) := by decide +kernel
theorem de_M_instruct_97 : decode bc_M_instruct 97 = .ok (.iconst 1, 1) := by decide +kernel
theorem de_M_instruct_98 : decode bc_M_instruct 98 = .ok (.iadd, 1) := by decide +kernel
theorem de_M_instruct_99 : decode bc_M_instruct 99 = .ok (.iastore, 1) := by decide +kernel
theorem de_M_instruct_100 : decode bc_M_instruct 100 = .ok (.iconst 1, 1) := by decide +kernel
theorem de_M_instruct_101 : decode bc_M_instruct 101 = .ok (.ireturn, 1) := by decide +kernel
theorem de_M_seized_0 : decode bc_M_seized 0 = .ok (.iconst 0, 1) := by decide +kernel
theorem de_M_seized_1 : decode bc_M_seized 1 = .ok (.istore_n 2, 1) := by decide +kernel
theorem de_M_seized_2 : decode bc_M_seized 2 = .ok (.iconst 0, 1) := by decide +kernel
theorem de_M_seized_3 : decode bc_M_seized 3 = .ok (.istore_n 3, 1) := by decide +kernel
theorem de_M_seized_4 : decode bc_M_seized 4 = .ok (.iload_n 3, 1) := by decide +kernel
theorem de_M_seized_5 : decode bc_M_seized 5 = .ok (.aload_n 0, 1) := by decide +kernel
theorem de_M_seized_6 : decode bc_M_seized 6 = .ok (.getfield 78, 3) := by decide +kernel
theorem de_M_seized_9 : decode bc_M_seized 9 = .ok (.if_icmp .ge 22, 3) := by decide +kernel
theorem de_M_seized_12 : decode bc_M_seized 12 = .ok (.iload_n 2, 1) := by decide +kernel
theorem de_M_seized_13 : decode bc_M_seized 13 = .ok (.aload_n 0, 1) := by decide +kernel
theorem de_M_seized_14 : decode bc_M_seized 14 = .ok (.getfield 50, 3) := by decide +kernel
theorem de_M_seized_17 : decode bc_M_seized 17 = .ok (.iconst 4, 1) := by decide +kernel
theorem de_M_seized_18 : decode bc_M_seized 18 = .ok (.iload_n 3, 1) := by decide +kernel
theorem de_M_seized_19 : decode bc_M_seized 19 = .ok (.imul, 1) := by decide +kernel
theorem de_M_seized_20 : decode bc_M_seized 20 = .ok (.iload_n 1, 1) := by decide +kernel
theorem de_M_seized_21 : decode bc_M_seized 21 = .ok (.iadd, 1) := by decide +kernel
theorem de_M_seized_22 : decode bc_M_seized 22 = .ok (.iaload, 1) := by decide +kernel
theorem de_M_seized_23 : decode bc_M_seized 23 = .ok (.iadd, 1) := by decide +kernel
theorem de_M_seized_24 : decode bc_M_seized 24 = .ok (.istore_n 2, 1) := by decide +kernel
theorem de_M_seized_25 : decode bc_M_seized 25 = .ok (.iinc 3 1, 3) := by decide +kernel
theorem de_M_seized_28 : decode bc_M_seized 28 = .ok (.goto (-24), 3) := by decide +kernel
theorem de_M_seized_31 : decode bc_M_seized 31 = .ok (.iload_n 2, 1) := by decide +kernel
theorem de_M_seized_32 : decode bc_M_seized 32 = .ok (.ireturn, 1) := by decide +kernel
theorem de_M_done_0 : decode bc_M_done 0 = .ok (.bipush 10, 2) := by decide +kernel
theorem de_M_done_2 : decode bc_M_done 2 = .ok (.iload_n 1, 1) := by decide +kernel
theorem de_M_done_3 : decode bc_M_done 3 = .ok (.imul, 1) := by decide +kernel
theorem de_M_done_4 : decode bc_M_done 4 = .ok (.aload_n 0, 1) := by decide +kernel
theorem de_M_done_5 : decode bc_M_done 5 = .ok (.getfield 22, 3) := by decide +kernel
theorem de_M_done_8 : decode bc_M_done 8 = .ok (.iload_n 1, 1) := by decide +kernel
theorem de_M_done_9 : decode bc_M_done 9 = .ok (.iaload, 1) := by decide +kernel
theorem de_M_done_10 : decode bc_M_done 10 = .ok (.iadd, 1) := by decide +kernel
theorem de_M_done_11 : decode bc_M_done 11 = .ok (.iconst 1, 1) := by decide +kernel
theorem de_M_done_12 : decode bc_M_done 12 = .ok (.isub, 1) := by decide +kernel
theorem de_M_done_13 : decode bc_M_done 13 = .ok (.ireturn, 1) := by decide +kernel
theorem de_M_head_0 : decode bc_M_head 0 = .ok (.iconst (-1), 1) := by decide +kernel
theorem de_M_head_1 : decode bc_M_head 1 = .ok (.istore_n 2, 1) := by decide +kernel
theorem de_M_head_2 : decode bc_M_head 2 = .ok (.iconst 0, 1) := by decide +kernel
theorem de_M_head_3 : decode bc_M_head 3 = .ok (.istore_n 3, 1) := by decide +kernel
theorem de_M_head_4 : decode bc_M_head 4 = .ok (.iload_n 3, 1) := by decide +kernel
theorem de_M_head_5 : decode bc_M_head 5 = .ok (.aload_n 0, 1) := by decide +kernel
theorem de_M_head_6 : decode bc_M_head 6 = .ok (.getfield 78, 3) := by decide +kernel
theorem de_M_head_9 : decode bc_M_head 9 = .ok (.if_icmp .ge 84, 3) := by decide +kernel
theorem de_M_head_12 : decode bc_M_head 12 = .ok (.aload_n 0, 1) := by decide +kernel
theorem de_M_head_13 : decode bc_M_head 13 = .ok (.getfield 25, 3) := by decide +kernel
theorem de_M_head_16 : decode bc_M_head 16 = .ok (.iload_n 3, 1) := by decide +kernel
theorem de_M_head_17 : decode bc_M_head 17 = .ok (.iaload, 1) := by decide +kernel
theorem de_M_head_18 : decode bc_M_head 18 = .ok (.iconst 4, 1) := by decide +kernel
theorem de_M_head_19 : decode bc_M_head 19 = .ok (.if_icmp .ne 68, 3) := by decide +kernel
theorem de_M_head_22 : decode bc_M_head 22 = .ok (.aload_n 0, 1) := by decide +kernel
theorem de_M_head_23 : decode bc_M_head 23 = .ok (.getfield 44, 3) := by decide +kernel
theorem de_M_head_26 : decode bc_M_head 26 = .ok (.aload_n 0, 1) := by decide +kernel
theorem de_M_head_27 : decode bc_M_head 27 = .ok (.iload_n 3, 1) := by decide +kernel
theorem de_M_head_28 : decode bc_M_head 28 = .ok (.invokevirtual 109, 3) := by decide +kernel
theorem de_M_head_31 : decode bc_M_head 31 = .ok (.iaload, 1) := by decide +kernel
theorem de_M_head_32 : decode bc_M_head 32 = .ok (.iload_n 1, 1) := by decide +kernel
theorem de_M_head_33 : decode bc_M_head 33 = .ok (.if_icmp .ne 54, 3) := by decide +kernel
theorem de_M_head_36 : decode bc_M_head 36 = .ok (.iload_n 2, 1) := by decide +kernel
theorem de_M_head_37 : decode bc_M_head 37 = .ok (.ifCond .lt 48, 3) := by decide +kernel
theorem de_M_head_40 : decode bc_M_head 40 = .ok (.aload_n 0, 1) := by decide +kernel
theorem de_M_head_41 : decode bc_M_head 41 = .ok (.getfield 7, 3) := by decide +kernel
theorem de_M_head_44 : decode bc_M_head 44 = .ok (.iload_n 3, 1) := by decide +kernel
theorem de_M_head_45 : decode bc_M_head 45 = .ok (.iaload, 1) := by decide +kernel
theorem de_M_head_46 : decode bc_M_head 46 = .ok (.aload_n 0, 1) := by decide +kernel
theorem de_M_head_47 : decode bc_M_head 47 = .ok (.getfield 7, 3) := by decide +kernel
theorem de_M_head_50 : decode bc_M_head 50 = .ok (.iload_n 2, 1) := by decide +kernel
theorem de_M_head_51 : decode bc_M_head 51 = .ok (.iaload, 1) := by decide +kernel
theorem de_M_head_52 : decode bc_M_head 52 = .ok (.if_icmp .lt 33, 3) := by decide +kernel
theorem de_M_head_55 : decode bc_M_head 55 = .ok (.aload_n 0, 1) := by decide +kernel
theorem de_M_head_56 : decode bc_M_head 56 = .ok (.getfield 7, 3) := by decide +kernel
theorem de_M_head_59 : decode bc_M_head 59 = .ok (.iload_n 3, 1) := by decide +kernel
theorem de_M_head_60 : decode bc_M_head 60 = .ok (.iaload, 1) := by decide +kernel
theorem de_M_head_61 : decode bc_M_head 61 = .ok (.aload_n 0, 1) := by decide +kernel
theorem de_M_head_62 : decode bc_M_head 62 = .ok (.getfield 7, 3) := by decide +kernel
theorem de_M_head_65 : decode bc_M_head 65 = .ok (.iload_n 2, 1) := by decide +kernel
theorem de_M_head_66 : decode bc_M_head 66 = .ok (.iaload, 1) := by decide +kernel
theorem de_M_head_67 : decode bc_M_head 67 = .ok (.if_icmp .ne 20, 3) := by decide +kernel
theorem de_M_head_70 : decode bc_M_head 70 = .ok (.aload_n 0, 1) := by decide +kernel
theorem de_M_head_71 : decode bc_M_head 71 = .ok (.getfield 35, 3) := by decide +kernel
theorem de_M_head_74 : decode bc_M_head 74 = .ok (.iload_n 3, 1) := by decide +kernel
theorem de_M_head_75 : decode bc_M_head 75 = .ok (.iaload, 1) := by decide +kernel
theorem de_M_head_76 : decode bc_M_head 76 = .ok (.aload_n 0, 1) := by decide +kernel
theorem de_M_head_77 : decode bc_M_head 77 = .ok (.getfield 35, 3) := by decide +kernel
theorem de_M_head_80 : decode bc_M_head 80 = .ok (.iload_n 2, 1) := by decide +kernel
theorem de_M_head_81 : decode bc_M_head 81 = .ok (.iaload, 1) := by decide +kernel
theorem de_M_head_82 : decode bc_M_head 82 = .ok (.if_icmp .ge 5, 3) := by decide +kernel
theorem de_M_head_85 : decode bc_M_head 85 = .ok (.iload_n 3, 1) := by decide +kernel
theorem de_M_head_86 : decode bc_M_head 86 = .ok (.istore_n 2, 1) := by decide +kernel
theorem de_M_head_87 : decode bc_M_head 87 = .ok (.iinc 3 1, 3) := by decide +kernel
theorem de_M_head_90 : decode bc_M_head 90 = .ok (.goto (-86), 3) := by decide +kernel
theorem de_M_head_93 : decode bc_M_head 93 = .ok (.iload_n 2, 1) := by decide +kernel
theorem de_M_head_94 : decode bc_M_head 94 = .ok (.ireturn, 1) := by decide +kernel
theorem de_M_rest_0 : decode bc_M_rest 0 = .ok (.aload_n 0, 1) := by decide +kernel
theorem de_M_rest_1 : decode bc_M_rest 1 = .ok (.getfield 53, 3) := by decide +kernel
theorem de_M_rest_4 : decode bc_M_rest 4 = .ok (.iload_n 1, 1) := by decide +kernel
theorem de_M_rest_5 : decode bc_M_rest 5 = .ok (.iaload, 1) := by decide +kernel
theorem de_M_rest_6 : decode bc_M_rest 6 = .ok (.aload_n 0, 1) := by decide +kernel
theorem de_M_rest_7 : decode bc_M_rest 7 = .ok (.iload_n 1, 1) := by decide +kernel
theorem de_M_rest_8 : decode bc_M_rest 8 = .ok (.invokevirtual 94, 3) := by decide +kernel
theorem de_M_rest_11 : decode bc_M_rest 11 = .ok (.isub, 1) := by decide +kernel
theorem de_M_rest_12 : decode bc_M_rest 12 = .ok (.ireturn, 1) := by decide +kernel
theorem de_M_enter_0 : decode bc_M_enter 0 = .ok (.aload_n 0, 1) := by decide +kernel
theorem de_M_enter_1 : decode bc_M_enter 1 = .ok (.getfield 25, 3) := by decide +kernel
theorem de_M_enter_4 : decode bc_M_enter 4 = .ok (.iload_n 1, 1) := by decide +kernel
theorem de_M_enter_5 : decode bc_M_enter 5 = .ok (.iload_n 2, 1) := by decide +kernel
theorem de_M_enter_6 : decode bc_M_enter 6 = .ok (.iastore, 1) := by decide +kernel
theorem de_M_enter_7 : decode bc_M_enter 7 = .ok (.aload_n 0, 1) := by decide +kernel
theorem de_M_enter_8 : decode bc_M_enter 8 = .ok (.getfield 28, 3) := by decide +kernel
theorem de_M_enter_11 : decode bc_M_enter 11 = .ok (.iload_n 1, 1) := by decide +kernel
theorem de_M_enter_12 : decode bc_M_enter 12 = .ok (.lload_n 3, 1) := by decide +kernel
theorem de_M_enter_13 : decode bc_M_enter 13 = .ok (.lastore, 1) := by decide +kernel
theorem de_M_enter_14 : decode bc_M_enter 14 = .ok (.aload_n 0, 1) := by decide +kernel
theorem de_M_enter_15 : decode bc_M_enter 15 = .ok (.getfield 32, 3) := by decide +kernel
theorem de_M_enter_18 : decode bc_M_enter 18 = .ok (.iload_n 1, 1) := by decide +kernel
theorem de_M_enter_19 : decode bc_M_enter 19 = .ok (.aload_n 0, 1) := by decide +kernel
theorem de_M_enter_20 : decode bc_M_enter 20 = .ok (.getfield 102, 3) := by decide +kernel
theorem de_M_enter_23 : decode bc_M_enter 23 = .ok (.iastore, 1) := by decide +kernel
theorem de_M_enter_24 : decode bc_M_enter 24 = .ok (.aload_n 0, 1) := by decide +kernel
theorem de_M_enter_25 : decode bc_M_enter 25 = .ok (.dup, 1) := by decide +kernel
theorem de_M_enter_26 : decode bc_M_enter 26 = .ok (.getfield 102, 3) := by decide +kernel
theorem de_M_enter_29 : decode bc_M_enter 29 = .ok (.iconst 1, 1) := by decide +kernel
theorem de_M_enter_30 : decode bc_M_enter 30 = .ok (.iadd, 1) := by decide +kernel
theorem de_M_enter_31 : decode bc_M_enter 31 = .ok (.putfield 102, 3) := by decide +kernel
theorem de_M_enter_34 : decode bc_M_enter 34 = .ok (.return_, 1) := by decide +kernel
theorem de_M_serve_0 : decode bc_M_serve 0 = .ok (.iconst 0, 1) := by decide +kernel
theorem de_M_serve_1 : decode bc_M_serve 1 = .ok (.istore_n 2, 1) := by decide +kernel
theorem de_M_serve_2 : decode bc_M_serve 2 = .ok (.iload_n 2, 1) := by decide +kernel
theorem de_M_serve_3 : decode bc_M_serve 3 = .ok (.bipush 12, 2) := by decide +kernel
theorem de_M_serve_5 : decode bc_M_serve 5 = .ok (.if_icmp .ge 91, 3) := by decide +kernel
theorem de_M_serve_8 : decode bc_M_serve 8 = .ok (.aload_n 0, 1) := by decide +kernel
theorem de_M_serve_9 : decode bc_M_serve 9 = .ok (.iload_n 1, 1) := by decide +kernel
theorem de_M_serve_10 : decode bc_M_serve 10 = .ok (.invokevirtual 112, 3) := by decide +kernel
theorem de_M_serve_13 : decode bc_M_serve 13 = .ok (.istore_n 3, 1) := by decide +kernel
theorem de_M_serve_14 : decode bc_M_serve 14 = .ok (.iload_n 3, 1) := by decide +kernel
theorem de_M_serve_15 : decode bc_M_serve 15 = .ok (.ifCond .lt 21, 3) := by decide +kernel
theorem de_M_serve_18 : decode bc_M_serve 18 = .ok (.aload_n 0, 1) := by decide +kernel
theorem de_M_serve_19 : decode bc_M_serve 19 = .ok (.getfield 47, 3) := by decide +kernel
theorem de_M_serve_22 : decode bc_M_serve 22 = .ok (.aload_n 0, 1) := by decide +kernel
theorem de_M_serve_23 : decode bc_M_serve 23 = .ok (.iload_n 3, 1) := by decide +kernel
theorem de_M_serve_24 : decode bc_M_serve 24 = .ok (.invokevirtual 109, 3) := by decide +kernel
theorem de_M_serve_27 : decode bc_M_serve 27 = .ok (.iaload, 1) := by decide +kernel
theorem de_M_serve_28 : decode bc_M_serve 28 = .ok (.aload_n 0, 1) := by decide +kernel
theorem de_M_serve_29 : decode bc_M_serve 29 = .ok (.iload_n 1, 1) := by decide +kernel
theorem de_M_serve_30 : decode bc_M_serve 30 = .ok (.invokevirtual 115, 3) := by decide +kernel
theorem de_M_serve_33 : decode bc_M_serve 33 = .ok (.if_icmp .le 4, 3) := by decide +kernel
theorem de_M_serve_36 : decode bc_M_serve 36 = .ok (.return_, 1) := by decide +kernel
theorem de_M_serve_37 : decode bc_M_serve 37 = .ok (.aload_n 0, 1) := by decide +kernel
theorem de_M_serve_38 : decode bc_M_serve 38 = .ok (.getfield 50, 3) := by decide +kernel
theorem de_M_serve_41 : decode bc_M_serve 41 = .ok (.iconst 4, 1) := by decide +kernel
theorem de_M_serve_42 : decode bc_M_serve 42 = .ok (.iload_n 3, 1) := by decide +kernel
theorem de_M_serve_43 : decode bc_M_serve 43 = .ok (.imul, 1) := by decide +kernel
theorem de_M_serve_44 : decode bc_M_serve 44 = .ok (.iload_n 1, 1) := by decide +kernel
theorem de_M_serve_45 : decode bc_M_serve 45 = .ok (.iadd, 1) := by decide +kernel
theorem de_M_serve_46 : decode bc_M_serve 46 = .ok (.dup2, 1) := by decide +kernel
theorem de_M_serve_47 : decode bc_M_serve 47 = .ok (.iaload, 1) := by decide +kernel
theorem de_M_serve_48 : decode bc_M_serve 48 = .ok (.aload_n 0, 1) := by decide +kernel
theorem de_M_serve_49 : decode bc_M_serve 49 = .ok (.getfield 47, 3) := by decide +kernel
theorem de_M_serve_52 : decode bc_M_serve 52 = .ok (.aload_n 0, 1) := by decide +kernel
theorem de_M_serve_53 : decode bc_M_serve 53 = .ok (.iload_n 3, 1) := by decide +kernel
theorem de_M_serve_54 : decode bc_M_serve 54 = .ok (.invokevirtual 109, 3) := by decide +kernel
theorem de_M_serve_57 : decode bc_M_serve 57 = .ok (.iaload, 1) := by decide +kernel
theorem de_M_serve_58 : decode bc_M_serve 58 = .ok (.iadd, 1) := by decide +kernel
theorem de_M_serve_59 : decode bc_M_serve 59 = .ok (.iastore, 1) := by decide +kernel
theorem de_M_serve_60 : decode bc_M_serve 60 = .ok (.aload_n 0, 1) := by decide +kernel
theorem de_M_serve_61 : decode bc_M_serve 61 = .ok (.getfield 63, 3) := by decide +kernel
theorem de_M_serve_64 : decode bc_M_serve 64 = .ok (.iload_n 1, 1) := by decide +kernel
theorem de_M_serve_65 : decode bc_M_serve 65 = .ok (.dup2, 1) := by decide +kernel
theorem de_M_serve_66 : decode bc_M_serve 66 = .ok (.laload, 1) := by decide +kernel
theorem de_M_serve_67 : decode bc_M_serve 67 = .ok (.aload_n 0, 1) := by decide +kernel
theorem de_M_serve_68 : decode bc_M_serve 68 = .ok (.getfield 118, 3) := by decide +kernel
theorem de_M_serve_71 : decode bc_M_serve 71 = .ok (.aload_n 0, 1) := by decide +kernel
theorem de_M_serve_72 : decode bc_M_serve 72 = .ok (.getfield 38, 3) := by decide +kernel
theorem de_M_serve_75 : decode bc_M_serve 75 = .ok (.iload_n 3, 1) := by decide +kernel
theorem de_M_serve_76 : decode bc_M_serve 76 = .ok (.laload, 1) := by decide +kernel
theorem de_M_serve_77 : decode bc_M_serve 77 = .ok (.lsub, 1) := by decide +kernel
theorem de_M_serve_78 : decode bc_M_serve 78 = .ok (.ladd, 1) := by decide +kernel
theorem de_M_serve_79 : decode bc_M_serve 79 = .ok (.lastore, 1) := by decide +kernel
theorem de_M_serve_80 : decode bc_M_serve 80 = .ok (.aload_n 0, 1) := by decide +kernel
theorem de_M_serve_81 : decode bc_M_serve 81 = .ok (.iload_n 3, 1) := by decide +kernel
theorem de_M_serve_82 : decode bc_M_serve 82 = .ok (.iconst 1, 1) := by decide +kernel
theorem de_M_serve_83 : decode bc_M_serve 83 = .ok (.aload_n 0, 1) := by decide +kernel
theorem de_M_serve_84 : decode bc_M_serve 84 = .ok (.getfield 118, 3) := by decide +kernel
theorem de_M_serve_87 : decode bc_M_serve 87 = .ok (.invokevirtual 122, 3) := by decide +kernel
theorem de_M_serve_90 : decode bc_M_serve 90 = .ok (.iinc 2 1, 3) := by decide +kernel
theorem de_M_serve_93 : decode bc_M_serve 93 = .ok (.goto (-91), 3) := by decide +kernel
theorem de_M_serve_96 : decode bc_M_serve 96 = .ok (.return_, 1) := by decide +kernel
theorem de_M_resource_0 : decode bc_M_resource 0 = .ok (.aload_n 0, 1) := by decide +kernel
theorem de_M_resource_1 : decode bc_M_resource 1 = .ok (.iload_n 1, 1) := by decide +kernel
theorem de_M_resource_2 : decode bc_M_resource 2 = .ok (.iconst 0, 1) := by decide +kernel
theorem de_M_resource_3 : decode bc_M_resource 3 = .ok (.iconst 3, 1) := by decide +kernel
theorem de_M_resource_4 : decode bc_M_resource 4 = .ok (.invokevirtual 83, 3) := by decide +kernel
theorem de_M_resource_7 : decode bc_M_resource 7 = .ok (.ifCond .eq 23, 3) := by decide +kernel
theorem de_M_resource_10 : decode bc_M_resource 10 = .ok (.aload_n 0, 1) := by decide +kernel
theorem de_M_resource_11 : decode bc_M_resource 11 = .ok (.iload_n 2, 1) := by decide +kernel
theorem de_M_resource_12 : decode bc_M_resource 12 = .ok (.iconst 0, 1) := by decide +kernel
theorem de_M_resource_13 : decode bc_M_resource 13 = .ok (.bipush 9, 2) := by decide +kernel
theorem de_M_resource_15 : decode bc_M_resource 15 = .ok (.invokevirtual 83, 3) := by decide +kernel
theorem de_M_resource_18 : decode bc_M_resource 18 = .ok (.ifCond .eq 12, 3) := by decide +kernel
theorem de_M_resource_21 : decode bc_M_resource 21 = .ok (.aload_n 0, 1) := by decide +kernel
theorem de_M_resource_22 : decode bc_M_resource 22 = .ok (.iload_n 1, 1) := by decide +kernel
theorem de_M_resource_23 : decode bc_M_resource 23 = .ok (.invokevirtual 94, 3) := by decide +kernel
theorem de_M_resource_26 : decode bc_M_resource 26 = .ok (.iload_n 2, 1) := by decide +kernel
theorem de_M_resource_27 : decode bc_M_resource 27 = .ok (.if_icmp .le 5, 3) := by decide +kernel
theorem de_M_resource_30 : decode bc_M_resource 30 = .ok (.iconst 0, 1) := by decide +kernel
theorem de_M_resource_31 : decode bc_M_resource 31 = .ok (.ireturn, 1) := by decide +kernel
theorem de_M_resource_32 : decode bc_M_resource 32 = .ok (.aload_n 0, 1) := by decide +kernel
theorem de_M_resource_33 : decode bc_M_resource 33 = .ok (.getfield 53, 3) := by decide +kernel
theorem de_M_resource_36 : decode bc_M_resource 36 = .ok (.iload_n 1, 1) := by decide +kernel
theorem de_M_resource_37 : decode bc_M_resource 37 = .ok (.iload_n 2, 1) := by decide +kernel
theorem de_M_resource_38 : decode bc_M_resource 38 = .ok (.iastore, 1) := by decide +kernel
theorem de_M_resource_39 : decode bc_M_resource 39 = .ok (.aload_n 0, 1) := by decide +kernel
theorem de_M_resource_40 : decode bc_M_resource 40 = .ok (.getfield 56, 3) := by decide +kernel
theorem de_M_resource_43 : decode bc_M_resource 43 = .ok (.iload_n 1, 1) := by decide +kernel
theorem de_M_resource_44 : decode bc_M_resource 44 = .ok (.iload_n 3, 1) := by decide +kernel
theorem de_M_resource_45 : decode bc_M_resource 45 = .ok (.bastore, 1) := by decide +kernel
theorem de_M_resource_46 : decode bc_M_resource 46 = .ok (.aload_n 0, 1) := by decide +kernel
theorem de_M_resource_47 : decode bc_M_resource 47 = .ok (.iload_n 1, 1) := by decide +kernel
theorem de_M_resource_48 : decode bc_M_resource 48 = .ok (.invokevirtual 98, 3) := by decide +kernel
theorem de_M_resource_51 : decode bc_M_resource 51 = .ok (.iconst 1, 1) := by decide +kernel
theorem de_M_resource_52 : decode bc_M_resource 52 = .ok (.ireturn, 1) := by decide +kernel
theorem de_M_tank_0 : decode bc_M_tank 0 = .ok (.aload_n 0, 1) := by decide +kernel
theorem de_M_tank_1 : decode bc_M_tank 1 = .ok (.iload_n 1, 1) := by decide +kernel
theorem de_M_tank_2 : decode bc_M_tank 2 = .ok (.iconst 0, 1) := by decide +kernel
theorem de_M_tank_3 : decode bc_M_tank 3 = .ok (.iconst 3, 1) := by decide +kernel
theorem de_M_tank_4 : decode bc_M_tank 4 = .ok (.invokevirtual 83, 3) := by decide +kernel
theorem de_M_tank_7 : decode bc_M_tank 7 = .ok (.ifCond .eq 25, 3) := by decide +kernel
theorem de_M_tank_10 : decode bc_M_tank 10 = .ok (.aload_n 0, 1) := by decide +kernel
theorem de_M_tank_11 : decode bc_M_tank 11 = .ok (.iload_n 2, 1) := by decide +kernel
theorem de_M_tank_12 : decode bc_M_tank 12 = .ok (.iconst 0, 1) := by decide +kernel
theorem de_M_tank_13 : decode bc_M_tank 13 = .ok (.sipush 1000, 3) := by decide +kernel
theorem de_M_tank_16 : decode bc_M_tank 16 = .ok (.invokevirtual 83, 3) := by decide +kernel
theorem de_M_tank_19 : decode bc_M_tank 19 = .ok (.ifCond .eq 13, 3) := by decide +kernel
theorem de_M_tank_22 : decode bc_M_tank 22 = .ok (.aload_n 0, 1) := by decide +kernel
theorem de_M_tank_23 : decode bc_M_tank 23 = .ok (.iload_n 3, 1) := by decide +kernel
theorem de_M_tank_24 : decode bc_M_tank 24 = .ok (.iconst 0, 1) := by decide +kernel
theorem de_M_tank_25 : decode bc_M_tank 25 = .ok (.iload_n 2, 1) := by decide +kernel
theorem de_M_tank_26 : decode bc_M_tank 26 = .ok (.invokevirtual 83, 3) := by decide +kernel
theorem de_M_tank_29 : decode bc_M_tank 29 = .ok (.ifCond .ne 5, 3) := by decide +kernel
theorem de_M_tank_32 : decode bc_M_tank 32 = .ok (.iconst 0, 1) := by decide +kernel
theorem de_M_tank_33 : decode bc_M_tank 33 = .ok (.ireturn, 1) := by decide +kernel
theorem de_M_tank_34 : decode bc_M_tank 34 = .ok (.aload_n 0, 1) := by decide +kernel
theorem de_M_tank_35 : decode bc_M_tank 35 = .ok (.getfield 66, 3) := by decide +kernel
theorem de_M_tank_38 : decode bc_M_tank 38 = .ok (.iload_n 1, 1) := by decide +kernel
theorem de_M_tank_39 : decode bc_M_tank 39 = .ok (.iload_n 2, 1) := by decide +kernel
theorem de_M_tank_40 : decode bc_M_tank 40 = .ok (.iastore, 1) := by decide +kernel
theorem de_M_tank_41 : decode bc_M_tank 41 = .ok (.aload_n 0, 1) := by decide +kernel
theorem de_M_tank_42 : decode bc_M_tank 42 = .ok (.getfield 69, 3) := by decide +kernel
theorem de_M_tank_45 : decode bc_M_tank 45 = .ok (.iload_n 1, 1) := by decide +kernel
theorem de_M_tank_46 : decode bc_M_tank 46 = .ok (.iload_n 3, 1) := by decide +kernel
theorem de_M_tank_47 : decode bc_M_tank 47 = .ok (.iastore, 1) := by decide +kernel
theorem de_M_tank_48 : decode bc_M_tank 48 = .ok (.iconst 1, 1) := by decide +kernel
theorem de_M_tank_49 : decode bc_M_tank 49 = .ok (.ireturn, 1) := by decide +kernel
theorem de_M_sooner_0 : decode bc_M_sooner 0 = .ok (.aload_n 0, 1) := by decide +kernel
theorem de_M_sooner_1 : decode bc_M_sooner 1 = .ok (.getfield 28, 3) := by decide +kernel
theorem de_M_sooner_4 : decode bc_M_sooner 4 = .ok (.iload_n 1, 1) := by decide +kernel
theorem de_M_sooner_5 : decode bc_M_sooner 5 = .ok (.laload, 1) := by decide +kernel
theorem de_M_sooner_6 : decode bc_M_sooner 6 = .ok (.aload_n 0, 1) := by decide +kernel
theorem de_M_sooner_7 : decode bc_M_sooner 7 = .ok (.getfield 28, 3) := by decide +kernel
theorem de_M_sooner_10 : decode bc_M_sooner 10 = .ok (.iload_n 2, 1) := by decide +kernel
theorem de_M_sooner_11 : decode bc_M_sooner 11 = .ok (.laload, 1) := by decide +kernel
theorem de_M_sooner_12 : decode bc_M_sooner 12 = .ok (.lcmp, 1) := by decide +kernel
theorem de_M_sooner_13 : decode bc_M_sooner 13 = .ok (.ifCond .eq 25, 3) := by decide +kernel
theorem de_M_sooner_16 : decode bc_M_sooner 16 = .ok (.aload_n 0, 1) := by decide +kernel
theorem de_M_sooner_17 : decode bc_M_sooner 17 = .ok (.getfield 28, 3) := by decide +kernel
theorem de_M_sooner_20 : decode bc_M_sooner 20 = .ok (.iload_n 1, 1) := by decide +kernel
theorem de_M_sooner_21 : decode bc_M_sooner 21 = .ok (.laload, 1) := by decide +kernel
theorem de_M_sooner_22 : decode bc_M_sooner 22 = .ok (.aload_n 0, 1) := by decide +kernel
theorem de_M_sooner_23 : decode bc_M_sooner 23 = .ok (.getfield 28, 3) := by decide +kernel
theorem de_M_sooner_26 : decode bc_M_sooner 26 = .ok (.iload_n 2, 1) := by decide +kernel
theorem de_M_sooner_27 : decode bc_M_sooner 27 = .ok (.laload, 1) := by decide +kernel
theorem de_M_sooner_28 : decode bc_M_sooner 28 = .ok (.lcmp, 1) := by decide +kernel
theorem de_M_sooner_29 : decode bc_M_sooner 29 = .ok (.ifCond .ge 7, 3) := by decide +kernel
theorem de_M_sooner_32 : decode bc_M_sooner 32 = .ok (.iconst 1, 1) := by decide +kernel
theorem de_M_sooner_33 : decode bc_M_sooner 33 = .ok (.goto 4, 3) := by decide +kernel
theorem de_M_sooner_36 : decode bc_M_sooner 36 = .ok (.iconst 0, 1) := by decide +kernel
theorem de_M_sooner_37 : decode bc_M_sooner 37 = .ok (.ireturn, 1) := by decide +kernel
theorem de_M_sooner_38 : decode bc_M_sooner 38 = .ok (.aload_n 0, 1) := by decide +kernel
theorem de_M_sooner_39 : decode bc_M_sooner 39 = .ok (.getfield 7, 3) := by decide +kernel
theorem de_M_sooner_42 : decode bc_M_sooner 42 = .ok (.iload_n 1, 1) := by decide +kernel
theorem de_M_sooner_43 : decode bc_M_sooner 43 = .ok (.iaload, 1) := by decide +kernel
theorem de_M_sooner_44 : decode bc_M_sooner 44 = .ok (.aload_n 0, 1) := by decide +kernel
theorem de_M_sooner_45 : decode bc_M_sooner 45 = .ok (.getfield 7, 3) := by decide +kernel
theorem de_M_sooner_48 : decode bc_M_sooner 48 = .ok (.iload_n 2, 1) := by decide +kernel
theorem de_M_sooner_49 : decode bc_M_sooner 49 = .ok (.iaload, 1) := by decide +kernel
theorem de_M_sooner_50 : decode bc_M_sooner 50 = .ok (.if_icmp .eq 26, 3) := by decide +kernel
theorem de_M_sooner_53 : decode bc_M_sooner 53 = .ok (.aload_n 0, 1) := by decide +kernel
theorem de_M_sooner_54 : decode bc_M_sooner 54 = .ok (.getfield 7, 3) := by decide +kernel
theorem de_M_sooner_57 : decode bc_M_sooner 57 = .ok (.iload_n 1, 1) := by decide +kernel
theorem de_M_sooner_58 : decode bc_M_sooner 58 = .ok (.iaload, 1) := by decide +kernel
theorem de_M_sooner_59 : decode bc_M_sooner 59 = .ok (.aload_n 0, 1) := by decide +kernel
theorem de_M_sooner_60 : decode bc_M_sooner 60 = .ok (.getfield 7, 3) := by decide +kernel
theorem de_M_sooner_63 : decode bc_M_sooner 63 = .ok (.iload_n 2, 1) := by decide +kernel
theorem de_M_sooner_64 : decode bc_M_sooner 64 = .ok (.iaload, 1) := by decide +kernel
theorem de_M_sooner_65 : decode bc_M_sooner 65 = .ok (.if_icmp .ge 7, 3) := by decide +kernel
theorem de_M_sooner_68 : decode bc_M_sooner 68 = .ok (.iconst 1, 1) := by decide +kernel
theorem de_M_sooner_69 : decode bc_M_sooner 69 = .ok (.goto 27, 3) := by decide +kernel
theorem de_M_sooner_72 : decode bc_M_sooner 72 = .ok (.iconst 0, 1) := by decide +kernel
theorem de_M_sooner_73 : decode bc_M_sooner 73 = .ok (.goto 23, 3) := by decide +kernel
theorem de_M_sooner_76 : decode bc_M_sooner 76 = .ok (.aload_n 0, 1) := by decide +kernel
theorem de_M_sooner_77 : decode bc_M_sooner 77 = .ok (.getfield 32, 3) := by decide +kernel
theorem de_M_sooner_80 : decode bc_M_sooner 80 = .ok (.iload_n 1, 1) := by decide +kernel
theorem de_M_sooner_81 : decode bc_M_sooner 81 = .ok (.iaload, 1) := by decide +kernel
theorem de_M_sooner_82 : decode bc_M_sooner 82 = .ok (.aload_n 0, 1) := by decide +kernel
theorem de_M_sooner_83 : decode bc_M_sooner 83 = .ok (.getfield 32, 3) := by decide +kernel
theorem de_M_sooner_86 : decode bc_M_sooner 86 = .ok (.iload_n 2, 1) := by decide +kernel
theorem de_M_sooner_87 : decode bc_M_sooner 87 = .ok (.iaload, 1) := by decide +kernel
theorem de_M_sooner_88 : decode bc_M_sooner 88 = .ok (.if_icmp .ge 7, 3) := by decide +kernel
theorem de_M_sooner_91 : decode bc_M_sooner 91 = .ok (.iconst 1, 1) := by decide +kernel
theorem de_M_sooner_92 : decode bc_M_sooner 92 = .ok (.goto 4, 3) := by decide +kernel
theorem de_M_sooner_95 : decode bc_M_sooner 95 = .ok (.iconst 0, 1) := by decide +kernel
theorem de_M_sooner_96 : decode bc_M_sooner 96 = .ok (.ireturn, 1) := by decide +kernel
theorem de_M_first_0 : decode bc_M_first 0 = .ok (.iconst (-1), 1) := by decide +kernel
theorem de_M_first_1 : decode bc_M_first 1 = .ok (.istore_n 1, 1) := by decide +kernel
theorem de_M_first_2 : decode bc_M_first 2 = .ok (.iconst 0, 1) := by decide +kernel
theorem de_M_first_3 : decode bc_M_first 3 = .ok (.istore_n 2, 1) := by decide +kernel
theorem de_M_first_4 : decode bc_M_first 4 = .ok (.iload_n 2, 1) := by decide +kernel
theorem de_M_first_5 : decode bc_M_first 5 = .ok (.aload_n 0, 1) := by decide +kernel
theorem de_M_first_6 : decode bc_M_first 6 = .ok (.getfield 78, 3) := by decide +kernel
theorem de_M_first_9 : decode bc_M_first 9 = .ok (.if_icmp .ge 33, 3) := by decide +kernel
theorem de_M_first_12 : decode bc_M_first 12 = .ok (.aload_n 0, 1) := by decide +kernel
theorem de_M_first_13 : decode bc_M_first 13 = .ok (.getfield 32, 3) := by decide +kernel
theorem de_M_first_16 : decode bc_M_first 16 = .ok (.iload_n 2, 1) := by decide +kernel
theorem de_M_first_17 : decode bc_M_first 17 = .ok (.iaload, 1) := by decide +kernel
theorem de_M_first_18 : decode bc_M_first 18 = .ok (.ifCond .lt 18, 3) := by decide +kernel
theorem de_M_first_21 : decode bc_M_first 21 = .ok (.iload_n 1, 1) := by decide +kernel
theorem de_M_first_22 : decode bc_M_first 22 = .ok (.ifCond .lt 12, 3) := by decide +kernel
theorem de_M_first_25 : decode bc_M_first 25 = .ok (.aload_n 0, 1) := by decide +kernel
theorem de_M_first_26 : decode bc_M_first 26 = .ok (.iload_n 2, 1) := by decide +kernel
theorem de_M_first_27 : decode bc_M_first 27 = .ok (.iload_n 1, 1) := by decide +kernel
theorem de_M_first_28 : decode bc_M_first 28 = .ok (.invokevirtual 105, 3) := by decide +kernel
theorem de_M_first_31 : decode bc_M_first 31 = .ok (.ifCond .eq 5, 3) := by decide +kernel
theorem de_M_first_34 : decode bc_M_first 34 = .ok (.iload_n 2, 1) := by decide +kernel
theorem de_M_first_35 : decode bc_M_first 35 = .ok (.istore_n 1, 1) := by decide +kernel
theorem de_M_first_36 : decode bc_M_first 36 = .ok (.iinc 2 1, 3) := by decide +kernel
theorem de_M_first_39 : decode bc_M_first 39 = .ok (.goto (-35), 3) := by decide +kernel
theorem de_M_first_42 : decode bc_M_first 42 = .ok (.iload_n 1, 1) := by decide +kernel
theorem de_M_first_43 : decode bc_M_first 43 = .ok (.ireturn, 1) := by decide +kernel
theorem de_M_reach_0 : decode bc_M_reach 0 = .ok (.aload_n 0, 1) := by decide +kernel
theorem de_M_reach_1 : decode bc_M_reach 1 = .ok (.iload_n 2, 1) := by decide +kernel
theorem de_M_reach_2 : decode bc_M_reach 2 = .ok (.invokevirtual 115, 3) := by decide +kernel
theorem de_M_reach_5 : decode bc_M_reach 5 = .ok (.istore_n 3, 1) := by decide +kernel
theorem de_M_reach_6 : decode bc_M_reach 6 = .ok (.iconst 0, 1) := by decide +kernel
theorem de_M_reach_7 : decode bc_M_reach 7 = .ok (.istore 4, 2) := by decide +kernel
theorem de_M_reach_9 : decode bc_M_reach 9 = .ok (.iload 4, 2) := by decide +kernel
theorem de_M_reach_11 : decode bc_M_reach 11 = .ok (.aload_n 0, 1) := by decide +kernel
theorem de_M_reach_12 : decode bc_M_reach 12 = .ok (.getfield 78, 3) := by decide +kernel
theorem de_M_reach_15 : decode bc_M_reach 15 = .ok (.if_icmp .ge 43, 3) := by decide +kernel
theorem de_M_reach_18 : decode bc_M_reach 18 = .ok (.iload_n 3, 1) := by decide +kernel
theorem de_M_reach_19 : decode bc_M_reach 19 = .ok (.aload_n 0, 1) := by decide +kernel
theorem de_M_reach_20 : decode bc_M_reach 20 = .ok (.getfield 7, 3) := by decide +kernel
theorem de_M_reach_23 : decode bc_M_reach 23 = .ok (.iload 4, 2) := by decide +kernel
theorem de_M_reach_25 : decode bc_M_reach 25 = .ok (.iaload, 1) := by decide +kernel
theorem de_M_reach_26 : decode bc_M_reach 26 = .ok (.aload_n 0, 1) := by decide +kernel
theorem de_M_reach_27 : decode bc_M_reach 27 = .ok (.getfield 7, 3) := by decide +kernel
theorem de_M_reach_30 : decode bc_M_reach 30 = .ok (.iload_n 1, 1) := by decide +kernel
theorem de_M_reach_31 : decode bc_M_reach 31 = .ok (.iaload, 1) := by decide +kernel
theorem de_M_reach_32 : decode bc_M_reach 32 = .ok (.if_icmp .le 17, 3) := by decide +kernel
theorem de_M_reach_35 : decode bc_M_reach 35 = .ok (.aload_n 0, 1) := by decide +kernel
theorem de_M_reach_36 : decode bc_M_reach 36 = .ok (.getfield 50, 3) := by decide +kernel
theorem de_M_reach_39 : decode bc_M_reach 39 = .ok (.iconst 4, 1) := by decide +kernel
theorem de_M_reach_40 : decode bc_M_reach 40 = .ok (.iload 4, 2) := by decide +kernel
theorem de_M_reach_42 : decode bc_M_reach 42 = .ok (.imul, 1) := by decide +kernel
theorem de_M_reach_43 : decode bc_M_reach 43 = .ok (.iload_n 2, 1) := by decide +kernel
theorem de_M_reach_44 : decode bc_M_reach 44 = .ok (.iadd, 1) := by decide +kernel
theorem de_M_reach_45 : decode bc_M_reach 45 = .ok (.iaload, 1) := by decide +kernel
theorem de_M_reach_46 : decode bc_M_reach 46 = .ok (.goto 4, 3) := by decide +kernel
theorem de_M_reach_49 : decode bc_M_reach 49 = .ok (.iconst 0, 1) := by decide +kernel
theorem de_M_reach_50 : decode bc_M_reach 50 = .ok (.iadd, 1) := by decide +kernel
theorem de_M_reach_51 : decode bc_M_reach 51 = .ok (.istore_n 3, 1) := by decide +kernel
theorem de_M_reach_52 : decode bc_M_reach 52 = .ok (.iinc 4 1, 3) := by decide +kernel
theorem de_M_reach_55 : decode bc_M_reach 55 = .ok (.goto (-46), 3) := by decide +kernel
theorem de_M_reach_58 : decode bc_M_reach 58 = .ok (.iload_n 3, 1) := by decide +kernel
theorem de_M_reach_59 : decode bc_M_reach 59 = .ok (.ireturn, 1) := by decide +kernel
theorem de_M_victim_0 : decode bc_M_victim 0 = .ok (.iconst (-1), 1) := by decide +kernel
theorem de_M_victim_1 : decode bc_M_victim 1 = .ok (.istore_n 3, 1) := by decide +kernel
theorem de_M_victim_2 : decode bc_M_victim 2 = .ok (.iconst 0, 1) := by decide +kernel
theorem de_M_victim_3 : decode bc_M_victim 3 = .ok (.istore 4, 2) := by decide +kernel
theorem de_M_victim_5 : decode bc_M_victim 5 = .ok (.iload 4, 2) := by decide +kernel
theorem de_M_victim_7 : decode bc_M_victim 7 = .ok (.aload_n 0, 1) := by decide +kernel
theorem de_M_victim_8 : decode bc_M_victim 8 = .ok (.getfield 78, 3) := by decide +kernel
theorem de_M_victim_11 : decode bc_M_victim 11 = .ok (.if_icmp .ge 62, 3) := by decide +kernel
theorem de_M_victim_14 : decode bc_M_victim 14 = .ok (.aload_n 0, 1) := by decide +kernel
theorem de_M_victim_15 : decode bc_M_victim 15 = .ok (.getfield 7, 3) := by decide +kernel
theorem de_M_victim_18 : decode bc_M_victim 18 = .ok (.iload 4, 2) := by decide +kernel
theorem de_M_victim_20 : decode bc_M_victim 20 = .ok (.iaload, 1) := by decide +kernel
theorem de_M_victim_21 : decode bc_M_victim 21 = .ok (.aload_n 0, 1) := by decide +kernel
theorem de_M_victim_22 : decode bc_M_victim 22 = .ok (.getfield 7, 3) := by decide +kernel
theorem de_M_victim_25 : decode bc_M_victim 25 = .ok (.iload_n 1, 1) := by decide +kernel
theorem de_M_victim_26 : decode bc_M_victim 26 = .ok (.iaload, 1) := by decide +kernel
theorem de_M_victim_27 : decode bc_M_victim 27 = .ok (.if_icmp .le 40, 3) := by decide +kernel
theorem de_M_victim_30 : decode bc_M_victim 30 = .ok (.aload_n 0, 1) := by decide +kernel
theorem de_M_victim_31 : decode bc_M_victim 31 = .ok (.getfield 50, 3) := by decide +kernel
theorem de_M_victim_34 : decode bc_M_victim 34 = .ok (.iconst 4, 1) := by decide +kernel
theorem de_M_victim_35 : decode bc_M_victim 35 = .ok (.iload 4, 2) := by decide +kernel
theorem de_M_victim_37 : decode bc_M_victim 37 = .ok (.imul, 1) := by decide +kernel
theorem de_M_victim_38 : decode bc_M_victim 38 = .ok (.iload_n 2, 1) := by decide +kernel
theorem de_M_victim_39 : decode bc_M_victim 39 = .ok (.iadd, 1) := by decide +kernel
theorem de_M_victim_40 : decode bc_M_victim 40 = .ok (.iaload, 1) := by decide +kernel
theorem de_M_victim_41 : decode bc_M_victim 41 = .ok (.ifCond .le 26, 3) := by decide +kernel
theorem de_M_victim_44 : decode bc_M_victim 44 = .ok (.iload_n 3, 1) := by decide +kernel
theorem de_M_victim_45 : decode bc_M_victim 45 = .ok (.ifCond .lt 19, 3) := by decide +kernel
theorem de_M_victim_48 : decode bc_M_victim 48 = .ok (.aload_n 0, 1) := by decide +kernel
theorem de_M_victim_49 : decode bc_M_victim 49 = .ok (.getfield 7, 3) := by decide +kernel
theorem de_M_victim_52 : decode bc_M_victim 52 = .ok (.iload 4, 2) := by decide +kernel
theorem de_M_victim_54 : decode bc_M_victim 54 = .ok (.iaload, 1) := by decide +kernel
theorem de_M_victim_55 : decode bc_M_victim 55 = .ok (.aload_n 0, 1) := by decide +kernel
theorem de_M_victim_56 : decode bc_M_victim 56 = .ok (.getfield 7, 3) := by decide +kernel
theorem de_M_victim_59 : decode bc_M_victim 59 = .ok (.iload_n 3, 1) := by decide +kernel
theorem de_M_victim_60 : decode bc_M_victim 60 = .ok (.iaload, 1) := by decide +kernel
theorem de_M_victim_61 : decode bc_M_victim 61 = .ok (.if_icmp .lt 6, 3) := by decide +kernel
theorem de_M_victim_64 : decode bc_M_victim 64 = .ok (.iload 4, 2) := by decide +kernel
theorem de_M_victim_66 : decode bc_M_victim 66 = .ok (.istore_n 3, 1) := by decide +kernel
theorem de_M_victim_67 : decode bc_M_victim 67 = .ok (.iinc 4 1, 3) := by decide +kernel
theorem de_M_victim_70 : decode bc_M_victim 70 = .ok (.goto (-65), 3) := by decide +kernel
theorem de_M_victim_73 : decode bc_M_victim 73 = .ok (.iload_n 3, 1) := by decide +kernel
theorem de_M_victim_74 : decode bc_M_victim 74 = .ok (.ireturn, 1) := by decide +kernel
theorem de_M_interrupt_0 : decode bc_M_interrupt 0 = .ok (.aload_n 0, 1) := by decide +kernel
theorem de_M_interrupt_1 : decode bc_M_interrupt 1 = .ok (.iload_n 1, 1) := by decide +kernel
theorem de_M_interrupt_2 : decode bc_M_interrupt 2 = .ok (.invokevirtual 87, 3) := by decide +kernel
theorem de_M_interrupt_5 : decode bc_M_interrupt 5 = .ok (.ifCond .ne 23, 3) := by decide +kernel
theorem de_M_interrupt_8 : decode bc_M_interrupt 8 = .ok (.aload_n 0, 1) := by decide +kernel
theorem de_M_interrupt_9 : decode bc_M_interrupt 9 = .ok (.getfield 25, 3) := by decide +kernel
theorem de_M_interrupt_12 : decode bc_M_interrupt 12 = .ok (.iload_n 1, 1) := by decide +kernel
theorem de_M_interrupt_13 : decode bc_M_interrupt 13 = .ok (.iaload, 1) := by decide +kernel
theorem de_M_interrupt_14 : decode bc_M_interrupt 14 = .ok (.iconst 2, 1) := by decide +kernel
theorem de_M_interrupt_15 : decode bc_M_interrupt 15 = .ok (.if_icmp .lt 13, 3) := by decide +kernel
theorem de_M_interrupt_18 : decode bc_M_interrupt 18 = .ok (.aload_n 0, 1) := by decide +kernel
theorem de_M_interrupt_19 : decode bc_M_interrupt 19 = .ok (.getfield 25, 3) := by decide +kernel
theorem de_M_interrupt_22 : decode bc_M_interrupt 22 = .ok (.iload_n 1, 1) := by decide +kernel
theorem de_M_interrupt_23 : decode bc_M_interrupt 23 = .ok (.iaload, 1) := by decide +kernel
theorem de_M_interrupt_24 : decode bc_M_interrupt 24 = .ok (.iconst 5, 1) := by decide +kernel
theorem de_M_interrupt_25 : decode bc_M_interrupt 25 = .ok (.if_icmp .le 5, 3) := by decide +kernel
theorem de_M_interrupt_28 : decode bc_M_interrupt 28 = .ok (.iconst 0, 1) := by decide +kernel
theorem de_M_interrupt_29 : decode bc_M_interrupt 29 = .ok (.ireturn, 1) := by decide +kernel
theorem de_M_interrupt_30 : decode bc_M_interrupt 30 = .ok (.aload_n 0, 1) := by decide +kernel
theorem de_M_interrupt_31 : decode bc_M_interrupt 31 = .ok (.getfield 25, 3) := by decide +kernel
theorem de_M_interrupt_34 : decode bc_M_interrupt 34 = .ok (.iload_n 1, 1) := by decide +kernel
theorem de_M_interrupt_35 : decode bc_M_interrupt 35 = .ok (.iaload, 1) := by decide +kernel
theorem de_M_interrupt_36 : decode bc_M_interrupt 36 = .ok (.iconst 4, 1) := by decide +kernel
theorem de_M_interrupt_37 : decode bc_M_interrupt 37 = .ok (.if_icmp .ne 16, 3) := by decide +kernel
theorem de_M_interrupt_40 : decode bc_M_interrupt 40 = .ok (.aload_n 0, 1) := by decide +kernel
theorem de_M_interrupt_41 : decode bc_M_interrupt 41 = .ok (.getfield 44, 3) := by decide +kernel
theorem de_M_interrupt_44 : decode bc_M_interrupt 44 = .ok (.aload_n 0, 1) := by decide +kernel
theorem de_M_interrupt_45 : decode bc_M_interrupt 45 = .ok (.iload_n 1, 1) := by decide +kernel
theorem de_M_interrupt_46 : decode bc_M_interrupt 46 = .ok (.invokevirtual 109, 3) := by decide +kernel
theorem de_M_interrupt_49 : decode bc_M_interrupt 49 = .ok (.iaload, 1) := by decide +kernel
theorem de_M_interrupt_50 : decode bc_M_interrupt 50 = .ok (.goto 4, 3) := by decide +kernel
theorem de_M_interrupt_53 : decode bc_M_interrupt 53 = .ok (.iconst (-1), 1) := by decide +kernel
theorem de_M_interrupt_54 : decode bc_M_interrupt 54 = .ok (.istore_n 2, 1) := by decide +kernel
theorem de_M_interrupt_55 : decode bc_M_interrupt 55 = .ok (.aload_n 0, 1) := by decide +kernel
theorem de_M_interrupt_56 : decode bc_M_interrupt 56 = .ok (.getfield 22, 3) := by decide +kernel
theorem de_M_interrupt_59 : decode bc_M_interrupt 59 = .ok (.iload_n 1, 1) := by decide +kernel
theorem de_M_interrupt_60 : decode bc_M_interrupt 60 = .ok (.aload_n 0, 1) := by decide +kernel
theorem de_M_interrupt_61 : decode bc_M_interrupt 61 = .ok (.getfield 16, 3) := by decide +kernel
theorem de_M_interrupt_64 : decode bc_M_interrupt 64 = .ok (.iload_n 1, 1) := by decide +kernel
theorem de_M_interrupt_65 : decode bc_M_interrupt 65 = .ok (.iaload, 1) := by decide +kernel
theorem de_M_interrupt_66 : decode bc_M_interrupt 66 = .ok (.iastore, 1) := by decide +kernel
theorem de_M_interrupt_67 : decode bc_M_interrupt 67 = .ok (.aload_n 0, 1) := by decide +kernel
end
section
theorem de_M_interrupt_68 : decode bc_M_interrupt 68 = .ok (.iload_n 1, 1) := by decide +kernel
theorem de_M_interrupt_69 : decode bc_M_interrupt 69 = .ok (.iconst 1, 1) := by decide +kernel
theorem de_M_interrupt_70 : decode bc_M_interrupt 70 = .ok (.aload_n 0, 1) := by decide +kernel
theorem de_M_interrupt_71 : decode bc_M_interrupt 71 = .ok (.getfield 118, 3) := by decide +kernel
theorem de_M_interrupt_74 : decode bc_M_interrupt 74 = .ok (.invokevirtual 122, 3) := by decide +kernel
theorem de_M_interrupt_77 : decode bc_M_interrupt 77 = .ok (.iload_n 2, 1) := by decide +kernel
theorem de_M_interrupt_78 : decode bc_M_interrupt 78 = .ok (.ifCond .lt 8, 3) := by decide +kernel
theorem de_M_interrupt_81 : decode bc_M_interrupt 81 = .ok (.aload_n 0, 1) := by decide +kernel
theorem de_M_interrupt_82 : decode bc_M_interrupt 82 = .ok (.iload_n 2, 1) := by decide +kernel
theorem de_M_interrupt_83 : decode bc_M_interrupt 83 = .ok (.invokevirtual 98, 3) := by decide +kernel
theorem de_M_interrupt_86 : decode bc_M_interrupt 86 = .ok (.iconst 1, 1) := by decide +kernel
theorem de_M_interrupt_87 : decode bc_M_interrupt 87 = .ok (.ireturn, 1) := by decide +kernel
theorem de_M_preempt_0 : decode bc_M_preempt 0 = .ok (.iconst 0, 1) := by decide +kernel
theorem de_M_preempt_1 : decode bc_M_preempt 1 = .ok (.istore 4, 2) := by decide +kernel
theorem de_M_preempt_3 : decode bc_M_preempt 3 = .ok (.iconst 0, 1) := by decide +kernel
theorem de_M_preempt_4 : decode bc_M_preempt 4 = .ok (.istore 5, 2) := by decide +kernel
theorem de_M_preempt_6 : decode bc_M_preempt 6 = .ok (.iload 5, 2) := by decide +kernel
theorem de_M_preempt_8 : decode bc_M_preempt 8 = .ok (.bipush 12, 2) := by decide +kernel
theorem de_M_preempt_10 : decode bc_M_preempt 10 = .ok (.if_icmp .ge 55, 3) := by decide +kernel
theorem de_M_preempt_13 : decode bc_M_preempt 13 = .ok (.aload_n 0, 1) := by decide +kernel
theorem de_M_preempt_14 : decode bc_M_preempt 14 = .ok (.iload_n 2, 1) := by decide +kernel
theorem de_M_preempt_15 : decode bc_M_preempt 15 = .ok (.invokevirtual 115, 3) := by decide +kernel
theorem de_M_preempt_18 : decode bc_M_preempt 18 = .ok (.iload_n 3, 1) := by decide +kernel
theorem de_M_preempt_19 : decode bc_M_preempt 19 = .ok (.if_icmp .ge 46, 3) := by decide +kernel
theorem de_M_preempt_22 : decode bc_M_preempt 22 = .ok (.aload_n 0, 1) := by decide +kernel
theorem de_M_preempt_23 : decode bc_M_preempt 23 = .ok (.iload_n 1, 1) := by decide +kernel
theorem de_M_preempt_24 : decode bc_M_preempt 24 = .ok (.iload_n 2, 1) := by decide +kernel
theorem de_M_preempt_25 : decode bc_M_preempt 25 = .ok (.invokevirtual 137, 3) := by decide +kernel
theorem de_M_preempt_28 : decode bc_M_preempt 28 = .ok (.istore 6, 2) := by decide +kernel
theorem de_M_preempt_30 : decode bc_M_preempt 30 = .ok (.iload 6, 2) := by decide +kernel
theorem de_M_preempt_32 : decode bc_M_preempt 32 = .ok (.ifCond .lt 27, 3) := by decide +kernel
theorem de_M_preempt_35 : decode bc_M_preempt 35 = .ok (.aload_n 0, 1) := by decide +kernel
theorem de_M_preempt_36 : decode bc_M_preempt 36 = .ok (.getfield 50, 3) := by decide +kernel
theorem de_M_preempt_39 : decode bc_M_preempt 39 = .ok (.iconst 4, 1) := by decide +kernel
theorem de_M_preempt_40 : decode bc_M_preempt 40 = .ok (.iload 6, 2) := by decide +kernel
theorem de_M_preempt_42 : decode bc_M_preempt 42 = .ok (.imul, 1) := by decide +kernel
theorem de_M_preempt_43 : decode bc_M_preempt 43 = .ok (.iload_n 2, 1) := by decide +kernel
theorem de_M_preempt_44 : decode bc_M_preempt 44 = .ok (.iadd, 1) := by decide +kernel
theorem de_M_preempt_45 : decode bc_M_preempt 45 = .ok (.iconst 0, 1) := by decide +kernel
theorem de_M_preempt_46 : decode bc_M_preempt 46 = .ok (.iastore, 1) := by decide +kernel
theorem de_M_preempt_47 : decode bc_M_preempt 47 = .ok (.aload_n 0, 1) := by decide +kernel
theorem de_M_preempt_48 : decode bc_M_preempt 48 = .ok (.getfield 72, 3) := by decide +kernel
theorem de_M_preempt_51 : decode bc_M_preempt 51 = .ok (.iload 4, 2) := by decide +kernel
theorem de_M_preempt_53 : decode bc_M_preempt 53 = .ok (.iload 6, 2) := by decide +kernel
theorem de_M_preempt_55 : decode bc_M_preempt 55 = .ok (.iastore, 1) := by decide +kernel
theorem de_M_preempt_56 : decode bc_M_preempt 56 = .ok (.iinc 4 1, 3) := by decide +kernel
theorem de_M_preempt_59 : decode bc_M_preempt 59 = .ok (.iinc 5 1, 3) := by decide +kernel
theorem de_M_preempt_62 : decode bc_M_preempt 62 = .ok (.goto (-56), 3) := by decide +kernel
theorem de_M_preempt_65 : decode bc_M_preempt 65 = .ok (.aload_n 0, 1) := by decide +kernel
theorem de_M_preempt_66 : decode bc_M_preempt 66 = .ok (.getfield 50, 3) := by decide +kernel
theorem de_M_preempt_69 : decode bc_M_preempt 69 = .ok (.iconst 4, 1) := by decide +kernel
theorem de_M_preempt_70 : decode bc_M_preempt 70 = .ok (.iload_n 1, 1) := by decide +kernel
theorem de_M_preempt_71 : decode bc_M_preempt 71 = .ok (.imul, 1) := by decide +kernel
theorem de_M_preempt_72 : decode bc_M_preempt 72 = .ok (.iload_n 2, 1) := by decide +kernel
theorem de_M_preempt_73 : decode bc_M_preempt 73 = .ok (.iadd, 1) := by decide +kernel
theorem de_M_preempt_74 : decode bc_M_preempt 74 = .ok (.dup2, 1) := by decide +kernel
theorem de_M_preempt_75 : decode bc_M_preempt 75 = .ok (.iaload, 1) := by decide +kernel
theorem de_M_preempt_76 : decode bc_M_preempt 76 = .ok (.iload_n 3, 1) := by decide +kernel
theorem de_M_preempt_77 : decode bc_M_preempt 77 = .ok (.iadd, 1) := by decide +kernel
theorem de_M_preempt_78 : decode bc_M_preempt 78 = .ok (.iastore, 1) := by decide +kernel
theorem de_M_preempt_79 : decode bc_M_preempt 79 = .ok (.iconst 0, 1) := by decide +kernel
theorem de_M_preempt_80 : decode bc_M_preempt 80 = .ok (.istore 5, 2) := by decide +kernel
theorem de_M_preempt_82 : decode bc_M_preempt 82 = .ok (.iload 5, 2) := by decide +kernel
theorem de_M_preempt_84 : decode bc_M_preempt 84 = .ok (.iload 4, 2) := by decide +kernel
theorem de_M_preempt_86 : decode bc_M_preempt 86 = .ok (.if_icmp .ge 21, 3) := by decide +kernel
theorem de_M_preempt_89 : decode bc_M_preempt 89 = .ok (.aload_n 0, 1) := by decide +kernel
theorem de_M_preempt_90 : decode bc_M_preempt 90 = .ok (.aload_n 0, 1) := by decide +kernel
theorem de_M_preempt_91 : decode bc_M_preempt 91 = .ok (.getfield 72, 3) := by decide +kernel
theorem de_M_preempt_94 : decode bc_M_preempt 94 = .ok (.iload 5, 2) := by decide +kernel
theorem de_M_preempt_96 : decode bc_M_preempt 96 = .ok (.iaload, 1) := by decide +kernel
theorem de_M_preempt_97 : decode bc_M_preempt 97 = .ok (.invokevirtual 140, 3) := by decide +kernel
theorem de_M_preempt_100 : decode bc_M_preempt 100 = .ok (.pop, 1) := by decide +kernel
theorem de_M_preempt_101 : decode bc_M_preempt 101 = .ok (.iinc 5 1, 3) := by decide +kernel
theorem de_M_preempt_104 : decode bc_M_preempt 104 = .ok (.goto (-22), 3) := by decide +kernel
theorem de_M_preempt_107 : decode bc_M_preempt 107 = .ok (.aload_n 0, 1) := by decide +kernel
theorem de_M_preempt_108 : decode bc_M_preempt 108 = .ok (.iload_n 2, 1) := by decide +kernel
theorem de_M_preempt_109 : decode bc_M_preempt 109 = .ok (.invokevirtual 98, 3) := by decide +kernel
theorem de_M_preempt_112 : decode bc_M_preempt 112 = .ok (.return_, 1) := by decide +kernel
theorem de_M_seize_0 : decode bc_M_seize 0 = .ok (.aload_n 0, 1) := by decide +kernel
theorem de_M_seize_1 : decode bc_M_seize 1 = .ok (.iload_n 2, 1) := by decide +kernel
theorem de_M_seize_2 : decode bc_M_seize 2 = .ok (.invokevirtual 112, 3) := by decide +kernel
theorem de_M_seize_5 : decode bc_M_seize 5 = .ok (.istore 4, 2) := by decide +kernel
theorem de_M_seize_7 : decode bc_M_seize 7 = .ok (.iload 4, 2) := by decide +kernel
theorem de_M_seize_9 : decode bc_M_seize 9 = .ok (.ifCond .lt 19, 3) := by decide +kernel
theorem de_M_seize_12 : decode bc_M_seize 12 = .ok (.aload_n 0, 1) := by decide +kernel
theorem de_M_seize_13 : decode bc_M_seize 13 = .ok (.getfield 7, 3) := by decide +kernel
theorem de_M_seize_16 : decode bc_M_seize 16 = .ok (.iload 4, 2) := by decide +kernel
theorem de_M_seize_18 : decode bc_M_seize 18 = .ok (.iaload, 1) := by decide +kernel
theorem de_M_seize_19 : decode bc_M_seize 19 = .ok (.aload_n 0, 1) := by decide +kernel
theorem de_M_seize_20 : decode bc_M_seize 20 = .ok (.getfield 7, 3) := by decide +kernel
theorem de_M_seize_23 : decode bc_M_seize 23 = .ok (.iload_n 1, 1) := by decide +kernel
theorem de_M_seize_24 : decode bc_M_seize 24 = .ok (.iaload, 1) := by decide +kernel
theorem de_M_seize_25 : decode bc_M_seize 25 = .ok (.if_icmp .le 7, 3) := by decide +kernel
theorem de_M_seize_28 : decode bc_M_seize 28 = .ok (.iconst 1, 1) := by decide +kernel
theorem de_M_seize_29 : decode bc_M_seize 29 = .ok (.goto 4, 3) := by decide +kernel
theorem de_M_seize_32 : decode bc_M_seize 32 = .ok (.iconst 0, 1) := by decide +kernel
theorem de_M_seize_33 : decode bc_M_seize 33 = .ok (.istore 5, 2) := by decide +kernel
theorem de_M_seize_35 : decode bc_M_seize 35 = .ok (.iload 5, 2) := by decide +kernel
theorem de_M_seize_37 : decode bc_M_seize 37 = .ok (.ifCond .eq 28, 3) := by decide +kernel
theorem de_M_seize_40 : decode bc_M_seize 40 = .ok (.aload_n 0, 1) := by decide +kernel
theorem de_M_seize_41 : decode bc_M_seize 41 = .ok (.iload_n 2, 1) := by decide +kernel
theorem de_M_seize_42 : decode bc_M_seize 42 = .ok (.invokevirtual 115, 3) := by decide +kernel
theorem de_M_seize_45 : decode bc_M_seize 45 = .ok (.iload_n 3, 1) := by decide +kernel
theorem de_M_seize_46 : decode bc_M_seize 46 = .ok (.if_icmp .lt 19, 3) := by decide +kernel
theorem de_M_seize_49 : decode bc_M_seize 49 = .ok (.aload_n 0, 1) := by decide +kernel
theorem de_M_seize_50 : decode bc_M_seize 50 = .ok (.getfield 50, 3) := by decide +kernel
theorem de_M_seize_53 : decode bc_M_seize 53 = .ok (.iconst 4, 1) := by decide +kernel
theorem de_M_seize_54 : decode bc_M_seize 54 = .ok (.iload_n 1, 1) := by decide +kernel
theorem de_M_seize_55 : decode bc_M_seize 55 = .ok (.imul, 1) := by decide +kernel
theorem de_M_seize_56 : decode bc_M_seize 56 = .ok (.iload_n 2, 1) := by decide +kernel
theorem de_M_seize_57 : decode bc_M_seize 57 = .ok (.iadd, 1) := by decide +kernel
theorem de_M_seize_58 : decode bc_M_seize 58 = .ok (.dup2, 1) := by decide +kernel
theorem de_M_seize_59 : decode bc_M_seize 59 = .ok (.iaload, 1) := by decide +kernel
theorem de_M_seize_60 : decode bc_M_seize 60 = .ok (.iload_n 3, 1) := by decide +kernel
theorem de_M_seize_61 : decode bc_M_seize 61 = .ok (.iadd, 1) := by decide +kernel
theorem de_M_seize_62 : decode bc_M_seize 62 = .ok (.iastore, 1) := by decide +kernel
theorem de_M_seize_63 : decode bc_M_seize 63 = .ok (.iconst 1, 1) := by decide +kernel
theorem de_M_seize_64 : decode bc_M_seize 64 = .ok (.ireturn, 1) := by decide +kernel
theorem de_M_seize_65 : decode bc_M_seize 65 = .ok (.iload 5, 2) := by decide +kernel
theorem de_M_seize_67 : decode bc_M_seize 67 = .ok (.ifCond .eq 31, 3) := by decide +kernel
theorem de_M_seize_70 : decode bc_M_seize 70 = .ok (.aload_n 0, 1) := by decide +kernel
theorem de_M_seize_71 : decode bc_M_seize 71 = .ok (.getfield 56, 3) := by decide +kernel
theorem de_M_seize_74 : decode bc_M_seize 74 = .ok (.iload_n 2, 1) := by decide +kernel
theorem de_M_seize_75 : decode bc_M_seize 75 = .ok (.baload, 1) := by decide +kernel
theorem de_M_seize_76 : decode bc_M_seize 76 = .ok (.ifCond .eq 22, 3) := by decide +kernel
theorem de_M_seize_79 : decode bc_M_seize 79 = .ok (.aload_n 0, 1) := by decide +kernel
theorem de_M_seize_80 : decode bc_M_seize 80 = .ok (.iload_n 1, 1) := by decide +kernel
theorem de_M_seize_81 : decode bc_M_seize 81 = .ok (.iload_n 2, 1) := by decide +kernel
theorem de_M_seize_82 : decode bc_M_seize 82 = .ok (.invokevirtual 126, 3) := by decide +kernel
theorem de_M_seize_85 : decode bc_M_seize 85 = .ok (.iload_n 3, 1) := by decide +kernel
theorem de_M_seize_86 : decode bc_M_seize 86 = .ok (.if_icmp .lt 12, 3) := by decide +kernel
theorem de_M_seize_89 : decode bc_M_seize 89 = .ok (.aload_n 0, 1) := by decide +kernel
theorem de_M_seize_90 : decode bc_M_seize 90 = .ok (.iload_n 1, 1) := by decide +kernel
theorem de_M_seize_91 : decode bc_M_seize 91 = .ok (.iload_n 2, 1) := by decide +kernel
theorem de_M_seize_92 : decode bc_M_seize 92 = .ok (.iload_n 3, 1) := by decide +kernel
theorem de_M_seize_93 : decode bc_M_seize 93 = .ok (.invokevirtual 130, 3) := by decide +kernel
theorem de_M_seize_96 : decode bc_M_seize 96 = .ok (.iconst 1, 1) := by decide +kernel
theorem de_M_seize_97 : decode bc_M_seize 97 = .ok (.ireturn, 1) := by decide +kernel
theorem de_M_seize_98 : decode bc_M_seize 98 = .ok (.aload_n 0, 1) := by decide +kernel
theorem de_M_seize_99 : decode bc_M_seize 99 = .ok (.getfield 25, 3) := by decide +kernel
theorem de_M_seize_102 : decode bc_M_seize 102 = .ok (.iload_n 1, 1) := by decide +kernel
theorem de_M_seize_103 : decode bc_M_seize 103 = .ok (.iconst 4, 1) := by decide +kernel
theorem de_M_seize_104 : decode bc_M_seize 104 = .ok (.iastore, 1) := by decide +kernel
theorem de_M_seize_105 : decode bc_M_seize 105 = .ok (.aload_n 0, 1) := by decide +kernel
theorem de_M_seize_106 : decode bc_M_seize 106 = .ok (.getfield 35, 3) := by decide +kernel
theorem de_M_seize_109 : decode bc_M_seize 109 = .ok (.iload_n 1, 1) := by decide +kernel
theorem de_M_seize_110 : decode bc_M_seize 110 = .ok (.aload_n 0, 1) := by decide +kernel
theorem de_M_seize_111 : decode bc_M_seize 111 = .ok (.getfield 134, 3) := by decide +kernel
theorem de_M_seize_114 : decode bc_M_seize 114 = .ok (.iastore, 1) := by decide +kernel
theorem de_M_seize_115 : decode bc_M_seize 115 = .ok (.aload_n 0, 1) := by decide +kernel
theorem de_M_seize_116 : decode bc_M_seize 116 = .ok (.dup, 1) := by decide +kernel
theorem de_M_seize_117 : decode bc_M_seize 117 = .ok (.getfield 134, 3) := by decide +kernel
theorem de_M_seize_120 : decode bc_M_seize 120 = .ok (.iconst 1, 1) := by decide +kernel
theorem de_M_seize_121 : decode bc_M_seize 121 = .ok (.iadd, 1) := by decide +kernel
theorem de_M_seize_122 : decode bc_M_seize 122 = .ok (.putfield 134, 3) := by decide +kernel
theorem de_M_seize_125 : decode bc_M_seize 125 = .ok (.aload_n 0, 1) := by decide +kernel
theorem de_M_seize_126 : decode bc_M_seize 126 = .ok (.getfield 38, 3) := by decide +kernel
theorem de_M_seize_129 : decode bc_M_seize 129 = .ok (.iload_n 1, 1) := by decide +kernel
theorem de_M_seize_130 : decode bc_M_seize 130 = .ok (.aload_n 0, 1) := by decide +kernel
theorem de_M_seize_131 : decode bc_M_seize 131 = .ok (.getfield 118, 3) := by decide +kernel
theorem de_M_seize_134 : decode bc_M_seize 134 = .ok (.lastore, 1) := by decide +kernel
theorem de_M_seize_135 : decode bc_M_seize 135 = .ok (.iconst 0, 1) := by decide +kernel
theorem de_M_seize_136 : decode bc_M_seize 136 = .ok (.ireturn, 1) := by decide +kernel
theorem de_M_release_0 : decode bc_M_release 0 = .ok (.iconst 4, 1) := by decide +kernel
theorem de_M_release_1 : decode bc_M_release 1 = .ok (.iload_n 1, 1) := by decide +kernel
theorem de_M_release_2 : decode bc_M_release 2 = .ok (.imul, 1) := by decide +kernel
theorem de_M_release_3 : decode bc_M_release 3 = .ok (.iload_n 2, 1) := by decide +kernel
theorem de_M_release_4 : decode bc_M_release 4 = .ok (.iadd, 1) := by decide +kernel
theorem de_M_release_5 : decode bc_M_release 5 = .ok (.istore 4, 2) := by decide +kernel
theorem de_M_release_7 : decode bc_M_release 7 = .ok (.aload_n 0, 1) := by decide +kernel
theorem de_M_release_8 : decode bc_M_release 8 = .ok (.getfield 50, 3) := by decide +kernel
theorem de_M_release_11 : decode bc_M_release 11 = .ok (.iload 4, 2) := by decide +kernel
theorem de_M_release_13 : decode bc_M_release 13 = .ok (.aload_n 0, 1) := by decide +kernel
theorem de_M_release_14 : decode bc_M_release 14 = .ok (.getfield 50, 3) := by decide +kernel
theorem de_M_release_17 : decode bc_M_release 17 = .ok (.iload 4, 2) := by decide +kernel
theorem de_M_release_19 : decode bc_M_release 19 = .ok (.iaload, 1) := by decide +kernel
theorem de_M_release_20 : decode bc_M_release 20 = .ok (.iload_n 3, 1) := by decide +kernel
theorem de_M_release_21 : decode bc_M_release 21 = .ok (.if_icmp .le 15, 3) := by decide +kernel
theorem de_M_release_24 : decode bc_M_release 24 = .ok (.aload_n 0, 1) := by decide +kernel
theorem de_M_release_25 : decode bc_M_release 25 = .ok (.getfield 50, 3) := by decide +kernel
theorem de_M_release_28 : decode bc_M_release 28 = .ok (.iload 4, 2) := by decide +kernel
theorem de_M_release_30 : decode bc_M_release 30 = .ok (.iaload, 1) := by decide +kernel
theorem de_M_release_31 : decode bc_M_release 31 = .ok (.iload_n 3, 1) := by decide +kernel
theorem de_M_release_32 : decode bc_M_release 32 = .ok (.isub, 1) := by decide +kernel
theorem de_M_release_33 : decode bc_M_release 33 = .ok (.goto 4, 3) := by decide +kernel
theorem de_M_release_36 : decode bc_M_release 36 = .ok (.iconst 0, 1) := by decide +kernel
theorem de_M_release_37 : decode bc_M_release 37 = .ok (.iastore, 1) := by decide +kernel
theorem de_M_release_38 : decode bc_M_release 38 = .ok (.aload_n 0, 1) := by decide +kernel
theorem de_M_release_39 : decode bc_M_release 39 = .ok (.iload_n 2, 1) := by decide +kernel
theorem de_M_release_40 : decode bc_M_release 40 = .ok (.invokevirtual 98, 3) := by decide +kernel
theorem de_M_release_43 : decode bc_M_release 43 = .ok (.return_, 1) := by decide +kernel
theorem de_M_holds_0 : decode bc_M_holds 0 = .ok (.aload_n 0, 1) := by decide +kernel
theorem de_M_holds_1 : decode bc_M_holds 1 = .ok (.getfield 44, 3) := by decide +kernel
theorem de_M_holds_4 : decode bc_M_holds 4 = .ok (.iload_n 1, 1) := by decide +kernel
theorem de_M_holds_5 : decode bc_M_holds 5 = .ok (.iaload, 1) := by decide +kernel
theorem de_M_holds_6 : decode bc_M_holds 6 = .ok (.istore_n 2, 1) := by decide +kernel
theorem de_M_holds_7 : decode bc_M_holds 7 = .ok (.aload_n 0, 1) := by decide +kernel
theorem de_M_holds_8 : decode bc_M_holds 8 = .ok (.getfield 41, 3) := by decide +kernel
theorem de_M_holds_11 : decode bc_M_holds 11 = .ok (.iload_n 1, 1) := by decide +kernel
theorem de_M_holds_12 : decode bc_M_holds 12 = .ok (.iaload, 1) := by decide +kernel
theorem de_M_holds_13 : decode bc_M_holds 13 = .ok (.iconst 4, 1) := by decide +kernel
theorem de_M_holds_14 : decode bc_M_holds 14 = .ok (.if_icmp .ne 31, 3) := by decide +kernel
theorem de_M_holds_17 : decode bc_M_holds 17 = .ok (.aload_n 0, 1) := by decide +kernel
theorem de_M_holds_18 : decode bc_M_holds 18 = .ok (.getfield 69, 3) := by decide +kernel
theorem de_M_holds_21 : decode bc_M_holds 21 = .ok (.iload_n 2, 1) := by decide +kernel
theorem de_M_holds_22 : decode bc_M_holds 22 = .ok (.iaload, 1) := by decide +kernel
theorem de_M_holds_23 : decode bc_M_holds 23 = .ok (.aload_n 0, 1) := by decide +kernel
theorem de_M_holds_24 : decode bc_M_holds 24 = .ok (.getfield 47, 3) := by decide +kernel
theorem de_M_holds_27 : decode bc_M_holds 27 = .ok (.iload_n 1, 1) := by decide +kernel
theorem de_M_holds_28 : decode bc_M_holds 28 = .ok (.iaload, 1) := by decide +kernel
theorem de_M_holds_29 : decode bc_M_holds 29 = .ok (.iadd, 1) := by decide +kernel
theorem de_M_holds_30 : decode bc_M_holds 30 = .ok (.aload_n 0, 1) := by decide +kernel
theorem de_M_holds_31 : decode bc_M_holds 31 = .ok (.getfield 66, 3) := by decide +kernel
theorem de_M_holds_34 : decode bc_M_holds 34 = .ok (.iload_n 2, 1) := by decide +kernel
theorem de_M_holds_35 : decode bc_M_holds 35 = .ok (.iaload, 1) := by decide +kernel
theorem de_M_holds_36 : decode bc_M_holds 36 = .ok (.if_icmp .gt 7, 3) := by decide +kernel
theorem de_M_holds_39 : decode bc_M_holds 39 = .ok (.iconst 1, 1) := by decide +kernel
theorem de_M_holds_40 : decode bc_M_holds 40 = .ok (.goto 4, 3) := by decide +kernel
theorem de_M_holds_43 : decode bc_M_holds 43 = .ok (.iconst 0, 1) := by decide +kernel
theorem de_M_holds_44 : decode bc_M_holds 44 = .ok (.ireturn, 1) := by decide +kernel
theorem de_M_holds_45 : decode bc_M_holds 45 = .ok (.aload_n 0, 1) := by decide +kernel
theorem de_M_holds_46 : decode bc_M_holds 46 = .ok (.getfield 41, 3) := by decide +kernel
theorem de_M_holds_49 : decode bc_M_holds 49 = .ok (.iload_n 1, 1) := by decide +kernel
theorem de_M_holds_50 : decode bc_M_holds 50 = .ok (.iaload, 1) := by decide +kernel
theorem de_M_holds_51 : decode bc_M_holds 51 = .ok (.iconst 5, 1) := by decide +kernel
theorem de_M_holds_52 : decode bc_M_holds 52 = .ok (.if_icmp .ne 24, 3) := by decide +kernel
theorem de_M_holds_55 : decode bc_M_holds 55 = .ok (.aload_n 0, 1) := by decide +kernel
theorem de_M_holds_56 : decode bc_M_holds 56 = .ok (.getfield 69, 3) := by decide +kernel
theorem de_M_holds_59 : decode bc_M_holds 59 = .ok (.iload_n 2, 1) := by decide +kernel
theorem de_M_holds_60 : decode bc_M_holds 60 = .ok (.iaload, 1) := by decide +kernel
theorem de_M_holds_61 : decode bc_M_holds 61 = .ok (.aload_n 0, 1) := by decide +kernel
theorem de_M_holds_62 : decode bc_M_holds 62 = .ok (.getfield 47, 3) := by decide +kernel
theorem de_M_holds_65 : decode bc_M_holds 65 = .ok (.iload_n 1, 1) := by decide +kernel
theorem de_M_holds_66 : decode bc_M_holds 66 = .ok (.iaload, 1) := by decide +kernel
theorem de_M_holds_67 : decode bc_M_holds 67 = .ok (.if_icmp .lt 7, 3) := by decide +kernel
theorem de_M_holds_70 : decode bc_M_holds 70 = .ok (.iconst 1, 1) := by decide +kernel
theorem de_M_holds_71 : decode bc_M_holds 71 = .ok (.goto 4, 3) := by decide +kernel
theorem de_M_holds_74 : decode bc_M_holds 74 = .ok (.iconst 0, 1) := by decide +kernel
theorem de_M_holds_75 : decode bc_M_holds 75 = .ok (.ireturn, 1) := by decide +kernel
theorem de_M_holds_76 : decode bc_M_holds 76 = .ok (.iload_n 2, 1) := by decide +kernel
theorem de_M_holds_77 : decode bc_M_holds 77 = .ok (.aload_n 0, 1) := by decide +kernel
theorem de_M_holds_78 : decode bc_M_holds 78 = .ok (.getfield 78, 3) := by decide +kernel
theorem de_M_holds_81 : decode bc_M_holds 81 = .ok (.if_icmp .ge 14, 3) := by decide +kernel
theorem de_M_holds_84 : decode bc_M_holds 84 = .ok (.aload_n 0, 1) := by decide +kernel
theorem de_M_holds_85 : decode bc_M_holds 85 = .ok (.getfield 25, 3) := by decide +kernel
theorem de_M_holds_88 : decode bc_M_holds 88 = .ok (.iload_n 2, 1) := by decide +kernel
theorem de_M_holds_89 : decode bc_M_holds 89 = .ok (.iaload, 1) := by decide +kernel
theorem de_M_holds_90 : decode bc_M_holds 90 = .ok (.bipush 6, 2) := by decide +kernel
theorem de_M_holds_92 : decode bc_M_holds 92 = .ok (.if_icmp .lt 7, 3) := by decide +kernel
theorem de_M_holds_95 : decode bc_M_holds 95 = .ok (.iconst 1, 1) := by decide +kernel
theorem de_M_holds_96 : decode bc_M_holds 96 = .ok (.goto 4, 3) := by decide +kernel
theorem de_M_holds_99 : decode bc_M_holds 99 = .ok (.iconst 0, 1) := by decide +kernel
theorem de_M_holds_100 : decode bc_M_holds 100 = .ok (.ireturn, 1) := by decide +kernel
theorem de_M_pour_0 : decode bc_M_pour 0 = .ok (.aload_n 0, 1) := by decide +kernel
theorem de_M_pour_1 : decode bc_M_pour 1 = .ok (.getfield 41, 3) := by decide +kernel
theorem de_M_pour_4 : decode bc_M_pour 4 = .ok (.iload_n 1, 1) := by decide +kernel
theorem de_M_pour_5 : decode bc_M_pour 5 = .ok (.iaload, 1) := by decide +kernel
theorem de_M_pour_6 : decode bc_M_pour 6 = .ok (.bipush 6, 2) := by decide +kernel
theorem de_M_pour_8 : decode bc_M_pour 8 = .ok (.if_icmp .ge 43, 3) := by decide +kernel
theorem de_M_pour_11 : decode bc_M_pour 11 = .ok (.aload_n 0, 1) := by decide +kernel
theorem de_M_pour_12 : decode bc_M_pour 12 = .ok (.getfield 69, 3) := by decide +kernel
theorem de_M_pour_15 : decode bc_M_pour 15 = .ok (.aload_n 0, 1) := by decide +kernel
theorem de_M_pour_16 : decode bc_M_pour 16 = .ok (.getfield 44, 3) := by decide +kernel
theorem de_M_pour_19 : decode bc_M_pour 19 = .ok (.iload_n 1, 1) := by decide +kernel
theorem de_M_pour_20 : decode bc_M_pour 20 = .ok (.iaload, 1) := by decide +kernel
theorem de_M_pour_21 : decode bc_M_pour 21 = .ok (.dup2, 1) := by decide +kernel
theorem de_M_pour_22 : decode bc_M_pour 22 = .ok (.iaload, 1) := by decide +kernel
theorem de_M_pour_23 : decode bc_M_pour 23 = .ok (.aload_n 0, 1) := by decide +kernel
theorem de_M_pour_24 : decode bc_M_pour 24 = .ok (.getfield 41, 3) := by decide +kernel
theorem de_M_pour_27 : decode bc_M_pour 27 = .ok (.iload_n 1, 1) := by decide +kernel
theorem de_M_pour_28 : decode bc_M_pour 28 = .ok (.iaload, 1) := by decide +kernel
theorem de_M_pour_29 : decode bc_M_pour 29 = .ok (.iconst 4, 1) := by decide +kernel
theorem de_M_pour_30 : decode bc_M_pour 30 = .ok (.if_icmp .ne 12, 3) := by decide +kernel
theorem de_M_pour_33 : decode bc_M_pour 33 = .ok (.aload_n 0, 1) := by decide +kernel
theorem de_M_pour_34 : decode bc_M_pour 34 = .ok (.getfield 47, 3) := by decide +kernel
theorem de_M_pour_37 : decode bc_M_pour 37 = .ok (.iload_n 1, 1) := by decide +kernel
theorem de_M_pour_38 : decode bc_M_pour 38 = .ok (.iaload, 1) := by decide +kernel
theorem de_M_pour_39 : decode bc_M_pour 39 = .ok (.goto 10, 3) := by decide +kernel
theorem de_M_pour_42 : decode bc_M_pour 42 = .ok (.aload_n 0, 1) := by decide +kernel
theorem de_M_pour_43 : decode bc_M_pour 43 = .ok (.getfield 47, 3) := by decide +kernel
theorem de_M_pour_46 : decode bc_M_pour 46 = .ok (.iload_n 1, 1) := by decide +kernel
theorem de_M_pour_47 : decode bc_M_pour 47 = .ok (.iaload, 1) := by decide +kernel
theorem de_M_pour_48 : decode bc_M_pour 48 = .ok (.ineg, 1) := by decide +kernel
theorem de_M_pour_49 : decode bc_M_pour 49 = .ok (.iadd, 1) := by decide +kernel
theorem de_M_pour_50 : decode bc_M_pour 50 = .ok (.iastore, 1) := by decide +kernel
theorem de_M_pour_51 : decode bc_M_pour 51 = .ok (.return_, 1) := by decide +kernel
theorem de_M_goOver_0 : decode bc_M_goOver 0 = .ok (.iconst (-1), 1) := by decide +kernel
theorem de_M_goOver_1 : decode bc_M_goOver 1 = .ok (.istore_n 1, 1) := by decide +kernel
theorem de_M_goOver_2 : decode bc_M_goOver 2 = .ok (.iconst 0, 1) := by decide +kernel
theorem de_M_goOver_3 : decode bc_M_goOver 3 = .ok (.istore_n 2, 1) := by decide +kernel
theorem de_M_goOver_4 : decode bc_M_goOver 4 = .ok (.iload_n 2, 1) := by decide +kernel
theorem de_M_goOver_5 : decode bc_M_goOver 5 = .ok (.bipush 12, 2) := by decide +kernel
theorem de_M_goOver_7 : decode bc_M_goOver 7 = .ok (.if_icmp .ge 117, 3) := by decide +kernel
theorem de_M_goOver_10 : decode bc_M_goOver 10 = .ok (.iconst (-1), 1) := by decide +kernel
theorem de_M_goOver_11 : decode bc_M_goOver 11 = .ok (.istore_n 3, 1) := by decide +kernel
theorem de_M_goOver_12 : decode bc_M_goOver 12 = .ok (.iconst 0, 1) := by decide +kernel
theorem de_M_goOver_13 : decode bc_M_goOver 13 = .ok (.istore 4, 2) := by decide +kernel
theorem de_M_goOver_15 : decode bc_M_goOver 15 = .ok (.iload 4, 2) := by decide +kernel
theorem de_M_goOver_17 : decode bc_M_goOver 17 = .ok (.aload_n 0, 1) := by decide +kernel
theorem de_M_goOver_18 : decode bc_M_goOver 18 = .ok (.getfield 78, 3) := by decide +kernel
theorem de_M_goOver_21 : decode bc_M_goOver 21 = .ok (.if_icmp .ge 54, 3) := by decide +kernel
theorem de_M_goOver_24 : decode bc_M_goOver 24 = .ok (.aload_n 0, 1) := by decide +kernel
theorem de_M_goOver_25 : decode bc_M_goOver 25 = .ok (.getfield 25, 3) := by decide +kernel
theorem de_M_goOver_28 : decode bc_M_goOver 28 = .ok (.iload 4, 2) := by decide +kernel
theorem de_M_goOver_30 : decode bc_M_goOver 30 = .ok (.iaload, 1) := by decide +kernel
theorem de_M_goOver_31 : decode bc_M_goOver 31 = .ok (.iconst 5, 1) := by decide +kernel
theorem de_M_goOver_32 : decode bc_M_goOver 32 = .ok (.if_icmp .ne 37, 3) := by decide +kernel
theorem de_M_goOver_35 : decode bc_M_goOver 35 = .ok (.aload_n 0, 1) := by decide +kernel
theorem de_M_goOver_36 : decode bc_M_goOver 36 = .ok (.getfield 35, 3) := by decide +kernel
theorem de_M_goOver_39 : decode bc_M_goOver 39 = .ok (.iload 4, 2) := by decide +kernel
theorem de_M_goOver_41 : decode bc_M_goOver 41 = .ok (.iaload, 1) := by decide +kernel
theorem de_M_goOver_42 : decode bc_M_goOver 42 = .ok (.iload_n 1, 1) := by decide +kernel
theorem de_M_goOver_43 : decode bc_M_goOver 43 = .ok (.if_icmp .le 26, 3) := by decide +kernel
theorem de_M_goOver_46 : decode bc_M_goOver 46 = .ok (.iload_n 3, 1) := by decide +kernel
theorem de_M_goOver_47 : decode bc_M_goOver 47 = .ok (.ifCond .lt 19, 3) := by decide +kernel
theorem de_M_goOver_50 : decode bc_M_goOver 50 = .ok (.aload_n 0, 1) := by decide +kernel
theorem de_M_goOver_51 : decode bc_M_goOver 51 = .ok (.getfield 35, 3) := by decide +kernel
theorem de_M_goOver_54 : decode bc_M_goOver 54 = .ok (.iload 4, 2) := by decide +kernel
theorem de_M_goOver_56 : decode bc_M_goOver 56 = .ok (.iaload, 1) := by decide +kernel
theorem de_M_goOver_57 : decode bc_M_goOver 57 = .ok (.aload_n 0, 1) := by decide +kernel
theorem de_M_goOver_58 : decode bc_M_goOver 58 = .ok (.getfield 35, 3) := by decide +kernel
theorem de_M_goOver_61 : decode bc_M_goOver 61 = .ok (.iload_n 3, 1) := by decide +kernel
theorem de_M_goOver_62 : decode bc_M_goOver 62 = .ok (.iaload, 1) := by decide +kernel
theorem de_M_goOver_63 : decode bc_M_goOver 63 = .ok (.if_icmp .ge 6, 3) := by decide +kernel
theorem de_M_goOver_66 : decode bc_M_goOver 66 = .ok (.iload 4, 2) := by decide +kernel
theorem de_M_goOver_68 : decode bc_M_goOver 68 = .ok (.istore_n 3, 1) := by decide +kernel
theorem de_M_goOver_69 : decode bc_M_goOver 69 = .ok (.iinc 4 1, 3) := by decide +kernel
theorem de_M_goOver_72 : decode bc_M_goOver 72 = .ok (.goto (-57), 3) := by decide +kernel
theorem de_M_goOver_75 : decode bc_M_goOver 75 = .ok (.iload_n 3, 1) := by decide +kernel
theorem de_M_goOver_76 : decode bc_M_goOver 76 = .ok (.ifCond .ge 4, 3) := by decide +kernel
theorem de_M_goOver_79 : decode bc_M_goOver 79 = .ok (.return_, 1) := by decide +kernel
theorem de_M_goOver_80 : decode bc_M_goOver 80 = .ok (.aload_n 0, 1) := by decide +kernel
theorem de_M_goOver_81 : decode bc_M_goOver 81 = .ok (.getfield 35, 3) := by decide +kernel
theorem de_M_goOver_84 : decode bc_M_goOver 84 = .ok (.iload_n 3, 1) := by decide +kernel
theorem de_M_goOver_85 : decode bc_M_goOver 85 = .ok (.iaload, 1) := by decide +kernel
theorem de_M_goOver_86 : decode bc_M_goOver 86 = .ok (.istore_n 1, 1) := by decide +kernel
theorem de_M_goOver_87 : decode bc_M_goOver 87 = .ok (.aload_n 0, 1) := by decide +kernel
theorem de_M_goOver_88 : decode bc_M_goOver 88 = .ok (.aload_n 0, 1) := by decide +kernel
theorem de_M_goOver_89 : decode bc_M_goOver 89 = .ok (.iload_n 3, 1) := by decide +kernel
theorem de_M_goOver_90 : decode bc_M_goOver 90 = .ok (.invokevirtual 109, 3) := by decide +kernel
theorem de_M_goOver_93 : decode bc_M_goOver 93 = .ok (.invokevirtual 143, 3) := by decide +kernel
theorem de_M_goOver_96 : decode bc_M_goOver 96 = .ok (.ifCond .eq 22, 3) := by decide +kernel
theorem de_M_goOver_99 : decode bc_M_goOver 99 = .ok (.aload_n 0, 1) := by decide +kernel
theorem de_M_goOver_100 : decode bc_M_goOver 100 = .ok (.aload_n 0, 1) := by decide +kernel
theorem de_M_goOver_101 : decode bc_M_goOver 101 = .ok (.iload_n 3, 1) := by decide +kernel
theorem de_M_goOver_102 : decode bc_M_goOver 102 = .ok (.invokevirtual 109, 3) := by decide +kernel
theorem de_M_goOver_105 : decode bc_M_goOver 105 = .ok (.invokevirtual 146, 3) := by decide +kernel
theorem de_M_goOver_108 : decode bc_M_goOver 108 = .ok (.aload_n 0, 1) := by decide +kernel
theorem de_M_goOver_109 : decode bc_M_goOver 109 = .ok (.iload_n 3, 1) := by decide +kernel
theorem de_M_goOver_110 : decode bc_M_goOver 110 = .ok (.iconst 1, 1) := by decide +kernel
theorem de_M_goOver_111 : decode bc_M_goOver 111 = .ok (.aload_n 0, 1) := by decide +kernel
theorem de_M_goOver_112 : decode bc_M_goOver 112 = .ok (.getfield 118, 3) := by decide +kernel
theorem de_M_goOver_115 : decode bc_M_goOver 115 = .ok (.invokevirtual 122, 3) := by decide +kernel
theorem de_M_goOver_118 : decode bc_M_goOver 118 = .ok (.iinc 2 1, 3) := by decide +kernel
theorem de_M_goOver_121 : decode bc_M_goOver 121 = .ok (.goto (-117), 3) := by decide +kernel
theorem de_M_goOver_124 : decode bc_M_goOver 124 = .ok (.return_, 1) := by decide +kernel
theorem de_M_activate_0 : decode bc_M_activate 0 = .ok (.aload_n 0, 1) := by decide +kernel
theorem de_M_activate_1 : decode bc_M_activate 1 = .ok (.iload_n 1, 1) := by decide +kernel
theorem de_M_activate_2 : decode bc_M_activate 2 = .ok (.invokevirtual 87, 3) := by decide +kernel
theorem de_M_activate_5 : decode bc_M_activate 5 = .ok (.ifCond .ne 33, 3) := by decide +kernel
theorem de_M_activate_8 : decode bc_M_activate 8 = .ok (.aload_n 0, 1) := by decide +kernel
theorem de_M_activate_9 : decode bc_M_activate 9 = .ok (.getfield 25, 3) := by decide +kernel
theorem de_M_activate_12 : decode bc_M_activate 12 = .ok (.iload_n 1, 1) := by decide +kernel
theorem de_M_activate_13 : decode bc_M_activate 13 = .ok (.iaload, 1) := by decide +kernel
theorem de_M_activate_14 : decode bc_M_activate 14 = .ok (.ifCond .eq 13, 3) := by decide +kernel
theorem de_M_activate_17 : decode bc_M_activate 17 = .ok (.aload_n 0, 1) := by decide +kernel
theorem de_M_activate_18 : decode bc_M_activate 18 = .ok (.getfield 25, 3) := by decide +kernel
theorem de_M_activate_21 : decode bc_M_activate 21 = .ok (.iload_n 1, 1) := by decide +kernel
theorem de_M_activate_22 : decode bc_M_activate 22 = .ok (.iaload, 1) := by decide +kernel
theorem de_M_activate_23 : decode bc_M_activate 23 = .ok (.iconst 3, 1) := by decide +kernel
theorem de_M_activate_24 : decode bc_M_activate 24 = .ok (.if_icmp .ne 14, 3) := by decide +kernel
theorem de_M_activate_27 : decode bc_M_activate 27 = .ok (.aload_n 0, 1) := by decide +kernel
theorem de_M_activate_28 : decode bc_M_activate 28 = .ok (.iload_n 2, 1) := by decide +kernel
theorem de_M_activate_29 : decode bc_M_activate 29 = .ok (.iconst 0, 1) := by decide +kernel
theorem de_M_activate_30 : decode bc_M_activate 30 = .ok (.ldc 82, 2) := by decide +kernel
theorem de_M_activate_32 : decode bc_M_activate 32 = .ok (.invokevirtual 83, 3) := by decide +kernel
theorem de_M_activate_35 : decode bc_M_activate 35 = .ok (.ifCond .ne 5, 3) := by decide +kernel
theorem de_M_activate_38 : decode bc_M_activate 38 = .ok (.iconst 0, 1) := by decide +kernel
theorem de_M_activate_39 : decode bc_M_activate 39 = .ok (.ireturn, 1) := by decide +kernel
theorem de_M_activate_40 : decode bc_M_activate 40 = .ok (.aload_n 0, 1) := by decide +kernel
theorem de_M_activate_41 : decode bc_M_activate 41 = .ok (.iload_n 1, 1) := by decide +kernel
theorem de_M_activate_42 : decode bc_M_activate 42 = .ok (.iconst 1, 1) := by decide +kernel
theorem de_M_activate_43 : decode bc_M_activate 43 = .ok (.aload_n 0, 1) := by decide +kernel
theorem de_M_activate_44 : decode bc_M_activate 44 = .ok (.getfield 118, 3) := by decide +kernel
theorem de_M_activate_47 : decode bc_M_activate 47 = .ok (.iload_n 2, 1) := by decide +kernel
theorem de_M_activate_48 : decode bc_M_activate 48 = .ok (.i2l, 1) := by decide +kernel
theorem de_M_activate_49 : decode bc_M_activate 49 = .ok (.ladd, 1) := by decide +kernel
theorem de_M_activate_50 : decode bc_M_activate 50 = .ok (.invokevirtual 122, 3) := by decide +kernel
theorem de_M_activate_53 : decode bc_M_activate 53 = .ok (.iconst 1, 1) := by decide +kernel
theorem de_M_activate_54 : decode bc_M_activate 54 = .ok (.ireturn, 1) := by decide +kernel
theorem de_M_kill_0 : decode bc_M_kill 0 = .ok (.aload_n 0, 1) := by decide +kernel
theorem de_M_kill_1 : decode bc_M_kill 1 = .ok (.iload_n 1, 1) := by decide +kernel
theorem de_M_kill_2 : decode bc_M_kill 2 = .ok (.invokevirtual 87, 3) := by decide +kernel
theorem de_M_kill_5 : decode bc_M_kill 5 = .ok (.ifCond .ne 14, 3) := by decide +kernel
theorem de_M_kill_8 : decode bc_M_kill 8 = .ok (.aload_n 0, 1) := by decide +kernel
theorem de_M_kill_9 : decode bc_M_kill 9 = .ok (.getfield 25, 3) := by decide +kernel
theorem de_M_kill_12 : decode bc_M_kill 12 = .ok (.iload_n 1, 1) := by decide +kernel
theorem de_M_kill_13 : decode bc_M_kill 13 = .ok (.iaload, 1) := by decide +kernel
theorem de_M_kill_14 : decode bc_M_kill 14 = .ok (.bipush 6, 2) := by decide +kernel
theorem de_M_kill_16 : decode bc_M_kill 16 = .ok (.if_icmp .lt 5, 3) := by decide +kernel
theorem de_M_kill_19 : decode bc_M_kill 19 = .ok (.iconst 0, 1) := by decide +kernel
theorem de_M_kill_20 : decode bc_M_kill 20 = .ok (.ireturn, 1) := by decide +kernel
theorem de_M_kill_21 : decode bc_M_kill 21 = .ok (.aload_n 0, 1) := by decide +kernel
theorem de_M_kill_22 : decode bc_M_kill 22 = .ok (.getfield 25, 3) := by decide +kernel
theorem de_M_kill_25 : decode bc_M_kill 25 = .ok (.iload_n 1, 1) := by decide +kernel
theorem de_M_kill_26 : decode bc_M_kill 26 = .ok (.iaload, 1) := by decide +kernel
theorem de_M_kill_27 : decode bc_M_kill 27 = .ok (.iconst 4, 1) := by decide +kernel
theorem de_M_kill_28 : decode bc_M_kill 28 = .ok (.if_icmp .ne 16, 3) := by decide +kernel
theorem de_M_kill_31 : decode bc_M_kill 31 = .ok (.aload_n 0, 1) := by decide +kernel
theorem de_M_kill_32 : decode bc_M_kill 32 = .ok (.getfield 44, 3) := by decide +kernel
theorem de_M_kill_35 : decode bc_M_kill 35 = .ok (.aload_n 0, 1) := by decide +kernel
theorem de_M_kill_36 : decode bc_M_kill 36 = .ok (.iload_n 1, 1) := by decide +kernel
theorem de_M_kill_37 : decode bc_M_kill 37 = .ok (.invokevirtual 109, 3) := by decide +kernel
theorem de_M_kill_40 : decode bc_M_kill 40 = .ok (.iaload, 1) := by decide +kernel
theorem de_M_kill_41 : decode bc_M_kill 41 = .ok (.goto 4, 3) := by decide +kernel
theorem de_M_kill_44 : decode bc_M_kill 44 = .ok (.iconst (-1), 1) := by decide +kernel
theorem de_M_kill_45 : decode bc_M_kill 45 = .ok (.istore_n 2, 1) := by decide +kernel
theorem de_M_kill_46 : decode bc_M_kill 46 = .ok (.aload_n 0, 1) := by decide +kernel
theorem de_M_kill_47 : decode bc_M_kill 47 = .ok (.getfield 32, 3) := by decide +kernel
theorem de_M_kill_50 : decode bc_M_kill 50 = .ok (.iload_n 1, 1) := by decide +kernel
theorem de_M_kill_51 : decode bc_M_kill 51 = .ok (.iconst (-1), 1) := by decide +kernel
theorem de_M_kill_52 : decode bc_M_kill 52 = .ok (.iastore, 1) := by decide +kernel
theorem de_M_kill_53 : decode bc_M_kill 53 = .ok (.aload_n 0, 1) := by decide +kernel
theorem de_M_kill_54 : decode bc_M_kill 54 = .ok (.getfield 25, 3) := by decide +kernel
theorem de_M_kill_57 : decode bc_M_kill 57 = .ok (.iload_n 1, 1) := by decide +kernel
theorem de_M_kill_58 : decode bc_M_kill 58 = .ok (.bipush 7, 2) := by decide +kernel
theorem de_M_kill_60 : decode bc_M_kill 60 = .ok (.iastore, 1) := by decide +kernel
theorem de_M_kill_61 : decode bc_M_kill 61 = .ok (.aload_n 0, 1) := by decide +kernel
theorem de_M_kill_62 : decode bc_M_kill 62 = .ok (.getfield 22, 3) := by decide +kernel
theorem de_M_kill_65 : decode bc_M_kill 65 = .ok (.iload_n 1, 1) := by decide +kernel
theorem de_M_kill_66 : decode bc_M_kill 66 = .ok (.iaload, 1) := by decide +kernel
theorem de_M_kill_67 : decode bc_M_kill 67 = .ok (.istore_n 3, 1) := by decide +kernel
theorem de_M_kill_68 : decode bc_M_kill 68 = .ok (.iload_n 3, 1) := by decide +kernel
theorem de_M_kill_69 : decode bc_M_kill 69 = .ok (.aload_n 0, 1) := by decide +kernel
theorem de_M_kill_70 : decode bc_M_kill 70 = .ok (.getfield 19, 3) := by decide +kernel
theorem de_M_kill_73 : decode bc_M_kill 73 = .ok (.iload_n 1, 1) := by decide +kernel
theorem de_M_kill_74 : decode bc_M_kill 74 = .ok (.iaload, 1) := by decide +kernel
theorem de_M_kill_75 : decode bc_M_kill 75 = .ok (.if_icmp .ge 51, 3) := by decide +kernel
theorem de_M_kill_78 : decode bc_M_kill 78 = .ok (.aload_n 0, 1) := by decide +kernel
theorem de_M_kill_79 : decode bc_M_kill 79 = .ok (.getfield 41, 3) := by decide +kernel
theorem de_M_kill_82 : decode bc_M_kill 82 = .ok (.bipush 10, 2) := by decide +kernel
theorem de_M_kill_84 : decode bc_M_kill 84 = .ok (.iload_n 1, 1) := by decide +kernel
theorem de_M_kill_85 : decode bc_M_kill 85 = .ok (.imul, 1) := by decide +kernel
theorem de_M_kill_86 : decode bc_M_kill 86 = .ok (.iload_n 3, 1) := by decide +kernel
theorem de_M_kill_87 : decode bc_M_kill 87 = .ok (.iadd, 1) := by decide +kernel
theorem de_M_kill_88 : decode bc_M_kill 88 = .ok (.iaload, 1) := by decide +kernel
theorem de_M_kill_89 : decode bc_M_kill 89 = .ok (.iconst 3, 1) := by decide +kernel
theorem de_M_kill_90 : decode bc_M_kill 90 = .ok (.if_icmp .ne 30, 3) := by decide +kernel
theorem de_M_kill_93 : decode bc_M_kill 93 = .ok (.aload_n 0, 1) := by decide +kernel
theorem de_M_kill_94 : decode bc_M_kill 94 = .ok (.iload_n 1, 1) := by decide +kernel
theorem de_M_kill_95 : decode bc_M_kill 95 = .ok (.aload_n 0, 1) := by decide +kernel
theorem de_M_kill_96 : decode bc_M_kill 96 = .ok (.getfield 44, 3) := by decide +kernel
theorem de_M_kill_99 : decode bc_M_kill 99 = .ok (.bipush 10, 2) := by decide +kernel
theorem de_M_kill_101 : decode bc_M_kill 101 = .ok (.iload_n 1, 1) := by decide +kernel
theorem de_M_kill_102 : decode bc_M_kill 102 = .ok (.imul, 1) := by decide +kernel
theorem de_M_kill_103 : decode bc_M_kill 103 = .ok (.iload_n 3, 1) := by decide +kernel
theorem de_M_kill_104 : decode bc_M_kill 104 = .ok (.iadd, 1) := by decide +kernel
theorem de_M_kill_105 : decode bc_M_kill 105 = .ok (.iaload, 1) := by decide +kernel
theorem de_M_kill_106 : decode bc_M_kill 106 = .ok (.aload_n 0, 1) := by decide +kernel
theorem de_M_kill_107 : decode bc_M_kill 107 = .ok (.getfield 47, 3) := by decide +kernel
theorem de_M_kill_110 : decode bc_M_kill 110 = .ok (.bipush 10, 2) := by decide +kernel
theorem de_M_kill_112 : decode bc_M_kill 112 = .ok (.iload_n 1, 1) := by decide +kernel
theorem de_M_kill_113 : decode bc_M_kill 113 = .ok (.imul, 1) := by decide +kernel
theorem de_M_kill_114 : decode bc_M_kill 114 = .ok (.iload_n 3, 1) := by decide +kernel
theorem de_M_kill_115 : decode bc_M_kill 115 = .ok (.iadd, 1) := by decide +kernel
theorem de_M_kill_116 : decode bc_M_kill 116 = .ok (.iaload, 1) := by decide +kernel
theorem de_M_kill_117 : decode bc_M_kill 117 = .ok (.invokevirtual 152, 3) := by decide +kernel
theorem de_M_kill_120 : decode bc_M_kill 120 = .ok (.iinc 3 1, 3) := by decide +kernel
theorem de_M_kill_123 : decode bc_M_kill 123 = .ok (.goto (-55), 3) := by decide +kernel
theorem de_M_kill_126 : decode bc_M_kill 126 = .ok (.iload_n 2, 1) := by decide +kernel
theorem de_M_kill_127 : decode bc_M_kill 127 = .ok (.ifCond .lt 8, 3) := by decide +kernel
theorem de_M_kill_130 : decode bc_M_kill 130 = .ok (.aload_n 0, 1) := by decide +kernel
theorem de_M_kill_131 : decode bc_M_kill 131 = .ok (.iload_n 2, 1) := by decide +kernel
theorem de_M_kill_132 : decode bc_M_kill 132 = .ok (.invokevirtual 98, 3) := by decide +kernel
theorem de_M_kill_135 : decode bc_M_kill 135 = .ok (.iconst 1, 1) := by decide +kernel
theorem de_M_kill_136 : decode bc_M_kill 136 = .ok (.ireturn, 1) := by decide +kernel
theorem de_M_perform_0 : decode bc_M_perform 0 = .ok (.aload_n 0, 1) := by decide +kernel
theorem de_M_perform_1 : decode bc_M_perform 1 = .ok (.getfield 44, 3) := by decide +kernel
theorem de_M_perform_4 : decode bc_M_perform 4 = .ok (.iload_n 2, 1) := by decide +kernel
theorem de_M_perform_5 : decode bc_M_perform 5 = .ok (.iaload, 1) := by decide +kernel
theorem de_M_perform_6 : decode bc_M_perform 6 = .ok (.istore_n 3, 1) := by decide +kernel
theorem de_M_perform_7 : decode bc_M_perform 7 = .ok (.aload_n 0, 1) := by decide +kernel
theorem de_M_perform_8 : decode bc_M_perform 8 = .ok (.getfield 41, 3) := by decide +kernel
theorem de_M_perform_11 : decode bc_M_perform 11 = .ok (.iload_n 2, 1) := by decide +kernel
theorem de_M_perform_12 : decode bc_M_perform 12 = .ok (.iaload, 1) := by decide +kernel
theorem de_M_perform_13 : decode bc_M_perform 13 = .ok (.tableswitch 146 0 9 #[55, 70, 79, 92, 146, 146, 146, 106, 115, 123], 55) := by decide +kernel
theorem de_M_perform_68 : decode bc_M_perform 68 = .ok (.aload_n 0, 1) := by decide +kernel
theorem de_M_perform_69 : decode bc_M_perform 69 = .ok (.iload_n 1, 1) := by decide +kernel
theorem de_M_perform_70 : decode bc_M_perform 70 = .ok (.iconst 2, 1) := by decide +kernel
theorem de_M_perform_71 : decode bc_M_perform 71 = .ok (.aload_n 0, 1) := by decide +kernel
theorem de_M_perform_72 : decode bc_M_perform 72 = .ok (.getfield 118, 3) := by decide +kernel
theorem de_M_perform_75 : decode bc_M_perform 75 = .ok (.iload_n 3, 1) := by decide +kernel
theorem de_M_perform_76 : decode bc_M_perform 76 = .ok (.i2l, 1) := by decide +kernel
theorem de_M_perform_77 : decode bc_M_perform 77 = .ok (.ladd, 1) := by decide +kernel
theorem de_M_perform_78 : decode bc_M_perform 78 = .ok (.invokevirtual 122, 3) := by decide +kernel
theorem de_M_perform_81 : decode bc_M_perform 81 = .ok (.iconst 0, 1) := by decide +kernel
theorem de_M_perform_82 : decode bc_M_perform 82 = .ok (.ireturn, 1) := by decide +kernel
theorem de_M_perform_83 : decode bc_M_perform 83 = .ok (.aload_n 0, 1) := by decide +kernel
theorem de_M_perform_84 : decode bc_M_perform 84 = .ok (.getfield 25, 3) := by decide +kernel
theorem de_M_perform_87 : decode bc_M_perform 87 = .ok (.iload_n 1, 1) := by decide +kernel
end
section
theorem de_M_perform_88 : decode bc_M_perform 88 = .ok (.iconst 3, 1) := by decide +kernel
theorem de_M_perform_89 : decode bc_M_perform 89 = .ok (.iastore, 1) := by decide +kernel
theorem de_M_perform_90 : decode bc_M_perform 90 = .ok (.iconst 0, 1) := by decide +kernel
theorem de_M_perform_91 : decode bc_M_perform 91 = .ok (.ireturn, 1) := by decide +kernel
theorem de_M_perform_92 : decode bc_M_perform 92 = .ok (.aload_n 0, 1) := by decide +kernel
theorem de_M_perform_93 : decode bc_M_perform 93 = .ok (.iload_n 1, 1) := by decide +kernel
theorem de_M_perform_94 : decode bc_M_perform 94 = .ok (.iload_n 3, 1) := by decide +kernel
theorem de_M_perform_95 : decode bc_M_perform 95 = .ok (.aload_n 0, 1) := by decide +kernel
theorem de_M_perform_96 : decode bc_M_perform 96 = .ok (.getfield 47, 3) := by decide +kernel
theorem de_M_perform_99 : decode bc_M_perform 99 = .ok (.iload_n 2, 1) := by decide +kernel
theorem de_M_perform_100 : decode bc_M_perform 100 = .ok (.iaload, 1) := by decide +kernel
theorem de_M_perform_101 : decode bc_M_perform 101 = .ok (.invokevirtual 149, 3) := by decide +kernel
theorem de_M_perform_104 : decode bc_M_perform 104 = .ok (.ireturn, 1) := by decide +kernel
theorem de_M_perform_105 : decode bc_M_perform 105 = .ok (.aload_n 0, 1) := by decide +kernel
theorem de_M_perform_106 : decode bc_M_perform 106 = .ok (.iload_n 1, 1) := by decide +kernel
theorem de_M_perform_107 : decode bc_M_perform 107 = .ok (.iload_n 3, 1) := by decide +kernel
theorem de_M_perform_108 : decode bc_M_perform 108 = .ok (.aload_n 0, 1) := by decide +kernel
theorem de_M_perform_109 : decode bc_M_perform 109 = .ok (.getfield 47, 3) := by decide +kernel
theorem de_M_perform_112 : decode bc_M_perform 112 = .ok (.iload_n 2, 1) := by decide +kernel
theorem de_M_perform_113 : decode bc_M_perform 113 = .ok (.iaload, 1) := by decide +kernel
theorem de_M_perform_114 : decode bc_M_perform 114 = .ok (.invokevirtual 152, 3) := by decide +kernel
theorem de_M_perform_117 : decode bc_M_perform 117 = .ok (.iconst 1, 1) := by decide +kernel
theorem de_M_perform_118 : decode bc_M_perform 118 = .ok (.ireturn, 1) := by decide +kernel
theorem de_M_perform_119 : decode bc_M_perform 119 = .ok (.aload_n 0, 1) := by decide +kernel
theorem de_M_perform_120 : decode bc_M_perform 120 = .ok (.iload_n 3, 1) := by decide +kernel
theorem de_M_perform_121 : decode bc_M_perform 121 = .ok (.iconst 0, 1) := by decide +kernel
theorem de_M_perform_122 : decode bc_M_perform 122 = .ok (.invokevirtual 155, 3) := by decide +kernel
theorem de_M_perform_125 : decode bc_M_perform 125 = .ok (.pop, 1) := by decide +kernel
theorem de_M_perform_126 : decode bc_M_perform 126 = .ok (.iconst 1, 1) := by decide +kernel
theorem de_M_perform_127 : decode bc_M_perform 127 = .ok (.ireturn, 1) := by decide +kernel
theorem de_M_perform_128 : decode bc_M_perform 128 = .ok (.aload_n 0, 1) := by decide +kernel
theorem de_M_perform_129 : decode bc_M_perform 129 = .ok (.iload_n 3, 1) := by decide +kernel
theorem de_M_perform_130 : decode bc_M_perform 130 = .ok (.invokevirtual 140, 3) := by decide +kernel
theorem de_M_perform_133 : decode bc_M_perform 133 = .ok (.pop, 1) := by decide +kernel
theorem de_M_perform_134 : decode bc_M_perform 134 = .ok (.iconst 1, 1) := by decide +kernel
theorem de_M_perform_135 : decode bc_M_perform 135 = .ok (.ireturn, 1) := by decide +kernel
theorem de_M_perform_136 : decode bc_M_perform 136 = .ok (.aload_n 0, 1) := by decide +kernel
theorem de_M_perform_137 : decode bc_M_perform 137 = .ok (.iload_n 3, 1) := by decide +kernel
theorem de_M_perform_138 : decode bc_M_perform 138 = .ok (.invokevirtual 158, 3) := by decide +kernel
theorem de_M_perform_141 : decode bc_M_perform 141 = .ok (.pop, 1) := by decide +kernel
theorem de_M_perform_142 : decode bc_M_perform 142 = .ok (.aload_n 0, 1) := by decide +kernel
theorem de_M_perform_143 : decode bc_M_perform 143 = .ok (.getfield 25, 3) := by decide +kernel
theorem de_M_perform_146 : decode bc_M_perform 146 = .ok (.iload_n 1, 1) := by decide +kernel
theorem de_M_perform_147 : decode bc_M_perform 147 = .ok (.iaload, 1) := by decide +kernel
theorem de_M_perform_148 : decode bc_M_perform 148 = .ok (.bipush 7, 2) := by decide +kernel
theorem de_M_perform_150 : decode bc_M_perform 150 = .ok (.if_icmp .eq 7, 3) := by decide +kernel
theorem de_M_perform_153 : decode bc_M_perform 153 = .ok (.iconst 1, 1) := by decide +kernel
theorem de_M_perform_154 : decode bc_M_perform 154 = .ok (.goto 4, 3) := by decide +kernel
theorem de_M_perform_157 : decode bc_M_perform 157 = .ok (.iconst 0, 1) := by decide +kernel
theorem de_M_perform_158 : decode bc_M_perform 158 = .ok (.ireturn, 1) := by decide +kernel
theorem de_M_perform_159 : decode bc_M_perform 159 = .ok (.aload_n 0, 1) := by decide +kernel
theorem de_M_perform_160 : decode bc_M_perform 160 = .ok (.iload_n 2, 1) := by decide +kernel
theorem de_M_perform_161 : decode bc_M_perform 161 = .ok (.invokevirtual 143, 3) := by decide +kernel
theorem de_M_perform_164 : decode bc_M_perform 164 = .ok (.ifCond .eq 10, 3) := by decide +kernel
theorem de_M_perform_167 : decode bc_M_perform 167 = .ok (.aload_n 0, 1) := by decide +kernel
theorem de_M_perform_168 : decode bc_M_perform 168 = .ok (.iload_n 2, 1) := by decide +kernel
theorem de_M_perform_169 : decode bc_M_perform 169 = .ok (.invokevirtual 146, 3) := by decide +kernel
theorem de_M_perform_172 : decode bc_M_perform 172 = .ok (.iconst 1, 1) := by decide +kernel
theorem de_M_perform_173 : decode bc_M_perform 173 = .ok (.ireturn, 1) := by decide +kernel
theorem de_M_perform_174 : decode bc_M_perform 174 = .ok (.aload_n 0, 1) := by decide +kernel
theorem de_M_perform_175 : decode bc_M_perform 175 = .ok (.getfield 25, 3) := by decide +kernel
theorem de_M_perform_178 : decode bc_M_perform 178 = .ok (.iload_n 1, 1) := by decide +kernel
theorem de_M_perform_179 : decode bc_M_perform 179 = .ok (.iconst 5, 1) := by decide +kernel
theorem de_M_perform_180 : decode bc_M_perform 180 = .ok (.iastore, 1) := by decide +kernel
theorem de_M_perform_181 : decode bc_M_perform 181 = .ok (.aload_n 0, 1) := by decide +kernel
theorem de_M_perform_182 : decode bc_M_perform 182 = .ok (.getfield 35, 3) := by decide +kernel
theorem de_M_perform_185 : decode bc_M_perform 185 = .ok (.iload_n 1, 1) := by decide +kernel
theorem de_M_perform_186 : decode bc_M_perform 186 = .ok (.aload_n 0, 1) := by decide +kernel
theorem de_M_perform_187 : decode bc_M_perform 187 = .ok (.getfield 134, 3) := by decide +kernel
theorem de_M_perform_190 : decode bc_M_perform 190 = .ok (.iastore, 1) := by decide +kernel
theorem de_M_perform_191 : decode bc_M_perform 191 = .ok (.aload_n 0, 1) := by decide +kernel
theorem de_M_perform_192 : decode bc_M_perform 192 = .ok (.dup, 1) := by decide +kernel
theorem de_M_perform_193 : decode bc_M_perform 193 = .ok (.getfield 134, 3) := by decide +kernel
theorem de_M_perform_196 : decode bc_M_perform 196 = .ok (.iconst 1, 1) := by decide +kernel
theorem de_M_perform_197 : decode bc_M_perform 197 = .ok (.iadd, 1) := by decide +kernel
theorem de_M_perform_198 : decode bc_M_perform 198 = .ok (.putfield 134, 3) := by decide +kernel
theorem de_M_perform_201 : decode bc_M_perform 201 = .ok (.iconst 0, 1) := by decide +kernel
theorem de_M_perform_202 : decode bc_M_perform 202 = .ok (.ireturn, 1) := by decide +kernel
theorem de_M_turn_0 : decode bc_M_turn 0 = .ok (.iconst 0, 1) := by decide +kernel
theorem de_M_turn_1 : decode bc_M_turn 1 = .ok (.istore_n 2, 1) := by decide +kernel
theorem de_M_turn_2 : decode bc_M_turn 2 = .ok (.iload_n 2, 1) := by decide +kernel
theorem de_M_turn_3 : decode bc_M_turn 3 = .ok (.sipush 200, 3) := by decide +kernel
theorem de_M_turn_6 : decode bc_M_turn 6 = .ok (.if_icmp .ge 83, 3) := by decide +kernel
theorem de_M_turn_9 : decode bc_M_turn 9 = .ok (.aload_n 0, 1) := by decide +kernel
theorem de_M_turn_10 : decode bc_M_turn 10 = .ok (.getfield 22, 3) := by decide +kernel
theorem de_M_turn_13 : decode bc_M_turn 13 = .ok (.iload_n 1, 1) := by decide +kernel
theorem de_M_turn_14 : decode bc_M_turn 14 = .ok (.iaload, 1) := by decide +kernel
theorem de_M_turn_15 : decode bc_M_turn 15 = .ok (.aload_n 0, 1) := by decide +kernel
theorem de_M_turn_16 : decode bc_M_turn 16 = .ok (.getfield 19, 3) := by decide +kernel
theorem de_M_turn_19 : decode bc_M_turn 19 = .ok (.iload_n 1, 1) := by decide +kernel
theorem de_M_turn_20 : decode bc_M_turn 20 = .ok (.iaload, 1) := by decide +kernel
theorem de_M_turn_21 : decode bc_M_turn 21 = .ok (.if_icmp .ge 27, 3) := by decide +kernel
theorem de_M_turn_24 : decode bc_M_turn 24 = .ok (.aload_n 0, 1) := by decide +kernel
theorem de_M_turn_25 : decode bc_M_turn 25 = .ok (.getfield 22, 3) := by decide +kernel
theorem de_M_turn_28 : decode bc_M_turn 28 = .ok (.iload_n 1, 1) := by decide +kernel
theorem de_M_turn_29 : decode bc_M_turn 29 = .ok (.dup2, 1) := by decide +kernel
theorem de_M_turn_30 : decode bc_M_turn 30 = .ok (.iaload, 1) := by decide +kernel
theorem de_M_turn_31 : decode bc_M_turn 31 = .ok (.iconst 1, 1) := by decide +kernel
theorem de_M_turn_32 : decode bc_M_turn 32 = .ok (.iadd, 1) := by decide +kernel
theorem de_M_turn_33 : decode bc_M_turn 33 = .ok (.iastore, 1) := by decide +kernel
theorem de_M_turn_34 : decode bc_M_turn 34 = .ok (.aload_n 0, 1) := by decide +kernel
theorem de_M_turn_35 : decode bc_M_turn 35 = .ok (.iload_n 1, 1) := by decide +kernel
theorem de_M_turn_36 : decode bc_M_turn 36 = .ok (.aload_n 0, 1) := by decide +kernel
theorem de_M_turn_37 : decode bc_M_turn 37 = .ok (.iload_n 1, 1) := by decide +kernel
theorem de_M_turn_38 : decode bc_M_turn 38 = .ok (.invokevirtual 109, 3) := by decide +kernel
theorem de_M_turn_41 : decode bc_M_turn 41 = .ok (.invokevirtual 161, 3) := by decide +kernel
theorem de_M_turn_44 : decode bc_M_turn 44 = .ok (.ifCond .ne 39, 3) := by decide +kernel
theorem de_M_turn_47 : decode bc_M_turn 47 = .ok (.return_, 1) := by decide +kernel
theorem de_M_turn_48 : decode bc_M_turn 48 = .ok (.aload_n 0, 1) := by decide +kernel
theorem de_M_turn_49 : decode bc_M_turn 49 = .ok (.getfield 13, 3) := by decide +kernel
theorem de_M_turn_52 : decode bc_M_turn 52 = .ok (.iload_n 1, 1) := by decide +kernel
theorem de_M_turn_53 : decode bc_M_turn 53 = .ok (.dup2, 1) := by decide +kernel
theorem de_M_turn_54 : decode bc_M_turn 54 = .ok (.iaload, 1) := by decide +kernel
theorem de_M_turn_55 : decode bc_M_turn 55 = .ok (.iconst 1, 1) := by decide +kernel
theorem de_M_turn_56 : decode bc_M_turn 56 = .ok (.isub, 1) := by decide +kernel
theorem de_M_turn_57 : decode bc_M_turn 57 = .ok (.iastore, 1) := by decide +kernel
theorem de_M_turn_58 : decode bc_M_turn 58 = .ok (.aload_n 0, 1) := by decide +kernel
theorem de_M_turn_59 : decode bc_M_turn 59 = .ok (.getfield 13, 3) := by decide +kernel
theorem de_M_turn_62 : decode bc_M_turn 62 = .ok (.iload_n 1, 1) := by decide +kernel
theorem de_M_turn_63 : decode bc_M_turn 63 = .ok (.iaload, 1) := by decide +kernel
theorem de_M_turn_64 : decode bc_M_turn 64 = .ok (.ifCond .ne 12, 3) := by decide +kernel
theorem de_M_turn_67 : decode bc_M_turn 67 = .ok (.aload_n 0, 1) := by decide +kernel
theorem de_M_turn_68 : decode bc_M_turn 68 = .ok (.getfield 25, 3) := by decide +kernel
theorem de_M_turn_71 : decode bc_M_turn 71 = .ok (.iload_n 1, 1) := by decide +kernel
theorem de_M_turn_72 : decode bc_M_turn 72 = .ok (.bipush 6, 2) := by decide +kernel
theorem de_M_turn_74 : decode bc_M_turn 74 = .ok (.iastore, 1) := by decide +kernel
theorem de_M_turn_75 : decode bc_M_turn 75 = .ok (.return_, 1) := by decide +kernel
theorem de_M_turn_76 : decode bc_M_turn 76 = .ok (.aload_n 0, 1) := by decide +kernel
theorem de_M_turn_77 : decode bc_M_turn 77 = .ok (.getfield 22, 3) := by decide +kernel
theorem de_M_turn_80 : decode bc_M_turn 80 = .ok (.iload_n 1, 1) := by decide +kernel
theorem de_M_turn_81 : decode bc_M_turn 81 = .ok (.iconst 0, 1) := by decide +kernel
theorem de_M_turn_82 : decode bc_M_turn 82 = .ok (.iastore, 1) := by decide +kernel
theorem de_M_turn_83 : decode bc_M_turn 83 = .ok (.iinc 2 1, 3) := by decide +kernel
theorem de_M_turn_86 : decode bc_M_turn 86 = .ok (.goto (-84), 3) := by decide +kernel
theorem de_M_turn_89 : decode bc_M_turn 89 = .ok (.return_, 1) := by decide +kernel
theorem de_M_advance_0 : decode bc_M_advance 0 = .ok (.iconst 0, 1) := by decide +kernel
theorem de_M_advance_1 : decode bc_M_advance 1 = .ok (.istore_n 3, 1) := by decide +kernel
theorem de_M_advance_2 : decode bc_M_advance 2 = .ok (.iload_n 3, 1) := by decide +kernel
theorem de_M_advance_3 : decode bc_M_advance 3 = .ok (.iconst 4, 1) := by decide +kernel
theorem de_M_advance_4 : decode bc_M_advance 4 = .ok (.if_icmp .ge 31, 3) := by decide +kernel
theorem de_M_advance_7 : decode bc_M_advance 7 = .ok (.aload_n 0, 1) := by decide +kernel
theorem de_M_advance_8 : decode bc_M_advance 8 = .ok (.getfield 60, 3) := by decide +kernel
theorem de_M_advance_11 : decode bc_M_advance 11 = .ok (.iload_n 3, 1) := by decide +kernel
theorem de_M_advance_12 : decode bc_M_advance 12 = .ok (.dup2, 1) := by decide +kernel
theorem de_M_advance_13 : decode bc_M_advance 13 = .ok (.laload, 1) := by decide +kernel
theorem de_M_advance_14 : decode bc_M_advance 14 = .ok (.aload_n 0, 1) := by decide +kernel
theorem de_M_advance_15 : decode bc_M_advance 15 = .ok (.iload_n 3, 1) := by decide +kernel
theorem de_M_advance_16 : decode bc_M_advance 16 = .ok (.invokevirtual 94, 3) := by decide +kernel
theorem de_M_advance_19 : decode bc_M_advance 19 = .ok (.i2l, 1) := by decide +kernel
theorem de_M_advance_20 : decode bc_M_advance 20 = .ok (.lload_n 1, 1) := by decide +kernel
theorem de_M_advance_21 : decode bc_M_advance 21 = .ok (.aload_n 0, 1) := by decide +kernel
theorem de_M_advance_22 : decode bc_M_advance 22 = .ok (.getfield 118, 3) := by decide +kernel
theorem de_M_advance_25 : decode bc_M_advance 25 = .ok (.lsub, 1) := by decide +kernel
theorem de_M_advance_26 : decode bc_M_advance 26 = .ok (.lmul, 1) := by decide +kernel
theorem de_M_advance_27 : decode bc_M_advance 27 = .ok (.ladd, 1) := by decide +kernel
theorem de_M_advance_28 : decode bc_M_advance 28 = .ok (.lastore, 1) := by decide +kernel
theorem de_M_advance_29 : decode bc_M_advance 29 = .ok (.iinc 3 1, 3) := by decide +kernel
theorem de_M_advance_32 : decode bc_M_advance 32 = .ok (.goto (-30), 3) := by decide +kernel
theorem de_M_advance_35 : decode bc_M_advance 35 = .ok (.aload_n 0, 1) := by decide +kernel
theorem de_M_advance_36 : decode bc_M_advance 36 = .ok (.lload_n 1, 1) := by decide +kernel
theorem de_M_advance_37 : decode bc_M_advance 37 = .ok (.putfield 118, 3) := by decide +kernel
theorem de_M_advance_40 : decode bc_M_advance 40 = .ok (.return_, 1) := by decide +kernel
theorem de_M_event_0 : decode bc_M_event 0 = .ok (.aload_n 0, 1) := by decide +kernel
theorem de_M_event_1 : decode bc_M_event 1 = .ok (.aload_n 0, 1) := by decide +kernel
theorem de_M_event_2 : decode bc_M_event 2 = .ok (.getfield 28, 3) := by decide +kernel
theorem de_M_event_5 : decode bc_M_event 5 = .ok (.iload_n 1, 1) := by decide +kernel
theorem de_M_event_6 : decode bc_M_event 6 = .ok (.laload, 1) := by decide +kernel
theorem de_M_event_7 : decode bc_M_event 7 = .ok (.invokevirtual 164, 3) := by decide +kernel
theorem de_M_event_10 : decode bc_M_event 10 = .ok (.bipush 63, 2) := by decide +kernel
theorem de_M_event_12 : decode bc_M_event 12 = .ok (.istore_n 2, 1) := by decide +kernel
theorem de_M_event_13 : decode bc_M_event 13 = .ok (.iload_n 2, 1) := by decide +kernel
theorem de_M_event_14 : decode bc_M_event 14 = .ok (.ifCond .le 23, 3) := by decide +kernel
theorem de_M_event_17 : decode bc_M_event 17 = .ok (.aload_n 0, 1) := by decide +kernel
theorem de_M_event_18 : decode bc_M_event 18 = .ok (.getfield 75, 3) := by decide +kernel
theorem de_M_event_21 : decode bc_M_event 21 = .ok (.iload_n 2, 1) := by decide +kernel
theorem de_M_event_22 : decode bc_M_event 22 = .ok (.aload_n 0, 1) := by decide +kernel
theorem de_M_event_23 : decode bc_M_event 23 = .ok (.getfield 75, 3) := by decide +kernel
theorem de_M_event_26 : decode bc_M_event 26 = .ok (.iload_n 2, 1) := by decide +kernel
theorem de_M_event_27 : decode bc_M_event 27 = .ok (.iconst 1, 1) := by decide +kernel
theorem de_M_event_28 : decode bc_M_event 28 = .ok (.isub, 1) := by decide +kernel
theorem de_M_event_29 : decode bc_M_event 29 = .ok (.iaload, 1) := by decide +kernel
theorem de_M_event_30 : decode bc_M_event 30 = .ok (.iastore, 1) := by decide +kernel
theorem de_M_event_31 : decode bc_M_event 31 = .ok (.iinc 2 (-1), 3) := by decide +kernel
theorem de_M_event_34 : decode bc_M_event 34 = .ok (.goto (-21), 3) := by decide +kernel
theorem de_M_event_37 : decode bc_M_event 37 = .ok (.aload_n 0, 1) := by decide +kernel
theorem de_M_event_38 : decode bc_M_event 38 = .ok (.getfield 75, 3) := by decide +kernel
theorem de_M_event_41 : decode bc_M_event 41 = .ok (.iconst 0, 1) := by decide +kernel
theorem de_M_event_42 : decode bc_M_event 42 = .ok (.iload_n 1, 1) := by decide +kernel
theorem de_M_event_43 : decode bc_M_event 43 = .ok (.bipush 16, 2) := by decide +kernel
theorem de_M_event_45 : decode bc_M_event 45 = .ok (.aload_n 0, 1) := by decide +kernel
theorem de_M_event_46 : decode bc_M_event 46 = .ok (.getfield 22, 3) := by decide +kernel
theorem de_M_event_49 : decode bc_M_event 49 = .ok (.iload_n 1, 1) := by decide +kernel
theorem de_M_event_50 : decode bc_M_event 50 = .ok (.iaload, 1) := by decide +kernel
theorem de_M_event_51 : decode bc_M_event 51 = .ok (.imul, 1) := by decide +kernel
theorem de_M_event_52 : decode bc_M_event 52 = .ok (.iadd, 1) := by decide +kernel
theorem de_M_event_53 : decode bc_M_event 53 = .ok (.iastore, 1) := by decide +kernel
theorem de_M_event_54 : decode bc_M_event 54 = .ok (.aload_n 0, 1) := by decide +kernel
theorem de_M_event_55 : decode bc_M_event 55 = .ok (.dup, 1) := by decide +kernel
theorem de_M_event_56 : decode bc_M_event 56 = .ok (.getfield 168, 3) := by decide +kernel
theorem de_M_event_59 : decode bc_M_event 59 = .ok (.iconst 1, 1) := by decide +kernel
theorem de_M_event_60 : decode bc_M_event 60 = .ok (.iadd, 1) := by decide +kernel
theorem de_M_event_61 : decode bc_M_event 61 = .ok (.putfield 168, 3) := by decide +kernel
theorem de_M_event_64 : decode bc_M_event 64 = .ok (.aload_n 0, 1) := by decide +kernel
theorem de_M_event_65 : decode bc_M_event 65 = .ok (.getfield 32, 3) := by decide +kernel
theorem de_M_event_68 : decode bc_M_event 68 = .ok (.iload_n 1, 1) := by decide +kernel
theorem de_M_event_69 : decode bc_M_event 69 = .ok (.iconst (-1), 1) := by decide +kernel
theorem de_M_event_70 : decode bc_M_event 70 = .ok (.iastore, 1) := by decide +kernel
theorem de_M_event_71 : decode bc_M_event 71 = .ok (.aload_n 0, 1) := by decide +kernel
theorem de_M_event_72 : decode bc_M_event 72 = .ok (.getfield 25, 3) := by decide +kernel
theorem de_M_event_75 : decode bc_M_event 75 = .ok (.iload_n 1, 1) := by decide +kernel
theorem de_M_event_76 : decode bc_M_event 76 = .ok (.iconst 1, 1) := by decide +kernel
theorem de_M_event_77 : decode bc_M_event 77 = .ok (.iastore, 1) := by decide +kernel
theorem de_M_event_78 : decode bc_M_event 78 = .ok (.aload_n 0, 1) := by decide +kernel
theorem de_M_event_79 : decode bc_M_event 79 = .ok (.iload_n 1, 1) := by decide +kernel
theorem de_M_event_80 : decode bc_M_event 80 = .ok (.invokevirtual 171, 3) := by decide +kernel
theorem de_M_event_83 : decode bc_M_event 83 = .ok (.aload_n 0, 1) := by decide +kernel
theorem de_M_event_84 : decode bc_M_event 84 = .ok (.invokevirtual 174, 3) := by decide +kernel
theorem de_M_event_87 : decode bc_M_event 87 = .ok (.return_, 1) := by decide +kernel
theorem de_M_run_0 : decode bc_M_run 0 = .ok (.iload_n 1, 1) := by decide +kernel
theorem de_M_run_1 : decode bc_M_run 1 = .ok (.ifCond .lt 26, 3) := by decide +kernel
theorem de_M_run_4 : decode bc_M_run 4 = .ok (.iload_n 1, 1) := by decide +kernel
theorem de_M_run_5 : decode bc_M_run 5 = .ok (.bipush 100, 2) := by decide +kernel
theorem de_M_run_7 : decode bc_M_run 7 = .ok (.if_icmp .gt 20, 3) := by decide +kernel
theorem de_M_run_10 : decode bc_M_run 10 = .ok (.lload_n 2, 1) := by decide +kernel
theorem de_M_run_11 : decode bc_M_run 11 = .ok (.aload_n 0, 1) := by decide +kernel
theorem de_M_run_12 : decode bc_M_run 12 = .ok (.getfield 118, 3) := by decide +kernel
theorem de_M_run_15 : decode bc_M_run 15 = .ok (.lcmp, 1) := by decide +kernel
theorem de_M_run_16 : decode bc_M_run 16 = .ok (.ifCond .lt 11, 3) := by decide +kernel
theorem de_M_run_19 : decode bc_M_run 19 = .ok (.lload_n 2, 1) := by decide +kernel
theorem de_M_run_20 : decode bc_M_run 20 = .ok (.ldc2_w 177, 3) := by decide +kernel
theorem de_M_run_23 : decode bc_M_run 23 = .ok (.lcmp, 1) := by decide +kernel
theorem de_M_run_24 : decode bc_M_run 24 = .ok (.ifCond .le 5, 3) := by decide +kernel
theorem de_M_run_27 : decode bc_M_run 27 = .ok (.iconst (-1), 1) := by decide +kernel
theorem de_M_run_28 : decode bc_M_run 28 = .ok (.ireturn, 1) := by decide +kernel
theorem de_M_run_29 : decode bc_M_run 29 = .ok (.iconst 0, 1) := by decide +kernel
theorem de_M_run_30 : decode bc_M_run 30 = .ok (.istore 4, 2) := by decide +kernel
theorem de_M_run_32 : decode bc_M_run 32 = .ok (.aload_n 0, 1) := by decide +kernel
theorem de_M_run_33 : decode bc_M_run 33 = .ok (.invokevirtual 179, 3) := by decide +kernel
theorem de_M_run_36 : decode bc_M_run 36 = .ok (.istore 5, 2) := by decide +kernel
theorem de_M_run_38 : decode bc_M_run 38 = .ok (.iload 4, 2) := by decide +kernel
theorem de_M_run_40 : decode bc_M_run 40 = .ok (.iload_n 1, 1) := by decide +kernel
theorem de_M_run_41 : decode bc_M_run 41 = .ok (.if_icmp .ge 38, 3) := by decide +kernel
theorem de_M_run_44 : decode bc_M_run 44 = .ok (.iload 5, 2) := by decide +kernel
theorem de_M_run_46 : decode bc_M_run 46 = .ok (.ifCond .lt 33, 3) := by decide +kernel
theorem de_M_run_49 : decode bc_M_run 49 = .ok (.aload_n 0, 1) := by decide +kernel
theorem de_M_run_50 : decode bc_M_run 50 = .ok (.getfield 28, 3) := by decide +kernel
theorem de_M_run_53 : decode bc_M_run 53 = .ok (.iload 5, 2) := by decide +kernel
theorem de_M_run_55 : decode bc_M_run 55 = .ok (.laload, 1) := by decide +kernel
theorem de_M_run_56 : decode bc_M_run 56 = .ok (.lload_n 2, 1) := by decide +kernel
theorem de_M_run_57 : decode bc_M_run 57 = .ok (.lcmp, 1) := by decide +kernel
theorem de_M_run_58 : decode bc_M_run 58 = .ok (.ifCond .gt 21, 3) := by decide +kernel
theorem de_M_run_61 : decode bc_M_run 61 = .ok (.aload_n 0, 1) := by decide +kernel
theorem de_M_run_62 : decode bc_M_run 62 = .ok (.iload 5, 2) := by decide +kernel
theorem de_M_run_64 : decode bc_M_run 64 = .ok (.invokevirtual 183, 3) := by decide +kernel
theorem de_M_run_67 : decode bc_M_run 67 = .ok (.iinc 4 1, 3) := by decide +kernel
theorem de_M_run_70 : decode bc_M_run 70 = .ok (.aload_n 0, 1) := by decide +kernel
theorem de_M_run_71 : decode bc_M_run 71 = .ok (.invokevirtual 179, 3) := by decide +kernel
theorem de_M_run_74 : decode bc_M_run 74 = .ok (.istore 5, 2) := by decide +kernel
theorem de_M_run_76 : decode bc_M_run 76 = .ok (.goto (-38), 3) := by decide +kernel
theorem de_M_run_79 : decode bc_M_run 79 = .ok (.iload 4, 2) := by decide +kernel
theorem de_M_run_81 : decode bc_M_run 81 = .ok (.iload_n 1, 1) := by decide +kernel
theorem de_M_run_82 : decode bc_M_run 82 = .ok (.if_icmp .ge 8, 3) := by decide +kernel
theorem de_M_run_85 : decode bc_M_run 85 = .ok (.aload_n 0, 1) := by decide +kernel
theorem de_M_run_86 : decode bc_M_run 86 = .ok (.lload_n 2, 1) := by decide +kernel
theorem de_M_run_87 : decode bc_M_run 87 = .ok (.invokevirtual 164, 3) := by decide +kernel
theorem de_M_run_90 : decode bc_M_run 90 = .ok (.iload 4, 2) := by decide +kernel
theorem de_M_run_92 : decode bc_M_run 92 = .ok (.ireturn, 1) := by decide +kernel
theorem de_M_now_0 : decode bc_M_now 0 = .ok (.aload_n 0, 1) := by decide +kernel
theorem de_M_now_1 : decode bc_M_now 1 = .ok (.getfield 118, 3) := by decide +kernel
theorem de_M_now_4 : decode bc_M_now 4 = .ok (.lreturn, 1) := by decide +kernel
theorem de_M_next_0 : decode bc_M_next 0 = .ok (.aload_n 0, 1) := by decide +kernel
theorem de_M_next_1 : decode bc_M_next 1 = .ok (.invokevirtual 179, 3) := by decide +kernel
theorem de_M_next_4 : decode bc_M_next 4 = .ok (.istore_n 1, 1) := by decide +kernel
theorem de_M_next_5 : decode bc_M_next 5 = .ok (.iload_n 1, 1) := by decide +kernel
theorem de_M_next_6 : decode bc_M_next 6 = .ok (.ifCond .ge 9, 3) := by decide +kernel
theorem de_M_next_9 : decode bc_M_next 9 = .ok (.ldc2_w 186, 3) := by decide +kernel
theorem de_M_next_12 : decode bc_M_next 12 = .ok (.goto 9, 3) := by decide +kernel
theorem de_M_next_15 : decode bc_M_next 15 = .ok (.aload_n 0, 1) := by decide +kernel
theorem de_M_next_16 : decode bc_M_next 16 = .ok (.getfield 28, 3) := by decide +kernel
theorem de_M_next_19 : decode bc_M_next 19 = .ok (.iload_n 1, 1) := by decide +kernel
theorem de_M_next_20 : decode bc_M_next 20 = .ok (.laload, 1) := by decide +kernel
theorem de_M_next_21 : decode bc_M_next 21 = .ok (.lreturn, 1) := by decide +kernel
theorem de_M_state_0 : decode bc_M_state 0 = .ok (.aload_n 0, 1) := by decide +kernel
theorem de_M_state_1 : decode bc_M_state 1 = .ok (.iload_n 1, 1) := by decide +kernel
theorem de_M_state_2 : decode bc_M_state 2 = .ok (.invokevirtual 87, 3) := by decide +kernel
theorem de_M_state_5 : decode bc_M_state 5 = .ok (.ifCond .eq 7, 3) := by decide +kernel
theorem de_M_state_8 : decode bc_M_state 8 = .ok (.iconst (-1), 1) := by decide +kernel
theorem de_M_state_9 : decode bc_M_state 9 = .ok (.goto 9, 3) := by decide +kernel
theorem de_M_state_12 : decode bc_M_state 12 = .ok (.aload_n 0, 1) := by decide +kernel
theorem de_M_state_13 : decode bc_M_state 13 = .ok (.getfield 25, 3) := by decide +kernel
theorem de_M_state_16 : decode bc_M_state 16 = .ok (.iload_n 1, 1) := by decide +kernel
theorem de_M_state_17 : decode bc_M_state 17 = .ok (.iaload, 1) := by decide +kernel
theorem de_M_state_18 : decode bc_M_state 18 = .ok (.ireturn, 1) := by decide +kernel
theorem de_M_place_0 : decode bc_M_place 0 = .ok (.aload_n 0, 1) := by decide +kernel
theorem de_M_place_1 : decode bc_M_place 1 = .ok (.iload_n 1, 1) := by decide +kernel
theorem de_M_place_2 : decode bc_M_place 2 = .ok (.invokevirtual 87, 3) := by decide +kernel
theorem de_M_place_5 : decode bc_M_place 5 = .ok (.ifCond .eq 7, 3) := by decide +kernel
theorem de_M_place_8 : decode bc_M_place 8 = .ok (.iconst (-1), 1) := by decide +kernel
theorem de_M_place_9 : decode bc_M_place 9 = .ok (.goto 9, 3) := by decide +kernel
theorem de_M_place_12 : decode bc_M_place 12 = .ok (.aload_n 0, 1) := by decide +kernel
theorem de_M_place_13 : decode bc_M_place 13 = .ok (.getfield 22, 3) := by decide +kernel
theorem de_M_place_16 : decode bc_M_place 16 = .ok (.iload_n 1, 1) := by decide +kernel
theorem de_M_place_17 : decode bc_M_place 17 = .ok (.iaload, 1) := by decide +kernel
theorem de_M_place_18 : decode bc_M_place 18 = .ok (.ireturn, 1) := by decide +kernel
theorem de_M_held_0 : decode bc_M_held 0 = .ok (.aload_n 0, 1) := by decide +kernel
theorem de_M_held_1 : decode bc_M_held 1 = .ok (.iload_n 1, 1) := by decide +kernel
theorem de_M_held_2 : decode bc_M_held 2 = .ok (.invokevirtual 87, 3) := by decide +kernel
theorem de_M_held_5 : decode bc_M_held 5 = .ok (.ifCond .ne 13, 3) := by decide +kernel
theorem de_M_held_8 : decode bc_M_held 8 = .ok (.aload_n 0, 1) := by decide +kernel
theorem de_M_held_9 : decode bc_M_held 9 = .ok (.iload_n 2, 1) := by decide +kernel
theorem de_M_held_10 : decode bc_M_held 10 = .ok (.iconst 0, 1) := by decide +kernel
theorem de_M_held_11 : decode bc_M_held 11 = .ok (.iconst 3, 1) := by decide +kernel
theorem de_M_held_12 : decode bc_M_held 12 = .ok (.invokevirtual 83, 3) := by decide +kernel
theorem de_M_held_15 : decode bc_M_held 15 = .ok (.ifCond .ne 7, 3) := by decide +kernel
theorem de_M_held_18 : decode bc_M_held 18 = .ok (.iconst (-1), 1) := by decide +kernel
theorem de_M_held_19 : decode bc_M_held 19 = .ok (.goto 13, 3) := by decide +kernel
theorem de_M_held_22 : decode bc_M_held 22 = .ok (.aload_n 0, 1) := by decide +kernel
theorem de_M_held_23 : decode bc_M_held 23 = .ok (.getfield 50, 3) := by decide +kernel
theorem de_M_held_26 : decode bc_M_held 26 = .ok (.iconst 4, 1) := by decide +kernel
theorem de_M_held_27 : decode bc_M_held 27 = .ok (.iload_n 1, 1) := by decide +kernel
theorem de_M_held_28 : decode bc_M_held 28 = .ok (.imul, 1) := by decide +kernel
theorem de_M_held_29 : decode bc_M_held 29 = .ok (.iload_n 2, 1) := by decide +kernel
theorem de_M_held_30 : decode bc_M_held 30 = .ok (.iadd, 1) := by decide +kernel
theorem de_M_held_31 : decode bc_M_held 31 = .ok (.iaload, 1) := by decide +kernel
theorem de_M_held_32 : decode bc_M_held 32 = .ok (.ireturn, 1) := by decide +kernel
theorem de_M_free_0 : decode bc_M_free 0 = .ok (.aload_n 0, 1) := by decide +kernel
theorem de_M_free_1 : decode bc_M_free 1 = .ok (.iload_n 1, 1) := by decide +kernel
theorem de_M_free_2 : decode bc_M_free 2 = .ok (.iconst 0, 1) := by decide +kernel
theorem de_M_free_3 : decode bc_M_free 3 = .ok (.iconst 3, 1) := by decide +kernel
theorem de_M_free_4 : decode bc_M_free 4 = .ok (.invokevirtual 83, 3) := by decide +kernel
theorem de_M_free_7 : decode bc_M_free 7 = .ok (.ifCond .eq 11, 3) := by decide +kernel
theorem de_M_free_10 : decode bc_M_free 10 = .ok (.aload_n 0, 1) := by decide +kernel
theorem de_M_free_11 : decode bc_M_free 11 = .ok (.iload_n 1, 1) := by decide +kernel
theorem de_M_free_12 : decode bc_M_free 12 = .ok (.invokevirtual 115, 3) := by decide +kernel
theorem de_M_free_15 : decode bc_M_free 15 = .ok (.goto 4, 3) := by decide +kernel
theorem de_M_free_18 : decode bc_M_free 18 = .ok (.iconst (-1), 1) := by decide +kernel
theorem de_M_free_19 : decode bc_M_free 19 = .ok (.ireturn, 1) := by decide +kernel
theorem de_M_waiting_0 : decode bc_M_waiting 0 = .ok (.aload_n 0, 1) := by decide +kernel
theorem de_M_waiting_1 : decode bc_M_waiting 1 = .ok (.iload_n 1, 1) := by decide +kernel
theorem de_M_waiting_2 : decode bc_M_waiting 2 = .ok (.iconst 0, 1) := by decide +kernel
theorem de_M_waiting_3 : decode bc_M_waiting 3 = .ok (.iconst 4, 1) := by decide +kernel
theorem de_M_waiting_4 : decode bc_M_waiting 4 = .ok (.invokevirtual 83, 3) := by decide +kernel
theorem de_M_waiting_7 : decode bc_M_waiting 7 = .ok (.ifCond .ne 5, 3) := by decide +kernel
theorem de_M_waiting_10 : decode bc_M_waiting 10 = .ok (.iconst (-1), 1) := by decide +kernel
theorem de_M_waiting_11 : decode bc_M_waiting 11 = .ok (.ireturn, 1) := by decide +kernel
theorem de_M_waiting_12 : decode bc_M_waiting 12 = .ok (.iconst 0, 1) := by decide +kernel
theorem de_M_waiting_13 : decode bc_M_waiting 13 = .ok (.istore_n 2, 1) := by decide +kernel
theorem de_M_waiting_14 : decode bc_M_waiting 14 = .ok (.iconst 0, 1) := by decide +kernel
theorem de_M_waiting_15 : decode bc_M_waiting 15 = .ok (.istore_n 3, 1) := by decide +kernel
theorem de_M_waiting_16 : decode bc_M_waiting 16 = .ok (.iload_n 3, 1) := by decide +kernel
theorem de_M_waiting_17 : decode bc_M_waiting 17 = .ok (.aload_n 0, 1) := by decide +kernel
theorem de_M_waiting_18 : decode bc_M_waiting 18 = .ok (.getfield 78, 3) := by decide +kernel
theorem de_M_waiting_21 : decode bc_M_waiting 21 = .ok (.if_icmp .ge 76, 3) := by decide +kernel
theorem de_M_waiting_24 : decode bc_M_waiting 24 = .ok (.iload_n 1, 1) := by decide +kernel
theorem de_M_waiting_25 : decode bc_M_waiting 25 = .ok (.iconst 4, 1) := by decide +kernel
theorem de_M_waiting_26 : decode bc_M_waiting 26 = .ok (.if_icmp .ne 21, 3) := by decide +kernel
theorem de_M_waiting_29 : decode bc_M_waiting 29 = .ok (.aload_n 0, 1) := by decide +kernel
theorem de_M_waiting_30 : decode bc_M_waiting 30 = .ok (.getfield 25, 3) := by decide +kernel
theorem de_M_waiting_33 : decode bc_M_waiting 33 = .ok (.iload_n 3, 1) := by decide +kernel
theorem de_M_waiting_34 : decode bc_M_waiting 34 = .ok (.iaload, 1) := by decide +kernel
theorem de_M_waiting_35 : decode bc_M_waiting 35 = .ok (.iconst 5, 1) := by decide +kernel
theorem de_M_waiting_36 : decode bc_M_waiting 36 = .ok (.if_icmp .ne 7, 3) := by decide +kernel
theorem de_M_waiting_39 : decode bc_M_waiting 39 = .ok (.iconst 1, 1) := by decide +kernel
theorem de_M_waiting_40 : decode bc_M_waiting 40 = .ok (.goto 36, 3) := by decide +kernel
theorem de_M_waiting_43 : decode bc_M_waiting 43 = .ok (.iconst 0, 1) := by decide +kernel
theorem de_M_waiting_44 : decode bc_M_waiting 44 = .ok (.goto 32, 3) := by decide +kernel
theorem de_M_waiting_47 : decode bc_M_waiting 47 = .ok (.aload_n 0, 1) := by decide +kernel
theorem de_M_waiting_48 : decode bc_M_waiting 48 = .ok (.getfield 25, 3) := by decide +kernel
theorem de_M_waiting_51 : decode bc_M_waiting 51 = .ok (.iload_n 3, 1) := by decide +kernel
theorem de_M_waiting_52 : decode bc_M_waiting 52 = .ok (.iaload, 1) := by decide +kernel
theorem de_M_waiting_53 : decode bc_M_waiting 53 = .ok (.iconst 4, 1) := by decide +kernel
theorem de_M_waiting_54 : decode bc_M_waiting 54 = .ok (.if_icmp .ne 21, 3) := by decide +kernel
theorem de_M_waiting_57 : decode bc_M_waiting 57 = .ok (.aload_n 0, 1) := by decide +kernel
theorem de_M_waiting_58 : decode bc_M_waiting 58 = .ok (.getfield 44, 3) := by decide +kernel
theorem de_M_waiting_61 : decode bc_M_waiting 61 = .ok (.aload_n 0, 1) := by decide +kernel
theorem de_M_waiting_62 : decode bc_M_waiting 62 = .ok (.iload_n 3, 1) := by decide +kernel
theorem de_M_waiting_63 : decode bc_M_waiting 63 = .ok (.invokevirtual 109, 3) := by decide +kernel
theorem de_M_waiting_66 : decode bc_M_waiting 66 = .ok (.iaload, 1) := by decide +kernel
theorem de_M_waiting_67 : decode bc_M_waiting 67 = .ok (.iload_n 1, 1) := by decide +kernel
theorem de_M_waiting_68 : decode bc_M_waiting 68 = .ok (.if_icmp .ne 7, 3) := by decide +kernel
theorem de_M_waiting_71 : decode bc_M_waiting 71 = .ok (.iconst 1, 1) := by decide +kernel
theorem de_M_waiting_72 : decode bc_M_waiting 72 = .ok (.goto 4, 3) := by decide +kernel
theorem de_M_waiting_75 : decode bc_M_waiting 75 = .ok (.iconst 0, 1) := by decide +kernel
theorem de_M_waiting_76 : decode bc_M_waiting 76 = .ok (.istore 4, 2) := by decide +kernel
theorem de_M_waiting_78 : decode bc_M_waiting 78 = .ok (.iload_n 2, 1) := by decide +kernel
theorem de_M_waiting_79 : decode bc_M_waiting 79 = .ok (.iload 4, 2) := by decide +kernel
theorem de_M_waiting_81 : decode bc_M_waiting 81 = .ok (.ifCond .eq 7, 3) := by decide +kernel
theorem de_M_waiting_84 : decode bc_M_waiting 84 = .ok (.iconst 1, 1) := by decide +kernel
theorem de_M_waiting_85 : decode bc_M_waiting 85 = .ok (.goto 4, 3) := by decide +kernel
theorem de_M_waiting_88 : decode bc_M_waiting 88 = .ok (.iconst 0, 1) := by decide +kernel
theorem de_M_waiting_89 : decode bc_M_waiting 89 = .ok (.iadd, 1) := by decide +kernel
theorem de_M_waiting_90 : decode bc_M_waiting 90 = .ok (.istore_n 2, 1) := by decide +kernel
theorem de_M_waiting_91 : decode bc_M_waiting 91 = .ok (.iinc 3 1, 3) := by decide +kernel
theorem de_M_waiting_94 : decode bc_M_waiting 94 = .ok (.goto (-78), 3) := by decide +kernel
theorem de_M_waiting_97 : decode bc_M_waiting 97 = .ok (.iload_n 2, 1) := by decide +kernel
theorem de_M_waiting_98 : decode bc_M_waiting 98 = .ok (.ireturn, 1) := by decide +kernel
theorem de_M_area_0 : decode bc_M_area 0 = .ok (.aload_n 0, 1) := by decide +kernel
theorem de_M_area_1 : decode bc_M_area 1 = .ok (.iload_n 1, 1) := by decide +kernel
theorem de_M_area_2 : decode bc_M_area 2 = .ok (.iconst 0, 1) := by decide +kernel
theorem de_M_area_3 : decode bc_M_area 3 = .ok (.iconst 3, 1) := by decide +kernel
theorem de_M_area_4 : decode bc_M_area 4 = .ok (.invokevirtual 83, 3) := by decide +kernel
theorem de_M_area_7 : decode bc_M_area 7 = .ok (.ifCond .eq 12, 3) := by decide +kernel
theorem de_M_area_10 : decode bc_M_area 10 = .ok (.aload_n 0, 1) := by decide +kernel
theorem de_M_area_11 : decode bc_M_area 11 = .ok (.getfield 60, 3) := by decide +kernel
theorem de_M_area_14 : decode bc_M_area 14 = .ok (.iload_n 1, 1) := by decide +kernel
theorem de_M_area_15 : decode bc_M_area 15 = .ok (.laload, 1) := by decide +kernel
theorem de_M_area_16 : decode bc_M_area 16 = .ok (.goto 6, 3) := by decide +kernel
theorem de_M_area_19 : decode bc_M_area 19 = .ok (.ldc2_w 186, 3) := by decide +kernel
theorem de_M_area_22 : decode bc_M_area 22 = .ok (.lreturn, 1) := by decide +kernel
theorem de_M_waited_0 : decode bc_M_waited 0 = .ok (.aload_n 0, 1) := by decide +kernel
theorem de_M_waited_1 : decode bc_M_waited 1 = .ok (.iload_n 1, 1) := by decide +kernel
theorem de_M_waited_2 : decode bc_M_waited 2 = .ok (.iconst 0, 1) := by decide +kernel
theorem de_M_waited_3 : decode bc_M_waited 3 = .ok (.iconst 3, 1) := by decide +kernel
theorem de_M_waited_4 : decode bc_M_waited 4 = .ok (.invokevirtual 83, 3) := by decide +kernel
theorem de_M_waited_7 : decode bc_M_waited 7 = .ok (.ifCond .eq 12, 3) := by decide +kernel
theorem de_M_waited_10 : decode bc_M_waited 10 = .ok (.aload_n 0, 1) := by decide +kernel
theorem de_M_waited_11 : decode bc_M_waited 11 = .ok (.getfield 63, 3) := by decide +kernel
theorem de_M_waited_14 : decode bc_M_waited 14 = .ok (.iload_n 1, 1) := by decide +kernel
theorem de_M_waited_15 : decode bc_M_waited 15 = .ok (.laload, 1) := by decide +kernel
theorem de_M_waited_16 : decode bc_M_waited 16 = .ok (.goto 6, 3) := by decide +kernel
theorem de_M_waited_19 : decode bc_M_waited 19 = .ok (.ldc2_w 186, 3) := by decide +kernel
theorem de_M_waited_22 : decode bc_M_waited 22 = .ok (.lreturn, 1) := by decide +kernel
theorem de_M_level_0 : decode bc_M_level 0 = .ok (.aload_n 0, 1) := by decide +kernel
theorem de_M_level_1 : decode bc_M_level 1 = .ok (.iload_n 1, 1) := by decide +kernel
theorem de_M_level_2 : decode bc_M_level 2 = .ok (.iconst 0, 1) := by decide +kernel
theorem de_M_level_3 : decode bc_M_level 3 = .ok (.iconst 3, 1) := by decide +kernel
theorem de_M_level_4 : decode bc_M_level 4 = .ok (.invokevirtual 83, 3) := by decide +kernel
theorem de_M_level_7 : decode bc_M_level 7 = .ok (.ifCond .eq 12, 3) := by decide +kernel
theorem de_M_level_10 : decode bc_M_level 10 = .ok (.aload_n 0, 1) := by decide +kernel
theorem de_M_level_11 : decode bc_M_level 11 = .ok (.getfield 69, 3) := by decide +kernel
theorem de_M_level_14 : decode bc_M_level 14 = .ok (.iload_n 1, 1) := by decide +kernel
theorem de_M_level_15 : decode bc_M_level 15 = .ok (.iaload, 1) := by decide +kernel
theorem de_M_level_16 : decode bc_M_level 16 = .ok (.goto 4, 3) := by decide +kernel
theorem de_M_level_19 : decode bc_M_level 19 = .ok (.iconst (-1), 1) := by decide +kernel
theorem de_M_level_20 : decode bc_M_level 20 = .ok (.ireturn, 1) := by decide +kernel
theorem de_M_stuck_0 : decode bc_M_stuck 0 = .ok (.iconst 0, 1) := by decide +kernel
theorem de_M_stuck_1 : decode bc_M_stuck 1 = .ok (.istore_n 1, 1) := by decide +kernel
theorem de_M_stuck_2 : decode bc_M_stuck 2 = .ok (.iconst 0, 1) := by decide +kernel
theorem de_M_stuck_3 : decode bc_M_stuck 3 = .ok (.istore_n 2, 1) := by decide +kernel
theorem de_M_stuck_4 : decode bc_M_stuck 4 = .ok (.iload_n 2, 1) := by decide +kernel
theorem de_M_stuck_5 : decode bc_M_stuck 5 = .ok (.aload_n 0, 1) := by decide +kernel
theorem de_M_stuck_6 : decode bc_M_stuck 6 = .ok (.getfield 78, 3) := by decide +kernel
theorem de_M_stuck_9 : decode bc_M_stuck 9 = .ok (.if_icmp .ge 39, 3) := by decide +kernel
theorem de_M_stuck_12 : decode bc_M_stuck 12 = .ok (.iload_n 1, 1) := by decide +kernel
theorem de_M_stuck_13 : decode bc_M_stuck 13 = .ok (.ifCond .ne 23, 3) := by decide +kernel
theorem de_M_stuck_16 : decode bc_M_stuck 16 = .ok (.aload_n 0, 1) := by decide +kernel
theorem de_M_stuck_17 : decode bc_M_stuck 17 = .ok (.getfield 25, 3) := by decide +kernel
theorem de_M_stuck_20 : decode bc_M_stuck 20 = .ok (.iload_n 2, 1) := by decide +kernel
theorem de_M_stuck_21 : decode bc_M_stuck 21 = .ok (.iaload, 1) := by decide +kernel
theorem de_M_stuck_22 : decode bc_M_stuck 22 = .ok (.iconst 4, 1) := by decide +kernel
theorem de_M_stuck_23 : decode bc_M_stuck 23 = .ok (.if_icmp .eq 13, 3) := by decide +kernel
theorem de_M_stuck_26 : decode bc_M_stuck 26 = .ok (.aload_n 0, 1) := by decide +kernel
theorem de_M_stuck_27 : decode bc_M_stuck 27 = .ok (.getfield 25, 3) := by decide +kernel
theorem de_M_stuck_30 : decode bc_M_stuck 30 = .ok (.iload_n 2, 1) := by decide +kernel
theorem de_M_stuck_31 : decode bc_M_stuck 31 = .ok (.iaload, 1) := by decide +kernel
theorem de_M_stuck_32 : decode bc_M_stuck 32 = .ok (.iconst 5, 1) := by decide +kernel
theorem de_M_stuck_33 : decode bc_M_stuck 33 = .ok (.if_icmp .ne 7, 3) := by decide +kernel
theorem de_M_stuck_36 : decode bc_M_stuck 36 = .ok (.iconst 1, 1) := by decide +kernel
theorem de_M_stuck_37 : decode bc_M_stuck 37 = .ok (.goto 4, 3) := by decide +kernel
theorem de_M_stuck_40 : decode bc_M_stuck 40 = .ok (.iconst 0, 1) := by decide +kernel
theorem de_M_stuck_41 : decode bc_M_stuck 41 = .ok (.istore_n 1, 1) := by decide +kernel
theorem de_M_stuck_42 : decode bc_M_stuck 42 = .ok (.iinc 2 1, 3) := by decide +kernel
theorem de_M_stuck_45 : decode bc_M_stuck 45 = .ok (.goto (-41), 3) := by decide +kernel
theorem de_M_stuck_48 : decode bc_M_stuck 48 = .ok (.iload_n 1, 1) := by decide +kernel
theorem de_M_stuck_49 : decode bc_M_stuck 49 = .ok (.ifCond .eq 14, 3) := by decide +kernel
theorem de_M_stuck_52 : decode bc_M_stuck 52 = .ok (.aload_n 0, 1) := by decide +kernel
theorem de_M_stuck_53 : decode bc_M_stuck 53 = .ok (.invokevirtual 179, 3) := by decide +kernel
theorem de_M_stuck_56 : decode bc_M_stuck 56 = .ok (.ifCond .ge 7, 3) := by decide +kernel
theorem de_M_stuck_59 : decode bc_M_stuck 59 = .ok (.iconst 1, 1) := by decide +kernel
theorem de_M_stuck_60 : decode bc_M_stuck 60 = .ok (.goto 4, 3) := by decide +kernel
theorem de_M_stuck_63 : decode bc_M_stuck 63 = .ok (.iconst 0, 1) := by decide +kernel
theorem de_M_stuck_64 : decode bc_M_stuck 64 = .ok (.ireturn, 1) := by decide +kernel
theorem de_M_traced_0 : decode bc_M_traced 0 = .ok (.aload_n 0, 1) := by decide +kernel
theorem de_M_traced_1 : decode bc_M_traced 1 = .ok (.iload_n 1, 1) := by decide +kernel
theorem de_M_traced_2 : decode bc_M_traced 2 = .ok (.iconst 0, 1) := by decide +kernel
theorem de_M_traced_3 : decode bc_M_traced 3 = .ok (.bipush 63, 2) := by decide +kernel
theorem de_M_traced_5 : decode bc_M_traced 5 = .ok (.invokevirtual 83, 3) := by decide +kernel
theorem de_M_traced_8 : decode bc_M_traced 8 = .ok (.ifCond .eq 20, 3) := by decide +kernel
theorem de_M_traced_11 : decode bc_M_traced 11 = .ok (.iload_n 1, 1) := by decide +kernel
theorem de_M_traced_12 : decode bc_M_traced 12 = .ok (.aload_n 0, 1) := by decide +kernel
theorem de_M_traced_13 : decode bc_M_traced 13 = .ok (.getfield 168, 3) := by decide +kernel
theorem de_M_traced_16 : decode bc_M_traced 16 = .ok (.if_icmp .ge 12, 3) := by decide +kernel
theorem de_M_traced_19 : decode bc_M_traced 19 = .ok (.aload_n 0, 1) := by decide +kernel
theorem de_M_traced_20 : decode bc_M_traced 20 = .ok (.getfield 75, 3) := by decide +kernel
theorem de_M_traced_23 : decode bc_M_traced 23 = .ok (.iload_n 1, 1) := by decide +kernel
theorem de_M_traced_24 : decode bc_M_traced 24 = .ok (.iaload, 1) := by decide +kernel
theorem de_M_traced_25 : decode bc_M_traced 25 = .ok (.goto 4, 3) := by decide +kernel
theorem de_M_traced_28 : decode bc_M_traced 28 = .ok (.iconst (-1), 1) := by decide +kernel
theorem de_M_traced_29 : decode bc_M_traced 29 = .ok (.ireturn, 1) := by decide +kernel
end
section
abbrev kCl : List vw_C := [(bR_K, bT_K, 9), (bR_P, bT_P, 16), (bR_L, bT_L, 2), (bR_E, bT_E, 6), (bR_T, bT_T, 2), (bR_C, bT_C, 3)]
abbrev kT (q : Nat → ClassId) : List (ClassId × FieldType) := [(q 0, .int), (q 1, .object bR_P), (q 2, .object bR_E), (q 3, .object bR_T)]
def kC : List (Nat × Nat) := [(0, 0), (1, 0), (2, 0), (3, 0), (4, 4), (5, 4), (6, 0), (7, 0), (8, 0), (9, 0), (10, 0), (11, 0), (12, 0), (13, 0), (9, 1), (10, 1), (11, 1), (12, 1), (13, 1), (9, 2), (10, 2), (11, 2), (12, 2), (13, 2), (9, 3), (10, 3), (11, 3), (12, 3), (13, 3), (9, 4), (10, 4), (11, 4), (12, 4), (13, 4), (9, 5), (10, 5), (11, 5), (12, 5), (13, 5), (9, 6), (10, 6), (11, 6), (12, 6), (13, 6), (9, 7), (10, 7), (11, 7), (12, 7), (13, 7), (9, 8), (10, 8), (11, 8), (12, 8), (13, 8), (9, 9), (10, 9), (11, 9), (12, 9), (13, 9), (9, 10), (10, 10), (11, 10), (12, 10), (13, 10), (9, 11), (10, 11), (11, 11), (12, 11), (13, 11), (14, 0), (4, 0), (5, 0), (14, 1), (4, 1), (5, 1), (14, 2), (4, 2), (5, 2), (14, 3), (4, 3), (5, 3), (15, 0), (15, 1), (15, 2), (15, 3)]
set_option maxRecDepth 20000 in
theorem kC_nd : kC.Nodup := by decide +kernel
def kF0 (aa : Nat → Nat → Nat) (σ : kS) (n : Nat) : List Value := [.ref (aa 1 0), .ref (aa 2 0), .ref (aa 3 0), .ref (aa 4 4), .ref (aa 6 0), .ref (aa 8 0), .int (gI σ 0 n 0), .long (gL σ 0 n 0), .long (gL σ 1 n 0)]
def kF4 (aa : Nat → Nat → Nat) (σ : kS) (n : Nat) : List Value := [.ref (aa 5 n), .int (gI σ 19 n 0)]
def kF6 (aa : Nat → Nat → Nat) (σ : kS) (n : Nat) : List Value := [.ref (aa 7 0), .int (gI σ 23 n 0), .int (gI σ 24 n 0)]
def kF9 (aa : Nat → Nat → Nat) (σ : kS) (n : Nat) : List Value := [.int (gI σ 2 n 0), .ref (aa 10 n), .ref (aa 11 n), .ref (aa 12 n), .ref (aa 13 n), .int (gI σ 3 n 0), .int (gI σ 4 n 0), .int (gI σ 5 n 0), .int (gI σ 6 n 0), .int (gI σ 7 n 0), .int (gI σ 8 n 0), .int (gI σ 9 n 0), .int (gI σ 10 n 0), .long (gL σ 2 n 0), .long (gL σ 3 n 0), .long (gL σ 4 n 0)]
def kF14 (aa : Nat → Nat → Nat) (σ : kS) (n : Nat) : List Value := [.ref (aa 4 n), .int (gI σ 15 n 0), .int (gI σ 16 n 0), .int (gI σ 17 n 0), .long (gL σ 5 n 0), .long (gL σ 6 n 0)]
def kF15 (aa : Nat → Nat → Nat) (σ : kS) (n : Nat) : List Value := [.int (gI σ 20 n 0), .int (gI σ 21 n 0)]
def kE (aa : Nat → Nat → Nat) (q : Nat → ClassId) (σ : kS) (f n : Nat) : va_E := match f with
  | 0 => .inr (0, kF0 aa σ n)
  | 1 => .inl (q 1, 12, .inr (.inr (.inr (.inr (fun j => some (aa 9 j))))))
  | 2 => .inl (q 2, 4, .inr (.inr (.inr (.inr (fun j => some (aa 14 j))))))
  | 3 => .inl (q 3, 4, .inr (.inr (.inr (.inr (fun j => some (aa 15 j))))))
  | 4 => .inr (2, kF4 aa σ n)
  | 5 => .inl (q 0, 12, .inl (fun i => gI σ 18 n i))
  | 6 => .inr (5, kF6 aa σ n)
  | 7 => .inl (q 0, 64, .inl (fun i => gI σ 22 n i))
  | 8 => .inl (q 0, 12, .inl (fun i => gI σ 1 n i))
  | 9 => .inr (1, kF9 aa σ n)
  | 10 => .inl (q 0, 10, .inl (fun i => gI σ 11 n i))
  | 11 => .inl (q 0, 10, .inl (fun i => gI σ 12 n i))
  | 12 => .inl (q 0, 10, .inl (fun i => gI σ 13 n i))
  | 13 => .inl (q 0, 4, .inl (fun i => gI σ 14 n i))
  | 14 => .inr (3, kF14 aa σ n)
  | 15 => .inr (4, kF15 aa σ n)
  | _ => .inr (0, [])
def kW (aa : Nat → Nat → Nat) (q : Nat → ClassId) (σ : kS) : va_W := wmap kC aa (kE aa q σ)
def kPre (D : va_G) (aa : Nat → Nat → Nat) (q : Nat → ClassId) (σ : kS) (U : State) : Prop := va_P D kCl (kW aa q σ) U.heap ∧ va_K D kCl (kT q) U
def kB (D : va_G) (aa : Nat → Nat → Nat) (q : Nat → ClassId) (u : kS) (t : State) : Prop := va_P D kCl (kW aa q u) t.heap ∧ va_K D kCl (kT q) t
theorem upd_sI (σ : kS) (k n i0 : Nat) (v : Int32) : upd (fun i => gI σ k n i) i0 v = fun i => gI (sI σ k n i0 v) k n i := by
  funext i
  show (if i = i0 then v else gI σ k n i) = _
  rw [gI_sI]
  by_cases h : i = i0
  · rw [if_pos h, if_pos ⟨rfl, rfl, h⟩]
  · rw [if_neg h, if_neg (fun q => h q.2.2)]
theorem upd_sL (σ : kS) (k n i0 : Nat) (v : Int64) : vp_updL (fun i => gL σ k n i) i0 v = fun i => gL (sL σ k n i0 v) k n i := by
  funext i
  show (if i = i0 then v else gL σ k n i) = _
  rw [gL_sL]
  by_cases h : i = i0
  · rw [if_pos h, if_pos ⟨rfl, rfl, h⟩]
  · rw [if_neg h, if_neg (fun q => h q.2.2)]
set_option maxRecDepth 20000 in
theorem kpos_0 : ∀ n, n < 1 → kC[0]? = some (0, n) := by decide +kernel
set_option maxRecDepth 20000 in
theorem kpos_1 : ∀ n, n < 1 → kC[1]? = some (1, n) := by decide +kernel
set_option maxRecDepth 20000 in
theorem kpos_2 : ∀ n, n < 1 → kC[2]? = some (2, n) := by decide +kernel
set_option maxRecDepth 20000 in
theorem kpos_3 : ∀ n, n < 1 → kC[3]? = some (3, n) := by decide +kernel
set_option maxRecDepth 20000 in
theorem kpos_4 : ∀ n, n < 5 → kC[if n = 4 then 4 else 70 + 3 * n]? = some (4, n) := by decide +kernel
set_option maxRecDepth 20000 in
theorem kpos_5 : ∀ n, n < 5 → kC[if n = 4 then 5 else 71 + 3 * n]? = some (5, n) := by decide +kernel
set_option maxRecDepth 20000 in
theorem kpos_6 : ∀ n, n < 1 → kC[6]? = some (6, n) := by decide +kernel
set_option maxRecDepth 20000 in
theorem kpos_7 : ∀ n, n < 1 → kC[7]? = some (7, n) := by decide +kernel
set_option maxRecDepth 20000 in
theorem kpos_8 : ∀ n, n < 1 → kC[8]? = some (8, n) := by decide +kernel
set_option maxRecDepth 20000 in
theorem kpos_9 : ∀ n, n < 12 → kC[9 + 5 * n]? = some (9, n) := by decide +kernel
set_option maxRecDepth 20000 in
theorem kpos_10 : ∀ n, n < 12 → kC[10 + 5 * n]? = some (10, n) := by decide +kernel
set_option maxRecDepth 20000 in
theorem kpos_11 : ∀ n, n < 12 → kC[11 + 5 * n]? = some (11, n) := by decide +kernel
set_option maxRecDepth 20000 in
theorem kpos_12 : ∀ n, n < 12 → kC[12 + 5 * n]? = some (12, n) := by decide +kernel
set_option maxRecDepth 20000 in
theorem kpos_13 : ∀ n, n < 12 → kC[13 + 5 * n]? = some (13, n) := by decide +kernel
set_option maxRecDepth 20000 in
theorem kpos_14 : ∀ n, n < 4 → kC[69 + 3 * n]? = some (14, n) := by decide +kernel
set_option maxRecDepth 20000 in
theorem kpos_15 : ∀ n, n < 4 → kC[81 + n]? = some (15, n) := by decide +kernel
section
variable {p : Program} {l : Launch} {e : Env} {R : Room} {s : State} {m : MethodId} {args : Array Value} {below : List Frame} {meth : Method} {c : Code} {H : Heap} {locs : List Loc} {cells slots : Nat} {Q : State → Prop}
variable {cc : ByteArray} {pc : Nat} {ls : Array Slot} {rest st0 : List Value} {own : String} {index : Nat} {D : va_G} {aa : Nat → Nat → Nat} {q : Nat → ClassId} {σ : kS} {n : Nat}
theorem kat_0 (hn : n < 1) : (kW aa q σ)[0]? = some (aa 0 n, .inr (0, kF0 aa σ n)) := wmap_at (kpos_0 n hn)
theorem kat_1 (hn : n < 1) : (kW aa q σ)[1]? = some (aa 1 n, .inl (q 1, 12, .inr (.inr (.inr (.inr (fun j => some (aa 9 j))))))) := wmap_at (kpos_1 n hn)
theorem kat_2 (hn : n < 1) : (kW aa q σ)[2]? = some (aa 2 n, .inl (q 2, 4, .inr (.inr (.inr (.inr (fun j => some (aa 14 j))))))) := wmap_at (kpos_2 n hn)
theorem kat_3 (hn : n < 1) : (kW aa q σ)[3]? = some (aa 3 n, .inl (q 3, 4, .inr (.inr (.inr (.inr (fun j => some (aa 15 j))))))) := wmap_at (kpos_3 n hn)
theorem kat_4 (hn : n < 5) : (kW aa q σ)[if n = 4 then 4 else 70 + 3 * n]? = some (aa 4 n, .inr (2, kF4 aa σ n)) := wmap_at (kpos_4 n hn)
theorem kat_5 (hn : n < 5) : (kW aa q σ)[if n = 4 then 5 else 71 + 3 * n]? = some (aa 5 n, .inl (q 0, 12, .inl (fun i => gI σ 18 n i))) := wmap_at (kpos_5 n hn)
theorem kat_6 (hn : n < 1) : (kW aa q σ)[6]? = some (aa 6 n, .inr (5, kF6 aa σ n)) := wmap_at (kpos_6 n hn)
theorem kat_7 (hn : n < 1) : (kW aa q σ)[7]? = some (aa 7 n, .inl (q 0, 64, .inl (fun i => gI σ 22 n i))) := wmap_at (kpos_7 n hn)
theorem kat_8 (hn : n < 1) : (kW aa q σ)[8]? = some (aa 8 n, .inl (q 0, 12, .inl (fun i => gI σ 1 n i))) := wmap_at (kpos_8 n hn)
theorem kat_9 (hn : n < 12) : (kW aa q σ)[9 + 5 * n]? = some (aa 9 n, .inr (1, kF9 aa σ n)) := wmap_at (kpos_9 n hn)
theorem kat_10 (hn : n < 12) : (kW aa q σ)[10 + 5 * n]? = some (aa 10 n, .inl (q 0, 10, .inl (fun i => gI σ 11 n i))) := wmap_at (kpos_10 n hn)
theorem kat_11 (hn : n < 12) : (kW aa q σ)[11 + 5 * n]? = some (aa 11 n, .inl (q 0, 10, .inl (fun i => gI σ 12 n i))) := wmap_at (kpos_11 n hn)
theorem kat_12 (hn : n < 12) : (kW aa q σ)[12 + 5 * n]? = some (aa 12 n, .inl (q 0, 10, .inl (fun i => gI σ 13 n i))) := wmap_at (kpos_12 n hn)
theorem kat_13 (hn : n < 12) : (kW aa q σ)[13 + 5 * n]? = some (aa 13 n, .inl (q 0, 4, .inl (fun i => gI σ 14 n i))) := wmap_at (kpos_13 n hn)
theorem kat_14 (hn : n < 4) : (kW aa q σ)[69 + 3 * n]? = some (aa 14 n, .inr (3, kF14 aa σ n)) := wmap_at (kpos_14 n hn)
theorem kat_15 (hn : n < 4) : (kW aa q σ)[81 + n]? = some (aa 15 n, .inr (4, kF15 aa σ n)) := wmap_at (kpos_15 n hn)
theorem kg_0 (hx : p.tables.exec = Jvm.exec) (hb : c.code = cc) (ht : ∀ w ∈ lw_g, w.before args s = true) (hown : s.vm.findClass own = some m.cls) (hK : va_K D kCl (kT q) s) (hP : va_P D kCl (kW aa q σ) H) (hn : n < 1) (k : Nat) (hk : k < 9) (hl : Cond.fieldLink own index bR_K (bT_K k).2.1 (bT_K k).2.2.1 ∈ lw_g) {v : Value} (hv : (kF0 aa σ n)[k]? = some v) (hd : decode cc pc = .ok (.getfield index, 3)) (kk : W p l e R s m args below meth c H locs cells slots Q (F0 m (pc + 3) ls (v :: rest))) : W p l e R s m args below meth c H locs cells slots Q (F0 m pc ls (.ref (aa 0 n) :: rest)) :=
  va_get (D := D) (C := bR_K) (T := bT_K) (N := 9) hx hb ht bin_K hown hK hP 0 (kat_0 hn) rfl k hk (ht _ hl) (fun y9 h9 => by rw [bcl_K] at h9; exact h9) hv hd kk
theorem kr_0 (hK : va_K D kCl (kT q) s) (hP : va_P D kCl (kW aa q σ) H) (hn : n < 1) : ∃ cell : Cell, H[aa 0 n]? = some cell ∧ cell.vm.isStatics = false ∧ s.vm.findClass bR_K = some cell.cls := va_recv (q := (bR_K, bT_K, 9)) hK hP rfl (kat_0 hn)
theorem kset_0_made {v : Int32} (hn : n < 1) : (kW aa q σ).set 0 (aa 0 n, .inr (0, (kF0 aa σ n).set 6 (.int v))) = kW aa q (sI σ 0 n 0 v) := by
  refine wmap_set kC_nd (kpos_0 n hn) ?_ ?_
  · simp [kE, kF0, gI_sI, gL_sL, gI_sL, gL_sI]
  · intro f9 n9 hne
    match f9, hne with
    | 0, hne =>
      have hn9 : ¬ n9 = n := fun e9 => hne ⟨rfl, e9⟩
      simp [kE, kF0, gI_sI, gL_sL, gI_sL, gL_sI, hn9]
    | 1, _ => rfl
    | 2, _ => rfl
    | 3, _ => rfl
    | 4, _ => rfl
    | 5, _ => rfl
    | 6, _ => rfl
    | 7, _ => rfl
    | 8, _ => rfl
    | 9, _ => rfl
    | 10, _ => rfl
    | 11, _ => rfl
    | 12, _ => rfl
    | 13, _ => rfl
    | 14, _ => rfl
    | 15, _ => rfl
    | k9 + 16, _ => rfl
theorem kp_0_made (hx : p.tables.exec = Jvm.exec) (hb : c.code = cc) (ht : ∀ w ∈ lw_g, w.before args s = true) (hown : s.vm.findClass own = some m.cls) (hK : va_K D kCl (kT q) s) (hP : va_P D kCl (kW aa q σ) H) (hJ : wJ kC aa) (hS : va_S (wA kC aa) s.heap H locs) (hn : n < 1) {v : Int32} (hl : Cond.fieldLink own index bR_K "made" "I" ∈ lw_g) (hd : decode cc pc = .ok (.putfield index, 3)) (kk : ∀ (H1 : Heap) (locs1 : List Loc), va_P D kCl (kW aa q (sI σ 0 n 0 v)) H1 → va_S (wA kC aa) s.heap H1 locs1 → W p l e R s m args below meth c H1 locs1 cells slots Q (F0 m (pc + 3) ls rest)) : W p l e R s m args below meth c H locs cells slots Q (F0 m pc ls (.int v :: .ref (aa 0 n) :: rest)) := by
  refine va_put (D := D) (v := .int v) (ty := .int) (C := bR_K) (T := bT_K) (N := 9) hx hb ht bin_K bty_K bo_K bn_K hown hK hP (wmap_D hJ) hS 0 (kat_0 hn) rfl 6 (by decide) (ht _ hl) (fun _ h9 => h9) rfl (by decide +kernel) rfl rfl (Nat.le_of_ble_eq_true rfl) hd (fun H1 locs1 hP1 _ hS1 => kk H1 locs1 ?_ hS1)
  rw [← kset_0_made hn]
  exact hP1
theorem kset_0_clock {v : Int64} (hn : n < 1) : (kW aa q σ).set 0 (aa 0 n, .inr (0, (kF0 aa σ n).set 7 (.long v))) = kW aa q (sL σ 0 n 0 v) := by
  refine wmap_set kC_nd (kpos_0 n hn) ?_ ?_
  · simp [kE, kF0, gI_sI, gL_sL, gI_sL, gL_sI]
  · intro f9 n9 hne
    match f9, hne with
    | 0, hne =>
      have hn9 : ¬ n9 = n := fun e9 => hne ⟨rfl, e9⟩
      simp [kE, kF0, gI_sI, gL_sL, gI_sL, gL_sI, hn9]
    | 1, _ => rfl
    | 2, _ => rfl
    | 3, _ => rfl
    | 4, _ => rfl
    | 5, _ => rfl
    | 6, _ => rfl
    | 7, _ => rfl
    | 8, _ => rfl
    | 9, _ => rfl
    | 10, _ => rfl
    | 11, _ => rfl
    | 12, _ => rfl
    | 13, _ => rfl
    | 14, _ => rfl
    | 15, _ => rfl
    | k9 + 16, _ => rfl
theorem kp_0_clock (hx : p.tables.exec = Jvm.exec) (hb : c.code = cc) (ht : ∀ w ∈ lw_g, w.before args s = true) (hown : s.vm.findClass own = some m.cls) (hK : va_K D kCl (kT q) s) (hP : va_P D kCl (kW aa q σ) H) (hJ : wJ kC aa) (hS : va_S (wA kC aa) s.heap H locs) (hn : n < 1) {v : Int64} (hl : Cond.fieldLink own index bR_K "clock" "J" ∈ lw_g) (hd : decode cc pc = .ok (.putfield index, 3)) (kk : ∀ (H1 : Heap) (locs1 : List Loc), va_P D kCl (kW aa q (sL σ 0 n 0 v)) H1 → va_S (wA kC aa) s.heap H1 locs1 → W p l e R s m args below meth c H1 locs1 cells slots Q (F0 m (pc + 3) ls rest)) : W p l e R s m args below meth c H locs cells slots Q (F0 m pc ls (.long v :: .ref (aa 0 n) :: rest)) := by
  refine va_put (D := D) (v := .long v) (ty := .long) (C := bR_K) (T := bT_K) (N := 9) hx hb ht bin_K bty_K bo_K bn_K hown hK hP (wmap_D hJ) hS 0 (kat_0 hn) rfl 7 (by decide) (ht _ hl) (fun _ h9 => h9) rfl (by decide +kernel) rfl rfl (Nat.le_of_ble_eq_true rfl) hd (fun H1 locs1 hP1 _ hS1 => kk H1 locs1 ?_ hS1)
  rw [← kset_0_clock hn]
  exact hP1
theorem kset_0_entries {v : Int64} (hn : n < 1) : (kW aa q σ).set 0 (aa 0 n, .inr (0, (kF0 aa σ n).set 8 (.long v))) = kW aa q (sL σ 1 n 0 v) := by
  refine wmap_set kC_nd (kpos_0 n hn) ?_ ?_
  · simp [kE, kF0, gI_sI, gL_sL, gI_sL, gL_sI]
  · intro f9 n9 hne
    match f9, hne with
    | 0, hne =>
      have hn9 : ¬ n9 = n := fun e9 => hne ⟨rfl, e9⟩
      simp [kE, kF0, gI_sI, gL_sL, gI_sL, gL_sI, hn9]
    | 1, _ => rfl
    | 2, _ => rfl
    | 3, _ => rfl
    | 4, _ => rfl
    | 5, _ => rfl
    | 6, _ => rfl
    | 7, _ => rfl
    | 8, _ => rfl
    | 9, _ => rfl
    | 10, _ => rfl
    | 11, _ => rfl
    | 12, _ => rfl
    | 13, _ => rfl
    | 14, _ => rfl
    | 15, _ => rfl
    | k9 + 16, _ => rfl
theorem kp_0_entries (hx : p.tables.exec = Jvm.exec) (hb : c.code = cc) (ht : ∀ w ∈ lw_g, w.before args s = true) (hown : s.vm.findClass own = some m.cls) (hK : va_K D kCl (kT q) s) (hP : va_P D kCl (kW aa q σ) H) (hJ : wJ kC aa) (hS : va_S (wA kC aa) s.heap H locs) (hn : n < 1) {v : Int64} (hl : Cond.fieldLink own index bR_K "entries" "J" ∈ lw_g) (hd : decode cc pc = .ok (.putfield index, 3)) (kk : ∀ (H1 : Heap) (locs1 : List Loc), va_P D kCl (kW aa q (sL σ 1 n 0 v)) H1 → va_S (wA kC aa) s.heap H1 locs1 → W p l e R s m args below meth c H1 locs1 cells slots Q (F0 m (pc + 3) ls rest)) : W p l e R s m args below meth c H locs cells slots Q (F0 m pc ls (.long v :: .ref (aa 0 n) :: rest)) := by
  refine va_put (D := D) (v := .long v) (ty := .long) (C := bR_K) (T := bT_K) (N := 9) hx hb ht bin_K bty_K bo_K bn_K hown hK hP (wmap_D hJ) hS 0 (kat_0 hn) rfl 8 (by decide) (ht _ hl) (fun _ h9 => h9) rfl (by decide +kernel) rfl rfl (Nat.le_of_ble_eq_true rfl) hd (fun H1 locs1 hP1 _ hS1 => kk H1 locs1 ?_ hS1)
  rw [← kset_0_entries hn]
  exact hP1
theorem kg_4 (hx : p.tables.exec = Jvm.exec) (hb : c.code = cc) (ht : ∀ w ∈ lw_g, w.before args s = true) (hown : s.vm.findClass own = some m.cls) (hK : va_K D kCl (kT q) s) (hP : va_P D kCl (kW aa q σ) H) (hn : n < 5) (k : Nat) (hk : k < 2) (hl : Cond.fieldLink own index bR_L (bT_L k).2.1 (bT_L k).2.2.1 ∈ lw_g) {v : Value} (hv : (kF4 aa σ n)[k]? = some v) (hd : decode cc pc = .ok (.getfield index, 3)) (kk : W p l e R s m args below meth c H locs cells slots Q (F0 m (pc + 3) ls (v :: rest))) : W p l e R s m args below meth c H locs cells slots Q (F0 m pc ls (.ref (aa 4 n) :: rest)) :=
  va_get (D := D) (C := bR_L) (T := bT_L) (N := 2) hx hb ht bin_L hown hK hP (if n = 4 then 4 else 70 + 3 * n) (kat_4 hn) rfl k hk (ht _ hl) (fun y9 h9 => by rw [bcl_L] at h9; exact h9) hv hd kk
theorem kr_4 (hK : va_K D kCl (kT q) s) (hP : va_P D kCl (kW aa q σ) H) (hn : n < 5) : ∃ cell : Cell, H[aa 4 n]? = some cell ∧ cell.vm.isStatics = false ∧ s.vm.findClass bR_L = some cell.cls := va_recv (q := (bR_L, bT_L, 2)) hK hP rfl (kat_4 hn)
theorem kset_4_size {v : Int32} (hn : n < 5) : (kW aa q σ).set (if n = 4 then 4 else 70 + 3 * n) (aa 4 n, .inr (2, (kF4 aa σ n).set 1 (.int v))) = kW aa q (sI σ 19 n 0 v) := by
  refine wmap_set kC_nd (kpos_4 n hn) ?_ ?_
  · simp [kE, kF4, gI_sI, gL_sL, gI_sL, gL_sI]
  · intro f9 n9 hne
    match f9, hne with
    | 0, _ => rfl
    | 1, _ => rfl
    | 2, _ => rfl
    | 3, _ => rfl
    | 4, hne =>
      have hn9 : ¬ n9 = n := fun e9 => hne ⟨rfl, e9⟩
      simp [kE, kF4, gI_sI, gL_sL, gI_sL, gL_sI, hn9]
    | 5, _ => rfl
    | 6, _ => rfl
    | 7, _ => rfl
    | 8, _ => rfl
    | 9, _ => rfl
    | 10, _ => rfl
    | 11, _ => rfl
    | 12, _ => rfl
    | 13, _ => rfl
    | 14, _ => rfl
    | 15, _ => rfl
    | k9 + 16, _ => rfl
theorem kp_4_size (hx : p.tables.exec = Jvm.exec) (hb : c.code = cc) (ht : ∀ w ∈ lw_g, w.before args s = true) (hown : s.vm.findClass own = some m.cls) (hK : va_K D kCl (kT q) s) (hP : va_P D kCl (kW aa q σ) H) (hJ : wJ kC aa) (hS : va_S (wA kC aa) s.heap H locs) (hn : n < 5) {v : Int32} (hl : Cond.fieldLink own index bR_L "size" "I" ∈ lw_g) (hd : decode cc pc = .ok (.putfield index, 3)) (kk : ∀ (H1 : Heap) (locs1 : List Loc), va_P D kCl (kW aa q (sI σ 19 n 0 v)) H1 → va_S (wA kC aa) s.heap H1 locs1 → W p l e R s m args below meth c H1 locs1 cells slots Q (F0 m (pc + 3) ls rest)) : W p l e R s m args below meth c H locs cells slots Q (F0 m pc ls (.int v :: .ref (aa 4 n) :: rest)) := by
  refine va_put (D := D) (v := .int v) (ty := .int) (C := bR_L) (T := bT_L) (N := 2) hx hb ht bin_L bty_L bo_L bn_L hown hK hP (wmap_D hJ) hS (if n = 4 then 4 else 70 + 3 * n) (kat_4 hn) rfl 1 (by decide) (ht _ hl) (fun _ h9 => h9) rfl (by decide +kernel) rfl rfl (Nat.le_of_ble_eq_true rfl) hd (fun H1 locs1 hP1 _ hS1 => kk H1 locs1 ?_ hS1)
  rw [← kset_4_size hn]
  exact hP1
theorem kg_6 (hx : p.tables.exec = Jvm.exec) (hb : c.code = cc) (ht : ∀ w ∈ lw_g, w.before args s = true) (hown : s.vm.findClass own = some m.cls) (hK : va_K D kCl (kT q) s) (hP : va_P D kCl (kW aa q σ) H) (hn : n < 1) (k : Nat) (hk : k < 3) (hl : Cond.fieldLink own index bR_C (bT_C k).2.1 (bT_C k).2.2.1 ∈ lw_g) {v : Value} (hv : (kF6 aa σ n)[k]? = some v) (hd : decode cc pc = .ok (.getfield index, 3)) (kk : W p l e R s m args below meth c H locs cells slots Q (F0 m (pc + 3) ls (v :: rest))) : W p l e R s m args below meth c H locs cells slots Q (F0 m pc ls (.ref (aa 6 n) :: rest)) :=
  va_get (D := D) (C := bR_C) (T := bT_C) (N := 3) hx hb ht bin_C hown hK hP 6 (kat_6 hn) rfl k hk (ht _ hl) (fun y9 h9 => by rw [bcl_C] at h9; exact h9) hv hd kk
theorem kr_6 (hK : va_K D kCl (kT q) s) (hP : va_P D kCl (kW aa q σ) H) (hn : n < 1) : ∃ cell : Cell, H[aa 6 n]? = some cell ∧ cell.vm.isStatics = false ∧ s.vm.findClass bR_C = some cell.cls := va_recv (q := (bR_C, bT_C, 3)) hK hP rfl (kat_6 hn)
theorem kset_6_latest {v : Int32} (hn : n < 1) : (kW aa q σ).set 6 (aa 6 n, .inr (5, (kF6 aa σ n).set 1 (.int v))) = kW aa q (sI σ 23 n 0 v) := by
  refine wmap_set kC_nd (kpos_6 n hn) ?_ ?_
  · simp [kE, kF6, gI_sI, gL_sL, gI_sL, gL_sI]
  · intro f9 n9 hne
    match f9, hne with
    | 0, _ => rfl
    | 1, _ => rfl
    | 2, _ => rfl
    | 3, _ => rfl
    | 4, _ => rfl
    | 5, _ => rfl
    | 6, hne =>
      have hn9 : ¬ n9 = n := fun e9 => hne ⟨rfl, e9⟩
      simp [kE, kF6, gI_sI, gL_sL, gI_sL, gL_sI, hn9]
    | 7, _ => rfl
    | 8, _ => rfl
    | 9, _ => rfl
    | 10, _ => rfl
    | 11, _ => rfl
    | 12, _ => rfl
    | 13, _ => rfl
    | 14, _ => rfl
    | 15, _ => rfl
    | k9 + 16, _ => rfl
theorem kp_6_latest (hx : p.tables.exec = Jvm.exec) (hb : c.code = cc) (ht : ∀ w ∈ lw_g, w.before args s = true) (hown : s.vm.findClass own = some m.cls) (hK : va_K D kCl (kT q) s) (hP : va_P D kCl (kW aa q σ) H) (hJ : wJ kC aa) (hS : va_S (wA kC aa) s.heap H locs) (hn : n < 1) {v : Int32} (hl : Cond.fieldLink own index bR_C "latest" "I" ∈ lw_g) (hd : decode cc pc = .ok (.putfield index, 3)) (kk : ∀ (H1 : Heap) (locs1 : List Loc), va_P D kCl (kW aa q (sI σ 23 n 0 v)) H1 → va_S (wA kC aa) s.heap H1 locs1 → W p l e R s m args below meth c H1 locs1 cells slots Q (F0 m (pc + 3) ls rest)) : W p l e R s m args below meth c H locs cells slots Q (F0 m pc ls (.int v :: .ref (aa 6 n) :: rest)) := by
  refine va_put (D := D) (v := .int v) (ty := .int) (C := bR_C) (T := bT_C) (N := 3) hx hb ht bin_C bty_C bo_C bn_C hown hK hP (wmap_D hJ) hS 6 (kat_6 hn) rfl 1 (by decide) (ht _ hl) (fun _ h9 => h9) rfl (by decide +kernel) rfl rfl (Nat.le_of_ble_eq_true rfl) hd (fun H1 locs1 hP1 _ hS1 => kk H1 locs1 ?_ hS1)
  rw [← kset_6_latest hn]
  exact hP1
theorem kset_6_size {v : Int32} (hn : n < 1) : (kW aa q σ).set 6 (aa 6 n, .inr (5, (kF6 aa σ n).set 2 (.int v))) = kW aa q (sI σ 24 n 0 v) := by
  refine wmap_set kC_nd (kpos_6 n hn) ?_ ?_
  · simp [kE, kF6, gI_sI, gL_sL, gI_sL, gL_sI]
  · intro f9 n9 hne
    match f9, hne with
    | 0, _ => rfl
    | 1, _ => rfl
    | 2, _ => rfl
    | 3, _ => rfl
    | 4, _ => rfl
    | 5, _ => rfl
    | 6, hne =>
      have hn9 : ¬ n9 = n := fun e9 => hne ⟨rfl, e9⟩
      simp [kE, kF6, gI_sI, gL_sL, gI_sL, gL_sI, hn9]
    | 7, _ => rfl
    | 8, _ => rfl
    | 9, _ => rfl
    | 10, _ => rfl
    | 11, _ => rfl
    | 12, _ => rfl
    | 13, _ => rfl
    | 14, _ => rfl
    | 15, _ => rfl
    | k9 + 16, _ => rfl
theorem kp_6_size (hx : p.tables.exec = Jvm.exec) (hb : c.code = cc) (ht : ∀ w ∈ lw_g, w.before args s = true) (hown : s.vm.findClass own = some m.cls) (hK : va_K D kCl (kT q) s) (hP : va_P D kCl (kW aa q σ) H) (hJ : wJ kC aa) (hS : va_S (wA kC aa) s.heap H locs) (hn : n < 1) {v : Int32} (hl : Cond.fieldLink own index bR_C "size" "I" ∈ lw_g) (hd : decode cc pc = .ok (.putfield index, 3)) (kk : ∀ (H1 : Heap) (locs1 : List Loc), va_P D kCl (kW aa q (sI σ 24 n 0 v)) H1 → va_S (wA kC aa) s.heap H1 locs1 → W p l e R s m args below meth c H1 locs1 cells slots Q (F0 m (pc + 3) ls rest)) : W p l e R s m args below meth c H locs cells slots Q (F0 m pc ls (.int v :: .ref (aa 6 n) :: rest)) := by
  refine va_put (D := D) (v := .int v) (ty := .int) (C := bR_C) (T := bT_C) (N := 3) hx hb ht bin_C bty_C bo_C bn_C hown hK hP (wmap_D hJ) hS 6 (kat_6 hn) rfl 2 (by decide) (ht _ hl) (fun _ h9 => h9) rfl (by decide +kernel) rfl rfl (Nat.le_of_ble_eq_true rfl) hd (fun H1 locs1 hP1 _ hS1 => kk H1 locs1 ?_ hS1)
  rw [← kset_6_size hn]
  exact hP1
theorem kg_9 (hx : p.tables.exec = Jvm.exec) (hb : c.code = cc) (ht : ∀ w ∈ lw_g, w.before args s = true) (hown : s.vm.findClass own = some m.cls) (hK : va_K D kCl (kT q) s) (hP : va_P D kCl (kW aa q σ) H) (hn : n < 12) (k : Nat) (hk : k < 16) (hl : Cond.fieldLink own index bR_P (bT_P k).2.1 (bT_P k).2.2.1 ∈ lw_g) {v : Value} (hv : (kF9 aa σ n)[k]? = some v) (hd : decode cc pc = .ok (.getfield index, 3)) (kk : W p l e R s m args below meth c H locs cells slots Q (F0 m (pc + 3) ls (v :: rest))) : W p l e R s m args below meth c H locs cells slots Q (F0 m pc ls (.ref (aa 9 n) :: rest)) :=
  va_get (D := D) (C := bR_P) (T := bT_P) (N := 16) hx hb ht bin_P hown hK hP (9 + 5 * n) (kat_9 hn) rfl k hk (ht _ hl) (fun y9 h9 => by rw [bcl_P] at h9; exact h9) hv hd kk
theorem kr_9 (hK : va_K D kCl (kT q) s) (hP : va_P D kCl (kW aa q σ) H) (hn : n < 12) : ∃ cell : Cell, H[aa 9 n]? = some cell ∧ cell.vm.isStatics = false ∧ s.vm.findClass bR_P = some cell.cls := va_recv (q := (bR_P, bT_P, 16)) hK hP rfl (kat_9 hn)
theorem kset_9_length {v : Int32} (hn : n < 12) : (kW aa q σ).set (9 + 5 * n) (aa 9 n, .inr (1, (kF9 aa σ n).set 5 (.int v))) = kW aa q (sI σ 3 n 0 v) := by
  refine wmap_set kC_nd (kpos_9 n hn) ?_ ?_
  · simp [kE, kF9, gI_sI, gL_sL, gI_sL, gL_sI]
  · intro f9 n9 hne
    match f9, hne with
    | 0, _ => rfl
    | 1, _ => rfl
    | 2, _ => rfl
    | 3, _ => rfl
    | 4, _ => rfl
    | 5, _ => rfl
    | 6, _ => rfl
    | 7, _ => rfl
    | 8, _ => rfl
    | 9, hne =>
      have hn9 : ¬ n9 = n := fun e9 => hne ⟨rfl, e9⟩
      simp [kE, kF9, gI_sI, gL_sL, gI_sL, gL_sI, hn9]
    | 10, _ => rfl
    | 11, _ => rfl
    | 12, _ => rfl
    | 13, _ => rfl
    | 14, _ => rfl
    | 15, _ => rfl
    | k9 + 16, _ => rfl
theorem kp_9_length (hx : p.tables.exec = Jvm.exec) (hb : c.code = cc) (ht : ∀ w ∈ lw_g, w.before args s = true) (hown : s.vm.findClass own = some m.cls) (hK : va_K D kCl (kT q) s) (hP : va_P D kCl (kW aa q σ) H) (hJ : wJ kC aa) (hS : va_S (wA kC aa) s.heap H locs) (hn : n < 12) {v : Int32} (hl : Cond.fieldLink own index bR_P "length" "I" ∈ lw_g) (hd : decode cc pc = .ok (.putfield index, 3)) (kk : ∀ (H1 : Heap) (locs1 : List Loc), va_P D kCl (kW aa q (sI σ 3 n 0 v)) H1 → va_S (wA kC aa) s.heap H1 locs1 → W p l e R s m args below meth c H1 locs1 cells slots Q (F0 m (pc + 3) ls rest)) : W p l e R s m args below meth c H locs cells slots Q (F0 m pc ls (.int v :: .ref (aa 9 n) :: rest)) := by
  refine va_put (D := D) (v := .int v) (ty := .int) (C := bR_P) (T := bT_P) (N := 16) hx hb ht bin_P bty_P bo_P bn_P hown hK hP (wmap_D hJ) hS (9 + 5 * n) (kat_9 hn) rfl 5 (by decide) (ht _ hl) (fun _ h9 => h9) rfl (by decide +kernel) rfl rfl (Nat.le_of_ble_eq_true rfl) hd (fun H1 locs1 hP1 _ hS1 => kk H1 locs1 ?_ hS1)
  rw [← kset_9_length hn]
  exact hP1
theorem kset_9_priority {v : Int32} (hn : n < 12) : (kW aa q σ).set (9 + 5 * n) (aa 9 n, .inr (1, (kF9 aa σ n).set 6 (.int v))) = kW aa q (sI σ 4 n 0 v) := by
  refine wmap_set kC_nd (kpos_9 n hn) ?_ ?_
  · simp [kE, kF9, gI_sI, gL_sL, gI_sL, gL_sI]
  · intro f9 n9 hne
    match f9, hne with
    | 0, _ => rfl
    | 1, _ => rfl
    | 2, _ => rfl
    | 3, _ => rfl
    | 4, _ => rfl
    | 5, _ => rfl
    | 6, _ => rfl
    | 7, _ => rfl
    | 8, _ => rfl
    | 9, hne =>
      have hn9 : ¬ n9 = n := fun e9 => hne ⟨rfl, e9⟩
      simp [kE, kF9, gI_sI, gL_sL, gI_sL, gL_sI, hn9]
    | 10, _ => rfl
    | 11, _ => rfl
    | 12, _ => rfl
    | 13, _ => rfl
    | 14, _ => rfl
    | 15, _ => rfl
    | k9 + 16, _ => rfl
theorem kp_9_priority (hx : p.tables.exec = Jvm.exec) (hb : c.code = cc) (ht : ∀ w ∈ lw_g, w.before args s = true) (hown : s.vm.findClass own = some m.cls) (hK : va_K D kCl (kT q) s) (hP : va_P D kCl (kW aa q σ) H) (hJ : wJ kC aa) (hS : va_S (wA kC aa) s.heap H locs) (hn : n < 12) {v : Int32} (hl : Cond.fieldLink own index bR_P "priority" "I" ∈ lw_g) (hd : decode cc pc = .ok (.putfield index, 3)) (kk : ∀ (H1 : Heap) (locs1 : List Loc), va_P D kCl (kW aa q (sI σ 4 n 0 v)) H1 → va_S (wA kC aa) s.heap H1 locs1 → W p l e R s m args below meth c H1 locs1 cells slots Q (F0 m (pc + 3) ls rest)) : W p l e R s m args below meth c H locs cells slots Q (F0 m pc ls (.int v :: .ref (aa 9 n) :: rest)) := by
  refine va_put (D := D) (v := .int v) (ty := .int) (C := bR_P) (T := bT_P) (N := 16) hx hb ht bin_P bty_P bo_P bn_P hown hK hP (wmap_D hJ) hS (9 + 5 * n) (kat_9 hn) rfl 6 (by decide) (ht _ hl) (fun _ h9 => h9) rfl (by decide +kernel) rfl rfl (Nat.le_of_ble_eq_true rfl) hd (fun H1 locs1 hP1 _ hS1 => kk H1 locs1 ?_ hS1)
  rw [← kset_9_priority hn]
  exact hP1
theorem kset_9_roundsLeft {v : Int32} (hn : n < 12) : (kW aa q σ).set (9 + 5 * n) (aa 9 n, .inr (1, (kF9 aa σ n).set 7 (.int v))) = kW aa q (sI σ 5 n 0 v) := by
  refine wmap_set kC_nd (kpos_9 n hn) ?_ ?_
  · simp [kE, kF9, gI_sI, gL_sL, gI_sL, gL_sI]
  · intro f9 n9 hne
    match f9, hne with
    | 0, _ => rfl
    | 1, _ => rfl
    | 2, _ => rfl
    | 3, _ => rfl
    | 4, _ => rfl
    | 5, _ => rfl
    | 6, _ => rfl
    | 7, _ => rfl
    | 8, _ => rfl
    | 9, hne =>
      have hn9 : ¬ n9 = n := fun e9 => hne ⟨rfl, e9⟩
      simp [kE, kF9, gI_sI, gL_sL, gI_sL, gL_sI, hn9]
    | 10, _ => rfl
    | 11, _ => rfl
    | 12, _ => rfl
    | 13, _ => rfl
    | 14, _ => rfl
    | 15, _ => rfl
    | k9 + 16, _ => rfl
theorem kp_9_roundsLeft (hx : p.tables.exec = Jvm.exec) (hb : c.code = cc) (ht : ∀ w ∈ lw_g, w.before args s = true) (hown : s.vm.findClass own = some m.cls) (hK : va_K D kCl (kT q) s) (hP : va_P D kCl (kW aa q σ) H) (hJ : wJ kC aa) (hS : va_S (wA kC aa) s.heap H locs) (hn : n < 12) {v : Int32} (hl : Cond.fieldLink own index bR_P "roundsLeft" "I" ∈ lw_g) (hd : decode cc pc = .ok (.putfield index, 3)) (kk : ∀ (H1 : Heap) (locs1 : List Loc), va_P D kCl (kW aa q (sI σ 5 n 0 v)) H1 → va_S (wA kC aa) s.heap H1 locs1 → W p l e R s m args below meth c H1 locs1 cells slots Q (F0 m (pc + 3) ls rest)) : W p l e R s m args below meth c H locs cells slots Q (F0 m pc ls (.int v :: .ref (aa 9 n) :: rest)) := by
  refine va_put (D := D) (v := .int v) (ty := .int) (C := bR_P) (T := bT_P) (N := 16) hx hb ht bin_P bty_P bo_P bn_P hown hK hP (wmap_D hJ) hS (9 + 5 * n) (kat_9 hn) rfl 7 (by decide) (ht _ hl) (fun _ h9 => h9) rfl (by decide +kernel) rfl rfl (Nat.le_of_ble_eq_true rfl) hd (fun H1 locs1 hP1 _ hS1 => kk H1 locs1 ?_ hS1)
  rw [← kset_9_roundsLeft hn]
  exact hP1
theorem kset_9_handler {v : Int32} (hn : n < 12) : (kW aa q σ).set (9 + 5 * n) (aa 9 n, .inr (1, (kF9 aa σ n).set 8 (.int v))) = kW aa q (sI σ 6 n 0 v) := by
  refine wmap_set kC_nd (kpos_9 n hn) ?_ ?_
  · simp [kE, kF9, gI_sI, gL_sL, gI_sL, gL_sI]
  · intro f9 n9 hne
    match f9, hne with
    | 0, _ => rfl
    | 1, _ => rfl
    | 2, _ => rfl
    | 3, _ => rfl
    | 4, _ => rfl
    | 5, _ => rfl
    | 6, _ => rfl
    | 7, _ => rfl
    | 8, _ => rfl
    | 9, hne =>
      have hn9 : ¬ n9 = n := fun e9 => hne ⟨rfl, e9⟩
      simp [kE, kF9, gI_sI, gL_sL, gI_sL, gL_sI, hn9]
    | 10, _ => rfl
    | 11, _ => rfl
    | 12, _ => rfl
    | 13, _ => rfl
    | 14, _ => rfl
    | 15, _ => rfl
    | k9 + 16, _ => rfl
theorem kp_9_handler (hx : p.tables.exec = Jvm.exec) (hb : c.code = cc) (ht : ∀ w ∈ lw_g, w.before args s = true) (hown : s.vm.findClass own = some m.cls) (hK : va_K D kCl (kT q) s) (hP : va_P D kCl (kW aa q σ) H) (hJ : wJ kC aa) (hS : va_S (wA kC aa) s.heap H locs) (hn : n < 12) {v : Int32} (hl : Cond.fieldLink own index bR_P "handler" "I" ∈ lw_g) (hd : decode cc pc = .ok (.putfield index, 3)) (kk : ∀ (H1 : Heap) (locs1 : List Loc), va_P D kCl (kW aa q (sI σ 6 n 0 v)) H1 → va_S (wA kC aa) s.heap H1 locs1 → W p l e R s m args below meth c H1 locs1 cells slots Q (F0 m (pc + 3) ls rest)) : W p l e R s m args below meth c H locs cells slots Q (F0 m pc ls (.int v :: .ref (aa 9 n) :: rest)) := by
  refine va_put (D := D) (v := .int v) (ty := .int) (C := bR_P) (T := bT_P) (N := 16) hx hb ht bin_P bty_P bo_P bn_P hown hK hP (wmap_D hJ) hS (9 + 5 * n) (kat_9 hn) rfl 8 (by decide) (ht _ hl) (fun _ h9 => h9) rfl (by decide +kernel) rfl rfl (Nat.le_of_ble_eq_true rfl) hd (fun H1 locs1 hP1 _ hS1 => kk H1 locs1 ?_ hS1)
  rw [← kset_9_handler hn]
  exact hP1
theorem kset_9_state {v : Int32} (hn : n < 12) : (kW aa q σ).set (9 + 5 * n) (aa 9 n, .inr (1, (kF9 aa σ n).set 9 (.int v))) = kW aa q (sI σ 7 n 0 v) := by
  refine wmap_set kC_nd (kpos_9 n hn) ?_ ?_
  · simp [kE, kF9, gI_sI, gL_sL, gI_sL, gL_sI]
  · intro f9 n9 hne
    match f9, hne with
    | 0, _ => rfl
    | 1, _ => rfl
    | 2, _ => rfl
    | 3, _ => rfl
    | 4, _ => rfl
    | 5, _ => rfl
    | 6, _ => rfl
    | 7, _ => rfl
    | 8, _ => rfl
    | 9, hne =>
      have hn9 : ¬ n9 = n := fun e9 => hne ⟨rfl, e9⟩
      simp [kE, kF9, gI_sI, gL_sL, gI_sL, gL_sI, hn9]
    | 10, _ => rfl
    | 11, _ => rfl
    | 12, _ => rfl
    | 13, _ => rfl
    | 14, _ => rfl
    | 15, _ => rfl
    | k9 + 16, _ => rfl
theorem kp_9_state (hx : p.tables.exec = Jvm.exec) (hb : c.code = cc) (ht : ∀ w ∈ lw_g, w.before args s = true) (hown : s.vm.findClass own = some m.cls) (hK : va_K D kCl (kT q) s) (hP : va_P D kCl (kW aa q σ) H) (hJ : wJ kC aa) (hS : va_S (wA kC aa) s.heap H locs) (hn : n < 12) {v : Int32} (hl : Cond.fieldLink own index bR_P "state" "I" ∈ lw_g) (hd : decode cc pc = .ok (.putfield index, 3)) (kk : ∀ (H1 : Heap) (locs1 : List Loc), va_P D kCl (kW aa q (sI σ 7 n 0 v)) H1 → va_S (wA kC aa) s.heap H1 locs1 → W p l e R s m args below meth c H1 locs1 cells slots Q (F0 m (pc + 3) ls rest)) : W p l e R s m args below meth c H locs cells slots Q (F0 m pc ls (.int v :: .ref (aa 9 n) :: rest)) := by
  refine va_put (D := D) (v := .int v) (ty := .int) (C := bR_P) (T := bT_P) (N := 16) hx hb ht bin_P bty_P bo_P bn_P hown hK hP (wmap_D hJ) hS (9 + 5 * n) (kat_9 hn) rfl 9 (by decide) (ht _ hl) (fun _ h9 => h9) rfl (by decide +kernel) rfl rfl (Nat.le_of_ble_eq_true rfl) hd (fun H1 locs1 hP1 _ hS1 => kk H1 locs1 ?_ hS1)
  rw [← kset_9_state hn]
  exact hP1
theorem kset_9_place {v : Int32} (hn : n < 12) : (kW aa q σ).set (9 + 5 * n) (aa 9 n, .inr (1, (kF9 aa σ n).set 10 (.int v))) = kW aa q (sI σ 8 n 0 v) := by
  refine wmap_set kC_nd (kpos_9 n hn) ?_ ?_
  · simp [kE, kF9, gI_sI, gL_sL, gI_sL, gL_sI]
  · intro f9 n9 hne
    match f9, hne with
    | 0, _ => rfl
    | 1, _ => rfl
    | 2, _ => rfl
    | 3, _ => rfl
    | 4, _ => rfl
    | 5, _ => rfl
    | 6, _ => rfl
    | 7, _ => rfl
    | 8, _ => rfl
    | 9, hne =>
      have hn9 : ¬ n9 = n := fun e9 => hne ⟨rfl, e9⟩
      simp [kE, kF9, gI_sI, gL_sL, gI_sL, gL_sI, hn9]
    | 10, _ => rfl
    | 11, _ => rfl
    | 12, _ => rfl
    | 13, _ => rfl
    | 14, _ => rfl
    | 15, _ => rfl
    | k9 + 16, _ => rfl
theorem kp_9_place (hx : p.tables.exec = Jvm.exec) (hb : c.code = cc) (ht : ∀ w ∈ lw_g, w.before args s = true) (hown : s.vm.findClass own = some m.cls) (hK : va_K D kCl (kT q) s) (hP : va_P D kCl (kW aa q σ) H) (hJ : wJ kC aa) (hS : va_S (wA kC aa) s.heap H locs) (hn : n < 12) {v : Int32} (hl : Cond.fieldLink own index bR_P "place" "I" ∈ lw_g) (hd : decode cc pc = .ok (.putfield index, 3)) (kk : ∀ (H1 : Heap) (locs1 : List Loc), va_P D kCl (kW aa q (sI σ 8 n 0 v)) H1 → va_S (wA kC aa) s.heap H1 locs1 → W p l e R s m args below meth c H1 locs1 cells slots Q (F0 m (pc + 3) ls rest)) : W p l e R s m args below meth c H locs cells slots Q (F0 m pc ls (.int v :: .ref (aa 9 n) :: rest)) := by
  refine va_put (D := D) (v := .int v) (ty := .int) (C := bR_P) (T := bT_P) (N := 16) hx hb ht bin_P bty_P bo_P bn_P hown hK hP (wmap_D hJ) hS (9 + 5 * n) (kat_9 hn) rfl 10 (by decide) (ht _ hl) (fun _ h9 => h9) rfl (by decide +kernel) rfl rfl (Nat.le_of_ble_eq_true rfl) hd (fun H1 locs1 hP1 _ hS1 => kk H1 locs1 ?_ hS1)
  rw [← kset_9_place hn]
  exact hP1
theorem kset_9_doing {v : Int32} (hn : n < 12) : (kW aa q σ).set (9 + 5 * n) (aa 9 n, .inr (1, (kF9 aa σ n).set 11 (.int v))) = kW aa q (sI σ 9 n 0 v) := by
  refine wmap_set kC_nd (kpos_9 n hn) ?_ ?_
  · simp [kE, kF9, gI_sI, gL_sL, gI_sL, gL_sI]
  · intro f9 n9 hne
    match f9, hne with
    | 0, _ => rfl
    | 1, _ => rfl
    | 2, _ => rfl
    | 3, _ => rfl
    | 4, _ => rfl
    | 5, _ => rfl
    | 6, _ => rfl
    | 7, _ => rfl
    | 8, _ => rfl
    | 9, hne =>
      have hn9 : ¬ n9 = n := fun e9 => hne ⟨rfl, e9⟩
      simp [kE, kF9, gI_sI, gL_sL, gI_sL, gL_sI, hn9]
    | 10, _ => rfl
    | 11, _ => rfl
    | 12, _ => rfl
    | 13, _ => rfl
    | 14, _ => rfl
    | 15, _ => rfl
    | k9 + 16, _ => rfl
theorem kp_9_doing (hx : p.tables.exec = Jvm.exec) (hb : c.code = cc) (ht : ∀ w ∈ lw_g, w.before args s = true) (hown : s.vm.findClass own = some m.cls) (hK : va_K D kCl (kT q) s) (hP : va_P D kCl (kW aa q σ) H) (hJ : wJ kC aa) (hS : va_S (wA kC aa) s.heap H locs) (hn : n < 12) {v : Int32} (hl : Cond.fieldLink own index bR_P "doing" "I" ∈ lw_g) (hd : decode cc pc = .ok (.putfield index, 3)) (kk : ∀ (H1 : Heap) (locs1 : List Loc), va_P D kCl (kW aa q (sI σ 9 n 0 v)) H1 → va_S (wA kC aa) s.heap H1 locs1 → W p l e R s m args below meth c H1 locs1 cells slots Q (F0 m (pc + 3) ls rest)) : W p l e R s m args below meth c H locs cells slots Q (F0 m pc ls (.int v :: .ref (aa 9 n) :: rest)) := by
  refine va_put (D := D) (v := .int v) (ty := .int) (C := bR_P) (T := bT_P) (N := 16) hx hb ht bin_P bty_P bo_P bn_P hown hK hP (wmap_D hJ) hS (9 + 5 * n) (kat_9 hn) rfl 11 (by decide) (ht _ hl) (fun _ h9 => h9) rfl (by decide +kernel) rfl rfl (Nat.le_of_ble_eq_true rfl) hd (fun H1 locs1 hP1 _ hS1 => kk H1 locs1 ?_ hS1)
  rw [← kset_9_doing hn]
  exact hP1
theorem kset_9_listed {v : Int32} (hn : n < 12) : (kW aa q σ).set (9 + 5 * n) (aa 9 n, .inr (1, (kF9 aa σ n).set 12 (.int v))) = kW aa q (sI σ 10 n 0 v) := by
  refine wmap_set kC_nd (kpos_9 n hn) ?_ ?_
  · simp [kE, kF9, gI_sI, gL_sL, gI_sL, gL_sI]
  · intro f9 n9 hne
    match f9, hne with
    | 0, _ => rfl
    | 1, _ => rfl
    | 2, _ => rfl
    | 3, _ => rfl
    | 4, _ => rfl
    | 5, _ => rfl
    | 6, _ => rfl
    | 7, _ => rfl
    | 8, _ => rfl
    | 9, hne =>
      have hn9 : ¬ n9 = n := fun e9 => hne ⟨rfl, e9⟩
      simp [kE, kF9, gI_sI, gL_sL, gI_sL, gL_sI, hn9]
    | 10, _ => rfl
    | 11, _ => rfl
    | 12, _ => rfl
    | 13, _ => rfl
    | 14, _ => rfl
    | 15, _ => rfl
    | k9 + 16, _ => rfl
theorem kp_9_listed (hx : p.tables.exec = Jvm.exec) (hb : c.code = cc) (ht : ∀ w ∈ lw_g, w.before args s = true) (hown : s.vm.findClass own = some m.cls) (hK : va_K D kCl (kT q) s) (hP : va_P D kCl (kW aa q σ) H) (hJ : wJ kC aa) (hS : va_S (wA kC aa) s.heap H locs) (hn : n < 12) {v : Int32} (hz : bz v = true) (hl : Cond.fieldLink own index bR_P "listed" "Z" ∈ lw_g) (hd : decode cc pc = .ok (.putfield index, 3)) (kk : ∀ (H1 : Heap) (locs1 : List Loc), va_P D kCl (kW aa q (sI σ 10 n 0 v)) H1 → va_S (wA kC aa) s.heap H1 locs1 → W p l e R s m args below meth c H1 locs1 cells slots Q (F0 m (pc + 3) ls rest)) : W p l e R s m args below meth c H locs cells slots Q (F0 m pc ls (.int v :: .ref (aa 9 n) :: rest)) := by
  refine va_put (D := D) (v := .int v) (ty := .boolean) (C := bR_P) (T := bT_P) (N := 16) hx hb ht bin_P bty_P bo_P bn_P hown hK hP (wmap_D hJ) hS (9 + 5 * n) (kat_9 hn) rfl 12 (by decide) (ht _ hl) (fun _ h9 => h9) rfl (by decide +kernel) (bz_nar hz) (bz_fit hz) (Nat.le_of_ble_eq_true rfl) hd (fun H1 locs1 hP1 _ hS1 => kk H1 locs1 ?_ hS1)
  rw [← kset_9_listed hn]
  exact hP1
theorem kset_9_time {v : Int64} (hn : n < 12) : (kW aa q σ).set (9 + 5 * n) (aa 9 n, .inr (1, (kF9 aa σ n).set 13 (.long v))) = kW aa q (sL σ 2 n 0 v) := by
  refine wmap_set kC_nd (kpos_9 n hn) ?_ ?_
  · simp [kE, kF9, gI_sI, gL_sL, gI_sL, gL_sI]
  · intro f9 n9 hne
    match f9, hne with
    | 0, _ => rfl
    | 1, _ => rfl
    | 2, _ => rfl
    | 3, _ => rfl
    | 4, _ => rfl
    | 5, _ => rfl
    | 6, _ => rfl
    | 7, _ => rfl
    | 8, _ => rfl
    | 9, hne =>
      have hn9 : ¬ n9 = n := fun e9 => hne ⟨rfl, e9⟩
      simp [kE, kF9, gI_sI, gL_sL, gI_sL, gL_sI, hn9]
    | 10, _ => rfl
    | 11, _ => rfl
    | 12, _ => rfl
    | 13, _ => rfl
    | 14, _ => rfl
    | 15, _ => rfl
    | k9 + 16, _ => rfl
theorem kp_9_time (hx : p.tables.exec = Jvm.exec) (hb : c.code = cc) (ht : ∀ w ∈ lw_g, w.before args s = true) (hown : s.vm.findClass own = some m.cls) (hK : va_K D kCl (kT q) s) (hP : va_P D kCl (kW aa q σ) H) (hJ : wJ kC aa) (hS : va_S (wA kC aa) s.heap H locs) (hn : n < 12) {v : Int64} (hl : Cond.fieldLink own index bR_P "time" "J" ∈ lw_g) (hd : decode cc pc = .ok (.putfield index, 3)) (kk : ∀ (H1 : Heap) (locs1 : List Loc), va_P D kCl (kW aa q (sL σ 2 n 0 v)) H1 → va_S (wA kC aa) s.heap H1 locs1 → W p l e R s m args below meth c H1 locs1 cells slots Q (F0 m (pc + 3) ls rest)) : W p l e R s m args below meth c H locs cells slots Q (F0 m pc ls (.long v :: .ref (aa 9 n) :: rest)) := by
  refine va_put (D := D) (v := .long v) (ty := .long) (C := bR_P) (T := bT_P) (N := 16) hx hb ht bin_P bty_P bo_P bn_P hown hK hP (wmap_D hJ) hS (9 + 5 * n) (kat_9 hn) rfl 13 (by decide) (ht _ hl) (fun _ h9 => h9) rfl (by decide +kernel) rfl rfl (Nat.le_of_ble_eq_true rfl) hd (fun H1 locs1 hP1 _ hS1 => kk H1 locs1 ?_ hS1)
  rw [← kset_9_time hn]
  exact hP1
theorem kset_9_entry {v : Int64} (hn : n < 12) : (kW aa q σ).set (9 + 5 * n) (aa 9 n, .inr (1, (kF9 aa σ n).set 14 (.long v))) = kW aa q (sL σ 3 n 0 v) := by
  refine wmap_set kC_nd (kpos_9 n hn) ?_ ?_
  · simp [kE, kF9, gI_sI, gL_sL, gI_sL, gL_sI]
  · intro f9 n9 hne
    match f9, hne with
    | 0, _ => rfl
    | 1, _ => rfl
    | 2, _ => rfl
    | 3, _ => rfl
    | 4, _ => rfl
    | 5, _ => rfl
    | 6, _ => rfl
    | 7, _ => rfl
    | 8, _ => rfl
    | 9, hne =>
      have hn9 : ¬ n9 = n := fun e9 => hne ⟨rfl, e9⟩
      simp [kE, kF9, gI_sI, gL_sL, gI_sL, gL_sI, hn9]
    | 10, _ => rfl
    | 11, _ => rfl
    | 12, _ => rfl
    | 13, _ => rfl
    | 14, _ => rfl
    | 15, _ => rfl
    | k9 + 16, _ => rfl
theorem kp_9_entry (hx : p.tables.exec = Jvm.exec) (hb : c.code = cc) (ht : ∀ w ∈ lw_g, w.before args s = true) (hown : s.vm.findClass own = some m.cls) (hK : va_K D kCl (kT q) s) (hP : va_P D kCl (kW aa q σ) H) (hJ : wJ kC aa) (hS : va_S (wA kC aa) s.heap H locs) (hn : n < 12) {v : Int64} (hl : Cond.fieldLink own index bR_P "entry" "J" ∈ lw_g) (hd : decode cc pc = .ok (.putfield index, 3)) (kk : ∀ (H1 : Heap) (locs1 : List Loc), va_P D kCl (kW aa q (sL σ 3 n 0 v)) H1 → va_S (wA kC aa) s.heap H1 locs1 → W p l e R s m args below meth c H1 locs1 cells slots Q (F0 m (pc + 3) ls rest)) : W p l e R s m args below meth c H locs cells slots Q (F0 m pc ls (.long v :: .ref (aa 9 n) :: rest)) := by
  refine va_put (D := D) (v := .long v) (ty := .long) (C := bR_P) (T := bT_P) (N := 16) hx hb ht bin_P bty_P bo_P bn_P hown hK hP (wmap_D hJ) hS (9 + 5 * n) (kat_9 hn) rfl 14 (by decide) (ht _ hl) (fun _ h9 => h9) rfl (by decide +kernel) rfl rfl (Nat.le_of_ble_eq_true rfl) hd (fun H1 locs1 hP1 _ hS1 => kk H1 locs1 ?_ hS1)
  rw [← kset_9_entry hn]
  exact hP1
theorem kset_9_since {v : Int64} (hn : n < 12) : (kW aa q σ).set (9 + 5 * n) (aa 9 n, .inr (1, (kF9 aa σ n).set 15 (.long v))) = kW aa q (sL σ 4 n 0 v) := by
  refine wmap_set kC_nd (kpos_9 n hn) ?_ ?_
  · simp [kE, kF9, gI_sI, gL_sL, gI_sL, gL_sI]
  · intro f9 n9 hne
    match f9, hne with
    | 0, _ => rfl
    | 1, _ => rfl
    | 2, _ => rfl
    | 3, _ => rfl
    | 4, _ => rfl
    | 5, _ => rfl
    | 6, _ => rfl
    | 7, _ => rfl
    | 8, _ => rfl
    | 9, hne =>
      have hn9 : ¬ n9 = n := fun e9 => hne ⟨rfl, e9⟩
      simp [kE, kF9, gI_sI, gL_sL, gI_sL, gL_sI, hn9]
    | 10, _ => rfl
    | 11, _ => rfl
    | 12, _ => rfl
    | 13, _ => rfl
    | 14, _ => rfl
    | 15, _ => rfl
    | k9 + 16, _ => rfl
theorem kp_9_since (hx : p.tables.exec = Jvm.exec) (hb : c.code = cc) (ht : ∀ w ∈ lw_g, w.before args s = true) (hown : s.vm.findClass own = some m.cls) (hK : va_K D kCl (kT q) s) (hP : va_P D kCl (kW aa q σ) H) (hJ : wJ kC aa) (hS : va_S (wA kC aa) s.heap H locs) (hn : n < 12) {v : Int64} (hl : Cond.fieldLink own index bR_P "since" "J" ∈ lw_g) (hd : decode cc pc = .ok (.putfield index, 3)) (kk : ∀ (H1 : Heap) (locs1 : List Loc), va_P D kCl (kW aa q (sL σ 4 n 0 v)) H1 → va_S (wA kC aa) s.heap H1 locs1 → W p l e R s m args below meth c H1 locs1 cells slots Q (F0 m (pc + 3) ls rest)) : W p l e R s m args below meth c H locs cells slots Q (F0 m pc ls (.long v :: .ref (aa 9 n) :: rest)) := by
  refine va_put (D := D) (v := .long v) (ty := .long) (C := bR_P) (T := bT_P) (N := 16) hx hb ht bin_P bty_P bo_P bn_P hown hK hP (wmap_D hJ) hS (9 + 5 * n) (kat_9 hn) rfl 15 (by decide) (ht _ hl) (fun _ h9 => h9) rfl (by decide +kernel) rfl rfl (Nat.le_of_ble_eq_true rfl) hd (fun H1 locs1 hP1 _ hS1 => kk H1 locs1 ?_ hS1)
  rw [← kset_9_since hn]
  exact hP1
theorem kg_14 (hx : p.tables.exec = Jvm.exec) (hb : c.code = cc) (ht : ∀ w ∈ lw_g, w.before args s = true) (hown : s.vm.findClass own = some m.cls) (hK : va_K D kCl (kT q) s) (hP : va_P D kCl (kW aa q σ) H) (hn : n < 4) (k : Nat) (hk : k < 6) (hl : Cond.fieldLink own index bR_E (bT_E k).2.1 (bT_E k).2.2.1 ∈ lw_g) {v : Value} (hv : (kF14 aa σ n)[k]? = some v) (hd : decode cc pc = .ok (.getfield index, 3)) (kk : W p l e R s m args below meth c H locs cells slots Q (F0 m (pc + 3) ls (v :: rest))) : W p l e R s m args below meth c H locs cells slots Q (F0 m pc ls (.ref (aa 14 n) :: rest)) :=
  va_get (D := D) (C := bR_E) (T := bT_E) (N := 6) hx hb ht bin_E hown hK hP (69 + 3 * n) (kat_14 hn) rfl k hk (ht _ hl) (fun y9 h9 => by rw [bcl_E] at h9; exact h9) hv hd kk
theorem kr_14 (hK : va_K D kCl (kT q) s) (hP : va_P D kCl (kW aa q σ) H) (hn : n < 4) : ∃ cell : Cell, H[aa 14 n]? = some cell ∧ cell.vm.isStatics = false ∧ s.vm.findClass bR_E = some cell.cls := va_recv (q := (bR_E, bT_E, 6)) hK hP rfl (kat_14 hn)
theorem kset_14_capacity {v : Int32} (hn : n < 4) : (kW aa q σ).set (69 + 3 * n) (aa 14 n, .inr (3, (kF14 aa σ n).set 1 (.int v))) = kW aa q (sI σ 15 n 0 v) := by
  refine wmap_set kC_nd (kpos_14 n hn) ?_ ?_
  · simp [kE, kF14, gI_sI, gL_sL, gI_sL, gL_sI]
  · intro f9 n9 hne
    match f9, hne with
    | 0, _ => rfl
    | 1, _ => rfl
    | 2, _ => rfl
    | 3, _ => rfl
    | 4, _ => rfl
    | 5, _ => rfl
    | 6, _ => rfl
    | 7, _ => rfl
    | 8, _ => rfl
    | 9, _ => rfl
    | 10, _ => rfl
    | 11, _ => rfl
    | 12, _ => rfl
    | 13, _ => rfl
    | 14, hne =>
      have hn9 : ¬ n9 = n := fun e9 => hne ⟨rfl, e9⟩
      simp [kE, kF14, gI_sI, gL_sL, gI_sL, gL_sI, hn9]
    | 15, _ => rfl
    | k9 + 16, _ => rfl
theorem kp_14_capacity (hx : p.tables.exec = Jvm.exec) (hb : c.code = cc) (ht : ∀ w ∈ lw_g, w.before args s = true) (hown : s.vm.findClass own = some m.cls) (hK : va_K D kCl (kT q) s) (hP : va_P D kCl (kW aa q σ) H) (hJ : wJ kC aa) (hS : va_S (wA kC aa) s.heap H locs) (hn : n < 4) {v : Int32} (hl : Cond.fieldLink own index bR_E "capacity" "I" ∈ lw_g) (hd : decode cc pc = .ok (.putfield index, 3)) (kk : ∀ (H1 : Heap) (locs1 : List Loc), va_P D kCl (kW aa q (sI σ 15 n 0 v)) H1 → va_S (wA kC aa) s.heap H1 locs1 → W p l e R s m args below meth c H1 locs1 cells slots Q (F0 m (pc + 3) ls rest)) : W p l e R s m args below meth c H locs cells slots Q (F0 m pc ls (.int v :: .ref (aa 14 n) :: rest)) := by
  refine va_put (D := D) (v := .int v) (ty := .int) (C := bR_E) (T := bT_E) (N := 6) hx hb ht bin_E bty_E bo_E bn_E hown hK hP (wmap_D hJ) hS (69 + 3 * n) (kat_14 hn) rfl 1 (by decide) (ht _ hl) (fun _ h9 => h9) rfl (by decide +kernel) rfl rfl (Nat.le_of_ble_eq_true rfl) hd (fun H1 locs1 hP1 _ hS1 => kk H1 locs1 ?_ hS1)
  rw [← kset_14_capacity hn]
  exact hP1
theorem kset_14_seized {v : Int32} (hn : n < 4) : (kW aa q σ).set (69 + 3 * n) (aa 14 n, .inr (3, (kF14 aa σ n).set 2 (.int v))) = kW aa q (sI σ 16 n 0 v) := by
  refine wmap_set kC_nd (kpos_14 n hn) ?_ ?_
  · simp [kE, kF14, gI_sI, gL_sL, gI_sL, gL_sI]
  · intro f9 n9 hne
    match f9, hne with
    | 0, _ => rfl
    | 1, _ => rfl
    | 2, _ => rfl
    | 3, _ => rfl
    | 4, _ => rfl
    | 5, _ => rfl
    | 6, _ => rfl
    | 7, _ => rfl
    | 8, _ => rfl
    | 9, _ => rfl
    | 10, _ => rfl
    | 11, _ => rfl
    | 12, _ => rfl
    | 13, _ => rfl
    | 14, hne =>
      have hn9 : ¬ n9 = n := fun e9 => hne ⟨rfl, e9⟩
      simp [kE, kF14, gI_sI, gL_sL, gI_sL, gL_sI, hn9]
    | 15, _ => rfl
    | k9 + 16, _ => rfl
theorem kp_14_seized (hx : p.tables.exec = Jvm.exec) (hb : c.code = cc) (ht : ∀ w ∈ lw_g, w.before args s = true) (hown : s.vm.findClass own = some m.cls) (hK : va_K D kCl (kT q) s) (hP : va_P D kCl (kW aa q σ) H) (hJ : wJ kC aa) (hS : va_S (wA kC aa) s.heap H locs) (hn : n < 4) {v : Int32} (hl : Cond.fieldLink own index bR_E "seized" "I" ∈ lw_g) (hd : decode cc pc = .ok (.putfield index, 3)) (kk : ∀ (H1 : Heap) (locs1 : List Loc), va_P D kCl (kW aa q (sI σ 16 n 0 v)) H1 → va_S (wA kC aa) s.heap H1 locs1 → W p l e R s m args below meth c H1 locs1 cells slots Q (F0 m (pc + 3) ls rest)) : W p l e R s m args below meth c H locs cells slots Q (F0 m pc ls (.int v :: .ref (aa 14 n) :: rest)) := by
  refine va_put (D := D) (v := .int v) (ty := .int) (C := bR_E) (T := bT_E) (N := 6) hx hb ht bin_E bty_E bo_E bn_E hown hK hP (wmap_D hJ) hS (69 + 3 * n) (kat_14 hn) rfl 2 (by decide) (ht _ hl) (fun _ h9 => h9) rfl (by decide +kernel) rfl rfl (Nat.le_of_ble_eq_true rfl) hd (fun H1 locs1 hP1 _ hS1 => kk H1 locs1 ?_ hS1)
  rw [← kset_14_seized hn]
  exact hP1
theorem kset_14_preempts {v : Int32} (hn : n < 4) : (kW aa q σ).set (69 + 3 * n) (aa 14 n, .inr (3, (kF14 aa σ n).set 3 (.int v))) = kW aa q (sI σ 17 n 0 v) := by
  refine wmap_set kC_nd (kpos_14 n hn) ?_ ?_
  · simp [kE, kF14, gI_sI, gL_sL, gI_sL, gL_sI]
  · intro f9 n9 hne
    match f9, hne with
    | 0, _ => rfl
    | 1, _ => rfl
    | 2, _ => rfl
    | 3, _ => rfl
    | 4, _ => rfl
    | 5, _ => rfl
    | 6, _ => rfl
    | 7, _ => rfl
    | 8, _ => rfl
    | 9, _ => rfl
    | 10, _ => rfl
    | 11, _ => rfl
    | 12, _ => rfl
    | 13, _ => rfl
    | 14, hne =>
      have hn9 : ¬ n9 = n := fun e9 => hne ⟨rfl, e9⟩
      simp [kE, kF14, gI_sI, gL_sL, gI_sL, gL_sI, hn9]
    | 15, _ => rfl
    | k9 + 16, _ => rfl
theorem kp_14_preempts (hx : p.tables.exec = Jvm.exec) (hb : c.code = cc) (ht : ∀ w ∈ lw_g, w.before args s = true) (hown : s.vm.findClass own = some m.cls) (hK : va_K D kCl (kT q) s) (hP : va_P D kCl (kW aa q σ) H) (hJ : wJ kC aa) (hS : va_S (wA kC aa) s.heap H locs) (hn : n < 4) {v : Int32} (hz : bz v = true) (hl : Cond.fieldLink own index bR_E "preempts" "Z" ∈ lw_g) (hd : decode cc pc = .ok (.putfield index, 3)) (kk : ∀ (H1 : Heap) (locs1 : List Loc), va_P D kCl (kW aa q (sI σ 17 n 0 v)) H1 → va_S (wA kC aa) s.heap H1 locs1 → W p l e R s m args below meth c H1 locs1 cells slots Q (F0 m (pc + 3) ls rest)) : W p l e R s m args below meth c H locs cells slots Q (F0 m pc ls (.int v :: .ref (aa 14 n) :: rest)) := by
  refine va_put (D := D) (v := .int v) (ty := .boolean) (C := bR_E) (T := bT_E) (N := 6) hx hb ht bin_E bty_E bo_E bn_E hown hK hP (wmap_D hJ) hS (69 + 3 * n) (kat_14 hn) rfl 3 (by decide) (ht _ hl) (fun _ h9 => h9) rfl (by decide +kernel) (bz_nar hz) (bz_fit hz) (Nat.le_of_ble_eq_true rfl) hd (fun H1 locs1 hP1 _ hS1 => kk H1 locs1 ?_ hS1)
  rw [← kset_14_preempts hn]
  exact hP1
theorem kset_14_area {v : Int64} (hn : n < 4) : (kW aa q σ).set (69 + 3 * n) (aa 14 n, .inr (3, (kF14 aa σ n).set 4 (.long v))) = kW aa q (sL σ 5 n 0 v) := by
  refine wmap_set kC_nd (kpos_14 n hn) ?_ ?_
  · simp [kE, kF14, gI_sI, gL_sL, gI_sL, gL_sI]
  · intro f9 n9 hne
    match f9, hne with
    | 0, _ => rfl
    | 1, _ => rfl
    | 2, _ => rfl
    | 3, _ => rfl
    | 4, _ => rfl
    | 5, _ => rfl
    | 6, _ => rfl
    | 7, _ => rfl
    | 8, _ => rfl
    | 9, _ => rfl
    | 10, _ => rfl
    | 11, _ => rfl
    | 12, _ => rfl
    | 13, _ => rfl
    | 14, hne =>
      have hn9 : ¬ n9 = n := fun e9 => hne ⟨rfl, e9⟩
      simp [kE, kF14, gI_sI, gL_sL, gI_sL, gL_sI, hn9]
    | 15, _ => rfl
    | k9 + 16, _ => rfl
theorem kp_14_area (hx : p.tables.exec = Jvm.exec) (hb : c.code = cc) (ht : ∀ w ∈ lw_g, w.before args s = true) (hown : s.vm.findClass own = some m.cls) (hK : va_K D kCl (kT q) s) (hP : va_P D kCl (kW aa q σ) H) (hJ : wJ kC aa) (hS : va_S (wA kC aa) s.heap H locs) (hn : n < 4) {v : Int64} (hl : Cond.fieldLink own index bR_E "area" "J" ∈ lw_g) (hd : decode cc pc = .ok (.putfield index, 3)) (kk : ∀ (H1 : Heap) (locs1 : List Loc), va_P D kCl (kW aa q (sL σ 5 n 0 v)) H1 → va_S (wA kC aa) s.heap H1 locs1 → W p l e R s m args below meth c H1 locs1 cells slots Q (F0 m (pc + 3) ls rest)) : W p l e R s m args below meth c H locs cells slots Q (F0 m pc ls (.long v :: .ref (aa 14 n) :: rest)) := by
  refine va_put (D := D) (v := .long v) (ty := .long) (C := bR_E) (T := bT_E) (N := 6) hx hb ht bin_E bty_E bo_E bn_E hown hK hP (wmap_D hJ) hS (69 + 3 * n) (kat_14 hn) rfl 4 (by decide) (ht _ hl) (fun _ h9 => h9) rfl (by decide +kernel) rfl rfl (Nat.le_of_ble_eq_true rfl) hd (fun H1 locs1 hP1 _ hS1 => kk H1 locs1 ?_ hS1)
  rw [← kset_14_area hn]
  exact hP1
theorem kset_14_waited {v : Int64} (hn : n < 4) : (kW aa q σ).set (69 + 3 * n) (aa 14 n, .inr (3, (kF14 aa σ n).set 5 (.long v))) = kW aa q (sL σ 6 n 0 v) := by
  refine wmap_set kC_nd (kpos_14 n hn) ?_ ?_
  · simp [kE, kF14, gI_sI, gL_sL, gI_sL, gL_sI]
  · intro f9 n9 hne
    match f9, hne with
    | 0, _ => rfl
    | 1, _ => rfl
    | 2, _ => rfl
    | 3, _ => rfl
    | 4, _ => rfl
    | 5, _ => rfl
    | 6, _ => rfl
    | 7, _ => rfl
    | 8, _ => rfl
    | 9, _ => rfl
    | 10, _ => rfl
    | 11, _ => rfl
    | 12, _ => rfl
    | 13, _ => rfl
    | 14, hne =>
      have hn9 : ¬ n9 = n := fun e9 => hne ⟨rfl, e9⟩
      simp [kE, kF14, gI_sI, gL_sL, gI_sL, gL_sI, hn9]
    | 15, _ => rfl
    | k9 + 16, _ => rfl
theorem kp_14_waited (hx : p.tables.exec = Jvm.exec) (hb : c.code = cc) (ht : ∀ w ∈ lw_g, w.before args s = true) (hown : s.vm.findClass own = some m.cls) (hK : va_K D kCl (kT q) s) (hP : va_P D kCl (kW aa q σ) H) (hJ : wJ kC aa) (hS : va_S (wA kC aa) s.heap H locs) (hn : n < 4) {v : Int64} (hl : Cond.fieldLink own index bR_E "waited" "J" ∈ lw_g) (hd : decode cc pc = .ok (.putfield index, 3)) (kk : ∀ (H1 : Heap) (locs1 : List Loc), va_P D kCl (kW aa q (sL σ 6 n 0 v)) H1 → va_S (wA kC aa) s.heap H1 locs1 → W p l e R s m args below meth c H1 locs1 cells slots Q (F0 m (pc + 3) ls rest)) : W p l e R s m args below meth c H locs cells slots Q (F0 m pc ls (.long v :: .ref (aa 14 n) :: rest)) := by
  refine va_put (D := D) (v := .long v) (ty := .long) (C := bR_E) (T := bT_E) (N := 6) hx hb ht bin_E bty_E bo_E bn_E hown hK hP (wmap_D hJ) hS (69 + 3 * n) (kat_14 hn) rfl 5 (by decide) (ht _ hl) (fun _ h9 => h9) rfl (by decide +kernel) rfl rfl (Nat.le_of_ble_eq_true rfl) hd (fun H1 locs1 hP1 _ hS1 => kk H1 locs1 ?_ hS1)
  rw [← kset_14_waited hn]
  exact hP1
theorem kg_15 (hx : p.tables.exec = Jvm.exec) (hb : c.code = cc) (ht : ∀ w ∈ lw_g, w.before args s = true) (hown : s.vm.findClass own = some m.cls) (hK : va_K D kCl (kT q) s) (hP : va_P D kCl (kW aa q σ) H) (hn : n < 4) (k : Nat) (hk : k < 2) (hl : Cond.fieldLink own index bR_T (bT_T k).2.1 (bT_T k).2.2.1 ∈ lw_g) {v : Value} (hv : (kF15 aa σ n)[k]? = some v) (hd : decode cc pc = .ok (.getfield index, 3)) (kk : W p l e R s m args below meth c H locs cells slots Q (F0 m (pc + 3) ls (v :: rest))) : W p l e R s m args below meth c H locs cells slots Q (F0 m pc ls (.ref (aa 15 n) :: rest)) :=
  va_get (D := D) (C := bR_T) (T := bT_T) (N := 2) hx hb ht bin_T hown hK hP (81 + n) (kat_15 hn) rfl k hk (ht _ hl) (fun y9 h9 => by rw [bcl_T] at h9; exact h9) hv hd kk
theorem kr_15 (hK : va_K D kCl (kT q) s) (hP : va_P D kCl (kW aa q σ) H) (hn : n < 4) : ∃ cell : Cell, H[aa 15 n]? = some cell ∧ cell.vm.isStatics = false ∧ s.vm.findClass bR_T = some cell.cls := va_recv (q := (bR_T, bT_T, 2)) hK hP rfl (kat_15 hn)
theorem kset_15_capacity {v : Int32} (hn : n < 4) : (kW aa q σ).set (81 + n) (aa 15 n, .inr (4, (kF15 aa σ n).set 0 (.int v))) = kW aa q (sI σ 20 n 0 v) := by
  refine wmap_set kC_nd (kpos_15 n hn) ?_ ?_
  · simp [kE, kF15, gI_sI, gL_sL, gI_sL, gL_sI]
  · intro f9 n9 hne
    match f9, hne with
    | 0, _ => rfl
    | 1, _ => rfl
    | 2, _ => rfl
    | 3, _ => rfl
    | 4, _ => rfl
    | 5, _ => rfl
    | 6, _ => rfl
    | 7, _ => rfl
    | 8, _ => rfl
    | 9, _ => rfl
    | 10, _ => rfl
    | 11, _ => rfl
    | 12, _ => rfl
    | 13, _ => rfl
    | 14, _ => rfl
    | 15, hne =>
      have hn9 : ¬ n9 = n := fun e9 => hne ⟨rfl, e9⟩
      simp [kE, kF15, gI_sI, gL_sL, gI_sL, gL_sI, hn9]
    | k9 + 16, _ => rfl
theorem kp_15_capacity (hx : p.tables.exec = Jvm.exec) (hb : c.code = cc) (ht : ∀ w ∈ lw_g, w.before args s = true) (hown : s.vm.findClass own = some m.cls) (hK : va_K D kCl (kT q) s) (hP : va_P D kCl (kW aa q σ) H) (hJ : wJ kC aa) (hS : va_S (wA kC aa) s.heap H locs) (hn : n < 4) {v : Int32} (hl : Cond.fieldLink own index bR_T "capacity" "I" ∈ lw_g) (hd : decode cc pc = .ok (.putfield index, 3)) (kk : ∀ (H1 : Heap) (locs1 : List Loc), va_P D kCl (kW aa q (sI σ 20 n 0 v)) H1 → va_S (wA kC aa) s.heap H1 locs1 → W p l e R s m args below meth c H1 locs1 cells slots Q (F0 m (pc + 3) ls rest)) : W p l e R s m args below meth c H locs cells slots Q (F0 m pc ls (.int v :: .ref (aa 15 n) :: rest)) := by
  refine va_put (D := D) (v := .int v) (ty := .int) (C := bR_T) (T := bT_T) (N := 2) hx hb ht bin_T bty_T bo_T bn_T hown hK hP (wmap_D hJ) hS (81 + n) (kat_15 hn) rfl 0 (by decide) (ht _ hl) (fun _ h9 => h9) rfl (by decide +kernel) rfl rfl (Nat.le_of_ble_eq_true rfl) hd (fun H1 locs1 hP1 _ hS1 => kk H1 locs1 ?_ hS1)
  rw [← kset_15_capacity hn]
  exact hP1
theorem kset_15_level {v : Int32} (hn : n < 4) : (kW aa q σ).set (81 + n) (aa 15 n, .inr (4, (kF15 aa σ n).set 1 (.int v))) = kW aa q (sI σ 21 n 0 v) := by
  refine wmap_set kC_nd (kpos_15 n hn) ?_ ?_
  · simp [kE, kF15, gI_sI, gL_sL, gI_sL, gL_sI]
  · intro f9 n9 hne
    match f9, hne with
    | 0, _ => rfl
    | 1, _ => rfl
    | 2, _ => rfl
    | 3, _ => rfl
    | 4, _ => rfl
    | 5, _ => rfl
    | 6, _ => rfl
    | 7, _ => rfl
    | 8, _ => rfl
    | 9, _ => rfl
    | 10, _ => rfl
    | 11, _ => rfl
    | 12, _ => rfl
    | 13, _ => rfl
    | 14, _ => rfl
    | 15, hne =>
      have hn9 : ¬ n9 = n := fun e9 => hne ⟨rfl, e9⟩
      simp [kE, kF15, gI_sI, gL_sL, gI_sL, gL_sI, hn9]
    | k9 + 16, _ => rfl
theorem kp_15_level (hx : p.tables.exec = Jvm.exec) (hb : c.code = cc) (ht : ∀ w ∈ lw_g, w.before args s = true) (hown : s.vm.findClass own = some m.cls) (hK : va_K D kCl (kT q) s) (hP : va_P D kCl (kW aa q σ) H) (hJ : wJ kC aa) (hS : va_S (wA kC aa) s.heap H locs) (hn : n < 4) {v : Int32} (hl : Cond.fieldLink own index bR_T "level" "I" ∈ lw_g) (hd : decode cc pc = .ok (.putfield index, 3)) (kk : ∀ (H1 : Heap) (locs1 : List Loc), va_P D kCl (kW aa q (sI σ 21 n 0 v)) H1 → va_S (wA kC aa) s.heap H1 locs1 → W p l e R s m args below meth c H1 locs1 cells slots Q (F0 m (pc + 3) ls rest)) : W p l e R s m args below meth c H locs cells slots Q (F0 m pc ls (.int v :: .ref (aa 15 n) :: rest)) := by
  refine va_put (D := D) (v := .int v) (ty := .int) (C := bR_T) (T := bT_T) (N := 2) hx hb ht bin_T bty_T bo_T bn_T hown hK hP (wmap_D hJ) hS (81 + n) (kat_15 hn) rfl 1 (by decide) (ht _ hl) (fun _ h9 => h9) rfl (by decide +kernel) rfl rfl (Nat.le_of_ble_eq_true rfl) hd (fun H1 locs1 hP1 _ hS1 => kk H1 locs1 ?_ hS1)
  rw [← kset_15_level hn]
  exact hP1
theorem kl_5 (hx : p.tables.exec = Jvm.exec) (hb : c.code = cc) (hK : va_K D kCl (kT q) s) (hP : va_P D kCl (kW aa q σ) H) (hn : n < 5) {i : Int32} (hi : vp_in i 12) (hd : decode cc pc = .ok (.iaload, 1)) (kk : W p l e R s m args below meth c H locs cells slots Q (F0 m (pc + 1) ls (.int (gI σ 18 n i.toNatClampNeg) :: rest))) : W p l e R s m args below meth c H locs cells slots Q (F0 m pc ls (.int i :: .ref (aa 5 n) :: rest)) :=
  va_iald (f := fun i => gI σ 18 n i) hx hb hK hP (if n = 4 then 5 else 71 + 3 * n) 0 (kat_5 hn) rfl hi hd kk
theorem kset_5 {i0 : Nat} {v : Int32} (hn : n < 5) : (kW aa q σ).set (if n = 4 then 5 else 71 + 3 * n) (aa 5 n, .inl (q 0, 12, .inl (upd (fun i => gI σ 18 n i) i0 v))) = kW aa q (sI σ 18 n i0 v) := by
  refine wmap_set kC_nd (kpos_5 n hn) ?_ ?_
  · rw [upd_sI]
    rfl
  · intro f9 n9 hne
    match f9, hne with
    | 0, _ => rfl
    | 1, _ => rfl
    | 2, _ => rfl
    | 3, _ => rfl
    | 4, _ => rfl
    | 5, hne =>
      have hn9 : ¬ n9 = n := fun e9 => hne ⟨rfl, e9⟩
      simp [kE,  gI_sI, gL_sL, gI_sL, gL_sI, hn9]
    | 6, _ => rfl
    | 7, _ => rfl
    | 8, _ => rfl
    | 9, _ => rfl
    | 10, _ => rfl
    | 11, _ => rfl
    | 12, _ => rfl
    | 13, _ => rfl
    | 14, _ => rfl
    | 15, _ => rfl
    | k9 + 16, _ => rfl
theorem kt_5 (hx : p.tables.exec = Jvm.exec) (hb : c.code = cc) (hK : va_K D kCl (kT q) s) (hP : va_P D kCl (kW aa q σ) H) (hJ : wJ kC aa) (hS : va_S (wA kC aa) s.heap H locs) (hn : n < 5) {i : Int32} (hi : vp_in i 12) {v : Int32} (hd : decode cc pc = .ok (.iastore, 1)) (kk : ∀ (H1 : Heap) (locs1 : List Loc), va_P D kCl (kW aa q (sI σ 18 n i.toNatClampNeg v)) H1 → va_S (wA kC aa) s.heap H1 locs1 → W p l e R s m args below meth c H1 locs1 cells slots Q (F0 m (pc + 1) ls rest)) : W p l e R s m args below meth c H locs cells slots Q (F0 m pc ls (.int v :: .int i :: .ref (aa 5 n) :: rest)) := by
  refine va_iast (f := fun i => gI σ 18 n i) hx hb hK hP (wmap_D hJ) hS (if n = 4 then 5 else 71 + 3 * n) 0 (kat_5 hn) rfl hi hd (fun H1 locs1 hP1 _ hS1 => kk H1 locs1 ?_ hS1)
  rw [← kset_5 hn]
  exact hP1
theorem kl_7 (hx : p.tables.exec = Jvm.exec) (hb : c.code = cc) (hK : va_K D kCl (kT q) s) (hP : va_P D kCl (kW aa q σ) H) (hn : n < 1) {i : Int32} (hi : vp_in i 64) (hd : decode cc pc = .ok (.iaload, 1)) (kk : W p l e R s m args below meth c H locs cells slots Q (F0 m (pc + 1) ls (.int (gI σ 22 n i.toNatClampNeg) :: rest))) : W p l e R s m args below meth c H locs cells slots Q (F0 m pc ls (.int i :: .ref (aa 7 n) :: rest)) :=
  va_iald (f := fun i => gI σ 22 n i) hx hb hK hP 7 0 (kat_7 hn) rfl hi hd kk
theorem kset_7 {i0 : Nat} {v : Int32} (hn : n < 1) : (kW aa q σ).set 7 (aa 7 n, .inl (q 0, 64, .inl (upd (fun i => gI σ 22 n i) i0 v))) = kW aa q (sI σ 22 n i0 v) := by
  refine wmap_set kC_nd (kpos_7 n hn) ?_ ?_
  · rw [upd_sI]
    rfl
  · intro f9 n9 hne
    match f9, hne with
    | 0, _ => rfl
    | 1, _ => rfl
    | 2, _ => rfl
    | 3, _ => rfl
    | 4, _ => rfl
    | 5, _ => rfl
    | 6, _ => rfl
    | 7, hne =>
      have hn9 : ¬ n9 = n := fun e9 => hne ⟨rfl, e9⟩
      simp [kE,  gI_sI, gL_sL, gI_sL, gL_sI, hn9]
    | 8, _ => rfl
    | 9, _ => rfl
    | 10, _ => rfl
    | 11, _ => rfl
    | 12, _ => rfl
    | 13, _ => rfl
    | 14, _ => rfl
    | 15, _ => rfl
    | k9 + 16, _ => rfl
theorem kt_7 (hx : p.tables.exec = Jvm.exec) (hb : c.code = cc) (hK : va_K D kCl (kT q) s) (hP : va_P D kCl (kW aa q σ) H) (hJ : wJ kC aa) (hS : va_S (wA kC aa) s.heap H locs) (hn : n < 1) {i : Int32} (hi : vp_in i 64) {v : Int32} (hd : decode cc pc = .ok (.iastore, 1)) (kk : ∀ (H1 : Heap) (locs1 : List Loc), va_P D kCl (kW aa q (sI σ 22 n i.toNatClampNeg v)) H1 → va_S (wA kC aa) s.heap H1 locs1 → W p l e R s m args below meth c H1 locs1 cells slots Q (F0 m (pc + 1) ls rest)) : W p l e R s m args below meth c H locs cells slots Q (F0 m pc ls (.int v :: .int i :: .ref (aa 7 n) :: rest)) := by
  refine va_iast (f := fun i => gI σ 22 n i) hx hb hK hP (wmap_D hJ) hS 7 0 (kat_7 hn) rfl hi hd (fun H1 locs1 hP1 _ hS1 => kk H1 locs1 ?_ hS1)
  rw [← kset_7 hn]
  exact hP1
theorem kl_8 (hx : p.tables.exec = Jvm.exec) (hb : c.code = cc) (hK : va_K D kCl (kT q) s) (hP : va_P D kCl (kW aa q σ) H) (hn : n < 1) {i : Int32} (hi : vp_in i 12) (hd : decode cc pc = .ok (.iaload, 1)) (kk : W p l e R s m args below meth c H locs cells slots Q (F0 m (pc + 1) ls (.int (gI σ 1 n i.toNatClampNeg) :: rest))) : W p l e R s m args below meth c H locs cells slots Q (F0 m pc ls (.int i :: .ref (aa 8 n) :: rest)) :=
  va_iald (f := fun i => gI σ 1 n i) hx hb hK hP 8 0 (kat_8 hn) rfl hi hd kk
theorem kset_8 {i0 : Nat} {v : Int32} (hn : n < 1) : (kW aa q σ).set 8 (aa 8 n, .inl (q 0, 12, .inl (upd (fun i => gI σ 1 n i) i0 v))) = kW aa q (sI σ 1 n i0 v) := by
  refine wmap_set kC_nd (kpos_8 n hn) ?_ ?_
  · rw [upd_sI]
    rfl
  · intro f9 n9 hne
    match f9, hne with
    | 0, _ => rfl
    | 1, _ => rfl
    | 2, _ => rfl
    | 3, _ => rfl
    | 4, _ => rfl
    | 5, _ => rfl
    | 6, _ => rfl
    | 7, _ => rfl
    | 8, hne =>
      have hn9 : ¬ n9 = n := fun e9 => hne ⟨rfl, e9⟩
      simp [kE,  gI_sI, gL_sL, gI_sL, gL_sI, hn9]
    | 9, _ => rfl
    | 10, _ => rfl
    | 11, _ => rfl
    | 12, _ => rfl
    | 13, _ => rfl
    | 14, _ => rfl
    | 15, _ => rfl
    | k9 + 16, _ => rfl
theorem kt_8 (hx : p.tables.exec = Jvm.exec) (hb : c.code = cc) (hK : va_K D kCl (kT q) s) (hP : va_P D kCl (kW aa q σ) H) (hJ : wJ kC aa) (hS : va_S (wA kC aa) s.heap H locs) (hn : n < 1) {i : Int32} (hi : vp_in i 12) {v : Int32} (hd : decode cc pc = .ok (.iastore, 1)) (kk : ∀ (H1 : Heap) (locs1 : List Loc), va_P D kCl (kW aa q (sI σ 1 n i.toNatClampNeg v)) H1 → va_S (wA kC aa) s.heap H1 locs1 → W p l e R s m args below meth c H1 locs1 cells slots Q (F0 m (pc + 1) ls rest)) : W p l e R s m args below meth c H locs cells slots Q (F0 m pc ls (.int v :: .int i :: .ref (aa 8 n) :: rest)) := by
  refine va_iast (f := fun i => gI σ 1 n i) hx hb hK hP (wmap_D hJ) hS 8 0 (kat_8 hn) rfl hi hd (fun H1 locs1 hP1 _ hS1 => kk H1 locs1 ?_ hS1)
  rw [← kset_8 hn]
  exact hP1
theorem kl_10 (hx : p.tables.exec = Jvm.exec) (hb : c.code = cc) (hK : va_K D kCl (kT q) s) (hP : va_P D kCl (kW aa q σ) H) (hn : n < 12) {i : Int32} (hi : vp_in i 10) (hd : decode cc pc = .ok (.iaload, 1)) (kk : W p l e R s m args below meth c H locs cells slots Q (F0 m (pc + 1) ls (.int (gI σ 11 n i.toNatClampNeg) :: rest))) : W p l e R s m args below meth c H locs cells slots Q (F0 m pc ls (.int i :: .ref (aa 10 n) :: rest)) :=
  va_iald (f := fun i => gI σ 11 n i) hx hb hK hP (10 + 5 * n) 0 (kat_10 hn) rfl hi hd kk
theorem kset_10 {i0 : Nat} {v : Int32} (hn : n < 12) : (kW aa q σ).set (10 + 5 * n) (aa 10 n, .inl (q 0, 10, .inl (upd (fun i => gI σ 11 n i) i0 v))) = kW aa q (sI σ 11 n i0 v) := by
  refine wmap_set kC_nd (kpos_10 n hn) ?_ ?_
  · rw [upd_sI]
    rfl
  · intro f9 n9 hne
    match f9, hne with
    | 0, _ => rfl
    | 1, _ => rfl
    | 2, _ => rfl
    | 3, _ => rfl
    | 4, _ => rfl
    | 5, _ => rfl
    | 6, _ => rfl
    | 7, _ => rfl
    | 8, _ => rfl
    | 9, _ => rfl
    | 10, hne =>
      have hn9 : ¬ n9 = n := fun e9 => hne ⟨rfl, e9⟩
      simp [kE,  gI_sI, gL_sL, gI_sL, gL_sI, hn9]
    | 11, _ => rfl
    | 12, _ => rfl
    | 13, _ => rfl
    | 14, _ => rfl
    | 15, _ => rfl
    | k9 + 16, _ => rfl
theorem kt_10 (hx : p.tables.exec = Jvm.exec) (hb : c.code = cc) (hK : va_K D kCl (kT q) s) (hP : va_P D kCl (kW aa q σ) H) (hJ : wJ kC aa) (hS : va_S (wA kC aa) s.heap H locs) (hn : n < 12) {i : Int32} (hi : vp_in i 10) {v : Int32} (hd : decode cc pc = .ok (.iastore, 1)) (kk : ∀ (H1 : Heap) (locs1 : List Loc), va_P D kCl (kW aa q (sI σ 11 n i.toNatClampNeg v)) H1 → va_S (wA kC aa) s.heap H1 locs1 → W p l e R s m args below meth c H1 locs1 cells slots Q (F0 m (pc + 1) ls rest)) : W p l e R s m args below meth c H locs cells slots Q (F0 m pc ls (.int v :: .int i :: .ref (aa 10 n) :: rest)) := by
  refine va_iast (f := fun i => gI σ 11 n i) hx hb hK hP (wmap_D hJ) hS (10 + 5 * n) 0 (kat_10 hn) rfl hi hd (fun H1 locs1 hP1 _ hS1 => kk H1 locs1 ?_ hS1)
  rw [← kset_10 hn]
  exact hP1
theorem kl_11 (hx : p.tables.exec = Jvm.exec) (hb : c.code = cc) (hK : va_K D kCl (kT q) s) (hP : va_P D kCl (kW aa q σ) H) (hn : n < 12) {i : Int32} (hi : vp_in i 10) (hd : decode cc pc = .ok (.iaload, 1)) (kk : W p l e R s m args below meth c H locs cells slots Q (F0 m (pc + 1) ls (.int (gI σ 12 n i.toNatClampNeg) :: rest))) : W p l e R s m args below meth c H locs cells slots Q (F0 m pc ls (.int i :: .ref (aa 11 n) :: rest)) :=
  va_iald (f := fun i => gI σ 12 n i) hx hb hK hP (11 + 5 * n) 0 (kat_11 hn) rfl hi hd kk
theorem kset_11 {i0 : Nat} {v : Int32} (hn : n < 12) : (kW aa q σ).set (11 + 5 * n) (aa 11 n, .inl (q 0, 10, .inl (upd (fun i => gI σ 12 n i) i0 v))) = kW aa q (sI σ 12 n i0 v) := by
  refine wmap_set kC_nd (kpos_11 n hn) ?_ ?_
  · rw [upd_sI]
    rfl
  · intro f9 n9 hne
    match f9, hne with
    | 0, _ => rfl
    | 1, _ => rfl
    | 2, _ => rfl
    | 3, _ => rfl
    | 4, _ => rfl
    | 5, _ => rfl
    | 6, _ => rfl
    | 7, _ => rfl
    | 8, _ => rfl
    | 9, _ => rfl
    | 10, _ => rfl
    | 11, hne =>
      have hn9 : ¬ n9 = n := fun e9 => hne ⟨rfl, e9⟩
      simp [kE,  gI_sI, gL_sL, gI_sL, gL_sI, hn9]
    | 12, _ => rfl
    | 13, _ => rfl
    | 14, _ => rfl
    | 15, _ => rfl
    | k9 + 16, _ => rfl
theorem kt_11 (hx : p.tables.exec = Jvm.exec) (hb : c.code = cc) (hK : va_K D kCl (kT q) s) (hP : va_P D kCl (kW aa q σ) H) (hJ : wJ kC aa) (hS : va_S (wA kC aa) s.heap H locs) (hn : n < 12) {i : Int32} (hi : vp_in i 10) {v : Int32} (hd : decode cc pc = .ok (.iastore, 1)) (kk : ∀ (H1 : Heap) (locs1 : List Loc), va_P D kCl (kW aa q (sI σ 12 n i.toNatClampNeg v)) H1 → va_S (wA kC aa) s.heap H1 locs1 → W p l e R s m args below meth c H1 locs1 cells slots Q (F0 m (pc + 1) ls rest)) : W p l e R s m args below meth c H locs cells slots Q (F0 m pc ls (.int v :: .int i :: .ref (aa 11 n) :: rest)) := by
  refine va_iast (f := fun i => gI σ 12 n i) hx hb hK hP (wmap_D hJ) hS (11 + 5 * n) 0 (kat_11 hn) rfl hi hd (fun H1 locs1 hP1 _ hS1 => kk H1 locs1 ?_ hS1)
  rw [← kset_11 hn]
  exact hP1
theorem kl_12 (hx : p.tables.exec = Jvm.exec) (hb : c.code = cc) (hK : va_K D kCl (kT q) s) (hP : va_P D kCl (kW aa q σ) H) (hn : n < 12) {i : Int32} (hi : vp_in i 10) (hd : decode cc pc = .ok (.iaload, 1)) (kk : W p l e R s m args below meth c H locs cells slots Q (F0 m (pc + 1) ls (.int (gI σ 13 n i.toNatClampNeg) :: rest))) : W p l e R s m args below meth c H locs cells slots Q (F0 m pc ls (.int i :: .ref (aa 12 n) :: rest)) :=
  va_iald (f := fun i => gI σ 13 n i) hx hb hK hP (12 + 5 * n) 0 (kat_12 hn) rfl hi hd kk
theorem kset_12 {i0 : Nat} {v : Int32} (hn : n < 12) : (kW aa q σ).set (12 + 5 * n) (aa 12 n, .inl (q 0, 10, .inl (upd (fun i => gI σ 13 n i) i0 v))) = kW aa q (sI σ 13 n i0 v) := by
  refine wmap_set kC_nd (kpos_12 n hn) ?_ ?_
  · rw [upd_sI]
    rfl
  · intro f9 n9 hne
    match f9, hne with
    | 0, _ => rfl
    | 1, _ => rfl
    | 2, _ => rfl
    | 3, _ => rfl
    | 4, _ => rfl
    | 5, _ => rfl
    | 6, _ => rfl
    | 7, _ => rfl
    | 8, _ => rfl
    | 9, _ => rfl
    | 10, _ => rfl
    | 11, _ => rfl
    | 12, hne =>
      have hn9 : ¬ n9 = n := fun e9 => hne ⟨rfl, e9⟩
      simp [kE,  gI_sI, gL_sL, gI_sL, gL_sI, hn9]
    | 13, _ => rfl
    | 14, _ => rfl
    | 15, _ => rfl
    | k9 + 16, _ => rfl
theorem kt_12 (hx : p.tables.exec = Jvm.exec) (hb : c.code = cc) (hK : va_K D kCl (kT q) s) (hP : va_P D kCl (kW aa q σ) H) (hJ : wJ kC aa) (hS : va_S (wA kC aa) s.heap H locs) (hn : n < 12) {i : Int32} (hi : vp_in i 10) {v : Int32} (hd : decode cc pc = .ok (.iastore, 1)) (kk : ∀ (H1 : Heap) (locs1 : List Loc), va_P D kCl (kW aa q (sI σ 13 n i.toNatClampNeg v)) H1 → va_S (wA kC aa) s.heap H1 locs1 → W p l e R s m args below meth c H1 locs1 cells slots Q (F0 m (pc + 1) ls rest)) : W p l e R s m args below meth c H locs cells slots Q (F0 m pc ls (.int v :: .int i :: .ref (aa 12 n) :: rest)) := by
  refine va_iast (f := fun i => gI σ 13 n i) hx hb hK hP (wmap_D hJ) hS (12 + 5 * n) 0 (kat_12 hn) rfl hi hd (fun H1 locs1 hP1 _ hS1 => kk H1 locs1 ?_ hS1)
  rw [← kset_12 hn]
  exact hP1
theorem kl_13 (hx : p.tables.exec = Jvm.exec) (hb : c.code = cc) (hK : va_K D kCl (kT q) s) (hP : va_P D kCl (kW aa q σ) H) (hn : n < 12) {i : Int32} (hi : vp_in i 4) (hd : decode cc pc = .ok (.iaload, 1)) (kk : W p l e R s m args below meth c H locs cells slots Q (F0 m (pc + 1) ls (.int (gI σ 14 n i.toNatClampNeg) :: rest))) : W p l e R s m args below meth c H locs cells slots Q (F0 m pc ls (.int i :: .ref (aa 13 n) :: rest)) :=
  va_iald (f := fun i => gI σ 14 n i) hx hb hK hP (13 + 5 * n) 0 (kat_13 hn) rfl hi hd kk
theorem kset_13 {i0 : Nat} {v : Int32} (hn : n < 12) : (kW aa q σ).set (13 + 5 * n) (aa 13 n, .inl (q 0, 4, .inl (upd (fun i => gI σ 14 n i) i0 v))) = kW aa q (sI σ 14 n i0 v) := by
  refine wmap_set kC_nd (kpos_13 n hn) ?_ ?_
  · rw [upd_sI]
    rfl
  · intro f9 n9 hne
    match f9, hne with
    | 0, _ => rfl
    | 1, _ => rfl
    | 2, _ => rfl
    | 3, _ => rfl
    | 4, _ => rfl
    | 5, _ => rfl
    | 6, _ => rfl
    | 7, _ => rfl
    | 8, _ => rfl
    | 9, _ => rfl
    | 10, _ => rfl
    | 11, _ => rfl
    | 12, _ => rfl
    | 13, hne =>
      have hn9 : ¬ n9 = n := fun e9 => hne ⟨rfl, e9⟩
      simp [kE,  gI_sI, gL_sL, gI_sL, gL_sI, hn9]
    | 14, _ => rfl
    | 15, _ => rfl
    | k9 + 16, _ => rfl
theorem kt_13 (hx : p.tables.exec = Jvm.exec) (hb : c.code = cc) (hK : va_K D kCl (kT q) s) (hP : va_P D kCl (kW aa q σ) H) (hJ : wJ kC aa) (hS : va_S (wA kC aa) s.heap H locs) (hn : n < 12) {i : Int32} (hi : vp_in i 4) {v : Int32} (hd : decode cc pc = .ok (.iastore, 1)) (kk : ∀ (H1 : Heap) (locs1 : List Loc), va_P D kCl (kW aa q (sI σ 14 n i.toNatClampNeg v)) H1 → va_S (wA kC aa) s.heap H1 locs1 → W p l e R s m args below meth c H1 locs1 cells slots Q (F0 m (pc + 1) ls rest)) : W p l e R s m args below meth c H locs cells slots Q (F0 m pc ls (.int v :: .int i :: .ref (aa 13 n) :: rest)) := by
  refine va_iast (f := fun i => gI σ 14 n i) hx hb hK hP (wmap_D hJ) hS (13 + 5 * n) 0 (kat_13 hn) rfl hi hd (fun H1 locs1 hP1 _ hS1 => kk H1 locs1 ?_ hS1)
  rw [← kset_13 hn]
  exact hP1
theorem kl_1 (hx : p.tables.exec = Jvm.exec) (hb : c.code = cc) (hK : va_K D kCl (kT q) s) (hP : va_P D kCl (kW aa q σ) H) (hn : n < 1) {i : Int32} (hi : vp_in i 12) (hd : decode cc pc = .ok (.aaload, 1)) (kk : ∀ j : Nat, j = i.toNatClampNeg → W p l e R s m args below meth c H locs cells slots Q (F0 m (pc + 1) ls (.ref (aa 9 j) :: rest))) : W p l e R s m args below meth c H locs cells slots Q (F0 m pc ls (.int i :: .ref (aa 1 n) :: rest)) :=
  va_aldq (C := bR_P) (f := fun j => some (aa 9 j)) hx hb hK hP 1 1 (kat_1 hn) rfl hi hd (kk _ rfl)
theorem kl_2 (hx : p.tables.exec = Jvm.exec) (hb : c.code = cc) (hK : va_K D kCl (kT q) s) (hP : va_P D kCl (kW aa q σ) H) (hn : n < 1) {i : Int32} (hi : vp_in i 4) (hd : decode cc pc = .ok (.aaload, 1)) (kk : ∀ j : Nat, j = i.toNatClampNeg → W p l e R s m args below meth c H locs cells slots Q (F0 m (pc + 1) ls (.ref (aa 14 j) :: rest))) : W p l e R s m args below meth c H locs cells slots Q (F0 m pc ls (.int i :: .ref (aa 2 n) :: rest)) :=
  va_aldq (C := bR_E) (f := fun j => some (aa 14 j)) hx hb hK hP 2 2 (kat_2 hn) rfl hi hd (kk _ rfl)
theorem kl_3 (hx : p.tables.exec = Jvm.exec) (hb : c.code = cc) (hK : va_K D kCl (kT q) s) (hP : va_P D kCl (kW aa q σ) H) (hn : n < 1) {i : Int32} (hi : vp_in i 4) (hd : decode cc pc = .ok (.aaload, 1)) (kk : ∀ j : Nat, j = i.toNatClampNeg → W p l e R s m args below meth c H locs cells slots Q (F0 m (pc + 1) ls (.ref (aa 15 j) :: rest))) : W p l e R s m args below meth c H locs cells slots Q (F0 m pc ls (.int i :: .ref (aa 3 n) :: rest)) :=
  va_aldq (C := bR_T) (f := fun j => some (aa 15 j)) hx hb hK hP 3 3 (kat_3 hn) rfl hi hd (kk _ rfl)
theorem kpreV {C : String} {b : Nat} {As : List Value} (hK : va_K D kCl (kT q) s) (hP : va_P D kCl (kW aa q σ) H) (hr : ∃ cell : Cell, H[b]? = some cell ∧ cell.vm.isStatics = false ∧ s.vm.findClass C = some cell.cls) : PreV s H C b (va_Pc (.ref b :: As) (kPre D aa q σ)) As :=
  ⟨fun a U g mk h => ⟨h.1, h.2.1, va_K.moved (u := U) (U := U.calling g mk a) (Vm.Alike.refl U.vm) h.2.2⟩, hr, fun U hU hW => ⟨rfl, by rw [hU]; exact hP, va_K.moved hW.alike hK⟩⟩
theorem kpreS {As : List Value} (hK : va_K D kCl (kT q) s) (hP : va_P D kCl (kW aa q σ) H) : PreS s H (va_Pc As (kPre D aa q σ)) As :=
  ⟨fun a U g mk h => ⟨h.1, h.2.1, va_K.moved (u := U) (U := U.calling g mk a) (Vm.Alike.refl U.vm) h.2.2⟩, fun U hU hW => ⟨rfl, by rw [hU]; exact hP, va_K.moved hW.alike hK⟩⟩
theorem kq_i {a : Array Value} {r0 : Int32} {u0 : kS} (hr : va_Run p l e R s m args below meth c H locs cells slots 0 0 (F0 m pc ls st0) rest (va_Qi (fun (r : Int32) (u : kS) => r = r0 ∧ u = u0) (kB D aa q) (wA kC aa) a) (wA kC aa)) (hS : va_S (wA kC aa) s.heap H locs) (kk : ∀ (H1 : Heap) (locs1 : List Loc), va_P D kCl (kW aa q u0) H1 → va_S (wA kC aa) s.heap H1 locs1 → W p l e R s m args below meth c H1 locs1 cells slots Q (F0 m (pc + 3) ls (.int r0 :: rest))) : W p l e R s m args below meth c H locs cells slots Q (F0 m pc ls st0) := by
  refine va_calli hr hS (fun _ _ h => h) (fun _ h => h) (fun r u t H1 locs1 ht hvm hw hB _ _ hS1 => ?_)
  obtain ⟨rfl, rfl⟩ := hw
  have hP1 := hB.1
  rw [ht] at hP1
  exact kk H1 locs1 hP1 hS1
theorem kq_l {a : Array Value} {r0 : Int64} {u0 : kS} (hr : va_Run p l e R s m args below meth c H locs cells slots 0 0 (F0 m pc ls st0) rest (va_Ql (fun (r : Int64) (u : kS) => r = r0 ∧ u = u0) (kB D aa q) (wA kC aa) a) (wA kC aa)) (hS : va_S (wA kC aa) s.heap H locs) (kk : ∀ (H1 : Heap) (locs1 : List Loc), va_P D kCl (kW aa q u0) H1 → va_S (wA kC aa) s.heap H1 locs1 → W p l e R s m args below meth c H1 locs1 cells slots Q (F0 m (pc + 3) ls (.long r0 :: rest))) : W p l e R s m args below meth c H locs cells slots Q (F0 m pc ls st0) := by
  refine va_calll hr hS (fun _ _ h => h) (fun _ h => h) (fun r u t H1 locs1 ht hvm hw hB _ _ hS1 => ?_)
  obtain ⟨rfl, rfl⟩ := hw
  have hP1 := hB.1
  rw [ht] at hP1
  exact kk H1 locs1 hP1 hS1
theorem kq_v {a : Array Value} {u0 : kS} (hr : va_Run p l e R s m args below meth c H locs cells slots 0 0 (F0 m pc ls st0) rest (va_Qv (fun u : kS => u = u0) (kB D aa q) (wA kC aa) a) (wA kC aa)) (hS : va_S (wA kC aa) s.heap H locs) (kk : ∀ (H1 : Heap) (locs1 : List Loc), va_P D kCl (kW aa q u0) H1 → va_S (wA kC aa) s.heap H1 locs1 → W p l e R s m args below meth c H1 locs1 cells slots Q (F0 m (pc + 3) ls rest)) : W p l e R s m args below meth c H locs cells slots Q (F0 m pc ls st0) := by
  refine va_callv hr hS (fun _ _ h => h) (fun _ h => h) (fun u t H1 locs1 ht hvm hw hB _ _ hS1 => ?_)
  subst hw
  have hP1 := hB.1
  rw [ht] at hP1
  exact kk H1 locs1 hP1 hS1
end
end
section
abbrev mCl : List vw_C := [(bR_M, bT_M, 27)]
abbrev mT (q : Nat → ClassId) : List (ClassId × FieldType) := [(q 0, .int), (q 1, .long), (q 2, .boolean)]
def mC : List (Nat × Nat) := [(0, 0), (1, 0), (2, 0), (3, 0), (4, 0), (5, 0), (6, 0), (7, 0), (8, 0), (9, 0), (10, 0), (11, 0), (12, 0), (13, 0), (14, 0), (15, 0), (16, 0), (17, 0), (18, 0), (19, 0), (20, 0), (21, 0), (22, 0)]
set_option maxRecDepth 20000 in
theorem mC_nd : mC.Nodup := by decide +kernel
def mF0 (aa : Nat → Nat → Nat) (σ : kS) (n : Nat) : List Value := [.int (gI σ 30 n 0), .int (gI σ 31 n 0), .int (gI σ 32 n 0), .int (gI σ 33 n 0), .long (gL σ 0 n 0), .ref (aa 1 0), .ref (aa 2 0), .ref (aa 3 0), .ref (aa 4 0), .ref (aa 5 0), .ref (aa 6 0), .ref (aa 7 0), .ref (aa 8 0), .ref (aa 9 0), .ref (aa 10 0), .ref (aa 11 0), .ref (aa 12 0), .ref (aa 13 0), .ref (aa 14 0), .ref (aa 15 0), .ref (aa 16 0), .ref (aa 17 0), .ref (aa 18 0), .ref (aa 19 0), .ref (aa 20 0), .ref (aa 21 0), .ref (aa 22 0)]
def mE (aa : Nat → Nat → Nat) (q : Nat → ClassId) (σ : kS) (f n : Nat) : va_E := match f with
  | 0 => .inr (0, mF0 aa σ n)
  | 1 => .inl (q 0, 12, .inl (fun i => gI σ 1 n i))
  | 2 => .inl (q 0, 12, .inl (fun i => gI σ 2 n i))
  | 3 => .inl (q 0, 12, .inl (fun i => gI σ 3 n i))
  | 4 => .inl (q 0, 12, .inl (fun i => gI σ 4 n i))
  | 5 => .inl (q 0, 12, .inl (fun i => gI σ 5 n i))
  | 6 => .inl (q 0, 12, .inl (fun i => gI σ 6 n i))
  | 7 => .inl (q 1, 12, .inr (.inl (fun i => gL σ 7 n i)))
  | 8 => .inl (q 0, 12, .inl (fun i => gI σ 8 n i))
  | 9 => .inl (q 0, 12, .inl (fun i => gI σ 9 n i))
  | 10 => .inl (q 1, 12, .inr (.inl (fun i => gL σ 10 n i)))
  | 11 => .inl (q 0, 120, .inl (fun i => gI σ 11 n i))
  | 12 => .inl (q 0, 120, .inl (fun i => gI σ 12 n i))
  | 13 => .inl (q 0, 120, .inl (fun i => gI σ 13 n i))
  | 14 => .inl (q 0, 48, .inl (fun i => gI σ 14 n i))
  | 15 => .inl (q 0, 4, .inl (fun i => gI σ 15 n i))
  | 16 => .inl (q 2, 4, .inl (fun i => gI σ 16 n i))
  | 17 => .inl (q 1, 4, .inr (.inl (fun i => gL σ 17 n i)))
  | 18 => .inl (q 1, 4, .inr (.inl (fun i => gL σ 18 n i)))
  | 19 => .inl (q 0, 4, .inl (fun i => gI σ 19 n i))
  | 20 => .inl (q 0, 4, .inl (fun i => gI σ 20 n i))
  | 21 => .inl (q 0, 12, .inl (fun i => gI σ 21 n i))
  | 22 => .inl (q 0, 64, .inl (fun i => gI σ 22 n i))
  | _ => .inr (0, [])
def mW (aa : Nat → Nat → Nat) (q : Nat → ClassId) (σ : kS) : va_W := wmap mC aa (mE aa q σ)
def mPre (D : va_G) (aa : Nat → Nat → Nat) (q : Nat → ClassId) (σ : kS) (U : State) : Prop := va_P D mCl (mW aa q σ) U.heap ∧ va_K D mCl (mT q) U
def mB (D : va_G) (aa : Nat → Nat → Nat) (q : Nat → ClassId) (u : kS) (t : State) : Prop := va_P D mCl (mW aa q u) t.heap ∧ va_K D mCl (mT q) t
set_option maxRecDepth 20000 in
theorem mpos_0 : ∀ n, n < 1 → mC[0]? = some (0, n) := by decide +kernel
set_option maxRecDepth 20000 in
theorem mpos_1 : ∀ n, n < 1 → mC[1]? = some (1, n) := by decide +kernel
set_option maxRecDepth 20000 in
theorem mpos_2 : ∀ n, n < 1 → mC[2]? = some (2, n) := by decide +kernel
set_option maxRecDepth 20000 in
theorem mpos_3 : ∀ n, n < 1 → mC[3]? = some (3, n) := by decide +kernel
set_option maxRecDepth 20000 in
theorem mpos_4 : ∀ n, n < 1 → mC[4]? = some (4, n) := by decide +kernel
set_option maxRecDepth 20000 in
theorem mpos_5 : ∀ n, n < 1 → mC[5]? = some (5, n) := by decide +kernel
set_option maxRecDepth 20000 in
theorem mpos_6 : ∀ n, n < 1 → mC[6]? = some (6, n) := by decide +kernel
set_option maxRecDepth 20000 in
theorem mpos_7 : ∀ n, n < 1 → mC[7]? = some (7, n) := by decide +kernel
set_option maxRecDepth 20000 in
theorem mpos_8 : ∀ n, n < 1 → mC[8]? = some (8, n) := by decide +kernel
set_option maxRecDepth 20000 in
theorem mpos_9 : ∀ n, n < 1 → mC[9]? = some (9, n) := by decide +kernel
set_option maxRecDepth 20000 in
theorem mpos_10 : ∀ n, n < 1 → mC[10]? = some (10, n) := by decide +kernel
set_option maxRecDepth 20000 in
theorem mpos_11 : ∀ n, n < 1 → mC[11]? = some (11, n) := by decide +kernel
set_option maxRecDepth 20000 in
theorem mpos_12 : ∀ n, n < 1 → mC[12]? = some (12, n) := by decide +kernel
set_option maxRecDepth 20000 in
theorem mpos_13 : ∀ n, n < 1 → mC[13]? = some (13, n) := by decide +kernel
set_option maxRecDepth 20000 in
theorem mpos_14 : ∀ n, n < 1 → mC[14]? = some (14, n) := by decide +kernel
set_option maxRecDepth 20000 in
theorem mpos_15 : ∀ n, n < 1 → mC[15]? = some (15, n) := by decide +kernel
set_option maxRecDepth 20000 in
theorem mpos_16 : ∀ n, n < 1 → mC[16]? = some (16, n) := by decide +kernel
set_option maxRecDepth 20000 in
theorem mpos_17 : ∀ n, n < 1 → mC[17]? = some (17, n) := by decide +kernel
set_option maxRecDepth 20000 in
theorem mpos_18 : ∀ n, n < 1 → mC[18]? = some (18, n) := by decide +kernel
set_option maxRecDepth 20000 in
theorem mpos_19 : ∀ n, n < 1 → mC[19]? = some (19, n) := by decide +kernel
set_option maxRecDepth 20000 in
theorem mpos_20 : ∀ n, n < 1 → mC[20]? = some (20, n) := by decide +kernel
set_option maxRecDepth 20000 in
theorem mpos_21 : ∀ n, n < 1 → mC[21]? = some (21, n) := by decide +kernel
set_option maxRecDepth 20000 in
theorem mpos_22 : ∀ n, n < 1 → mC[22]? = some (22, n) := by decide +kernel
section
variable {p : Program} {l : Launch} {e : Env} {R : Room} {s : State} {m : MethodId} {args : Array Value} {below : List Frame} {meth : Method} {c : Code} {H : Heap} {locs : List Loc} {cells slots : Nat} {Q : State → Prop}
variable {cc : ByteArray} {pc : Nat} {ls : Array Slot} {rest st0 : List Value} {own : String} {index : Nat} {D : va_G} {aa : Nat → Nat → Nat} {q : Nat → ClassId} {σ : kS} {n : Nat}
theorem mat_0 (hn : n < 1) : (mW aa q σ)[0]? = some (aa 0 n, .inr (0, mF0 aa σ n)) := wmap_at (mpos_0 n hn)
theorem mat_1 (hn : n < 1) : (mW aa q σ)[1]? = some (aa 1 n, .inl (q 0, 12, .inl (fun i => gI σ 1 n i))) := wmap_at (mpos_1 n hn)
theorem mat_2 (hn : n < 1) : (mW aa q σ)[2]? = some (aa 2 n, .inl (q 0, 12, .inl (fun i => gI σ 2 n i))) := wmap_at (mpos_2 n hn)
theorem mat_3 (hn : n < 1) : (mW aa q σ)[3]? = some (aa 3 n, .inl (q 0, 12, .inl (fun i => gI σ 3 n i))) := wmap_at (mpos_3 n hn)
theorem mat_4 (hn : n < 1) : (mW aa q σ)[4]? = some (aa 4 n, .inl (q 0, 12, .inl (fun i => gI σ 4 n i))) := wmap_at (mpos_4 n hn)
theorem mat_5 (hn : n < 1) : (mW aa q σ)[5]? = some (aa 5 n, .inl (q 0, 12, .inl (fun i => gI σ 5 n i))) := wmap_at (mpos_5 n hn)
theorem mat_6 (hn : n < 1) : (mW aa q σ)[6]? = some (aa 6 n, .inl (q 0, 12, .inl (fun i => gI σ 6 n i))) := wmap_at (mpos_6 n hn)
theorem mat_7 (hn : n < 1) : (mW aa q σ)[7]? = some (aa 7 n, .inl (q 1, 12, .inr (.inl (fun i => gL σ 7 n i)))) := wmap_at (mpos_7 n hn)
theorem mat_8 (hn : n < 1) : (mW aa q σ)[8]? = some (aa 8 n, .inl (q 0, 12, .inl (fun i => gI σ 8 n i))) := wmap_at (mpos_8 n hn)
theorem mat_9 (hn : n < 1) : (mW aa q σ)[9]? = some (aa 9 n, .inl (q 0, 12, .inl (fun i => gI σ 9 n i))) := wmap_at (mpos_9 n hn)
theorem mat_10 (hn : n < 1) : (mW aa q σ)[10]? = some (aa 10 n, .inl (q 1, 12, .inr (.inl (fun i => gL σ 10 n i)))) := wmap_at (mpos_10 n hn)
theorem mat_11 (hn : n < 1) : (mW aa q σ)[11]? = some (aa 11 n, .inl (q 0, 120, .inl (fun i => gI σ 11 n i))) := wmap_at (mpos_11 n hn)
theorem mat_12 (hn : n < 1) : (mW aa q σ)[12]? = some (aa 12 n, .inl (q 0, 120, .inl (fun i => gI σ 12 n i))) := wmap_at (mpos_12 n hn)
theorem mat_13 (hn : n < 1) : (mW aa q σ)[13]? = some (aa 13 n, .inl (q 0, 120, .inl (fun i => gI σ 13 n i))) := wmap_at (mpos_13 n hn)
theorem mat_14 (hn : n < 1) : (mW aa q σ)[14]? = some (aa 14 n, .inl (q 0, 48, .inl (fun i => gI σ 14 n i))) := wmap_at (mpos_14 n hn)
theorem mat_15 (hn : n < 1) : (mW aa q σ)[15]? = some (aa 15 n, .inl (q 0, 4, .inl (fun i => gI σ 15 n i))) := wmap_at (mpos_15 n hn)
theorem mat_16 (hn : n < 1) : (mW aa q σ)[16]? = some (aa 16 n, .inl (q 2, 4, .inl (fun i => gI σ 16 n i))) := wmap_at (mpos_16 n hn)
theorem mat_17 (hn : n < 1) : (mW aa q σ)[17]? = some (aa 17 n, .inl (q 1, 4, .inr (.inl (fun i => gL σ 17 n i)))) := wmap_at (mpos_17 n hn)
theorem mat_18 (hn : n < 1) : (mW aa q σ)[18]? = some (aa 18 n, .inl (q 1, 4, .inr (.inl (fun i => gL σ 18 n i)))) := wmap_at (mpos_18 n hn)
theorem mat_19 (hn : n < 1) : (mW aa q σ)[19]? = some (aa 19 n, .inl (q 0, 4, .inl (fun i => gI σ 19 n i))) := wmap_at (mpos_19 n hn)
theorem mat_20 (hn : n < 1) : (mW aa q σ)[20]? = some (aa 20 n, .inl (q 0, 4, .inl (fun i => gI σ 20 n i))) := wmap_at (mpos_20 n hn)
theorem mat_21 (hn : n < 1) : (mW aa q σ)[21]? = some (aa 21 n, .inl (q 0, 12, .inl (fun i => gI σ 21 n i))) := wmap_at (mpos_21 n hn)
theorem mat_22 (hn : n < 1) : (mW aa q σ)[22]? = some (aa 22 n, .inl (q 0, 64, .inl (fun i => gI σ 22 n i))) := wmap_at (mpos_22 n hn)
theorem mg_0 (hx : p.tables.exec = Jvm.exec) (hb : c.code = cc) (ht : ∀ w ∈ lw_g, w.before args s = true) (hown : s.vm.findClass own = some m.cls) (hK : va_K D mCl (mT q) s) (hP : va_P D mCl (mW aa q σ) H) (hn : n < 1) (k : Nat) (hk : k < 27) (hl : Cond.fieldLink own index bR_M (bT_M k).2.1 (bT_M k).2.2.1 ∈ lw_g) {v : Value} (hv : (mF0 aa σ n)[k]? = some v) (hd : decode cc pc = .ok (.getfield index, 3)) (kk : W p l e R s m args below meth c H locs cells slots Q (F0 m (pc + 3) ls (v :: rest))) : W p l e R s m args below meth c H locs cells slots Q (F0 m pc ls (.ref (aa 0 n) :: rest)) :=
  va_get (D := D) (C := bR_M) (T := bT_M) (N := 27) hx hb ht bin_M hown hK hP 0 (mat_0 hn) rfl k hk (ht _ hl) (fun y9 h9 => by rw [bcl_M] at h9; exact h9) hv hd kk
theorem mr_0 (hK : va_K D mCl (mT q) s) (hP : va_P D mCl (mW aa q σ) H) (hn : n < 1) : ∃ cell : Cell, H[aa 0 n]? = some cell ∧ cell.vm.isStatics = false ∧ s.vm.findClass bR_M = some cell.cls := va_recv (q := (bR_M, bT_M, 27)) hK hP rfl (mat_0 hn)
theorem mset_0_count {v : Int32} (hn : n < 1) : (mW aa q σ).set 0 (aa 0 n, .inr (0, (mF0 aa σ n).set 0 (.int v))) = mW aa q (sI σ 30 n 0 v) := by
  refine wmap_set mC_nd (mpos_0 n hn) ?_ ?_
  · simp [mE, mF0, gI_sI, gL_sL, gI_sL, gL_sI]
  · intro f9 n9 hne
    match f9, hne with
    | 0, hne =>
      have hn9 : ¬ n9 = n := fun e9 => hne ⟨rfl, e9⟩
      simp [mE, mF0, gI_sI, gL_sL, gI_sL, gL_sI, hn9]
    | 1, _ => rfl
    | 2, _ => rfl
    | 3, _ => rfl
    | 4, _ => rfl
    | 5, _ => rfl
    | 6, _ => rfl
    | 7, _ => rfl
    | 8, _ => rfl
    | 9, _ => rfl
    | 10, _ => rfl
    | 11, _ => rfl
    | 12, _ => rfl
    | 13, _ => rfl
    | 14, _ => rfl
    | 15, _ => rfl
    | 16, _ => rfl
    | 17, _ => rfl
    | 18, _ => rfl
    | 19, _ => rfl
    | 20, _ => rfl
    | 21, _ => rfl
    | 22, _ => rfl
    | k9 + 23, _ => rfl
theorem mp_0_count (hx : p.tables.exec = Jvm.exec) (hb : c.code = cc) (ht : ∀ w ∈ lw_g, w.before args s = true) (hown : s.vm.findClass own = some m.cls) (hK : va_K D mCl (mT q) s) (hP : va_P D mCl (mW aa q σ) H) (hJ : wJ mC aa) (hS : va_S (wA mC aa) s.heap H locs) (hn : n < 1) {v : Int32} (hl : Cond.fieldLink own index bR_M "count" "I" ∈ lw_g) (hd : decode cc pc = .ok (.putfield index, 3)) (kk : ∀ (H1 : Heap) (locs1 : List Loc), va_P D mCl (mW aa q (sI σ 30 n 0 v)) H1 → va_S (wA mC aa) s.heap H1 locs1 → W p l e R s m args below meth c H1 locs1 cells slots Q (F0 m (pc + 3) ls rest)) : W p l e R s m args below meth c H locs cells slots Q (F0 m pc ls (.int v :: .ref (aa 0 n) :: rest)) := by
  refine va_put (D := D) (v := .int v) (ty := .int) (C := bR_M) (T := bT_M) (N := 27) hx hb ht bin_M bty_M bo_M bn_M hown hK hP (wmap_D hJ) hS 0 (mat_0 hn) rfl 0 (by decide) (ht _ hl) (fun _ h9 => h9) rfl (by decide +kernel) rfl rfl (Nat.le_of_ble_eq_true rfl) hd (fun H1 locs1 hP1 _ hS1 => kk H1 locs1 ?_ hS1)
  rw [← mset_0_count hn]
  exact hP1
theorem mset_0_order {v : Int32} (hn : n < 1) : (mW aa q σ).set 0 (aa 0 n, .inr (0, (mF0 aa σ n).set 1 (.int v))) = mW aa q (sI σ 31 n 0 v) := by
  refine wmap_set mC_nd (mpos_0 n hn) ?_ ?_
  · simp [mE, mF0, gI_sI, gL_sL, gI_sL, gL_sI]
  · intro f9 n9 hne
    match f9, hne with
    | 0, hne =>
      have hn9 : ¬ n9 = n := fun e9 => hne ⟨rfl, e9⟩
      simp [mE, mF0, gI_sI, gL_sL, gI_sL, gL_sI, hn9]
    | 1, _ => rfl
    | 2, _ => rfl
    | 3, _ => rfl
    | 4, _ => rfl
    | 5, _ => rfl
    | 6, _ => rfl
    | 7, _ => rfl
    | 8, _ => rfl
    | 9, _ => rfl
    | 10, _ => rfl
    | 11, _ => rfl
    | 12, _ => rfl
    | 13, _ => rfl
    | 14, _ => rfl
    | 15, _ => rfl
    | 16, _ => rfl
    | 17, _ => rfl
    | 18, _ => rfl
    | 19, _ => rfl
    | 20, _ => rfl
    | 21, _ => rfl
    | 22, _ => rfl
    | k9 + 23, _ => rfl
theorem mp_0_order (hx : p.tables.exec = Jvm.exec) (hb : c.code = cc) (ht : ∀ w ∈ lw_g, w.before args s = true) (hown : s.vm.findClass own = some m.cls) (hK : va_K D mCl (mT q) s) (hP : va_P D mCl (mW aa q σ) H) (hJ : wJ mC aa) (hS : va_S (wA mC aa) s.heap H locs) (hn : n < 1) {v : Int32} (hl : Cond.fieldLink own index bR_M "order" "I" ∈ lw_g) (hd : decode cc pc = .ok (.putfield index, 3)) (kk : ∀ (H1 : Heap) (locs1 : List Loc), va_P D mCl (mW aa q (sI σ 31 n 0 v)) H1 → va_S (wA mC aa) s.heap H1 locs1 → W p l e R s m args below meth c H1 locs1 cells slots Q (F0 m (pc + 3) ls rest)) : W p l e R s m args below meth c H locs cells slots Q (F0 m pc ls (.int v :: .ref (aa 0 n) :: rest)) := by
  refine va_put (D := D) (v := .int v) (ty := .int) (C := bR_M) (T := bT_M) (N := 27) hx hb ht bin_M bty_M bo_M bn_M hown hK hP (wmap_D hJ) hS 0 (mat_0 hn) rfl 1 (by decide) (ht _ hl) (fun _ h9 => h9) rfl (by decide +kernel) rfl rfl (Nat.le_of_ble_eq_true rfl) hd (fun H1 locs1 hP1 _ hS1 => kk H1 locs1 ?_ hS1)
  rw [← mset_0_order hn]
  exact hP1
theorem mset_0_coming {v : Int32} (hn : n < 1) : (mW aa q σ).set 0 (aa 0 n, .inr (0, (mF0 aa σ n).set 2 (.int v))) = mW aa q (sI σ 32 n 0 v) := by
  refine wmap_set mC_nd (mpos_0 n hn) ?_ ?_
  · simp [mE, mF0, gI_sI, gL_sL, gI_sL, gL_sI]
  · intro f9 n9 hne
    match f9, hne with
    | 0, hne =>
      have hn9 : ¬ n9 = n := fun e9 => hne ⟨rfl, e9⟩
      simp [mE, mF0, gI_sI, gL_sL, gI_sL, gL_sI, hn9]
    | 1, _ => rfl
    | 2, _ => rfl
    | 3, _ => rfl
    | 4, _ => rfl
    | 5, _ => rfl
    | 6, _ => rfl
    | 7, _ => rfl
    | 8, _ => rfl
    | 9, _ => rfl
    | 10, _ => rfl
    | 11, _ => rfl
    | 12, _ => rfl
    | 13, _ => rfl
    | 14, _ => rfl
    | 15, _ => rfl
    | 16, _ => rfl
    | 17, _ => rfl
    | 18, _ => rfl
    | 19, _ => rfl
    | 20, _ => rfl
    | 21, _ => rfl
    | 22, _ => rfl
    | k9 + 23, _ => rfl
theorem mp_0_coming (hx : p.tables.exec = Jvm.exec) (hb : c.code = cc) (ht : ∀ w ∈ lw_g, w.before args s = true) (hown : s.vm.findClass own = some m.cls) (hK : va_K D mCl (mT q) s) (hP : va_P D mCl (mW aa q σ) H) (hJ : wJ mC aa) (hS : va_S (wA mC aa) s.heap H locs) (hn : n < 1) {v : Int32} (hl : Cond.fieldLink own index bR_M "coming" "I" ∈ lw_g) (hd : decode cc pc = .ok (.putfield index, 3)) (kk : ∀ (H1 : Heap) (locs1 : List Loc), va_P D mCl (mW aa q (sI σ 32 n 0 v)) H1 → va_S (wA mC aa) s.heap H1 locs1 → W p l e R s m args below meth c H1 locs1 cells slots Q (F0 m (pc + 3) ls rest)) : W p l e R s m args below meth c H locs cells slots Q (F0 m pc ls (.int v :: .ref (aa 0 n) :: rest)) := by
  refine va_put (D := D) (v := .int v) (ty := .int) (C := bR_M) (T := bT_M) (N := 27) hx hb ht bin_M bty_M bo_M bn_M hown hK hP (wmap_D hJ) hS 0 (mat_0 hn) rfl 2 (by decide) (ht _ hl) (fun _ h9 => h9) rfl (by decide +kernel) rfl rfl (Nat.le_of_ble_eq_true rfl) hd (fun H1 locs1 hP1 _ hS1 => kk H1 locs1 ?_ hS1)
  rw [← mset_0_coming hn]
  exact hP1
theorem mset_0_events {v : Int32} (hn : n < 1) : (mW aa q σ).set 0 (aa 0 n, .inr (0, (mF0 aa σ n).set 3 (.int v))) = mW aa q (sI σ 33 n 0 v) := by
  refine wmap_set mC_nd (mpos_0 n hn) ?_ ?_
  · simp [mE, mF0, gI_sI, gL_sL, gI_sL, gL_sI]
  · intro f9 n9 hne
    match f9, hne with
    | 0, hne =>
      have hn9 : ¬ n9 = n := fun e9 => hne ⟨rfl, e9⟩
      simp [mE, mF0, gI_sI, gL_sL, gI_sL, gL_sI, hn9]
    | 1, _ => rfl
    | 2, _ => rfl
    | 3, _ => rfl
    | 4, _ => rfl
    | 5, _ => rfl
    | 6, _ => rfl
    | 7, _ => rfl
    | 8, _ => rfl
    | 9, _ => rfl
    | 10, _ => rfl
    | 11, _ => rfl
    | 12, _ => rfl
    | 13, _ => rfl
    | 14, _ => rfl
    | 15, _ => rfl
    | 16, _ => rfl
    | 17, _ => rfl
    | 18, _ => rfl
    | 19, _ => rfl
    | 20, _ => rfl
    | 21, _ => rfl
    | 22, _ => rfl
    | k9 + 23, _ => rfl
theorem mp_0_events (hx : p.tables.exec = Jvm.exec) (hb : c.code = cc) (ht : ∀ w ∈ lw_g, w.before args s = true) (hown : s.vm.findClass own = some m.cls) (hK : va_K D mCl (mT q) s) (hP : va_P D mCl (mW aa q σ) H) (hJ : wJ mC aa) (hS : va_S (wA mC aa) s.heap H locs) (hn : n < 1) {v : Int32} (hl : Cond.fieldLink own index bR_M "events" "I" ∈ lw_g) (hd : decode cc pc = .ok (.putfield index, 3)) (kk : ∀ (H1 : Heap) (locs1 : List Loc), va_P D mCl (mW aa q (sI σ 33 n 0 v)) H1 → va_S (wA mC aa) s.heap H1 locs1 → W p l e R s m args below meth c H1 locs1 cells slots Q (F0 m (pc + 3) ls rest)) : W p l e R s m args below meth c H locs cells slots Q (F0 m pc ls (.int v :: .ref (aa 0 n) :: rest)) := by
  refine va_put (D := D) (v := .int v) (ty := .int) (C := bR_M) (T := bT_M) (N := 27) hx hb ht bin_M bty_M bo_M bn_M hown hK hP (wmap_D hJ) hS 0 (mat_0 hn) rfl 3 (by decide) (ht _ hl) (fun _ h9 => h9) rfl (by decide +kernel) rfl rfl (Nat.le_of_ble_eq_true rfl) hd (fun H1 locs1 hP1 _ hS1 => kk H1 locs1 ?_ hS1)
  rw [← mset_0_events hn]
  exact hP1
theorem mset_0_clock {v : Int64} (hn : n < 1) : (mW aa q σ).set 0 (aa 0 n, .inr (0, (mF0 aa σ n).set 4 (.long v))) = mW aa q (sL σ 0 n 0 v) := by
  refine wmap_set mC_nd (mpos_0 n hn) ?_ ?_
  · simp [mE, mF0, gI_sI, gL_sL, gI_sL, gL_sI]
  · intro f9 n9 hne
    match f9, hne with
    | 0, hne =>
      have hn9 : ¬ n9 = n := fun e9 => hne ⟨rfl, e9⟩
      simp [mE, mF0, gI_sI, gL_sL, gI_sL, gL_sI, hn9]
    | 1, _ => rfl
    | 2, _ => rfl
    | 3, _ => rfl
    | 4, _ => rfl
    | 5, _ => rfl
    | 6, _ => rfl
    | 7, _ => rfl
    | 8, _ => rfl
    | 9, _ => rfl
    | 10, _ => rfl
    | 11, _ => rfl
    | 12, _ => rfl
    | 13, _ => rfl
    | 14, _ => rfl
    | 15, _ => rfl
    | 16, _ => rfl
    | 17, _ => rfl
    | 18, _ => rfl
    | 19, _ => rfl
    | 20, _ => rfl
    | 21, _ => rfl
    | 22, _ => rfl
    | k9 + 23, _ => rfl
theorem mp_0_clock (hx : p.tables.exec = Jvm.exec) (hb : c.code = cc) (ht : ∀ w ∈ lw_g, w.before args s = true) (hown : s.vm.findClass own = some m.cls) (hK : va_K D mCl (mT q) s) (hP : va_P D mCl (mW aa q σ) H) (hJ : wJ mC aa) (hS : va_S (wA mC aa) s.heap H locs) (hn : n < 1) {v : Int64} (hl : Cond.fieldLink own index bR_M "clock" "J" ∈ lw_g) (hd : decode cc pc = .ok (.putfield index, 3)) (kk : ∀ (H1 : Heap) (locs1 : List Loc), va_P D mCl (mW aa q (sL σ 0 n 0 v)) H1 → va_S (wA mC aa) s.heap H1 locs1 → W p l e R s m args below meth c H1 locs1 cells slots Q (F0 m (pc + 3) ls rest)) : W p l e R s m args below meth c H locs cells slots Q (F0 m pc ls (.long v :: .ref (aa 0 n) :: rest)) := by
  refine va_put (D := D) (v := .long v) (ty := .long) (C := bR_M) (T := bT_M) (N := 27) hx hb ht bin_M bty_M bo_M bn_M hown hK hP (wmap_D hJ) hS 0 (mat_0 hn) rfl 4 (by decide) (ht _ hl) (fun _ h9 => h9) rfl (by decide +kernel) rfl rfl (Nat.le_of_ble_eq_true rfl) hd (fun H1 locs1 hP1 _ hS1 => kk H1 locs1 ?_ hS1)
  rw [← mset_0_clock hn]
  exact hP1
theorem ml_1 (hx : p.tables.exec = Jvm.exec) (hb : c.code = cc) (hK : va_K D mCl (mT q) s) (hP : va_P D mCl (mW aa q σ) H) (hn : n < 1) {i : Int32} (hi : vp_in i 12) (hd : decode cc pc = .ok (.iaload, 1)) (kk : W p l e R s m args below meth c H locs cells slots Q (F0 m (pc + 1) ls (.int (gI σ 1 n i.toNatClampNeg) :: rest))) : W p l e R s m args below meth c H locs cells slots Q (F0 m pc ls (.int i :: .ref (aa 1 n) :: rest)) :=
  va_iald (f := fun i => gI σ 1 n i) hx hb hK hP 1 0 (mat_1 hn) rfl hi hd kk
theorem mset_1 {i0 : Nat} {v : Int32} (hn : n < 1) : (mW aa q σ).set 1 (aa 1 n, .inl (q 0, 12, .inl (upd (fun i => gI σ 1 n i) i0 v))) = mW aa q (sI σ 1 n i0 v) := by
  refine wmap_set mC_nd (mpos_1 n hn) ?_ ?_
  · rw [upd_sI]
    rfl
  · intro f9 n9 hne
    match f9, hne with
    | 0, _ => rfl
    | 1, hne =>
      have hn9 : ¬ n9 = n := fun e9 => hne ⟨rfl, e9⟩
      simp [mE,  gI_sI, gL_sL, gI_sL, gL_sI, hn9]
    | 2, _ => rfl
    | 3, _ => rfl
    | 4, _ => rfl
    | 5, _ => rfl
    | 6, _ => rfl
    | 7, _ => rfl
    | 8, _ => rfl
    | 9, _ => rfl
    | 10, _ => rfl
    | 11, _ => rfl
    | 12, _ => rfl
    | 13, _ => rfl
    | 14, _ => rfl
    | 15, _ => rfl
    | 16, _ => rfl
    | 17, _ => rfl
    | 18, _ => rfl
    | 19, _ => rfl
    | 20, _ => rfl
    | 21, _ => rfl
    | 22, _ => rfl
    | k9 + 23, _ => rfl
theorem mt_1 (hx : p.tables.exec = Jvm.exec) (hb : c.code = cc) (hK : va_K D mCl (mT q) s) (hP : va_P D mCl (mW aa q σ) H) (hJ : wJ mC aa) (hS : va_S (wA mC aa) s.heap H locs) (hn : n < 1) {i : Int32} (hi : vp_in i 12) {v : Int32} (hd : decode cc pc = .ok (.iastore, 1)) (kk : ∀ (H1 : Heap) (locs1 : List Loc), va_P D mCl (mW aa q (sI σ 1 n i.toNatClampNeg v)) H1 → va_S (wA mC aa) s.heap H1 locs1 → W p l e R s m args below meth c H1 locs1 cells slots Q (F0 m (pc + 1) ls rest)) : W p l e R s m args below meth c H locs cells slots Q (F0 m pc ls (.int v :: .int i :: .ref (aa 1 n) :: rest)) := by
  refine va_iast (f := fun i => gI σ 1 n i) hx hb hK hP (wmap_D hJ) hS 1 0 (mat_1 hn) rfl hi hd (fun H1 locs1 hP1 _ hS1 => kk H1 locs1 ?_ hS1)
  rw [← mset_1 hn]
  exact hP1
theorem ml_2 (hx : p.tables.exec = Jvm.exec) (hb : c.code = cc) (hK : va_K D mCl (mT q) s) (hP : va_P D mCl (mW aa q σ) H) (hn : n < 1) {i : Int32} (hi : vp_in i 12) (hd : decode cc pc = .ok (.iaload, 1)) (kk : W p l e R s m args below meth c H locs cells slots Q (F0 m (pc + 1) ls (.int (gI σ 2 n i.toNatClampNeg) :: rest))) : W p l e R s m args below meth c H locs cells slots Q (F0 m pc ls (.int i :: .ref (aa 2 n) :: rest)) :=
  va_iald (f := fun i => gI σ 2 n i) hx hb hK hP 2 0 (mat_2 hn) rfl hi hd kk
theorem mset_2 {i0 : Nat} {v : Int32} (hn : n < 1) : (mW aa q σ).set 2 (aa 2 n, .inl (q 0, 12, .inl (upd (fun i => gI σ 2 n i) i0 v))) = mW aa q (sI σ 2 n i0 v) := by
  refine wmap_set mC_nd (mpos_2 n hn) ?_ ?_
  · rw [upd_sI]
    rfl
  · intro f9 n9 hne
    match f9, hne with
    | 0, _ => rfl
    | 1, _ => rfl
    | 2, hne =>
      have hn9 : ¬ n9 = n := fun e9 => hne ⟨rfl, e9⟩
      simp [mE,  gI_sI, gL_sL, gI_sL, gL_sI, hn9]
    | 3, _ => rfl
    | 4, _ => rfl
    | 5, _ => rfl
    | 6, _ => rfl
    | 7, _ => rfl
    | 8, _ => rfl
    | 9, _ => rfl
    | 10, _ => rfl
    | 11, _ => rfl
    | 12, _ => rfl
    | 13, _ => rfl
    | 14, _ => rfl
    | 15, _ => rfl
    | 16, _ => rfl
    | 17, _ => rfl
    | 18, _ => rfl
    | 19, _ => rfl
    | 20, _ => rfl
    | 21, _ => rfl
    | 22, _ => rfl
    | k9 + 23, _ => rfl
theorem mt_2 (hx : p.tables.exec = Jvm.exec) (hb : c.code = cc) (hK : va_K D mCl (mT q) s) (hP : va_P D mCl (mW aa q σ) H) (hJ : wJ mC aa) (hS : va_S (wA mC aa) s.heap H locs) (hn : n < 1) {i : Int32} (hi : vp_in i 12) {v : Int32} (hd : decode cc pc = .ok (.iastore, 1)) (kk : ∀ (H1 : Heap) (locs1 : List Loc), va_P D mCl (mW aa q (sI σ 2 n i.toNatClampNeg v)) H1 → va_S (wA mC aa) s.heap H1 locs1 → W p l e R s m args below meth c H1 locs1 cells slots Q (F0 m (pc + 1) ls rest)) : W p l e R s m args below meth c H locs cells slots Q (F0 m pc ls (.int v :: .int i :: .ref (aa 2 n) :: rest)) := by
  refine va_iast (f := fun i => gI σ 2 n i) hx hb hK hP (wmap_D hJ) hS 2 0 (mat_2 hn) rfl hi hd (fun H1 locs1 hP1 _ hS1 => kk H1 locs1 ?_ hS1)
  rw [← mset_2 hn]
  exact hP1
theorem ml_3 (hx : p.tables.exec = Jvm.exec) (hb : c.code = cc) (hK : va_K D mCl (mT q) s) (hP : va_P D mCl (mW aa q σ) H) (hn : n < 1) {i : Int32} (hi : vp_in i 12) (hd : decode cc pc = .ok (.iaload, 1)) (kk : W p l e R s m args below meth c H locs cells slots Q (F0 m (pc + 1) ls (.int (gI σ 3 n i.toNatClampNeg) :: rest))) : W p l e R s m args below meth c H locs cells slots Q (F0 m pc ls (.int i :: .ref (aa 3 n) :: rest)) :=
  va_iald (f := fun i => gI σ 3 n i) hx hb hK hP 3 0 (mat_3 hn) rfl hi hd kk
theorem mset_3 {i0 : Nat} {v : Int32} (hn : n < 1) : (mW aa q σ).set 3 (aa 3 n, .inl (q 0, 12, .inl (upd (fun i => gI σ 3 n i) i0 v))) = mW aa q (sI σ 3 n i0 v) := by
  refine wmap_set mC_nd (mpos_3 n hn) ?_ ?_
  · rw [upd_sI]
    rfl
  · intro f9 n9 hne
    match f9, hne with
    | 0, _ => rfl
    | 1, _ => rfl
    | 2, _ => rfl
    | 3, hne =>
      have hn9 : ¬ n9 = n := fun e9 => hne ⟨rfl, e9⟩
      simp [mE,  gI_sI, gL_sL, gI_sL, gL_sI, hn9]
    | 4, _ => rfl
    | 5, _ => rfl
    | 6, _ => rfl
    | 7, _ => rfl
    | 8, _ => rfl
    | 9, _ => rfl
    | 10, _ => rfl
    | 11, _ => rfl
    | 12, _ => rfl
    | 13, _ => rfl
    | 14, _ => rfl
    | 15, _ => rfl
    | 16, _ => rfl
    | 17, _ => rfl
    | 18, _ => rfl
    | 19, _ => rfl
    | 20, _ => rfl
    | 21, _ => rfl
    | 22, _ => rfl
    | k9 + 23, _ => rfl
theorem mt_3 (hx : p.tables.exec = Jvm.exec) (hb : c.code = cc) (hK : va_K D mCl (mT q) s) (hP : va_P D mCl (mW aa q σ) H) (hJ : wJ mC aa) (hS : va_S (wA mC aa) s.heap H locs) (hn : n < 1) {i : Int32} (hi : vp_in i 12) {v : Int32} (hd : decode cc pc = .ok (.iastore, 1)) (kk : ∀ (H1 : Heap) (locs1 : List Loc), va_P D mCl (mW aa q (sI σ 3 n i.toNatClampNeg v)) H1 → va_S (wA mC aa) s.heap H1 locs1 → W p l e R s m args below meth c H1 locs1 cells slots Q (F0 m (pc + 1) ls rest)) : W p l e R s m args below meth c H locs cells slots Q (F0 m pc ls (.int v :: .int i :: .ref (aa 3 n) :: rest)) := by
  refine va_iast (f := fun i => gI σ 3 n i) hx hb hK hP (wmap_D hJ) hS 3 0 (mat_3 hn) rfl hi hd (fun H1 locs1 hP1 _ hS1 => kk H1 locs1 ?_ hS1)
  rw [← mset_3 hn]
  exact hP1
theorem ml_4 (hx : p.tables.exec = Jvm.exec) (hb : c.code = cc) (hK : va_K D mCl (mT q) s) (hP : va_P D mCl (mW aa q σ) H) (hn : n < 1) {i : Int32} (hi : vp_in i 12) (hd : decode cc pc = .ok (.iaload, 1)) (kk : W p l e R s m args below meth c H locs cells slots Q (F0 m (pc + 1) ls (.int (gI σ 4 n i.toNatClampNeg) :: rest))) : W p l e R s m args below meth c H locs cells slots Q (F0 m pc ls (.int i :: .ref (aa 4 n) :: rest)) :=
  va_iald (f := fun i => gI σ 4 n i) hx hb hK hP 4 0 (mat_4 hn) rfl hi hd kk
theorem mset_4 {i0 : Nat} {v : Int32} (hn : n < 1) : (mW aa q σ).set 4 (aa 4 n, .inl (q 0, 12, .inl (upd (fun i => gI σ 4 n i) i0 v))) = mW aa q (sI σ 4 n i0 v) := by
  refine wmap_set mC_nd (mpos_4 n hn) ?_ ?_
  · rw [upd_sI]
    rfl
  · intro f9 n9 hne
    match f9, hne with
    | 0, _ => rfl
    | 1, _ => rfl
    | 2, _ => rfl
    | 3, _ => rfl
    | 4, hne =>
      have hn9 : ¬ n9 = n := fun e9 => hne ⟨rfl, e9⟩
      simp [mE,  gI_sI, gL_sL, gI_sL, gL_sI, hn9]
    | 5, _ => rfl
    | 6, _ => rfl
    | 7, _ => rfl
    | 8, _ => rfl
    | 9, _ => rfl
    | 10, _ => rfl
    | 11, _ => rfl
    | 12, _ => rfl
    | 13, _ => rfl
    | 14, _ => rfl
    | 15, _ => rfl
    | 16, _ => rfl
    | 17, _ => rfl
    | 18, _ => rfl
    | 19, _ => rfl
    | 20, _ => rfl
    | 21, _ => rfl
    | 22, _ => rfl
    | k9 + 23, _ => rfl
theorem mt_4 (hx : p.tables.exec = Jvm.exec) (hb : c.code = cc) (hK : va_K D mCl (mT q) s) (hP : va_P D mCl (mW aa q σ) H) (hJ : wJ mC aa) (hS : va_S (wA mC aa) s.heap H locs) (hn : n < 1) {i : Int32} (hi : vp_in i 12) {v : Int32} (hd : decode cc pc = .ok (.iastore, 1)) (kk : ∀ (H1 : Heap) (locs1 : List Loc), va_P D mCl (mW aa q (sI σ 4 n i.toNatClampNeg v)) H1 → va_S (wA mC aa) s.heap H1 locs1 → W p l e R s m args below meth c H1 locs1 cells slots Q (F0 m (pc + 1) ls rest)) : W p l e R s m args below meth c H locs cells slots Q (F0 m pc ls (.int v :: .int i :: .ref (aa 4 n) :: rest)) := by
  refine va_iast (f := fun i => gI σ 4 n i) hx hb hK hP (wmap_D hJ) hS 4 0 (mat_4 hn) rfl hi hd (fun H1 locs1 hP1 _ hS1 => kk H1 locs1 ?_ hS1)
  rw [← mset_4 hn]
  exact hP1
theorem ml_5 (hx : p.tables.exec = Jvm.exec) (hb : c.code = cc) (hK : va_K D mCl (mT q) s) (hP : va_P D mCl (mW aa q σ) H) (hn : n < 1) {i : Int32} (hi : vp_in i 12) (hd : decode cc pc = .ok (.iaload, 1)) (kk : W p l e R s m args below meth c H locs cells slots Q (F0 m (pc + 1) ls (.int (gI σ 5 n i.toNatClampNeg) :: rest))) : W p l e R s m args below meth c H locs cells slots Q (F0 m pc ls (.int i :: .ref (aa 5 n) :: rest)) :=
  va_iald (f := fun i => gI σ 5 n i) hx hb hK hP 5 0 (mat_5 hn) rfl hi hd kk
theorem mset_5 {i0 : Nat} {v : Int32} (hn : n < 1) : (mW aa q σ).set 5 (aa 5 n, .inl (q 0, 12, .inl (upd (fun i => gI σ 5 n i) i0 v))) = mW aa q (sI σ 5 n i0 v) := by
  refine wmap_set mC_nd (mpos_5 n hn) ?_ ?_
  · rw [upd_sI]
    rfl
  · intro f9 n9 hne
    match f9, hne with
    | 0, _ => rfl
    | 1, _ => rfl
    | 2, _ => rfl
    | 3, _ => rfl
    | 4, _ => rfl
    | 5, hne =>
      have hn9 : ¬ n9 = n := fun e9 => hne ⟨rfl, e9⟩
      simp [mE,  gI_sI, gL_sL, gI_sL, gL_sI, hn9]
    | 6, _ => rfl
    | 7, _ => rfl
    | 8, _ => rfl
    | 9, _ => rfl
    | 10, _ => rfl
    | 11, _ => rfl
    | 12, _ => rfl
    | 13, _ => rfl
    | 14, _ => rfl
    | 15, _ => rfl
    | 16, _ => rfl
    | 17, _ => rfl
    | 18, _ => rfl
    | 19, _ => rfl
    | 20, _ => rfl
    | 21, _ => rfl
    | 22, _ => rfl
    | k9 + 23, _ => rfl
theorem mt_5 (hx : p.tables.exec = Jvm.exec) (hb : c.code = cc) (hK : va_K D mCl (mT q) s) (hP : va_P D mCl (mW aa q σ) H) (hJ : wJ mC aa) (hS : va_S (wA mC aa) s.heap H locs) (hn : n < 1) {i : Int32} (hi : vp_in i 12) {v : Int32} (hd : decode cc pc = .ok (.iastore, 1)) (kk : ∀ (H1 : Heap) (locs1 : List Loc), va_P D mCl (mW aa q (sI σ 5 n i.toNatClampNeg v)) H1 → va_S (wA mC aa) s.heap H1 locs1 → W p l e R s m args below meth c H1 locs1 cells slots Q (F0 m (pc + 1) ls rest)) : W p l e R s m args below meth c H locs cells slots Q (F0 m pc ls (.int v :: .int i :: .ref (aa 5 n) :: rest)) := by
  refine va_iast (f := fun i => gI σ 5 n i) hx hb hK hP (wmap_D hJ) hS 5 0 (mat_5 hn) rfl hi hd (fun H1 locs1 hP1 _ hS1 => kk H1 locs1 ?_ hS1)
  rw [← mset_5 hn]
  exact hP1
theorem ml_6 (hx : p.tables.exec = Jvm.exec) (hb : c.code = cc) (hK : va_K D mCl (mT q) s) (hP : va_P D mCl (mW aa q σ) H) (hn : n < 1) {i : Int32} (hi : vp_in i 12) (hd : decode cc pc = .ok (.iaload, 1)) (kk : W p l e R s m args below meth c H locs cells slots Q (F0 m (pc + 1) ls (.int (gI σ 6 n i.toNatClampNeg) :: rest))) : W p l e R s m args below meth c H locs cells slots Q (F0 m pc ls (.int i :: .ref (aa 6 n) :: rest)) :=
  va_iald (f := fun i => gI σ 6 n i) hx hb hK hP 6 0 (mat_6 hn) rfl hi hd kk
theorem mset_6 {i0 : Nat} {v : Int32} (hn : n < 1) : (mW aa q σ).set 6 (aa 6 n, .inl (q 0, 12, .inl (upd (fun i => gI σ 6 n i) i0 v))) = mW aa q (sI σ 6 n i0 v) := by
  refine wmap_set mC_nd (mpos_6 n hn) ?_ ?_
  · rw [upd_sI]
    rfl
  · intro f9 n9 hne
    match f9, hne with
    | 0, _ => rfl
    | 1, _ => rfl
    | 2, _ => rfl
    | 3, _ => rfl
    | 4, _ => rfl
    | 5, _ => rfl
    | 6, hne =>
      have hn9 : ¬ n9 = n := fun e9 => hne ⟨rfl, e9⟩
      simp [mE,  gI_sI, gL_sL, gI_sL, gL_sI, hn9]
    | 7, _ => rfl
    | 8, _ => rfl
    | 9, _ => rfl
    | 10, _ => rfl
    | 11, _ => rfl
    | 12, _ => rfl
    | 13, _ => rfl
    | 14, _ => rfl
    | 15, _ => rfl
    | 16, _ => rfl
    | 17, _ => rfl
    | 18, _ => rfl
    | 19, _ => rfl
    | 20, _ => rfl
    | 21, _ => rfl
    | 22, _ => rfl
    | k9 + 23, _ => rfl
theorem mt_6 (hx : p.tables.exec = Jvm.exec) (hb : c.code = cc) (hK : va_K D mCl (mT q) s) (hP : va_P D mCl (mW aa q σ) H) (hJ : wJ mC aa) (hS : va_S (wA mC aa) s.heap H locs) (hn : n < 1) {i : Int32} (hi : vp_in i 12) {v : Int32} (hd : decode cc pc = .ok (.iastore, 1)) (kk : ∀ (H1 : Heap) (locs1 : List Loc), va_P D mCl (mW aa q (sI σ 6 n i.toNatClampNeg v)) H1 → va_S (wA mC aa) s.heap H1 locs1 → W p l e R s m args below meth c H1 locs1 cells slots Q (F0 m (pc + 1) ls rest)) : W p l e R s m args below meth c H locs cells slots Q (F0 m pc ls (.int v :: .int i :: .ref (aa 6 n) :: rest)) := by
  refine va_iast (f := fun i => gI σ 6 n i) hx hb hK hP (wmap_D hJ) hS 6 0 (mat_6 hn) rfl hi hd (fun H1 locs1 hP1 _ hS1 => kk H1 locs1 ?_ hS1)
  rw [← mset_6 hn]
  exact hP1
theorem ml_8 (hx : p.tables.exec = Jvm.exec) (hb : c.code = cc) (hK : va_K D mCl (mT q) s) (hP : va_P D mCl (mW aa q σ) H) (hn : n < 1) {i : Int32} (hi : vp_in i 12) (hd : decode cc pc = .ok (.iaload, 1)) (kk : W p l e R s m args below meth c H locs cells slots Q (F0 m (pc + 1) ls (.int (gI σ 8 n i.toNatClampNeg) :: rest))) : W p l e R s m args below meth c H locs cells slots Q (F0 m pc ls (.int i :: .ref (aa 8 n) :: rest)) :=
  va_iald (f := fun i => gI σ 8 n i) hx hb hK hP 8 0 (mat_8 hn) rfl hi hd kk
theorem mset_8 {i0 : Nat} {v : Int32} (hn : n < 1) : (mW aa q σ).set 8 (aa 8 n, .inl (q 0, 12, .inl (upd (fun i => gI σ 8 n i) i0 v))) = mW aa q (sI σ 8 n i0 v) := by
  refine wmap_set mC_nd (mpos_8 n hn) ?_ ?_
  · rw [upd_sI]
    rfl
  · intro f9 n9 hne
    match f9, hne with
    | 0, _ => rfl
    | 1, _ => rfl
    | 2, _ => rfl
    | 3, _ => rfl
    | 4, _ => rfl
    | 5, _ => rfl
    | 6, _ => rfl
    | 7, _ => rfl
    | 8, hne =>
      have hn9 : ¬ n9 = n := fun e9 => hne ⟨rfl, e9⟩
      simp [mE,  gI_sI, gL_sL, gI_sL, gL_sI, hn9]
    | 9, _ => rfl
    | 10, _ => rfl
    | 11, _ => rfl
    | 12, _ => rfl
    | 13, _ => rfl
    | 14, _ => rfl
    | 15, _ => rfl
    | 16, _ => rfl
    | 17, _ => rfl
    | 18, _ => rfl
    | 19, _ => rfl
    | 20, _ => rfl
    | 21, _ => rfl
    | 22, _ => rfl
    | k9 + 23, _ => rfl
theorem mt_8 (hx : p.tables.exec = Jvm.exec) (hb : c.code = cc) (hK : va_K D mCl (mT q) s) (hP : va_P D mCl (mW aa q σ) H) (hJ : wJ mC aa) (hS : va_S (wA mC aa) s.heap H locs) (hn : n < 1) {i : Int32} (hi : vp_in i 12) {v : Int32} (hd : decode cc pc = .ok (.iastore, 1)) (kk : ∀ (H1 : Heap) (locs1 : List Loc), va_P D mCl (mW aa q (sI σ 8 n i.toNatClampNeg v)) H1 → va_S (wA mC aa) s.heap H1 locs1 → W p l e R s m args below meth c H1 locs1 cells slots Q (F0 m (pc + 1) ls rest)) : W p l e R s m args below meth c H locs cells slots Q (F0 m pc ls (.int v :: .int i :: .ref (aa 8 n) :: rest)) := by
  refine va_iast (f := fun i => gI σ 8 n i) hx hb hK hP (wmap_D hJ) hS 8 0 (mat_8 hn) rfl hi hd (fun H1 locs1 hP1 _ hS1 => kk H1 locs1 ?_ hS1)
  rw [← mset_8 hn]
  exact hP1
theorem ml_9 (hx : p.tables.exec = Jvm.exec) (hb : c.code = cc) (hK : va_K D mCl (mT q) s) (hP : va_P D mCl (mW aa q σ) H) (hn : n < 1) {i : Int32} (hi : vp_in i 12) (hd : decode cc pc = .ok (.iaload, 1)) (kk : W p l e R s m args below meth c H locs cells slots Q (F0 m (pc + 1) ls (.int (gI σ 9 n i.toNatClampNeg) :: rest))) : W p l e R s m args below meth c H locs cells slots Q (F0 m pc ls (.int i :: .ref (aa 9 n) :: rest)) :=
  va_iald (f := fun i => gI σ 9 n i) hx hb hK hP 9 0 (mat_9 hn) rfl hi hd kk
theorem mset_9 {i0 : Nat} {v : Int32} (hn : n < 1) : (mW aa q σ).set 9 (aa 9 n, .inl (q 0, 12, .inl (upd (fun i => gI σ 9 n i) i0 v))) = mW aa q (sI σ 9 n i0 v) := by
  refine wmap_set mC_nd (mpos_9 n hn) ?_ ?_
  · rw [upd_sI]
    rfl
  · intro f9 n9 hne
    match f9, hne with
    | 0, _ => rfl
    | 1, _ => rfl
    | 2, _ => rfl
    | 3, _ => rfl
    | 4, _ => rfl
    | 5, _ => rfl
    | 6, _ => rfl
    | 7, _ => rfl
    | 8, _ => rfl
    | 9, hne =>
      have hn9 : ¬ n9 = n := fun e9 => hne ⟨rfl, e9⟩
      simp [mE,  gI_sI, gL_sL, gI_sL, gL_sI, hn9]
    | 10, _ => rfl
    | 11, _ => rfl
    | 12, _ => rfl
    | 13, _ => rfl
    | 14, _ => rfl
    | 15, _ => rfl
    | 16, _ => rfl
    | 17, _ => rfl
    | 18, _ => rfl
    | 19, _ => rfl
    | 20, _ => rfl
    | 21, _ => rfl
    | 22, _ => rfl
    | k9 + 23, _ => rfl
theorem mt_9 (hx : p.tables.exec = Jvm.exec) (hb : c.code = cc) (hK : va_K D mCl (mT q) s) (hP : va_P D mCl (mW aa q σ) H) (hJ : wJ mC aa) (hS : va_S (wA mC aa) s.heap H locs) (hn : n < 1) {i : Int32} (hi : vp_in i 12) {v : Int32} (hd : decode cc pc = .ok (.iastore, 1)) (kk : ∀ (H1 : Heap) (locs1 : List Loc), va_P D mCl (mW aa q (sI σ 9 n i.toNatClampNeg v)) H1 → va_S (wA mC aa) s.heap H1 locs1 → W p l e R s m args below meth c H1 locs1 cells slots Q (F0 m (pc + 1) ls rest)) : W p l e R s m args below meth c H locs cells slots Q (F0 m pc ls (.int v :: .int i :: .ref (aa 9 n) :: rest)) := by
  refine va_iast (f := fun i => gI σ 9 n i) hx hb hK hP (wmap_D hJ) hS 9 0 (mat_9 hn) rfl hi hd (fun H1 locs1 hP1 _ hS1 => kk H1 locs1 ?_ hS1)
  rw [← mset_9 hn]
  exact hP1
theorem ml_11 (hx : p.tables.exec = Jvm.exec) (hb : c.code = cc) (hK : va_K D mCl (mT q) s) (hP : va_P D mCl (mW aa q σ) H) (hn : n < 1) {i : Int32} (hi : vp_in i 120) (hd : decode cc pc = .ok (.iaload, 1)) (kk : W p l e R s m args below meth c H locs cells slots Q (F0 m (pc + 1) ls (.int (gI σ 11 n i.toNatClampNeg) :: rest))) : W p l e R s m args below meth c H locs cells slots Q (F0 m pc ls (.int i :: .ref (aa 11 n) :: rest)) :=
  va_iald (f := fun i => gI σ 11 n i) hx hb hK hP 11 0 (mat_11 hn) rfl hi hd kk
theorem mset_11 {i0 : Nat} {v : Int32} (hn : n < 1) : (mW aa q σ).set 11 (aa 11 n, .inl (q 0, 120, .inl (upd (fun i => gI σ 11 n i) i0 v))) = mW aa q (sI σ 11 n i0 v) := by
  refine wmap_set mC_nd (mpos_11 n hn) ?_ ?_
  · rw [upd_sI]
    rfl
  · intro f9 n9 hne
    match f9, hne with
    | 0, _ => rfl
    | 1, _ => rfl
    | 2, _ => rfl
    | 3, _ => rfl
    | 4, _ => rfl
    | 5, _ => rfl
    | 6, _ => rfl
    | 7, _ => rfl
    | 8, _ => rfl
    | 9, _ => rfl
    | 10, _ => rfl
    | 11, hne =>
      have hn9 : ¬ n9 = n := fun e9 => hne ⟨rfl, e9⟩
      simp [mE,  gI_sI, gL_sL, gI_sL, gL_sI, hn9]
    | 12, _ => rfl
    | 13, _ => rfl
    | 14, _ => rfl
    | 15, _ => rfl
    | 16, _ => rfl
    | 17, _ => rfl
    | 18, _ => rfl
    | 19, _ => rfl
    | 20, _ => rfl
    | 21, _ => rfl
    | 22, _ => rfl
    | k9 + 23, _ => rfl
theorem mt_11 (hx : p.tables.exec = Jvm.exec) (hb : c.code = cc) (hK : va_K D mCl (mT q) s) (hP : va_P D mCl (mW aa q σ) H) (hJ : wJ mC aa) (hS : va_S (wA mC aa) s.heap H locs) (hn : n < 1) {i : Int32} (hi : vp_in i 120) {v : Int32} (hd : decode cc pc = .ok (.iastore, 1)) (kk : ∀ (H1 : Heap) (locs1 : List Loc), va_P D mCl (mW aa q (sI σ 11 n i.toNatClampNeg v)) H1 → va_S (wA mC aa) s.heap H1 locs1 → W p l e R s m args below meth c H1 locs1 cells slots Q (F0 m (pc + 1) ls rest)) : W p l e R s m args below meth c H locs cells slots Q (F0 m pc ls (.int v :: .int i :: .ref (aa 11 n) :: rest)) := by
  refine va_iast (f := fun i => gI σ 11 n i) hx hb hK hP (wmap_D hJ) hS 11 0 (mat_11 hn) rfl hi hd (fun H1 locs1 hP1 _ hS1 => kk H1 locs1 ?_ hS1)
  rw [← mset_11 hn]
  exact hP1
theorem ml_12 (hx : p.tables.exec = Jvm.exec) (hb : c.code = cc) (hK : va_K D mCl (mT q) s) (hP : va_P D mCl (mW aa q σ) H) (hn : n < 1) {i : Int32} (hi : vp_in i 120) (hd : decode cc pc = .ok (.iaload, 1)) (kk : W p l e R s m args below meth c H locs cells slots Q (F0 m (pc + 1) ls (.int (gI σ 12 n i.toNatClampNeg) :: rest))) : W p l e R s m args below meth c H locs cells slots Q (F0 m pc ls (.int i :: .ref (aa 12 n) :: rest)) :=
  va_iald (f := fun i => gI σ 12 n i) hx hb hK hP 12 0 (mat_12 hn) rfl hi hd kk
theorem mset_12 {i0 : Nat} {v : Int32} (hn : n < 1) : (mW aa q σ).set 12 (aa 12 n, .inl (q 0, 120, .inl (upd (fun i => gI σ 12 n i) i0 v))) = mW aa q (sI σ 12 n i0 v) := by
  refine wmap_set mC_nd (mpos_12 n hn) ?_ ?_
  · rw [upd_sI]
    rfl
  · intro f9 n9 hne
    match f9, hne with
    | 0, _ => rfl
    | 1, _ => rfl
    | 2, _ => rfl
    | 3, _ => rfl
    | 4, _ => rfl
    | 5, _ => rfl
    | 6, _ => rfl
    | 7, _ => rfl
    | 8, _ => rfl
    | 9, _ => rfl
    | 10, _ => rfl
    | 11, _ => rfl
    | 12, hne =>
      have hn9 : ¬ n9 = n := fun e9 => hne ⟨rfl, e9⟩
      simp [mE,  gI_sI, gL_sL, gI_sL, gL_sI, hn9]
    | 13, _ => rfl
    | 14, _ => rfl
    | 15, _ => rfl
    | 16, _ => rfl
    | 17, _ => rfl
    | 18, _ => rfl
    | 19, _ => rfl
    | 20, _ => rfl
    | 21, _ => rfl
    | 22, _ => rfl
    | k9 + 23, _ => rfl
theorem mt_12 (hx : p.tables.exec = Jvm.exec) (hb : c.code = cc) (hK : va_K D mCl (mT q) s) (hP : va_P D mCl (mW aa q σ) H) (hJ : wJ mC aa) (hS : va_S (wA mC aa) s.heap H locs) (hn : n < 1) {i : Int32} (hi : vp_in i 120) {v : Int32} (hd : decode cc pc = .ok (.iastore, 1)) (kk : ∀ (H1 : Heap) (locs1 : List Loc), va_P D mCl (mW aa q (sI σ 12 n i.toNatClampNeg v)) H1 → va_S (wA mC aa) s.heap H1 locs1 → W p l e R s m args below meth c H1 locs1 cells slots Q (F0 m (pc + 1) ls rest)) : W p l e R s m args below meth c H locs cells slots Q (F0 m pc ls (.int v :: .int i :: .ref (aa 12 n) :: rest)) := by
  refine va_iast (f := fun i => gI σ 12 n i) hx hb hK hP (wmap_D hJ) hS 12 0 (mat_12 hn) rfl hi hd (fun H1 locs1 hP1 _ hS1 => kk H1 locs1 ?_ hS1)
  rw [← mset_12 hn]
  exact hP1
theorem ml_13 (hx : p.tables.exec = Jvm.exec) (hb : c.code = cc) (hK : va_K D mCl (mT q) s) (hP : va_P D mCl (mW aa q σ) H) (hn : n < 1) {i : Int32} (hi : vp_in i 120) (hd : decode cc pc = .ok (.iaload, 1)) (kk : W p l e R s m args below meth c H locs cells slots Q (F0 m (pc + 1) ls (.int (gI σ 13 n i.toNatClampNeg) :: rest))) : W p l e R s m args below meth c H locs cells slots Q (F0 m pc ls (.int i :: .ref (aa 13 n) :: rest)) :=
  va_iald (f := fun i => gI σ 13 n i) hx hb hK hP 13 0 (mat_13 hn) rfl hi hd kk
theorem mset_13 {i0 : Nat} {v : Int32} (hn : n < 1) : (mW aa q σ).set 13 (aa 13 n, .inl (q 0, 120, .inl (upd (fun i => gI σ 13 n i) i0 v))) = mW aa q (sI σ 13 n i0 v) := by
  refine wmap_set mC_nd (mpos_13 n hn) ?_ ?_
  · rw [upd_sI]
    rfl
  · intro f9 n9 hne
    match f9, hne with
    | 0, _ => rfl
    | 1, _ => rfl
    | 2, _ => rfl
    | 3, _ => rfl
    | 4, _ => rfl
    | 5, _ => rfl
    | 6, _ => rfl
    | 7, _ => rfl
    | 8, _ => rfl
    | 9, _ => rfl
    | 10, _ => rfl
    | 11, _ => rfl
    | 12, _ => rfl
    | 13, hne =>
      have hn9 : ¬ n9 = n := fun e9 => hne ⟨rfl, e9⟩
      simp [mE,  gI_sI, gL_sL, gI_sL, gL_sI, hn9]
    | 14, _ => rfl
    | 15, _ => rfl
    | 16, _ => rfl
    | 17, _ => rfl
    | 18, _ => rfl
    | 19, _ => rfl
    | 20, _ => rfl
    | 21, _ => rfl
    | 22, _ => rfl
    | k9 + 23, _ => rfl
theorem mt_13 (hx : p.tables.exec = Jvm.exec) (hb : c.code = cc) (hK : va_K D mCl (mT q) s) (hP : va_P D mCl (mW aa q σ) H) (hJ : wJ mC aa) (hS : va_S (wA mC aa) s.heap H locs) (hn : n < 1) {i : Int32} (hi : vp_in i 120) {v : Int32} (hd : decode cc pc = .ok (.iastore, 1)) (kk : ∀ (H1 : Heap) (locs1 : List Loc), va_P D mCl (mW aa q (sI σ 13 n i.toNatClampNeg v)) H1 → va_S (wA mC aa) s.heap H1 locs1 → W p l e R s m args below meth c H1 locs1 cells slots Q (F0 m (pc + 1) ls rest)) : W p l e R s m args below meth c H locs cells slots Q (F0 m pc ls (.int v :: .int i :: .ref (aa 13 n) :: rest)) := by
  refine va_iast (f := fun i => gI σ 13 n i) hx hb hK hP (wmap_D hJ) hS 13 0 (mat_13 hn) rfl hi hd (fun H1 locs1 hP1 _ hS1 => kk H1 locs1 ?_ hS1)
  rw [← mset_13 hn]
  exact hP1
theorem ml_14 (hx : p.tables.exec = Jvm.exec) (hb : c.code = cc) (hK : va_K D mCl (mT q) s) (hP : va_P D mCl (mW aa q σ) H) (hn : n < 1) {i : Int32} (hi : vp_in i 48) (hd : decode cc pc = .ok (.iaload, 1)) (kk : W p l e R s m args below meth c H locs cells slots Q (F0 m (pc + 1) ls (.int (gI σ 14 n i.toNatClampNeg) :: rest))) : W p l e R s m args below meth c H locs cells slots Q (F0 m pc ls (.int i :: .ref (aa 14 n) :: rest)) :=
  va_iald (f := fun i => gI σ 14 n i) hx hb hK hP 14 0 (mat_14 hn) rfl hi hd kk
theorem mset_14 {i0 : Nat} {v : Int32} (hn : n < 1) : (mW aa q σ).set 14 (aa 14 n, .inl (q 0, 48, .inl (upd (fun i => gI σ 14 n i) i0 v))) = mW aa q (sI σ 14 n i0 v) := by
  refine wmap_set mC_nd (mpos_14 n hn) ?_ ?_
  · rw [upd_sI]
    rfl
  · intro f9 n9 hne
    match f9, hne with
    | 0, _ => rfl
    | 1, _ => rfl
    | 2, _ => rfl
    | 3, _ => rfl
    | 4, _ => rfl
    | 5, _ => rfl
    | 6, _ => rfl
    | 7, _ => rfl
    | 8, _ => rfl
    | 9, _ => rfl
    | 10, _ => rfl
    | 11, _ => rfl
    | 12, _ => rfl
    | 13, _ => rfl
    | 14, hne =>
      have hn9 : ¬ n9 = n := fun e9 => hne ⟨rfl, e9⟩
      simp [mE,  gI_sI, gL_sL, gI_sL, gL_sI, hn9]
    | 15, _ => rfl
    | 16, _ => rfl
    | 17, _ => rfl
    | 18, _ => rfl
    | 19, _ => rfl
    | 20, _ => rfl
    | 21, _ => rfl
    | 22, _ => rfl
    | k9 + 23, _ => rfl
theorem mt_14 (hx : p.tables.exec = Jvm.exec) (hb : c.code = cc) (hK : va_K D mCl (mT q) s) (hP : va_P D mCl (mW aa q σ) H) (hJ : wJ mC aa) (hS : va_S (wA mC aa) s.heap H locs) (hn : n < 1) {i : Int32} (hi : vp_in i 48) {v : Int32} (hd : decode cc pc = .ok (.iastore, 1)) (kk : ∀ (H1 : Heap) (locs1 : List Loc), va_P D mCl (mW aa q (sI σ 14 n i.toNatClampNeg v)) H1 → va_S (wA mC aa) s.heap H1 locs1 → W p l e R s m args below meth c H1 locs1 cells slots Q (F0 m (pc + 1) ls rest)) : W p l e R s m args below meth c H locs cells slots Q (F0 m pc ls (.int v :: .int i :: .ref (aa 14 n) :: rest)) := by
  refine va_iast (f := fun i => gI σ 14 n i) hx hb hK hP (wmap_D hJ) hS 14 0 (mat_14 hn) rfl hi hd (fun H1 locs1 hP1 _ hS1 => kk H1 locs1 ?_ hS1)
  rw [← mset_14 hn]
  exact hP1
theorem ml_15 (hx : p.tables.exec = Jvm.exec) (hb : c.code = cc) (hK : va_K D mCl (mT q) s) (hP : va_P D mCl (mW aa q σ) H) (hn : n < 1) {i : Int32} (hi : vp_in i 4) (hd : decode cc pc = .ok (.iaload, 1)) (kk : W p l e R s m args below meth c H locs cells slots Q (F0 m (pc + 1) ls (.int (gI σ 15 n i.toNatClampNeg) :: rest))) : W p l e R s m args below meth c H locs cells slots Q (F0 m pc ls (.int i :: .ref (aa 15 n) :: rest)) :=
  va_iald (f := fun i => gI σ 15 n i) hx hb hK hP 15 0 (mat_15 hn) rfl hi hd kk
theorem mset_15 {i0 : Nat} {v : Int32} (hn : n < 1) : (mW aa q σ).set 15 (aa 15 n, .inl (q 0, 4, .inl (upd (fun i => gI σ 15 n i) i0 v))) = mW aa q (sI σ 15 n i0 v) := by
  refine wmap_set mC_nd (mpos_15 n hn) ?_ ?_
  · rw [upd_sI]
    rfl
  · intro f9 n9 hne
    match f9, hne with
    | 0, _ => rfl
    | 1, _ => rfl
    | 2, _ => rfl
    | 3, _ => rfl
    | 4, _ => rfl
    | 5, _ => rfl
    | 6, _ => rfl
    | 7, _ => rfl
    | 8, _ => rfl
    | 9, _ => rfl
    | 10, _ => rfl
    | 11, _ => rfl
    | 12, _ => rfl
    | 13, _ => rfl
    | 14, _ => rfl
    | 15, hne =>
      have hn9 : ¬ n9 = n := fun e9 => hne ⟨rfl, e9⟩
      simp [mE,  gI_sI, gL_sL, gI_sL, gL_sI, hn9]
    | 16, _ => rfl
    | 17, _ => rfl
    | 18, _ => rfl
    | 19, _ => rfl
    | 20, _ => rfl
    | 21, _ => rfl
    | 22, _ => rfl
    | k9 + 23, _ => rfl
theorem mt_15 (hx : p.tables.exec = Jvm.exec) (hb : c.code = cc) (hK : va_K D mCl (mT q) s) (hP : va_P D mCl (mW aa q σ) H) (hJ : wJ mC aa) (hS : va_S (wA mC aa) s.heap H locs) (hn : n < 1) {i : Int32} (hi : vp_in i 4) {v : Int32} (hd : decode cc pc = .ok (.iastore, 1)) (kk : ∀ (H1 : Heap) (locs1 : List Loc), va_P D mCl (mW aa q (sI σ 15 n i.toNatClampNeg v)) H1 → va_S (wA mC aa) s.heap H1 locs1 → W p l e R s m args below meth c H1 locs1 cells slots Q (F0 m (pc + 1) ls rest)) : W p l e R s m args below meth c H locs cells slots Q (F0 m pc ls (.int v :: .int i :: .ref (aa 15 n) :: rest)) := by
  refine va_iast (f := fun i => gI σ 15 n i) hx hb hK hP (wmap_D hJ) hS 15 0 (mat_15 hn) rfl hi hd (fun H1 locs1 hP1 _ hS1 => kk H1 locs1 ?_ hS1)
  rw [← mset_15 hn]
  exact hP1
theorem ml_19 (hx : p.tables.exec = Jvm.exec) (hb : c.code = cc) (hK : va_K D mCl (mT q) s) (hP : va_P D mCl (mW aa q σ) H) (hn : n < 1) {i : Int32} (hi : vp_in i 4) (hd : decode cc pc = .ok (.iaload, 1)) (kk : W p l e R s m args below meth c H locs cells slots Q (F0 m (pc + 1) ls (.int (gI σ 19 n i.toNatClampNeg) :: rest))) : W p l e R s m args below meth c H locs cells slots Q (F0 m pc ls (.int i :: .ref (aa 19 n) :: rest)) :=
  va_iald (f := fun i => gI σ 19 n i) hx hb hK hP 19 0 (mat_19 hn) rfl hi hd kk
theorem mset_19 {i0 : Nat} {v : Int32} (hn : n < 1) : (mW aa q σ).set 19 (aa 19 n, .inl (q 0, 4, .inl (upd (fun i => gI σ 19 n i) i0 v))) = mW aa q (sI σ 19 n i0 v) := by
  refine wmap_set mC_nd (mpos_19 n hn) ?_ ?_
  · rw [upd_sI]
    rfl
  · intro f9 n9 hne
    match f9, hne with
    | 0, _ => rfl
    | 1, _ => rfl
    | 2, _ => rfl
    | 3, _ => rfl
    | 4, _ => rfl
    | 5, _ => rfl
    | 6, _ => rfl
    | 7, _ => rfl
    | 8, _ => rfl
    | 9, _ => rfl
    | 10, _ => rfl
    | 11, _ => rfl
    | 12, _ => rfl
    | 13, _ => rfl
    | 14, _ => rfl
    | 15, _ => rfl
    | 16, _ => rfl
    | 17, _ => rfl
    | 18, _ => rfl
    | 19, hne =>
      have hn9 : ¬ n9 = n := fun e9 => hne ⟨rfl, e9⟩
      simp [mE,  gI_sI, gL_sL, gI_sL, gL_sI, hn9]
    | 20, _ => rfl
    | 21, _ => rfl
    | 22, _ => rfl
    | k9 + 23, _ => rfl
theorem mt_19 (hx : p.tables.exec = Jvm.exec) (hb : c.code = cc) (hK : va_K D mCl (mT q) s) (hP : va_P D mCl (mW aa q σ) H) (hJ : wJ mC aa) (hS : va_S (wA mC aa) s.heap H locs) (hn : n < 1) {i : Int32} (hi : vp_in i 4) {v : Int32} (hd : decode cc pc = .ok (.iastore, 1)) (kk : ∀ (H1 : Heap) (locs1 : List Loc), va_P D mCl (mW aa q (sI σ 19 n i.toNatClampNeg v)) H1 → va_S (wA mC aa) s.heap H1 locs1 → W p l e R s m args below meth c H1 locs1 cells slots Q (F0 m (pc + 1) ls rest)) : W p l e R s m args below meth c H locs cells slots Q (F0 m pc ls (.int v :: .int i :: .ref (aa 19 n) :: rest)) := by
  refine va_iast (f := fun i => gI σ 19 n i) hx hb hK hP (wmap_D hJ) hS 19 0 (mat_19 hn) rfl hi hd (fun H1 locs1 hP1 _ hS1 => kk H1 locs1 ?_ hS1)
  rw [← mset_19 hn]
  exact hP1
theorem ml_20 (hx : p.tables.exec = Jvm.exec) (hb : c.code = cc) (hK : va_K D mCl (mT q) s) (hP : va_P D mCl (mW aa q σ) H) (hn : n < 1) {i : Int32} (hi : vp_in i 4) (hd : decode cc pc = .ok (.iaload, 1)) (kk : W p l e R s m args below meth c H locs cells slots Q (F0 m (pc + 1) ls (.int (gI σ 20 n i.toNatClampNeg) :: rest))) : W p l e R s m args below meth c H locs cells slots Q (F0 m pc ls (.int i :: .ref (aa 20 n) :: rest)) :=
  va_iald (f := fun i => gI σ 20 n i) hx hb hK hP 20 0 (mat_20 hn) rfl hi hd kk
theorem mset_20 {i0 : Nat} {v : Int32} (hn : n < 1) : (mW aa q σ).set 20 (aa 20 n, .inl (q 0, 4, .inl (upd (fun i => gI σ 20 n i) i0 v))) = mW aa q (sI σ 20 n i0 v) := by
  refine wmap_set mC_nd (mpos_20 n hn) ?_ ?_
  · rw [upd_sI]
    rfl
  · intro f9 n9 hne
    match f9, hne with
    | 0, _ => rfl
    | 1, _ => rfl
    | 2, _ => rfl
    | 3, _ => rfl
    | 4, _ => rfl
    | 5, _ => rfl
    | 6, _ => rfl
    | 7, _ => rfl
    | 8, _ => rfl
    | 9, _ => rfl
    | 10, _ => rfl
    | 11, _ => rfl
    | 12, _ => rfl
    | 13, _ => rfl
    | 14, _ => rfl
    | 15, _ => rfl
    | 16, _ => rfl
    | 17, _ => rfl
    | 18, _ => rfl
    | 19, _ => rfl
    | 20, hne =>
      have hn9 : ¬ n9 = n := fun e9 => hne ⟨rfl, e9⟩
      simp [mE,  gI_sI, gL_sL, gI_sL, gL_sI, hn9]
    | 21, _ => rfl
    | 22, _ => rfl
    | k9 + 23, _ => rfl
theorem mt_20 (hx : p.tables.exec = Jvm.exec) (hb : c.code = cc) (hK : va_K D mCl (mT q) s) (hP : va_P D mCl (mW aa q σ) H) (hJ : wJ mC aa) (hS : va_S (wA mC aa) s.heap H locs) (hn : n < 1) {i : Int32} (hi : vp_in i 4) {v : Int32} (hd : decode cc pc = .ok (.iastore, 1)) (kk : ∀ (H1 : Heap) (locs1 : List Loc), va_P D mCl (mW aa q (sI σ 20 n i.toNatClampNeg v)) H1 → va_S (wA mC aa) s.heap H1 locs1 → W p l e R s m args below meth c H1 locs1 cells slots Q (F0 m (pc + 1) ls rest)) : W p l e R s m args below meth c H locs cells slots Q (F0 m pc ls (.int v :: .int i :: .ref (aa 20 n) :: rest)) := by
  refine va_iast (f := fun i => gI σ 20 n i) hx hb hK hP (wmap_D hJ) hS 20 0 (mat_20 hn) rfl hi hd (fun H1 locs1 hP1 _ hS1 => kk H1 locs1 ?_ hS1)
  rw [← mset_20 hn]
  exact hP1
theorem ml_21 (hx : p.tables.exec = Jvm.exec) (hb : c.code = cc) (hK : va_K D mCl (mT q) s) (hP : va_P D mCl (mW aa q σ) H) (hn : n < 1) {i : Int32} (hi : vp_in i 12) (hd : decode cc pc = .ok (.iaload, 1)) (kk : W p l e R s m args below meth c H locs cells slots Q (F0 m (pc + 1) ls (.int (gI σ 21 n i.toNatClampNeg) :: rest))) : W p l e R s m args below meth c H locs cells slots Q (F0 m pc ls (.int i :: .ref (aa 21 n) :: rest)) :=
  va_iald (f := fun i => gI σ 21 n i) hx hb hK hP 21 0 (mat_21 hn) rfl hi hd kk
theorem mset_21 {i0 : Nat} {v : Int32} (hn : n < 1) : (mW aa q σ).set 21 (aa 21 n, .inl (q 0, 12, .inl (upd (fun i => gI σ 21 n i) i0 v))) = mW aa q (sI σ 21 n i0 v) := by
  refine wmap_set mC_nd (mpos_21 n hn) ?_ ?_
  · rw [upd_sI]
    rfl
  · intro f9 n9 hne
    match f9, hne with
    | 0, _ => rfl
    | 1, _ => rfl
    | 2, _ => rfl
    | 3, _ => rfl
    | 4, _ => rfl
    | 5, _ => rfl
    | 6, _ => rfl
    | 7, _ => rfl
    | 8, _ => rfl
    | 9, _ => rfl
    | 10, _ => rfl
    | 11, _ => rfl
    | 12, _ => rfl
    | 13, _ => rfl
    | 14, _ => rfl
    | 15, _ => rfl
    | 16, _ => rfl
    | 17, _ => rfl
    | 18, _ => rfl
    | 19, _ => rfl
    | 20, _ => rfl
    | 21, hne =>
      have hn9 : ¬ n9 = n := fun e9 => hne ⟨rfl, e9⟩
      simp [mE,  gI_sI, gL_sL, gI_sL, gL_sI, hn9]
    | 22, _ => rfl
    | k9 + 23, _ => rfl
theorem mt_21 (hx : p.tables.exec = Jvm.exec) (hb : c.code = cc) (hK : va_K D mCl (mT q) s) (hP : va_P D mCl (mW aa q σ) H) (hJ : wJ mC aa) (hS : va_S (wA mC aa) s.heap H locs) (hn : n < 1) {i : Int32} (hi : vp_in i 12) {v : Int32} (hd : decode cc pc = .ok (.iastore, 1)) (kk : ∀ (H1 : Heap) (locs1 : List Loc), va_P D mCl (mW aa q (sI σ 21 n i.toNatClampNeg v)) H1 → va_S (wA mC aa) s.heap H1 locs1 → W p l e R s m args below meth c H1 locs1 cells slots Q (F0 m (pc + 1) ls rest)) : W p l e R s m args below meth c H locs cells slots Q (F0 m pc ls (.int v :: .int i :: .ref (aa 21 n) :: rest)) := by
  refine va_iast (f := fun i => gI σ 21 n i) hx hb hK hP (wmap_D hJ) hS 21 0 (mat_21 hn) rfl hi hd (fun H1 locs1 hP1 _ hS1 => kk H1 locs1 ?_ hS1)
  rw [← mset_21 hn]
  exact hP1
theorem ml_22 (hx : p.tables.exec = Jvm.exec) (hb : c.code = cc) (hK : va_K D mCl (mT q) s) (hP : va_P D mCl (mW aa q σ) H) (hn : n < 1) {i : Int32} (hi : vp_in i 64) (hd : decode cc pc = .ok (.iaload, 1)) (kk : W p l e R s m args below meth c H locs cells slots Q (F0 m (pc + 1) ls (.int (gI σ 22 n i.toNatClampNeg) :: rest))) : W p l e R s m args below meth c H locs cells slots Q (F0 m pc ls (.int i :: .ref (aa 22 n) :: rest)) :=
  va_iald (f := fun i => gI σ 22 n i) hx hb hK hP 22 0 (mat_22 hn) rfl hi hd kk
theorem mset_22 {i0 : Nat} {v : Int32} (hn : n < 1) : (mW aa q σ).set 22 (aa 22 n, .inl (q 0, 64, .inl (upd (fun i => gI σ 22 n i) i0 v))) = mW aa q (sI σ 22 n i0 v) := by
  refine wmap_set mC_nd (mpos_22 n hn) ?_ ?_
  · rw [upd_sI]
    rfl
  · intro f9 n9 hne
    match f9, hne with
    | 0, _ => rfl
    | 1, _ => rfl
    | 2, _ => rfl
    | 3, _ => rfl
    | 4, _ => rfl
    | 5, _ => rfl
    | 6, _ => rfl
    | 7, _ => rfl
    | 8, _ => rfl
    | 9, _ => rfl
    | 10, _ => rfl
    | 11, _ => rfl
    | 12, _ => rfl
    | 13, _ => rfl
    | 14, _ => rfl
    | 15, _ => rfl
    | 16, _ => rfl
    | 17, _ => rfl
    | 18, _ => rfl
    | 19, _ => rfl
    | 20, _ => rfl
    | 21, _ => rfl
    | 22, hne =>
      have hn9 : ¬ n9 = n := fun e9 => hne ⟨rfl, e9⟩
      simp [mE,  gI_sI, gL_sL, gI_sL, gL_sI, hn9]
    | k9 + 23, _ => rfl
theorem mt_22 (hx : p.tables.exec = Jvm.exec) (hb : c.code = cc) (hK : va_K D mCl (mT q) s) (hP : va_P D mCl (mW aa q σ) H) (hJ : wJ mC aa) (hS : va_S (wA mC aa) s.heap H locs) (hn : n < 1) {i : Int32} (hi : vp_in i 64) {v : Int32} (hd : decode cc pc = .ok (.iastore, 1)) (kk : ∀ (H1 : Heap) (locs1 : List Loc), va_P D mCl (mW aa q (sI σ 22 n i.toNatClampNeg v)) H1 → va_S (wA mC aa) s.heap H1 locs1 → W p l e R s m args below meth c H1 locs1 cells slots Q (F0 m (pc + 1) ls rest)) : W p l e R s m args below meth c H locs cells slots Q (F0 m pc ls (.int v :: .int i :: .ref (aa 22 n) :: rest)) := by
  refine va_iast (f := fun i => gI σ 22 n i) hx hb hK hP (wmap_D hJ) hS 22 0 (mat_22 hn) rfl hi hd (fun H1 locs1 hP1 _ hS1 => kk H1 locs1 ?_ hS1)
  rw [← mset_22 hn]
  exact hP1
theorem ml_7 (hx : p.tables.exec = Jvm.exec) (hb : c.code = cc) (hK : va_K D mCl (mT q) s) (hP : va_P D mCl (mW aa q σ) H) (hn : n < 1) {i : Int32} (hi : vp_in i 12) (hd : decode cc pc = .ok (.laload, 1)) (kk : W p l e R s m args below meth c H locs cells slots Q (F0 m (pc + 1) ls (.long (gL σ 7 n i.toNatClampNeg) :: rest))) : W p l e R s m args below meth c H locs cells slots Q (F0 m pc ls (.int i :: .ref (aa 7 n) :: rest)) :=
  va_lald (f := fun i => gL σ 7 n i) hx hb hK hP 7 1 (mat_7 hn) rfl hi hd kk
theorem mset_7 {i0 : Nat} {v : Int64} (hn : n < 1) : (mW aa q σ).set 7 (aa 7 n, .inl (q 1, 12, .inr (.inl (vp_updL (fun i => gL σ 7 n i) i0 v)))) = mW aa q (sL σ 7 n i0 v) := by
  refine wmap_set mC_nd (mpos_7 n hn) ?_ ?_
  · rw [upd_sL]
    rfl
  · intro f9 n9 hne
    match f9, hne with
    | 0, _ => rfl
    | 1, _ => rfl
    | 2, _ => rfl
    | 3, _ => rfl
    | 4, _ => rfl
    | 5, _ => rfl
    | 6, _ => rfl
    | 7, hne =>
      have hn9 : ¬ n9 = n := fun e9 => hne ⟨rfl, e9⟩
      simp [mE,  gI_sI, gL_sL, gI_sL, gL_sI, hn9]
    | 8, _ => rfl
    | 9, _ => rfl
    | 10, _ => rfl
    | 11, _ => rfl
    | 12, _ => rfl
    | 13, _ => rfl
    | 14, _ => rfl
    | 15, _ => rfl
    | 16, _ => rfl
    | 17, _ => rfl
    | 18, _ => rfl
    | 19, _ => rfl
    | 20, _ => rfl
    | 21, _ => rfl
    | 22, _ => rfl
    | k9 + 23, _ => rfl
theorem mt_7 (hx : p.tables.exec = Jvm.exec) (hb : c.code = cc) (hK : va_K D mCl (mT q) s) (hP : va_P D mCl (mW aa q σ) H) (hJ : wJ mC aa) (hS : va_S (wA mC aa) s.heap H locs) (hn : n < 1) {i : Int32} (hi : vp_in i 12) {v : Int64} (hd : decode cc pc = .ok (.lastore, 1)) (kk : ∀ (H1 : Heap) (locs1 : List Loc), va_P D mCl (mW aa q (sL σ 7 n i.toNatClampNeg v)) H1 → va_S (wA mC aa) s.heap H1 locs1 → W p l e R s m args below meth c H1 locs1 cells slots Q (F0 m (pc + 1) ls rest)) : W p l e R s m args below meth c H locs cells slots Q (F0 m pc ls (.long v :: .int i :: .ref (aa 7 n) :: rest)) := by
  refine va_last (f := fun i => gL σ 7 n i) hx hb hK hP (wmap_D hJ) hS 7 1 (mat_7 hn) rfl hi hd (fun H1 locs1 hP1 _ hS1 => kk H1 locs1 ?_ hS1)
  rw [← mset_7 hn]
  exact hP1
theorem ml_10 (hx : p.tables.exec = Jvm.exec) (hb : c.code = cc) (hK : va_K D mCl (mT q) s) (hP : va_P D mCl (mW aa q σ) H) (hn : n < 1) {i : Int32} (hi : vp_in i 12) (hd : decode cc pc = .ok (.laload, 1)) (kk : W p l e R s m args below meth c H locs cells slots Q (F0 m (pc + 1) ls (.long (gL σ 10 n i.toNatClampNeg) :: rest))) : W p l e R s m args below meth c H locs cells slots Q (F0 m pc ls (.int i :: .ref (aa 10 n) :: rest)) :=
  va_lald (f := fun i => gL σ 10 n i) hx hb hK hP 10 1 (mat_10 hn) rfl hi hd kk
theorem mset_10 {i0 : Nat} {v : Int64} (hn : n < 1) : (mW aa q σ).set 10 (aa 10 n, .inl (q 1, 12, .inr (.inl (vp_updL (fun i => gL σ 10 n i) i0 v)))) = mW aa q (sL σ 10 n i0 v) := by
  refine wmap_set mC_nd (mpos_10 n hn) ?_ ?_
  · rw [upd_sL]
    rfl
  · intro f9 n9 hne
    match f9, hne with
    | 0, _ => rfl
    | 1, _ => rfl
    | 2, _ => rfl
    | 3, _ => rfl
    | 4, _ => rfl
    | 5, _ => rfl
    | 6, _ => rfl
    | 7, _ => rfl
    | 8, _ => rfl
    | 9, _ => rfl
    | 10, hne =>
      have hn9 : ¬ n9 = n := fun e9 => hne ⟨rfl, e9⟩
      simp [mE,  gI_sI, gL_sL, gI_sL, gL_sI, hn9]
    | 11, _ => rfl
    | 12, _ => rfl
    | 13, _ => rfl
    | 14, _ => rfl
    | 15, _ => rfl
    | 16, _ => rfl
    | 17, _ => rfl
    | 18, _ => rfl
    | 19, _ => rfl
    | 20, _ => rfl
    | 21, _ => rfl
    | 22, _ => rfl
    | k9 + 23, _ => rfl
theorem mt_10 (hx : p.tables.exec = Jvm.exec) (hb : c.code = cc) (hK : va_K D mCl (mT q) s) (hP : va_P D mCl (mW aa q σ) H) (hJ : wJ mC aa) (hS : va_S (wA mC aa) s.heap H locs) (hn : n < 1) {i : Int32} (hi : vp_in i 12) {v : Int64} (hd : decode cc pc = .ok (.lastore, 1)) (kk : ∀ (H1 : Heap) (locs1 : List Loc), va_P D mCl (mW aa q (sL σ 10 n i.toNatClampNeg v)) H1 → va_S (wA mC aa) s.heap H1 locs1 → W p l e R s m args below meth c H1 locs1 cells slots Q (F0 m (pc + 1) ls rest)) : W p l e R s m args below meth c H locs cells slots Q (F0 m pc ls (.long v :: .int i :: .ref (aa 10 n) :: rest)) := by
  refine va_last (f := fun i => gL σ 10 n i) hx hb hK hP (wmap_D hJ) hS 10 1 (mat_10 hn) rfl hi hd (fun H1 locs1 hP1 _ hS1 => kk H1 locs1 ?_ hS1)
  rw [← mset_10 hn]
  exact hP1
theorem ml_17 (hx : p.tables.exec = Jvm.exec) (hb : c.code = cc) (hK : va_K D mCl (mT q) s) (hP : va_P D mCl (mW aa q σ) H) (hn : n < 1) {i : Int32} (hi : vp_in i 4) (hd : decode cc pc = .ok (.laload, 1)) (kk : W p l e R s m args below meth c H locs cells slots Q (F0 m (pc + 1) ls (.long (gL σ 17 n i.toNatClampNeg) :: rest))) : W p l e R s m args below meth c H locs cells slots Q (F0 m pc ls (.int i :: .ref (aa 17 n) :: rest)) :=
  va_lald (f := fun i => gL σ 17 n i) hx hb hK hP 17 1 (mat_17 hn) rfl hi hd kk
theorem mset_17 {i0 : Nat} {v : Int64} (hn : n < 1) : (mW aa q σ).set 17 (aa 17 n, .inl (q 1, 4, .inr (.inl (vp_updL (fun i => gL σ 17 n i) i0 v)))) = mW aa q (sL σ 17 n i0 v) := by
  refine wmap_set mC_nd (mpos_17 n hn) ?_ ?_
  · rw [upd_sL]
    rfl
  · intro f9 n9 hne
    match f9, hne with
    | 0, _ => rfl
    | 1, _ => rfl
    | 2, _ => rfl
    | 3, _ => rfl
    | 4, _ => rfl
    | 5, _ => rfl
    | 6, _ => rfl
    | 7, _ => rfl
    | 8, _ => rfl
    | 9, _ => rfl
    | 10, _ => rfl
    | 11, _ => rfl
    | 12, _ => rfl
    | 13, _ => rfl
    | 14, _ => rfl
    | 15, _ => rfl
    | 16, _ => rfl
    | 17, hne =>
      have hn9 : ¬ n9 = n := fun e9 => hne ⟨rfl, e9⟩
      simp [mE,  gI_sI, gL_sL, gI_sL, gL_sI, hn9]
    | 18, _ => rfl
    | 19, _ => rfl
    | 20, _ => rfl
    | 21, _ => rfl
    | 22, _ => rfl
    | k9 + 23, _ => rfl
theorem mt_17 (hx : p.tables.exec = Jvm.exec) (hb : c.code = cc) (hK : va_K D mCl (mT q) s) (hP : va_P D mCl (mW aa q σ) H) (hJ : wJ mC aa) (hS : va_S (wA mC aa) s.heap H locs) (hn : n < 1) {i : Int32} (hi : vp_in i 4) {v : Int64} (hd : decode cc pc = .ok (.lastore, 1)) (kk : ∀ (H1 : Heap) (locs1 : List Loc), va_P D mCl (mW aa q (sL σ 17 n i.toNatClampNeg v)) H1 → va_S (wA mC aa) s.heap H1 locs1 → W p l e R s m args below meth c H1 locs1 cells slots Q (F0 m (pc + 1) ls rest)) : W p l e R s m args below meth c H locs cells slots Q (F0 m pc ls (.long v :: .int i :: .ref (aa 17 n) :: rest)) := by
  refine va_last (f := fun i => gL σ 17 n i) hx hb hK hP (wmap_D hJ) hS 17 1 (mat_17 hn) rfl hi hd (fun H1 locs1 hP1 _ hS1 => kk H1 locs1 ?_ hS1)
  rw [← mset_17 hn]
  exact hP1
theorem ml_18 (hx : p.tables.exec = Jvm.exec) (hb : c.code = cc) (hK : va_K D mCl (mT q) s) (hP : va_P D mCl (mW aa q σ) H) (hn : n < 1) {i : Int32} (hi : vp_in i 4) (hd : decode cc pc = .ok (.laload, 1)) (kk : W p l e R s m args below meth c H locs cells slots Q (F0 m (pc + 1) ls (.long (gL σ 18 n i.toNatClampNeg) :: rest))) : W p l e R s m args below meth c H locs cells slots Q (F0 m pc ls (.int i :: .ref (aa 18 n) :: rest)) :=
  va_lald (f := fun i => gL σ 18 n i) hx hb hK hP 18 1 (mat_18 hn) rfl hi hd kk
theorem mset_18 {i0 : Nat} {v : Int64} (hn : n < 1) : (mW aa q σ).set 18 (aa 18 n, .inl (q 1, 4, .inr (.inl (vp_updL (fun i => gL σ 18 n i) i0 v)))) = mW aa q (sL σ 18 n i0 v) := by
  refine wmap_set mC_nd (mpos_18 n hn) ?_ ?_
  · rw [upd_sL]
    rfl
  · intro f9 n9 hne
    match f9, hne with
    | 0, _ => rfl
    | 1, _ => rfl
    | 2, _ => rfl
    | 3, _ => rfl
    | 4, _ => rfl
    | 5, _ => rfl
    | 6, _ => rfl
    | 7, _ => rfl
    | 8, _ => rfl
    | 9, _ => rfl
    | 10, _ => rfl
    | 11, _ => rfl
    | 12, _ => rfl
    | 13, _ => rfl
    | 14, _ => rfl
    | 15, _ => rfl
    | 16, _ => rfl
    | 17, _ => rfl
    | 18, hne =>
      have hn9 : ¬ n9 = n := fun e9 => hne ⟨rfl, e9⟩
      simp [mE,  gI_sI, gL_sL, gI_sL, gL_sI, hn9]
    | 19, _ => rfl
    | 20, _ => rfl
    | 21, _ => rfl
    | 22, _ => rfl
    | k9 + 23, _ => rfl
theorem mt_18 (hx : p.tables.exec = Jvm.exec) (hb : c.code = cc) (hK : va_K D mCl (mT q) s) (hP : va_P D mCl (mW aa q σ) H) (hJ : wJ mC aa) (hS : va_S (wA mC aa) s.heap H locs) (hn : n < 1) {i : Int32} (hi : vp_in i 4) {v : Int64} (hd : decode cc pc = .ok (.lastore, 1)) (kk : ∀ (H1 : Heap) (locs1 : List Loc), va_P D mCl (mW aa q (sL σ 18 n i.toNatClampNeg v)) H1 → va_S (wA mC aa) s.heap H1 locs1 → W p l e R s m args below meth c H1 locs1 cells slots Q (F0 m (pc + 1) ls rest)) : W p l e R s m args below meth c H locs cells slots Q (F0 m pc ls (.long v :: .int i :: .ref (aa 18 n) :: rest)) := by
  refine va_last (f := fun i => gL σ 18 n i) hx hb hK hP (wmap_D hJ) hS 18 1 (mat_18 hn) rfl hi hd (fun H1 locs1 hP1 _ hS1 => kk H1 locs1 ?_ hS1)
  rw [← mset_18 hn]
  exact hP1
theorem ml_16 (hx : p.tables.exec = Jvm.exec) (hb : c.code = cc) (hK : va_K D mCl (mT q) s) (hP : va_P D mCl (mW aa q σ) H) (hn : n < 1) {i : Int32} (hi : vp_in i 4) (hd : decode cc pc = .ok (.baload, 1)) (kk : W p l e R s m args below meth c H locs cells slots Q (F0 m (pc + 1) ls (.int (gI σ 16 n i.toNatClampNeg) :: rest))) : W p l e R s m args below meth c H locs cells slots Q (F0 m pc ls (.int i :: .ref (aa 16 n) :: rest)) :=
  va_zald (f := fun i => gI σ 16 n i) hx hb hK hP 16 2 (mat_16 hn) rfl hi hd kk
theorem mset_16 {i0 : Nat} {v : Int32} (hn : n < 1) : (mW aa q σ).set 16 (aa 16 n, .inl (q 2, 4, .inl (upd (fun i => gI σ 16 n i) i0 v))) = mW aa q (sI σ 16 n i0 v) := by
  refine wmap_set mC_nd (mpos_16 n hn) ?_ ?_
  · rw [upd_sI]
    rfl
  · intro f9 n9 hne
    match f9, hne with
    | 0, _ => rfl
    | 1, _ => rfl
    | 2, _ => rfl
    | 3, _ => rfl
    | 4, _ => rfl
    | 5, _ => rfl
    | 6, _ => rfl
    | 7, _ => rfl
    | 8, _ => rfl
    | 9, _ => rfl
    | 10, _ => rfl
    | 11, _ => rfl
    | 12, _ => rfl
    | 13, _ => rfl
    | 14, _ => rfl
    | 15, _ => rfl
    | 16, hne =>
      have hn9 : ¬ n9 = n := fun e9 => hne ⟨rfl, e9⟩
      simp [mE,  gI_sI, gL_sL, gI_sL, gL_sI, hn9]
    | 17, _ => rfl
    | 18, _ => rfl
    | 19, _ => rfl
    | 20, _ => rfl
    | 21, _ => rfl
    | 22, _ => rfl
    | k9 + 23, _ => rfl
theorem mt_16 (hx : p.tables.exec = Jvm.exec) (hb : c.code = cc) (hK : va_K D mCl (mT q) s) (hP : va_P D mCl (mW aa q σ) H) (hJ : wJ mC aa) (hS : va_S (wA mC aa) s.heap H locs) (hn : n < 1) {i : Int32} (hi : vp_in i 4) {v : Int32} (hz : bz v = true) (hd : decode cc pc = .ok (.bastore, 1)) (kk : ∀ (H1 : Heap) (locs1 : List Loc), va_P D mCl (mW aa q (sI σ 16 n i.toNatClampNeg v)) H1 → va_S (wA mC aa) s.heap H1 locs1 → W p l e R s m args below meth c H1 locs1 cells slots Q (F0 m (pc + 1) ls rest)) : W p l e R s m args below meth c H locs cells slots Q (F0 m pc ls (.int v :: .int i :: .ref (aa 16 n) :: rest)) := by
  refine va_zast (f := fun i => gI σ 16 n i) hx hb hK hP (wmap_D hJ) hS 16 2 (mat_16 hn) rfl hi hd (fun H1 locs1 hP1 _ hS1 => kk H1 locs1 ?_ hS1)
  rw [bz_vp hz] at hP1
  rw [← mset_16 hn]
  exact hP1
theorem mpreV {C : String} {b : Nat} {As : List Value} (hK : va_K D mCl (mT q) s) (hP : va_P D mCl (mW aa q σ) H) (hr : ∃ cell : Cell, H[b]? = some cell ∧ cell.vm.isStatics = false ∧ s.vm.findClass C = some cell.cls) : PreV s H C b (va_Pc (.ref b :: As) (mPre D aa q σ)) As :=
  ⟨fun a U g mk h => ⟨h.1, h.2.1, va_K.moved (u := U) (U := U.calling g mk a) (Vm.Alike.refl U.vm) h.2.2⟩, hr, fun U hU hW => ⟨rfl, by rw [hU]; exact hP, va_K.moved hW.alike hK⟩⟩
theorem mpreS {As : List Value} (hK : va_K D mCl (mT q) s) (hP : va_P D mCl (mW aa q σ) H) : PreS s H (va_Pc As (mPre D aa q σ)) As :=
  ⟨fun a U g mk h => ⟨h.1, h.2.1, va_K.moved (u := U) (U := U.calling g mk a) (Vm.Alike.refl U.vm) h.2.2⟩, fun U hU hW => ⟨rfl, by rw [hU]; exact hP, va_K.moved hW.alike hK⟩⟩
theorem mq_i {a : Array Value} {r0 : Int32} {u0 : kS} (hr : va_Run p l e R s m args below meth c H locs cells slots 0 0 (F0 m pc ls st0) rest (va_Qi (fun (r : Int32) (u : kS) => r = r0 ∧ u = u0) (mB D aa q) (wA mC aa) a) (wA mC aa)) (hS : va_S (wA mC aa) s.heap H locs) (kk : ∀ (H1 : Heap) (locs1 : List Loc), va_P D mCl (mW aa q u0) H1 → va_S (wA mC aa) s.heap H1 locs1 → W p l e R s m args below meth c H1 locs1 cells slots Q (F0 m (pc + 3) ls (.int r0 :: rest))) : W p l e R s m args below meth c H locs cells slots Q (F0 m pc ls st0) := by
  refine va_calli hr hS (fun _ _ h => h) (fun _ h => h) (fun r u t H1 locs1 ht hvm hw hB _ _ hS1 => ?_)
  obtain ⟨rfl, rfl⟩ := hw
  have hP1 := hB.1
  rw [ht] at hP1
  exact kk H1 locs1 hP1 hS1
theorem mq_l {a : Array Value} {r0 : Int64} {u0 : kS} (hr : va_Run p l e R s m args below meth c H locs cells slots 0 0 (F0 m pc ls st0) rest (va_Ql (fun (r : Int64) (u : kS) => r = r0 ∧ u = u0) (mB D aa q) (wA mC aa) a) (wA mC aa)) (hS : va_S (wA mC aa) s.heap H locs) (kk : ∀ (H1 : Heap) (locs1 : List Loc), va_P D mCl (mW aa q u0) H1 → va_S (wA mC aa) s.heap H1 locs1 → W p l e R s m args below meth c H1 locs1 cells slots Q (F0 m (pc + 3) ls (.long r0 :: rest))) : W p l e R s m args below meth c H locs cells slots Q (F0 m pc ls st0) := by
  refine va_calll hr hS (fun _ _ h => h) (fun _ h => h) (fun r u t H1 locs1 ht hvm hw hB _ _ hS1 => ?_)
  obtain ⟨rfl, rfl⟩ := hw
  have hP1 := hB.1
  rw [ht] at hP1
  exact kk H1 locs1 hP1 hS1
theorem mq_v {a : Array Value} {u0 : kS} (hr : va_Run p l e R s m args below meth c H locs cells slots 0 0 (F0 m pc ls st0) rest (va_Qv (fun u : kS => u = u0) (mB D aa q) (wA mC aa) a) (wA mC aa)) (hS : va_S (wA mC aa) s.heap H locs) (kk : ∀ (H1 : Heap) (locs1 : List Loc), va_P D mCl (mW aa q u0) H1 → va_S (wA mC aa) s.heap H1 locs1 → W p l e R s m args below meth c H1 locs1 cells slots Q (F0 m (pc + 3) ls rest)) : W p l e R s m args below meth c H locs cells slots Q (F0 m pc ls st0) := by
  refine va_callv hr hS (fun _ _ h => h) (fun _ h => h) (fun u t H1 locs1 ht hvm hw hB _ _ hS1 => ?_)
  subst hw
  have hP1 := hB.1
  rw [ht] at hP1
  exact kk H1 locs1 hP1 hS1
end
end
section
def F_K_isWithin (σ : kS) (x0 : Int32) (x1 : Int32) (x2 : Int32) : Option (Int32) :=
  if x0 < x1 then (
    some 0
  ) else (
    if x2 < x0 then (
      some 0
    ) else (
      some 1
    )
  )
def F_K_process (σ : kS) (x1 : Int32) (x2 : Int32) (x3 : Int32) : Option (Int32 × kS) :=
  if 12 ≤ (gI σ 0 0 0) then (
    some ((-1), σ)
  ) else (
    bd (F_K_isWithin σ x1 (-4) 4) (fun r1 =>
      if r1 = 0 then (
        some ((-1), σ)
      ) else (
        bd (F_K_isWithin σ x2 1 9) (fun r2 =>
          if r2 = 0 then (
            some ((-1), σ)
          ) else (
            bd (F_K_isWithin σ x3 0 10) (fun r3 =>
              if r3 = 0 then (
                some ((-1), σ)
              ) else (
                gd (inb (gI σ 0 0 0) 12) (
                  lx (gI σ 0 0 0).toNatClampNeg (fun j5 =>
                    lx (sI σ 4 j5 0 x1) (fun σ6 =>
                      lx (sI σ6 5 j5 0 x2) (fun σ7 =>
                        lx (sI σ7 6 j5 0 x3) (fun σ8 =>
                          lx (sI σ8 0 0 0 ((gI σ8 0 0 0) + 1)) (fun σ9 =>
                            some (gI σ9 2 j5 0, σ9)
                          )
                        )
                      )
                    )
                  )
                )
              )
            )
          )
        )
      )
    )
  )
def F_K_isProcess (σ : kS) (x1 : Int32) : Option (Int32) :=
  if x1 < 0 then (
    some 0
  ) else (
    if (gI σ 0 0 0) ≤ x1 then (
      some 0
    ) else (
      some 1
    )
  )
def F_K_isResource (σ : kS) (x0 : Int32) : Option (Int32) :=
  bd (F_K_isWithin σ x0 0 3) (fun r1 =>
    gd (bz r1) (
      some r1
    )
  )
def F_K_isTank (σ : kS) (x0 : Int32) : Option (Int32) :=
  bd (F_K_isWithin σ x0 0 3) (fun r1 =>
    gd (bz r1) (
      some r1
    )
  )
def F_K_isInstruction (σ : kS) (x0 : Int32) (x1 : Int32) (x2 : Int32) : Option (Int32) :=
  if x0 = 0 then (
    bd (F_K_isWithin σ x1 0 1000000) (fun r1 =>
      gd (bz r1) (
        some r1
      )
    )
  ) else (
    if x0 = 1 then (
      some 1
    ) else (
      if x0 = 2 then (
        bd (F_K_isResource σ x1) (fun r3 =>
          if r3 = 0 then (
            some 0
          ) else (
            bd (F_K_isWithin σ x2 1 9) (fun r4 =>
              if r4 = 0 then (
                some 0
              ) else (
                some 1
              )
            )
          )
        )
      ) else (
        if x0 = 3 then (
          bd (F_K_isResource σ x1) (fun r5 =>
            if r5 = 0 then (
              some 0
            ) else (
              bd (F_K_isWithin σ x2 1 9) (fun r6 =>
                if r6 = 0 then (
                  some 0
                ) else (
                  some 1
                )
              )
            )
          )
        ) else (
          if x0 = 4 then (
            bd (F_K_isTank σ x1) (fun r7 =>
              if r7 = 0 then (
                some 0
              ) else (
                bd (F_K_isWithin σ x2 1 1000) (fun r8 =>
                  if r8 = 0 then (
                    some 0
                  ) else (
                    some 1
                  )
                )
              )
            )
          ) else (
            if x0 = 5 then (
              bd (F_K_isTank σ x1) (fun r9 =>
                if r9 = 0 then (
                  some 0
                ) else (
                  bd (F_K_isWithin σ x2 1 1000) (fun r10 =>
                    if r10 = 0 then (
                      some 0
                    ) else (
                      some 1
                    )
                  )
                )
              )
            ) else (
              if x0 = 6 then (
                bd (F_K_isWithin σ x1 0 11) (fun r11 =>
                  gd (bz r11) (
                    some r11
                  )
                )
              ) else (
                if x0 = 7 then (
                  bd (F_K_isWithin σ x1 0 11) (fun r13 =>
                    gd (bz r13) (
                      some r13
                    )
                  )
                ) else (
                  if x0 = 8 then (
                    bd (F_K_isWithin σ x1 0 11) (fun r15 =>
                      gd (bz r15) (
                        some r15
                      )
                    )
                  ) else (
                    if x0 = 9 then (
                      bd (F_K_isWithin σ x1 0 11) (fun r17 =>
                        gd (bz r17) (
                          some r17
                        )
                      )
                    ) else (
                      some 0
                    )
                  )
                )
              )
            )
          )
        )
      )
    )
  )
def F_P_append (σ : kS) (g0 : Nat) (x1 : Int32) (x2 : Int32) (x3 : Int32) : Option (kS) :=
  gd (inb (gI σ 3 g0 0) 10) (
    lx (sI σ 11 g0 (gI σ 3 g0 0).toNatClampNeg x1) (fun σ2 =>
      gd (inb (gI σ2 3 g0 0) 10) (
        lx (sI σ2 12 g0 (gI σ2 3 g0 0).toNatClampNeg x2) (fun σ4 =>
          gd (inb (gI σ4 3 g0 0) 10) (
            lx (sI σ4 13 g0 (gI σ4 3 g0 0).toNatClampNeg x3) (fun σ6 =>
              lx (sI σ6 3 g0 0 ((gI σ6 3 g0 0) + 1)) (fun σ7 =>
                some σ7
              )
            )
          )
        )
      )
    )
  )
def F_K_instruct (σ : kS) (x1 : Int32) (x2 : Int32) (x3 : Int32) (x4 : Int32) : Option (Int32 × kS) :=
  bd (F_K_isProcess σ x1) (fun r1 =>
    if r1 = 0 then (
      some (0, σ)
    ) else (
      bd (F_K_isInstruction σ x2 x3 x4) (fun r2 =>
        if r2 = 0 then (
          some (0, σ)
        ) else (
          gd (inb x1 12) (
            lx x1.toNatClampNeg (fun j4 =>
              if (gI σ 7 j4 0) = 0 then (
                if (gI σ 3 j4 0) < 10 then (
                  bd (F_P_append σ j4 x2 x3 x4) (fun r5 =>
                    some (1, r5)
                  )
                ) else (
                  some (0, σ)
                )
              ) else (
                some (0, σ)
              )
            )
          )
        )
      )
    )
  )
def F_P_secondOperand (σ : kS) (g0 : Nat) : Option (Int32) :=
  gd (inb (gI σ 9 g0 0) 10) (
    some (gI σ 13 g0 (gI σ 9 g0 0).toNatClampNeg)
  )
def F_E_unseized (σ : kS) (g0 : Nat) : Option (Int32) :=
  some ((gI σ 15 g0 0) - (gI σ 16 g0 0))
def F_K_give (σ : kS) (g1 : Nat) (x2 : Int32) (x3 : Int32) : Option (kS) :=
  gd (inb x2 4) (
    gd (inb x2 4) (
      lx (sI σ 14 g1 x2.toNatClampNeg ((gI σ 14 g1 x2.toNatClampNeg) + x3)) (fun σ3 =>
        gd (inb x2 4) (
          lx x2.toNatClampNeg (fun j5 =>
            lx (sI σ3 16 j5 0 ((gI σ3 16 j5 0) + x3)) (fun σ6 =>
              some σ6
            )
          )
        )
      )
    )
  )
def F_L_drop_4 : Nat → kS → Nat → Int32 → Int32 → Int32 → Option (kS × Int32 × Int32)
  | 0, _, _, _, _, _ => none
  | n + 1, σ, g0, x1, x2, x3 =>
    if (gI σ 19 g0 0) ≤ x3 then (
      some (σ, x2, x3)
    ) else (
      gd (inb x3 12) (
        if (gI σ 18 g0 x3.toNatClampNeg) = x1 then (
          F_L_drop_4 n σ g0 x1 x2 (x3 + 1)
        ) else (
          gd (inb x3 12) (
            gd (inb x2 12) (
              lx (sI σ 18 g0 x2.toNatClampNeg (gI σ 18 g0 x3.toNatClampNeg)) (fun σ4 =>
                F_L_drop_4 n σ4 g0 x1 (x2 + 1) (x3 + 1)
              )
            )
          )
        )
      )
    )
def F_L_drop (σ : kS) (g0 : Nat) (x1 : Int32) : Option (kS) :=
  bd (F_L_drop_4 1000 σ g0 x1 0 0) (fun ex1 =>
    lx (sI ex1.1 19 g0 0 ex1.2.1) (fun σ2 =>
      some σ2
    )
  )
def F_K_enter (σ : kS) (g1 : Nat) (x2 : Int32) (x3 : Int32) : Option (kS) :=
  lx (sI σ 7 g1 0 x2) (fun σ1 =>
    lx (sI σ1 10 g1 0 1) (fun σ2 =>
      lx (sL σ2 2 g1 0 ((gL σ2 0 0 0) + x3.toInt64)) (fun σ3 =>
        lx (sL σ3 3 g1 0 (gL σ3 1 0 0)) (fun σ4 =>
          lx (sL σ4 1 0 0 ((gL σ4 1 0 0) + 1)) (fun σ5 =>
            some σ5
          )
        )
      )
    )
  )
def F_K_serve_21 : Nat → kS → Int32 → Nat → Int32 → Option (Nat × kS × Int32)
  | 0, _, _, _, _ => none
  | n + 1, σ, x1, g2, x3 =>
    if x3 ≤ 0 then (
      some (1, σ, x3)
    ) else (
      gd (inb 0 12) (
        gd (inb (gI σ 18 g2 (0 : Int32).toNatClampNeg) 12) (
          lx (gI σ 18 g2 (0 : Int32).toNatClampNeg).toNatClampNeg (fun j3 =>
            bd (F_P_secondOperand σ j3) (fun r4 =>
              bd (F_E_unseized σ g2) (fun r5 =>
                if r4 ≤ r5 then (
                  bd (F_P_secondOperand σ j3) (fun r6 =>
                    bd (F_K_give σ j3 x1 r6) (fun r7 =>
                      lx (sL r7 6 g2 0 ((gL r7 6 g2 0) + ((gL r7 0 0 0) - (gL r7 4 j3 0)))) (fun σ8 =>
                        bd (F_L_drop σ8 g2 (gI σ8 2 j3 0)) (fun r9 =>
                          bd (F_K_enter r9 j3 1 0) (fun r10 =>
                            F_K_serve_21 n r10 x1 g2 (x3 + (-1))
                          )
                        )
                      )
                    )
                  )
                ) else (
                  some (0, σ, x3)
                )
              )
            )
          )
        )
      )
    )
def F_K_serve (σ : kS) (x1 : Int32) : Option (kS) :=
  if x1 = (-1) then (
    some σ
  ) else (
    gd (inb x1 4) (
      lx x1.toNatClampNeg (fun j2 =>
        lx (gI σ 19 j2 0 : Int32) (fun v3 =>
          bd (F_K_serve_21 1000 σ x1 j2 v3) (fun ex4 =>
            if ex4.1 = 0 then (
              some ex4.2.1
            ) else (
              some ex4.2.1
            )
          )
        )
      )
    )
  )
def F_K_resource (σ : kS) (x1 : Int32) (x2 : Int32) (x3 : Int32) : Option (Int32 × kS) :=
  bd (F_K_isResource σ x1) (fun r1 =>
    if r1 = 0 then (
      some (0, σ)
    ) else (
      bd (F_K_isWithin σ x2 0 9) (fun r2 =>
        if r2 = 0 then (
          some (0, σ)
        ) else (
          gd (inb x1 4) (
            lx x1.toNatClampNeg (fun j4 =>
              if (gI σ 16 j4 0) ≤ x2 then (
                gd (inb x1 4) (
                  lx x1.toNatClampNeg (fun j6 =>
                    lx (sI σ 15 j6 0 x2) (fun σ7 =>
                      gd (inb x1 4) (
                        lx x1.toNatClampNeg (fun j9 =>
                          gd (bz x3) (
                            lx (sI σ7 17 j9 0 x3) (fun σ11 =>
                              bd (F_K_serve σ11 x1) (fun r12 =>
                                some (1, r12)
                              )
                            )
                          )
                        )
                      )
                    )
                  )
                )
              ) else (
                some (0, σ)
              )
            )
          )
        )
      )
    )
  )
def F_K_tank (σ : kS) (x1 : Int32) (x2 : Int32) (x3 : Int32) : Option (Int32 × kS) :=
  bd (F_K_isTank σ x1) (fun r1 =>
    if r1 = 0 then (
      some (0, σ)
    ) else (
      bd (F_K_isWithin σ x2 0 1000) (fun r2 =>
        if r2 = 0 then (
          some (0, σ)
        ) else (
          bd (F_K_isWithin σ x3 0 x2) (fun r3 =>
            if r3 = 0 then (
              some (0, σ)
            ) else (
              gd (inb x1 4) (
                lx x1.toNatClampNeg (fun j5 =>
                  lx (sI σ 20 j5 0 x2) (fun σ6 =>
                    gd (inb x1 4) (
                      lx x1.toNatClampNeg (fun j8 =>
                        lx (sI σ6 21 j8 0 x3) (fun σ9 =>
                          some (1, σ9)
                        )
                      )
                    )
                  )
                )
              )
            )
          )
        )
      )
    )
  )
def F_K_activate (σ : kS) (x1 : Int32) (x2 : Int32) : Option (Int32 × kS) :=
  bd (F_K_isProcess σ x1) (fun r1 =>
    if r1 = 0 then (
      some (0, σ)
    ) else (
      bd (F_K_isWithin σ x2 0 1000000) (fun r2 =>
        if r2 = 0 then (
          some (0, σ)
        ) else (
          gd (inb x1 12) (
            lx x1.toNatClampNeg (fun j4 =>
              if (gI σ 7 j4 0) = 0 then (
                bd (F_K_enter σ j4 1 x2) (fun r5 =>
                  some (1, r5)
                )
              ) else (
                if (gI σ 7 j4 0) = 3 then (
                  bd (F_K_enter σ j4 1 x2) (fun r6 =>
                    some (1, r6)
                  )
                ) else (
                  some (0, σ)
                )
              )
            )
          )
        )
      )
    )
  )
def F_P_isBreakable (σ : kS) (g0 : Nat) : Option (Int32) :=
  if (gI σ 7 g0 0) = 2 then (
    some 1
  ) else (
    if (gI σ 7 g0 0) = 3 then (
      some 1
    ) else (
      if (gI σ 7 g0 0) = 4 then (
        some 1
      ) else (
        if (gI σ 7 g0 0) = 5 then (
          some 1
        ) else (
          some 0
        )
      )
    )
  )
def F_P_firstOperand (σ : kS) (g0 : Nat) : Option (Int32) :=
  gd (inb (gI σ 9 g0 0) 10) (
    some (gI σ 12 g0 (gI σ 9 g0 0).toNatClampNeg)
  )
def F_K_lineOf (σ : kS) (g1 : Nat) : Option (Int32) :=
  if (gI σ 7 g1 0) = 4 then (
    bd (F_P_firstOperand σ g1) (fun r1 =>
      some r1
    )
  ) else (
    some (-1)
  )
def F_K_leave (σ : kS) (g1 : Nat) : Option (kS) :=
  lx (sI σ 10 g1 0 0) (fun σ1 =>
    if (gI σ1 7 g1 0) = 4 then (
      bd (F_P_firstOperand σ1 g1) (fun r3 =>
        gd (inb r3 4) (
          lx r3.toNatClampNeg (fun j5 =>
            bd (F_L_drop σ1 j5 (gI σ1 2 g1 0)) (fun r6 =>
              if (gI r6 7 g1 0) = 5 then (
                bd (F_L_drop r6 4 (gI r6 2 g1 0)) (fun r7 =>
                  some r7
                )
              ) else (
                some r6
              )
            )
          )
        )
      )
    ) else (
      if (gI σ1 7 g1 0) = 5 then (
        bd (F_L_drop σ1 4 (gI σ1 2 g1 0)) (fun r2 =>
          some r2
        )
      ) else (
        some σ1
      )
    )
  )
def F_K_interrupt (σ : kS) (x1 : Int32) : Option (Int32 × kS) :=
  bd (F_K_isProcess σ x1) (fun r1 =>
    if r1 = 0 then (
      some (0, σ)
    ) else (
      gd (inb x1 12) (
        lx x1.toNatClampNeg (fun j3 =>
          bd (F_P_isBreakable σ j3) (fun r4 =>
            if r4 = 0 then (
              some (0, σ)
            ) else (
              gd (inb x1 12) (
                lx x1.toNatClampNeg (fun j6 =>
                  bd (F_K_lineOf σ j6) (fun r7 =>
                    bd (F_K_leave σ j6) (fun r8 =>
                      lx (sI r8 8 j6 0 (gI r8 6 j6 0)) (fun σ9 =>
                        bd (F_K_enter σ9 j6 1 0) (fun r10 =>
                          bd (F_K_serve r10 r7) (fun r11 =>
                            some (1, r11)
                          )
                        )
                      )
                    )
                  )
                )
              )
            )
          )
        )
      )
    )
  )
def F_P_isOver (σ : kS) (g0 : Nat) : Option (Int32) :=
  if (gI σ 7 g0 0) = 6 then (
    some 1
  ) else (
    if (gI σ 7 g0 0) = 7 then (
      some 1
    ) else (
      some 0
    )
  )
def F_K_takeBack (σ : kS) (g1 : Nat) (x2 : Int32) (x3 : Int32) : Option (kS) :=
  gd (inb x2 4) (
    gd (inb x2 4) (
      lx (sI σ 14 g1 x2.toNatClampNeg ((gI σ 14 g1 x2.toNatClampNeg) - x3)) (fun σ3 =>
        gd (inb x2 4) (
          lx x2.toNatClampNeg (fun j5 =>
            lx (sI σ3 16 j5 0 ((gI σ3 16 j5 0) - x3)) (fun σ6 =>
              some σ6
            )
          )
        )
      )
    )
  )
def F_K_giveBack (σ : kS) (g1 : Nat) (x2 : Int32) (x3 : Int32) : Option (kS) :=
  gd (inb x2 4) (
    bd (F_K_takeBack σ g1 x2 (if (gI σ 14 g1 x2.toNatClampNeg) < x3 then (gI σ 14 g1 x2.toNatClampNeg) else x3)) (fun r2 =>
      bd (F_K_serve r2 x2) (fun r3 =>
        some r3
      )
    )
  )
def F_K_kill_52 : Nat → kS → Nat → Int32 → Int32 → Option (kS × Int32)
  | 0, _, _, _, _ => none
  | n + 1, σ, g2, x3, x4 =>
    if (gI σ 3 g2 0) ≤ x4 then (
      some (σ, x4)
    ) else (
      gd (inb x4 10) (
        if (gI σ 11 g2 x4.toNatClampNeg) = 3 then (
          gd (inb x4 10) (
            gd (inb x4 10) (
              bd (F_K_giveBack σ g2 (gI σ 12 g2 x4.toNatClampNeg) (gI σ 13 g2 x4.toNatClampNeg)) (fun r4 =>
                F_K_kill_52 n r4 g2 x3 (x4 + 1)
              )
            )
          )
        ) else (
          F_K_kill_52 n σ g2 x3 (x4 + 1)
        )
      )
    )
def F_K_kill (σ : kS) (x1 : Int32) : Option (Int32 × kS) :=
  bd (F_K_isProcess σ x1) (fun r1 =>
    if r1 = 0 then (
      some (0, σ)
    ) else (
      gd (inb x1 12) (
        lx x1.toNatClampNeg (fun j3 =>
          bd (F_P_isOver σ j3) (fun r4 =>
            if r4 = 0 then (
              gd (inb x1 12) (
                lx x1.toNatClampNeg (fun j6 =>
                  bd (F_K_lineOf σ j6) (fun r7 =>
                    bd (F_K_leave σ j6) (fun r8 =>
                      lx (sI r8 7 j6 0 7) (fun σ9 =>
                        lx (gI σ9 8 j6 0 : Int32) (fun v10 =>
                          bd (F_K_kill_52 1000 σ9 j6 r7 v10) (fun ex11 =>
                            bd (F_K_serve ex11.1 r7) (fun r12 =>
                              some (1, r12)
                            )
                          )
                        )
                      )
                    )
                  )
                )
              )
            ) else (
              some (0, σ)
            )
          )
        )
      )
    )
  )
def F_P_isBefore (σ : kS) (g0 : Nat) (g1 : Nat) : Option (Int32) :=
  if (lg_cmp (gL σ 2 g0 0) (gL σ 2 g1 0)) = 0 then (
    if (gI σ 4 g0 0) = (gI σ 4 g1 0) then (
      if 0 ≤ (lg_cmp (gL σ 3 g0 0) (gL σ 3 g1 0)) then (
        some 0
      ) else (
        some 1
      )
    ) else (
      if (gI σ 4 g1 0) ≤ (gI σ 4 g0 0) then (
        some 0
      ) else (
        some 1
      )
    )
  ) else (
    if 0 ≤ (lg_cmp (gL σ 2 g0 0) (gL σ 2 g1 0)) then (
      some 0
    ) else (
      some 1
    )
  )
def F_K_firstEntry_4 : Nat → kS → Int32 → Int32 → Option (Int32 × Int32)
  | 0, _, _, _ => none
  | n + 1, σ, x1, x2 =>
    if (gI σ 0 0 0) ≤ x2 then (
      some (x1, x2)
    ) else (
      gd (inb x2 12) (
        lx x2.toNatClampNeg (fun j2 =>
          if (gI σ 10 j2 0) = 0 then (
            F_K_firstEntry_4 n σ x1 (x2 + 1)
          ) else (
            if x1 = (-1) then (
              F_K_firstEntry_4 n σ x2 (x2 + 1)
            ) else (
              gd (inb x2 12) (
                lx x2.toNatClampNeg (fun j4 =>
                  gd (inb x1 12) (
                    lx x1.toNatClampNeg (fun j6 =>
                      bd (F_P_isBefore σ j4 j6) (fun r7 =>
                        if r7 = 0 then (
                          F_K_firstEntry_4 n σ x1 (x2 + 1)
                        ) else (
                          F_K_firstEntry_4 n σ x2 (x2 + 1)
                        )
                      )
                    )
                  )
                )
              )
            )
          )
        )
      )
    )
def F_K_firstEntry (σ : kS) : Option (Int32) :=
  bd (F_K_firstEntry_4 1000 σ (-1) 0) (fun ex1 =>
    some ex1.1
  )
def F_K_moveClock_2 : Nat → kS → Int64 → Int32 → Option (kS × Int32)
  | 0, _, _, _ => none
  | n + 1, σ, x1, x3 =>
    if 4 ≤ x3 then (
      some (σ, x3)
    ) else (
      gd (inb x3 4) (
        lx x3.toNatClampNeg (fun j2 =>
          gd (inb x3 4) (
            lx x3.toNatClampNeg (fun j4 =>
              lx (sL σ 5 j2 0 ((gL σ 5 j2 0) + (((gI σ 16 j4 0).toInt64) * (x1 - (gL σ 0 0 0))))) (fun σ5 =>
                F_K_moveClock_2 n σ5 x1 (x3 + 1)
              )
            )
          )
        )
      )
    )
def F_K_moveClock (σ : kS) (x1 : Int64) : Option (kS) :=
  bd (F_K_moveClock_2 1000 σ x1 0) (fun ex1 =>
    lx (sL ex1.1 0 0 0 x1) (fun σ2 =>
      some σ2
    )
  )
def F_C_add (σ : kS) (x1 : Int32) : Option (kS) :=
  lx (sI σ 23 0 0 (((gI σ 23 0 0) + 1) - ((gI σ 23 0 0) + 1) / 64 * 64)) (fun σ1 =>
    gd (inb (gI σ1 23 0 0) 64) (
      lx (sI σ1 22 0 (gI σ1 23 0 0).toNatClampNeg x1) (fun σ3 =>
        lx (sI σ3 24 0 0 (if 64 < ((gI σ3 24 0 0) + 1) then 64 else ((gI σ3 24 0 0) + 1))) (fun σ4 =>
          some σ4
        )
      )
    )
  )
def F_K_begin (σ : kS) (g1 : Nat) : Option (kS) :=
  lx (sI σ 10 g1 0 0) (fun σ1 =>
    bd (F_K_moveClock σ1 (gL σ1 2 g1 0)) (fun r2 =>
      lx (sI r2 7 g1 0 1) (fun σ3 =>
        bd (F_C_add σ3 ((gI σ3 2 g1 0) + (16 * (gI σ3 8 g1 0)))) (fun r4 =>
          some r4
        )
      )
    )
  )
def F_K_countBefore_13 : Nat → kS → Int32 → Nat → Int32 → Option (Int32)
  | 0, _, _, _, _ => none
  | n + 1, σ, x2, g3, x4 =>
    if (gI σ 19 g3 0) ≤ x4 then (
      some (x4)
    ) else (
      gd (inb x4 12) (
        gd (inb (gI σ 18 g3 x4.toNatClampNeg) 12) (
          lx (gI σ 18 g3 x4.toNatClampNeg).toNatClampNeg (fun j3 =>
            if x2 < (gI σ 4 j3 0) then (
              some (x4)
            ) else (
              F_K_countBefore_13 n σ x2 g3 (x4 + 1)
            )
          )
        )
      )
    )
def F_K_countBefore (σ : kS) (x1 : Int32) (x2 : Int32) : Option (Int32) :=
  gd (inb x1 4) (
    lx x1.toNatClampNeg (fun j2 =>
      bd (F_K_countBefore_13 1000 σ x2 j2 0) (fun ex3 =>
        some ex3
      )
    )
  )
def F_K_seizeFree (σ : kS) (g1 : Nat) : Option (Int32 × kS) :=
  bd (F_P_firstOperand σ g1) (fun r1 =>
    bd (F_P_secondOperand σ g1) (fun r2 =>
      bd (F_K_countBefore σ r1 (gI σ 4 g1 0)) (fun r3 =>
        if 0 < r3 then (
          some (0, σ)
        ) else (
          gd (inb r1 4) (
            lx r1.toNatClampNeg (fun j5 =>
              bd (F_E_unseized σ j5) (fun r6 =>
                if r2 ≤ r6 then (
                  bd (F_K_give σ g1 r1 r2) (fun r7 =>
                    some (1, r7)
                  )
                ) else (
                  some (0, σ)
                )
              )
            )
          )
        )
      )
    )
  )
def F_K_withinReach_13 : Nat → kS → Nat → Int32 → Int32 → Int32 → Option (Int32 × Int32)
  | 0, _, _, _, _, _ => none
  | n + 1, σ, g1, x2, x3, x4 =>
    if (gI σ 0 0 0) ≤ x4 then (
      some (x3, x4)
    ) else (
      gd (inb x4 12) (
        lx x4.toNatClampNeg (fun j2 =>
          if (gI σ 4 j2 0) ≤ (gI σ 4 g1 0) then (
            F_K_withinReach_13 n σ g1 x2 x3 (x4 + 1)
          ) else (
            gd (inb x4 12) (
              lx x4.toNatClampNeg (fun j4 =>
                gd (inb x2 4) (
                  lx (x3 + (gI σ 14 j4 x2.toNatClampNeg) : Int32) (fun v6 =>
                    F_K_withinReach_13 n σ g1 x2 v6 (x4 + 1)
                  )
                )
              )
            )
          )
        )
      )
    )
def F_K_withinReach (σ : kS) (g1 : Nat) (x2 : Int32) : Option (Int32) :=
  gd (inb x2 4) (
    lx x2.toNatClampNeg (fun j2 =>
      bd (F_E_unseized σ j2) (fun r3 =>
        bd (F_K_withinReach_13 1000 σ g1 x2 r3 0) (fun ex4 =>
          some ex4.1
        )
      )
    )
  )
def F_K_nextLoser_16 : Nat → kS → Int32 → Int32 → Int32 → Int32 → Option (Int32 × Int32 × Int32)
  | 0, _, _, _, _, _ => none
  | n + 1, σ, x2, x3, x4, x5 =>
    if x5 < 0 then (
      some (x3, x4, x5)
    ) else (
      gd (inb x5 12) (
        lx x5.toNatClampNeg (fun j2 =>
          gd (inb x2 4) (
            if (gI σ 14 j2 x2.toNatClampNeg) ≤ 0 then (
              F_K_nextLoser_16 n σ x2 x3 x4 (x5 + (-1))
            ) else (
              gd (inb x5 12) (
                lx x5.toNatClampNeg (fun j5 =>
                  if (gI σ 4 j5 0) ≤ x4 then (
                    F_K_nextLoser_16 n σ x2 x3 x4 (x5 + (-1))
                  ) else (
                    gd (inb x5 12) (
                      lx x5.toNatClampNeg (fun j7 =>
                        lx (gI σ 4 j7 0 : Int32) (fun v8 =>
                          F_K_nextLoser_16 n σ x2 x5 v8 (x5 + (-1))
                        )
                      )
                    )
                  )
                )
              )
            )
          )
        )
      )
    )
def F_K_nextLoser (σ : kS) (g1 : Nat) (x2 : Int32) : Option (Int32) :=
  lx (gI σ 4 g1 0 : Int32) (fun v1 =>
    lx ((gI σ 0 0 0) - 1 : Int32) (fun v2 =>
      bd (F_K_nextLoser_16 1000 σ x2 (-1) v1 v2) (fun ex3 =>
        some ex3.1
      )
    )
  )
def F_K_takeFromLosers_3 : Nat → kS → Nat → Int32 → Int32 → Int32 → Option (Nat × kS × Int32)
  | 0, _, _, _, _, _ => none
  | n + 1, σ, g1, x2, x3, x4 =>
    if 12 ≤ x4 then (
      some (1, σ, x4)
    ) else (
      gd (inb x2 4) (
        lx x2.toNatClampNeg (fun j2 =>
          bd (F_E_unseized σ j2) (fun r3 =>
            if x3 ≤ r3 then (
              some (1, σ, x4)
            ) else (
              bd (F_K_nextLoser σ g1 x2) (fun r4 =>
                if r4 = (-1) then (
                  some (0, σ, x4)
                ) else (
                  gd (inb r4 12) (
                    lx r4.toNatClampNeg (fun j6 =>
                      gd (inb r4 12) (
                        lx r4.toNatClampNeg (fun j8 =>
                          gd (inb x2 4) (
                            bd (F_K_takeBack σ j6 x2 (gI σ 14 j8 x2.toNatClampNeg)) (fun r10 =>
                              gd (inb x4 12) (
                                lx (sI r10 1 0 x4.toNatClampNeg r4) (fun σ12 =>
                                  F_K_takeFromLosers_3 n σ12 g1 x2 x3 (x4 + 1)
                                )
                              )
                            )
                          )
                        )
                      )
                    )
                  )
                )
              )
            )
          )
        )
      )
    )
def F_K_takeFromLosers (σ : kS) (g1 : Nat) (x2 : Int32) (x3 : Int32) : Option (Int32 × kS) :=
  bd (F_K_takeFromLosers_3 1000 σ g1 x2 x3 0) (fun ex1 =>
    if ex1.1 = 0 then (
      some (ex1.2.2, ex1.2.1)
    ) else (
      some (ex1.2.2, ex1.2.1)
    )
  )
def F_K_seizeByForce_65 : Nat → kS → Int32 → Int32 → Int32 → Option (kS × Int32)
  | 0, _, _, _, _ => none
  | n + 1, σ, x2, x4, x5 =>
    if x4 ≤ x5 then (
      some (σ, x5)
    ) else (
      gd (inb x5 12) (
        bd (F_K_interrupt σ (gI σ 1 0 x5.toNatClampNeg)) (fun r2 =>
          F_K_seizeByForce_65 n r2.2 x2 x4 (x5 + 1)
        )
      )
    )
def F_K_seizeByForce (σ : kS) (g1 : Nat) : Option (Int32 × kS) :=
  bd (F_P_firstOperand σ g1) (fun r1 =>
    bd (F_P_secondOperand σ g1) (fun r2 =>
      bd (F_K_countBefore σ r1 (gI σ 4 g1 0)) (fun r3 =>
        if 0 < r3 then (
          some (0, σ)
        ) else (
          gd (inb r1 4) (
            lx r1.toNatClampNeg (fun j5 =>
              if (gI σ 17 j5 0) = 0 then (
                some (0, σ)
              ) else (
                bd (F_K_withinReach σ g1 r1) (fun r6 =>
                  if r2 ≤ r6 then (
                    bd (F_K_takeFromLosers σ g1 r1 r2) (fun r7 =>
                      lx (r7.1 : Int32) (fun v8 =>
                        bd (F_K_give r7.2 g1 r1 r2) (fun r9 =>
                          bd (F_K_seizeByForce_65 1000 r9 r1 v8 0) (fun ex10 =>
                            bd (F_K_serve ex10.1 r1) (fun r11 =>
                              some (1, r11)
                            )
                          )
                        )
                      )
                    )
                  ) else (
                    some (0, σ)
                  )
                )
              )
            )
          )
        )
      )
    )
  )
def F_L_insert_15 : Nat → kS → Nat → Int32 → Int32 → Int32 → Option (kS × Int32)
  | 0, _, _, _, _, _ => none
  | n + 1, σ, g0, x1, x2, x3 =>
    if x3 ≤ x1 then (
      some (σ, x3)
    ) else (
      gd (inb (x3 - 1) 12) (
        gd (inb x3 12) (
          lx (sI σ 18 g0 x3.toNatClampNeg (gI σ 18 g0 (x3 - 1).toNatClampNeg)) (fun σ3 =>
            F_L_insert_15 n σ3 g0 x1 x2 (x3 + (-1))
          )
        )
      )
    )
def F_L_insert (σ : kS) (g0 : Nat) (x1 : Int32) (x2 : Int32) : Option (kS) :=
  if (gI σ 19 g0 0) < 12 then (
    lx (gI σ 19 g0 0 : Int32) (fun v1 =>
      bd (F_L_insert_15 1000 σ g0 x1 x2 v1) (fun ex2 =>
        gd (inb x1 12) (
          lx (sI ex2.1 18 g0 x1.toNatClampNeg x2) (fun σ4 =>
            lx (sI σ4 19 g0 0 ((gI σ4 19 g0 0) + 1)) (fun σ5 =>
              some σ5
            )
          )
        )
      )
    )
  ) else (
    some σ
  )
def F_K_standInLine (σ : kS) (g1 : Nat) : Option (Int32 × kS) :=
  bd (F_P_firstOperand σ g1) (fun r1 =>
    gd (inb r1 4) (
      lx r1.toNatClampNeg (fun j3 =>
        bd (F_K_countBefore σ r1 (gI σ 4 g1 0)) (fun r4 =>
          bd (F_L_insert σ j3 r4 (gI σ 2 g1 0)) (fun r5 =>
            lx (sI r5 7 g1 0 4) (fun σ6 =>
              lx (sL σ6 4 g1 0 (gL σ6 0 0 0)) (fun σ7 =>
                some (0, σ7)
              )
            )
          )
        )
      )
    )
  )
def F_T_put (σ : kS) (g0 : Nat) (x1 : Int32) : Option (Int32 × kS) :=
  if ((gI σ 21 g0 0) + x1) ≤ (gI σ 20 g0 0) then (
    lx (sI σ 21 g0 0 ((gI σ 21 g0 0) + x1)) (fun σ1 =>
      some (1, σ1)
    )
  ) else (
    some (0, σ)
  )
def F_T_take (σ : kS) (g0 : Nat) (x1 : Int32) : Option (Int32 × kS) :=
  if x1 ≤ (gI σ 21 g0 0) then (
    lx (sI σ 21 g0 0 ((gI σ 21 g0 0) - x1)) (fun σ1 =>
      some (1, σ1)
    )
  ) else (
    some (0, σ)
  )
def F_K_meetCondition (σ : kS) (g1 : Nat) : Option (Int32 × kS) :=
  bd (F_P_firstOperand σ g1) (fun r1 =>
    gd (inb (gI σ 9 g1 0) 10) (
      if (gI σ 11 g1 (gI σ 9 g1 0).toNatClampNeg) = 4 then (
        gd (inb r1 4) (
          lx r1.toNatClampNeg (fun j4 =>
            bd (F_P_secondOperand σ g1) (fun r5 =>
              bd (F_T_put σ j4 r5) (fun r6 =>
                gd (bz r6.1) (
                  some (r6.1, r6.2)
                )
              )
            )
          )
        )
      ) else (
        if (gI σ 11 g1 (gI σ 9 g1 0).toNatClampNeg) = 5 then (
          gd (inb r1 4) (
            lx r1.toNatClampNeg (fun j9 =>
              bd (F_P_secondOperand σ g1) (fun r10 =>
                bd (F_T_take σ j9 r10) (fun r11 =>
                  gd (bz r11.1) (
                    some (r11.1, r11.2)
                  )
                )
              )
            )
          )
        ) else (
          bd (F_K_isProcess σ r1) (fun r13 =>
            if r13 = 0 then (
              some (1, σ)
            ) else (
              gd (inb r1 12) (
                lx r1.toNatClampNeg (fun j15 =>
                  bd (F_P_isOver σ j15) (fun r16 =>
                    if r16 = 0 then (
                      some (0, σ)
                    ) else (
                      some (1, σ)
                    )
                  )
                )
              )
            )
          )
        )
      )
    )
  )
def F_K_waitForCondition (σ : kS) (g1 : Nat) : Option (Int32 × kS) :=
  bd (F_L_insert σ 4 (gI σ 19 4 0) (gI σ 2 g1 0)) (fun r1 =>
    lx (sI r1 7 g1 0 5) (fun σ2 =>
      some (0, σ2)
    )
  )
def F_K_perform (σ : kS) (g1 : Nat) : Option (Int32 × kS) :=
  lx (sI σ 9 g1 0 (gI σ 8 g1 0)) (fun σ1 =>
    lx (sI σ1 8 g1 0 ((gI σ1 8 g1 0) + 1)) (fun σ2 =>
      bd (F_P_firstOperand σ2 g1) (fun r3 =>
        gd (inb (gI σ2 9 g1 0) 10) (
          if (gI σ2 11 g1 (gI σ2 9 g1 0).toNatClampNeg) = 0 then (
            bd (F_K_enter σ2 g1 2 r3) (fun r5 =>
              some (0, r5)
            )
          ) else (
            if (gI σ2 11 g1 (gI σ2 9 g1 0).toNatClampNeg) = 1 then (
              lx (sI σ2 7 g1 0 3) (fun σ6 =>
                some (0, σ6)
              )
            ) else (
              if (gI σ2 11 g1 (gI σ2 9 g1 0).toNatClampNeg) = 2 then (
                bd (F_K_seizeFree σ2 g1) (fun r7 =>
                  if r7.1 = 0 then (
                    bd (F_K_seizeByForce r7.2 g1) (fun r8 =>
                      if r8.1 = 0 then (
                        bd (F_K_standInLine r8.2 g1) (fun r9 =>
                          if r9.1 = 0 then (
                            some (0, r9.2)
                          ) else (
                            some (1, r9.2)
                          )
                        )
                      ) else (
                        some (1, r8.2)
                      )
                    )
                  ) else (
                    some (1, r7.2)
                  )
                )
              ) else (
                if (gI σ2 11 g1 (gI σ2 9 g1 0).toNatClampNeg) = 3 then (
                  bd (F_P_secondOperand σ2 g1) (fun r10 =>
                    bd (F_K_giveBack σ2 g1 r3 r10) (fun r11 =>
                      some (1, r11)
                    )
                  )
                ) else (
                  if (gI σ2 11 g1 (gI σ2 9 g1 0).toNatClampNeg) = 4 then (
                    bd (F_K_meetCondition σ2 g1) (fun r12 =>
                      if r12.1 = 0 then (
                        bd (F_K_waitForCondition r12.2 g1) (fun r13 =>
                          if r13.1 = 0 then (
                            some (0, r13.2)
                          ) else (
                            some (1, r13.2)
                          )
                        )
                      ) else (
                        some (1, r12.2)
                      )
                    )
                  ) else (
                    if (gI σ2 11 g1 (gI σ2 9 g1 0).toNatClampNeg) = 5 then (
                      bd (F_K_meetCondition σ2 g1) (fun r14 =>
                        if r14.1 = 0 then (
                          bd (F_K_waitForCondition r14.2 g1) (fun r15 =>
                            if r15.1 = 0 then (
                              some (0, r15.2)
                            ) else (
                              some (1, r15.2)
                            )
                          )
                        ) else (
                          some (1, r14.2)
                        )
                      )
                    ) else (
                      if (gI σ2 11 g1 (gI σ2 9 g1 0).toNatClampNeg) = 6 then (
                        bd (F_K_meetCondition σ2 g1) (fun r16 =>
                          if r16.1 = 0 then (
                            bd (F_K_waitForCondition r16.2 g1) (fun r17 =>
                              if r17.1 = 0 then (
                                some (0, r17.2)
                              ) else (
                                some (1, r17.2)
                              )
                            )
                          ) else (
                            some (1, r16.2)
                          )
                        )
                      ) else (
                        if (gI σ2 11 g1 (gI σ2 9 g1 0).toNatClampNeg) = 7 then (
                          bd (F_K_activate σ2 r3 0) (fun r18 =>
                            some (1, r18.2)
                          )
                        ) else (
                          if (gI σ2 11 g1 (gI σ2 9 g1 0).toNatClampNeg) = 8 then (
                            bd (F_K_interrupt σ2 r3) (fun r19 =>
                              some (1, r19.2)
                            )
                          ) else (
                            if (gI σ2 11 g1 (gI σ2 9 g1 0).toNatClampNeg) = 9 then (
                              bd (F_K_kill σ2 r3) (fun r20 =>
                                if (gI r20.2 7 g1 0) = 7 then (
                                  some (0, r20.2)
                                ) else (
                                  some (1, r20.2)
                                )
                              )
                            ) else (
                              some (1, σ2)
                            )
                          )
                        )
                      )
                    )
                  )
                )
              )
            )
          )
        )
      )
    )
  )
def F_P_beginRound (σ : kS) (g0 : Nat) : Option (Int32 × kS) :=
  lx (sI σ 5 g0 0 ((gI σ 5 g0 0) - 1)) (fun σ1 =>
    if 0 < (gI σ1 5 g0 0) then (
      lx (sI σ1 8 g0 0 0) (fun σ2 =>
        some (1, σ2)
      )
    ) else (
      lx (sI σ1 7 g0 0 6) (fun σ3 =>
        some (0, σ3)
      )
    )
  )
def F_K_doTurn_4 : Nat → kS → Nat → Int32 → Int32 → Option (kS × Int32 × Int32)
  | 0, _, _, _, _ => none
  | n + 1, σ, g1, x2, x3 =>
    if x2 = 0 then (
      some (σ, x2, x3)
    ) else (
      if 99 ≤ x3 then (
        some (σ, x2, x3)
      ) else (
        if (gI σ 3 g1 0) ≤ (gI σ 8 g1 0) then (
          bd (F_P_beginRound σ g1) (fun r1 =>
            lx (r1.1 : Int32) (fun v2 =>
              F_K_doTurn_4 n r1.2 g1 v2 (x3 + 1)
            )
          )
        ) else (
          bd (F_K_perform σ g1) (fun r3 =>
            lx (r3.1 : Int32) (fun v4 =>
              F_K_doTurn_4 n r3.2 g1 v4 (x3 + 1)
            )
          )
        )
      )
    )
def F_K_doTurn (σ : kS) (g1 : Nat) : Option (kS) :=
  bd (F_K_doTurn_4 1000 σ g1 1 0) (fun ex1 =>
    some ex1.1
  )
def F_K_goOverConditions_10 : Nat → kS → Int32 → Int32 → Option (kS × Int32 × Int32)
  | 0, _, _, _ => none
  | n + 1, σ, x1, x2 =>
    if x2 ≤ 0 then (
      some (σ, x1, x2)
    ) else (
      gd (inb x1 12) (
        gd (inb (gI σ 18 4 x1.toNatClampNeg) 12) (
          lx (gI σ 18 4 x1.toNatClampNeg).toNatClampNeg (fun j3 =>
            bd (F_K_meetCondition σ j3) (fun r4 =>
              if r4.1 = 0 then (
                F_K_goOverConditions_10 n r4.2 (x1 + 1) (x2 + (-1))
              ) else (
                bd (F_L_drop r4.2 4 (gI r4.2 2 j3 0)) (fun r5 =>
                  bd (F_K_enter r5 j3 1 0) (fun r6 =>
                    F_K_goOverConditions_10 n r6 x1 (x2 + (-1))
                  )
                )
              )
            )
          )
        )
      )
    )
def F_K_goOverConditions (σ : kS) : Option (kS) :=
  lx (gI σ 19 4 0 : Int32) (fun v1 =>
    bd (F_K_goOverConditions_10 1000 σ 0 v1) (fun ex2 =>
      some ex2.1
    )
  )
def F_K_run_38 : Nat → kS → Int32 → Int64 → Int32 → Int32 → Option (kS × Int32 × Int32)
  | 0, _, _, _, _, _ => none
  | n + 1, σ, x1, x2, x4, x5 =>
    if x1 ≤ x4 then (
      some (σ, x4, x5)
    ) else (
      if x5 = (-1) then (
        some (σ, x4, x5)
      ) else (
        gd (inb x5 12) (
          lx x5.toNatClampNeg (fun j2 =>
            if 0 < (lg_cmp (gL σ 2 j2 0) x2) then (
              some (σ, x4, x5)
            ) else (
              gd (inb x5 12) (
                lx x5.toNatClampNeg (fun j4 =>
                  bd (F_K_begin σ j4) (fun r5 =>
                    gd (inb x5 12) (
                      lx x5.toNatClampNeg (fun j7 =>
                        bd (F_K_doTurn r5 j7) (fun r8 =>
                          bd (F_K_goOverConditions r8) (fun r9 =>
                            bd (F_K_firstEntry r9) (fun r10 =>
                              F_K_run_38 n r9 x1 x2 (x4 + 1) r10
                            )
                          )
                        )
                      )
                    )
                  )
                )
              )
            )
          )
        )
      )
    )
def F_K_run (σ : kS) (x1 : Int32) (x2 : Int64) : Option (Int32 × kS) :=
  bd (F_K_isWithin σ x1 0 100) (fun r1 =>
    if r1 = 0 then (
      some ((-1), σ)
    ) else (
      if (lg_cmp x2 (gL σ 0 0 0)) < 0 then (
        some ((-1), σ)
      ) else (
        if (lg_cmp x2 1000000000000) ≤ 0 then (
          bd (F_K_firstEntry σ) (fun r2 =>
            bd (F_K_run_38 1000 σ x1 x2 0 r2) (fun ex3 =>
              if x1 ≤ ex3.2.1 then (
                some (ex3.2.1, ex3.1)
              ) else (
                bd (F_K_moveClock ex3.1 x2) (fun r4 =>
                  some (ex3.2.1, r4)
                )
              )
            )
          )
        ) else (
          some ((-1), σ)
        )
      )
    )
  )
def F_K_now (σ : kS) : Option (Int64) :=
  some (gL σ 0 0 0)
def F_K_next (σ : kS) : Option (Int64) :=
  bd (F_K_firstEntry σ) (fun r1 =>
    if r1 = (-1) then (
      some (-1)
    ) else (
      gd (inb r1 12) (
        lx r1.toNatClampNeg (fun j3 =>
          some (gL σ 2 j3 0)
        )
      )
    )
  )
def F_K_state (σ : kS) (x1 : Int32) : Option (Int32) :=
  bd (F_K_isProcess σ x1) (fun r1 =>
    if r1 = 0 then (
      some (-1)
    ) else (
      gd (inb x1 12) (
        lx x1.toNatClampNeg (fun j3 =>
          some (gI σ 7 j3 0)
        )
      )
    )
  )
def F_K_place (σ : kS) (x1 : Int32) : Option (Int32) :=
  bd (F_K_isProcess σ x1) (fun r1 =>
    if r1 = 0 then (
      some (-1)
    ) else (
      gd (inb x1 12) (
        lx x1.toNatClampNeg (fun j3 =>
          some (gI σ 8 j3 0)
        )
      )
    )
  )
def F_K_held (σ : kS) (x1 : Int32) (x2 : Int32) : Option (Int32) :=
  bd (F_K_isProcess σ x1) (fun r1 =>
    if r1 = 0 then (
      some (-1)
    ) else (
      bd (F_K_isResource σ x2) (fun r2 =>
        if r2 = 0 then (
          some (-1)
        ) else (
          gd (inb x1 12) (
            lx x1.toNatClampNeg (fun j4 =>
              gd (inb x2 4) (
                some (gI σ 14 j4 x2.toNatClampNeg)
              )
            )
          )
        )
      )
    )
  )
def F_K_free (σ : kS) (x1 : Int32) : Option (Int32) :=
  bd (F_K_isResource σ x1) (fun r1 =>
    if r1 = 0 then (
      some (-1)
    ) else (
      gd (inb x1 4) (
        lx x1.toNatClampNeg (fun j3 =>
          bd (F_E_unseized σ j3) (fun r4 =>
            some r4
          )
        )
      )
    )
  )
def F_K_waiting (σ : kS) (x1 : Int32) : Option (Int32) :=
  if x1 = 4 then (
    some (gI σ 19 4 0)
  ) else (
    bd (F_K_isResource σ x1) (fun r1 =>
      if r1 = 0 then (
        some (-1)
      ) else (
        gd (inb x1 4) (
          lx x1.toNatClampNeg (fun j3 =>
            some (gI σ 19 j3 0)
          )
        )
      )
    )
  )
def F_K_area (σ : kS) (x1 : Int32) : Option (Int64) :=
  bd (F_K_isResource σ x1) (fun r1 =>
    if r1 = 0 then (
      some (-1)
    ) else (
      gd (inb x1 4) (
        lx x1.toNatClampNeg (fun j3 =>
          some (gL σ 5 j3 0)
        )
      )
    )
  )
def F_K_waited (σ : kS) (x1 : Int32) : Option (Int64) :=
  bd (F_K_isResource σ x1) (fun r1 =>
    if r1 = 0 then (
      some (-1)
    ) else (
      gd (inb x1 4) (
        lx x1.toNatClampNeg (fun j3 =>
          some (gL σ 6 j3 0)
        )
      )
    )
  )
def F_K_level (σ : kS) (x1 : Int32) : Option (Int32) :=
  bd (F_K_isTank σ x1) (fun r1 =>
    if r1 = 0 then (
      some (-1)
    ) else (
      gd (inb x1 4) (
        lx x1.toNatClampNeg (fun j3 =>
          some (gI σ 21 j3 0)
        )
      )
    )
  )
def F_K_stuck_18 : Nat → kS → Int32 → Int32 → Option (Int32 × Int32)
  | 0, _, _, _ => none
  | n + 1, σ, x1, x2 =>
    if 4 ≤ x2 then (
      some (x1, x2)
    ) else (
      if x1 = 0 then (
        gd (inb x2 4) (
          lx x2.toNatClampNeg (fun j2 =>
            if (gI σ 19 j2 0) ≤ 0 then (
              F_K_stuck_18 n σ 0 (x2 + 1)
            ) else (
              F_K_stuck_18 n σ 1 (x2 + 1)
            )
          )
        )
      ) else (
        F_K_stuck_18 n σ 1 (x2 + 1)
      )
    )
def F_K_stuck (σ : kS) : Option (Int32) :=
  if (gI σ 19 4 0) ≤ 0 then (
    bd (F_K_stuck_18 1000 σ 0 0) (fun ex1 =>
      if ex1.1 = 0 then (
        some 0
      ) else (
        bd (F_K_firstEntry σ) (fun r2 =>
          if r2 = (-1) then (
            some 1
          ) else (
            some 0
          )
        )
      )
    )
  ) else (
    bd (F_K_stuck_18 1000 σ 1 0) (fun ex3 =>
      if ex3.1 = 0 then (
        some 0
      ) else (
        bd (F_K_firstEntry σ) (fun r4 =>
          if r4 = (-1) then (
            some 1
          ) else (
            some 0
          )
        )
      )
    )
  )
def F_C_before (σ : kS) (x1 : Int32) : Option (Int32) :=
  if x1 < 0 then (
    some (-1)
  ) else (
    if x1 < (gI σ 24 0 0) then (
      gd (inb ((((gI σ 23 0 0) - x1) + 64) - (((gI σ 23 0 0) - x1) + 64) / 64 * 64) 64) (
        some (gI σ 22 0 ((((gI σ 23 0 0) - x1) + 64) - (((gI σ 23 0 0) - x1) + 64) / 64 * 64).toNatClampNeg)
      )
    ) else (
      some (-1)
    )
  )
def F_K_traced (σ : kS) (x1 : Int32) : Option (Int32) :=
  bd (F_C_before σ x1) (fun r1 =>
    some r1
  )
end
section
def F_M_process (σ : kS) (x1 : Int32) (x2 : Int32) (x3 : Int32) : Option (Int32 × kS) :=
  if (gI σ 30 0 0) = 12 then (
    some ((-1), σ)
  ) else (
    if x1 < (-4) then (
      some ((-1), σ)
    ) else (
      if 4 < x1 then (
        some ((-1), σ)
      ) else (
        if x2 < 1 then (
          some ((-1), σ)
        ) else (
          if 9 < x2 then (
            some ((-1), σ)
          ) else (
            if x3 < 0 then (
              some ((-1), σ)
            ) else (
              if x3 ≤ 10 then (
                gd (inb (gI σ 30 0 0) 12) (
                  lx (sI σ 1 0 (gI σ 30 0 0).toNatClampNeg x1) (fun σ2 =>
                    gd (inb (gI σ2 30 0 0) 12) (
                      lx (sI σ2 2 0 (gI σ2 30 0 0).toNatClampNeg x2) (fun σ4 =>
                        gd (inb (gI σ4 30 0 0) 12) (
                          lx (sI σ4 3 0 (gI σ4 30 0 0).toNatClampNeg x3) (fun σ6 =>
                            gd (inb (gI σ6 30 0 0) 12) (
                              lx (sI σ6 8 0 (gI σ6 30 0 0).toNatClampNeg (-1)) (fun σ8 =>
                                lx (sI σ8 30 0 0 ((gI σ8 30 0 0) + 1)) (fun σ9 =>
                                  some ((gI σ9 30 0 0) - 1, σ9)
                                )
                              )
                            )
                          )
                        )
                      )
                    )
                  )
                )
              ) else (
                some ((-1), σ)
              )
            )
          )
        )
      )
    )
  )
def F_M_within (σ : kS) (x1 : Int32) (x2 : Int32) (x3 : Int32) : Option (Int32) :=
  if x1 < x2 then (
    some 0
  ) else (
    if x3 < x1 then (
      some 0
    ) else (
      some 1
    )
  )
def F_M_fits (σ : kS) (x1 : Int32) (x2 : Int32) (x3 : Int32) : Option (Int32) :=
  if x1 = 0 then (
    bd (F_M_within σ x2 0 1000000) (fun r7 =>
      gd (bz r7) (
        some r7
      )
    )
  ) else (
    if x1 = 1 then (
      some 1
    ) else (
      if 3 < x1 then (
        if 5 < x1 then (
          bd (F_M_within σ x2 0 11) (fun r1 =>
            gd (bz r1) (
              some r1
            )
          )
        ) else (
          bd (F_M_within σ x2 0 3) (fun r3 =>
            if r3 = 0 then (
              some 0
            ) else (
              bd (F_M_within σ x3 1 1000) (fun r4 =>
                if r4 = 0 then (
                  some 0
                ) else (
                  some 1
                )
              )
            )
          )
        )
      ) else (
        bd (F_M_within σ x2 0 3) (fun r5 =>
          if r5 = 0 then (
            some 0
          ) else (
            bd (F_M_within σ x3 1 9) (fun r6 =>
              if r6 = 0 then (
                some 0
              ) else (
                some 1
              )
            )
          )
        )
      )
    )
  )
def F_M_none (σ : kS) (x1 : Int32) : Option (Int32) :=
  if x1 < 0 then (
    some 1
  ) else (
    if x1 < (gI σ 30 0 0) then (
      some 0
    ) else (
      some 1
    )
  )
def F_M_instruct (σ : kS) (x1 : Int32) (x2 : Int32) (x3 : Int32) (x4 : Int32) : Option (Int32 × kS) :=
  bd (F_M_none σ x1) (fun r1 =>
    if r1 = 0 then (
      gd (inb x1 12) (
        if (gI σ 6 0 x1.toNatClampNeg) = 0 then (
          gd (inb x1 12) (
            if (gI σ 4 0 x1.toNatClampNeg) = 10 then (
              some (0, σ)
            ) else (
              bd (F_M_within σ x2 0 9) (fun r4 =>
                if r4 = 0 then (
                  some (0, σ)
                ) else (
                  bd (F_M_fits σ x2 x3 x4) (fun r5 =>
                    if r5 = 0 then (
                      some (0, σ)
                    ) else (
                      gd (inb x1 12) (
                        lx ((10 * x1) + (gI σ 4 0 x1.toNatClampNeg) : Int32) (fun v7 =>
                          gd (inb v7 120) (
                            lx (sI σ 11 0 v7.toNatClampNeg x2) (fun σ9 =>
                              gd (inb v7 120) (
                                lx (sI σ9 12 0 v7.toNatClampNeg x3) (fun σ11 =>
                                  gd (inb v7 120) (
                                    lx (sI σ11 13 0 v7.toNatClampNeg x4) (fun σ13 =>
                                      gd (inb x1 12) (
                                        gd (inb x1 12) (
                                          lx (sI σ13 4 0 x1.toNatClampNeg ((gI σ13 4 0 x1.toNatClampNeg) + 1)) (fun σ16 =>
                                            some (1, σ16)
                                          )
                                        )
                                      )
                                    )
                                  )
                                )
                              )
                            )
                          )
                        )
                      )
                    )
                  )
                )
              )
            )
          )
        ) else (
          some (0, σ)
        )
      )
    ) else (
      some (0, σ)
    )
  )
def F_M_seized_4 : Nat → kS → Int32 → Int32 → Int32 → Option (Int32 × Int32)
  | 0, _, _, _, _ => none
  | n + 1, σ, x1, x2, x3 =>
    if (gI σ 30 0 0) ≤ x3 then (
      some (x2, x3)
    ) else (
      gd (inb ((4 * x3) + x1) 48) (
        lx (x2 + (gI σ 14 0 ((4 * x3) + x1).toNatClampNeg) : Int32) (fun v2 =>
          F_M_seized_4 n σ x1 v2 (x3 + 1)
        )
      )
    )
def F_M_seized (σ : kS) (x1 : Int32) : Option (Int32) :=
  bd (F_M_seized_4 1000 σ x1 0 0) (fun ex1 =>
    some ex1.1
  )
def F_M_done (σ : kS) (x1 : Int32) : Option (Int32) :=
  gd (inb x1 12) (
    some (((10 * x1) + (gI σ 5 0 x1.toNatClampNeg)) - 1)
  )
def F_M_head_4 : Nat → kS → Int32 → Int32 → Int32 → Option (Int32 × Int32)
  | 0, _, _, _, _ => none
  | n + 1, σ, x1, x2, x3 =>
    if (gI σ 30 0 0) ≤ x3 then (
      some (x2, x3)
    ) else (
      gd (inb x3 12) (
        if (gI σ 6 0 x3.toNatClampNeg) = 4 then (
          bd (F_M_done σ x3) (fun r2 =>
            gd (inb r2 120) (
              if (gI σ 12 0 r2.toNatClampNeg) = x1 then (
                if x2 < 0 then (
                  F_M_head_4 n σ x1 x3 (x3 + 1)
                ) else (
                  gd (inb x3 12) (
                    gd (inb x2 12) (
                      if (gI σ 1 0 x3.toNatClampNeg) < (gI σ 1 0 x2.toNatClampNeg) then (
                        F_M_head_4 n σ x1 x3 (x3 + 1)
                      ) else (
                        gd (inb x3 12) (
                          gd (inb x2 12) (
                            if (gI σ 1 0 x3.toNatClampNeg) = (gI σ 1 0 x2.toNatClampNeg) then (
                              gd (inb x3 12) (
                                gd (inb x2 12) (
                                  if (gI σ 9 0 x2.toNatClampNeg) ≤ (gI σ 9 0 x3.toNatClampNeg) then (
                                    F_M_head_4 n σ x1 x2 (x3 + 1)
                                  ) else (
                                    F_M_head_4 n σ x1 x3 (x3 + 1)
                                  )
                                )
                              )
                            ) else (
                              F_M_head_4 n σ x1 x2 (x3 + 1)
                            )
                          )
                        )
                      )
                    )
                  )
                )
              ) else (
                F_M_head_4 n σ x1 x2 (x3 + 1)
              )
            )
          )
        ) else (
          F_M_head_4 n σ x1 x2 (x3 + 1)
        )
      )
    )
def F_M_head (σ : kS) (x1 : Int32) : Option (Int32) :=
  bd (F_M_head_4 1000 σ x1 (-1) 0) (fun ex1 =>
    some ex1.1
  )
def F_M_rest (σ : kS) (x1 : Int32) : Option (Int32) :=
  gd (inb x1 4) (
    bd (F_M_seized σ x1) (fun r2 =>
      some ((gI σ 15 0 x1.toNatClampNeg) - r2)
    )
  )
def F_M_enter (σ : kS) (x1 : Int32) (x2 : Int32) (x3 : Int64) : Option (kS) :=
  gd (inb x1 12) (
    lx (sI σ 6 0 x1.toNatClampNeg x2) (fun σ2 =>
      gd (inb x1 12) (
        lx (sL σ2 7 0 x1.toNatClampNeg x3) (fun σ4 =>
          gd (inb x1 12) (
            lx (sI σ4 8 0 x1.toNatClampNeg (gI σ4 31 0 0)) (fun σ6 =>
              lx (sI σ6 31 0 0 ((gI σ6 31 0 0) + 1)) (fun σ7 =>
                some σ7
              )
            )
          )
        )
      )
    )
  )
def F_M_serve_2 : Nat → kS → Int32 → Int32 → Option (Nat × kS × Int32)
  | 0, _, _, _ => none
  | n + 1, σ, x1, x2 =>
    if 12 ≤ x2 then (
      some (1, σ, x2)
    ) else (
      bd (F_M_head σ x1) (fun r1 =>
        if r1 < 0 then (
          some (0, σ, x2)
        ) else (
          bd (F_M_done σ r1) (fun r2 =>
            gd (inb r2 120) (
              bd (F_M_rest σ x1) (fun r4 =>
                if (gI σ 13 0 r2.toNatClampNeg) ≤ r4 then (
                  gd (inb ((4 * r1) + x1) 48) (
                    bd (F_M_done σ r1) (fun r6 =>
                      gd (inb r6 120) (
                        gd (inb ((4 * r1) + x1) 48) (
                          lx (sI σ 14 0 ((4 * r1) + x1).toNatClampNeg ((gI σ 14 0 ((4 * r1) + x1).toNatClampNeg) + (gI σ 13 0 r6.toNatClampNeg))) (fun σ9 =>
                            gd (inb x1 4) (
                              gd (inb r1 12) (
                                gd (inb x1 4) (
                                  lx (sL σ9 18 0 x1.toNatClampNeg ((gL σ9 18 0 x1.toNatClampNeg) + ((gL σ9 0 0 0) - (gL σ9 10 0 r1.toNatClampNeg)))) (fun σ13 =>
                                    bd (F_M_enter σ13 r1 1 (gL σ13 0 0 0)) (fun r14 =>
                                      F_M_serve_2 n r14 x1 (x2 + 1)
                                    )
                                  )
                                )
                              )
                            )
                          )
                        )
                      )
                    )
                  )
                ) else (
                  some (0, σ, x2)
                )
              )
            )
          )
        )
      )
    )
def F_M_serve (σ : kS) (x1 : Int32) : Option (kS) :=
  bd (F_M_serve_2 1000 σ x1 0) (fun ex1 =>
    if ex1.1 = 0 then (
      some ex1.2.1
    ) else (
      some ex1.2.1
    )
  )
def F_M_resource (σ : kS) (x1 : Int32) (x2 : Int32) (x3 : Int32) : Option (Int32 × kS) :=
  bd (F_M_within σ x1 0 3) (fun r1 =>
    if r1 = 0 then (
      some (0, σ)
    ) else (
      bd (F_M_within σ x2 0 9) (fun r2 =>
        if r2 = 0 then (
          some (0, σ)
        ) else (
          bd (F_M_seized σ x1) (fun r3 =>
            if r3 ≤ x2 then (
              gd (inb x1 4) (
                lx (sI σ 15 0 x1.toNatClampNeg x2) (fun σ5 =>
                  gd (inb x1 4) (
                    gd (bz x3) (
                      lx (sI σ5 16 0 x1.toNatClampNeg x3) (fun σ8 =>
                        bd (F_M_serve σ8 x1) (fun r9 =>
                          some (1, r9)
                        )
                      )
                    )
                  )
                )
              )
            ) else (
              some (0, σ)
            )
          )
        )
      )
    )
  )
def F_M_tank (σ : kS) (x1 : Int32) (x2 : Int32) (x3 : Int32) : Option (Int32 × kS) :=
  bd (F_M_within σ x1 0 3) (fun r1 =>
    if r1 = 0 then (
      some (0, σ)
    ) else (
      bd (F_M_within σ x2 0 1000) (fun r2 =>
        if r2 = 0 then (
          some (0, σ)
        ) else (
          bd (F_M_within σ x3 0 x2) (fun r3 =>
            if r3 = 0 then (
              some (0, σ)
            ) else (
              gd (inb x1 4) (
                lx (sI σ 19 0 x1.toNatClampNeg x2) (fun σ5 =>
                  gd (inb x1 4) (
                    lx (sI σ5 20 0 x1.toNatClampNeg x3) (fun σ7 =>
                      some (1, σ7)
                    )
                  )
                )
              )
            )
          )
        )
      )
    )
  )
def F_M_sooner (σ : kS) (x1 : Int32) (x2 : Int32) : Option (Int32) :=
  gd (inb x1 12) (
    gd (inb x2 12) (
      if (lg_cmp (gL σ 7 0 x1.toNatClampNeg) (gL σ 7 0 x2.toNatClampNeg)) = 0 then (
        gd (inb x1 12) (
          gd (inb x2 12) (
            if (gI σ 1 0 x1.toNatClampNeg) = (gI σ 1 0 x2.toNatClampNeg) then (
              gd (inb x1 12) (
                gd (inb x2 12) (
                  if (gI σ 8 0 x2.toNatClampNeg) ≤ (gI σ 8 0 x1.toNatClampNeg) then (
                    some 0
                  ) else (
                    some 1
                  )
                )
              )
            ) else (
              gd (inb x1 12) (
                gd (inb x2 12) (
                  if (gI σ 1 0 x2.toNatClampNeg) ≤ (gI σ 1 0 x1.toNatClampNeg) then (
                    some 0
                  ) else (
                    some 1
                  )
                )
              )
            )
          )
        )
      ) else (
        gd (inb x1 12) (
          gd (inb x2 12) (
            if 0 ≤ (lg_cmp (gL σ 7 0 x1.toNatClampNeg) (gL σ 7 0 x2.toNatClampNeg)) then (
              some 0
            ) else (
              some 1
            )
          )
        )
      )
    )
  )
def F_M_first_4 : Nat → kS → Int32 → Int32 → Option (Int32 × Int32)
  | 0, _, _, _ => none
  | n + 1, σ, x1, x2 =>
    if (gI σ 30 0 0) ≤ x2 then (
      some (x1, x2)
    ) else (
      gd (inb x2 12) (
        if (gI σ 8 0 x2.toNatClampNeg) < 0 then (
          F_M_first_4 n σ x1 (x2 + 1)
        ) else (
          if x1 < 0 then (
            F_M_first_4 n σ x2 (x2 + 1)
          ) else (
            bd (F_M_sooner σ x2 x1) (fun r2 =>
              if r2 = 0 then (
                F_M_first_4 n σ x1 (x2 + 1)
              ) else (
                F_M_first_4 n σ x2 (x2 + 1)
              )
            )
          )
        )
      )
    )
def F_M_first (σ : kS) : Option (Int32) :=
  bd (F_M_first_4 1000 σ (-1) 0) (fun ex1 =>
    some ex1.1
  )
def F_M_reach_9 : Nat → kS → Int32 → Int32 → Int32 → Int32 → Option (Int32 × Int32)
  | 0, _, _, _, _, _ => none
  | n + 1, σ, x1, x2, x3, x4 =>
    if (gI σ 30 0 0) ≤ x4 then (
      some (x3, x4)
    ) else (
      gd (inb x4 12) (
        gd (inb x1 12) (
          if (gI σ 1 0 x4.toNatClampNeg) ≤ (gI σ 1 0 x1.toNatClampNeg) then (
            lx (x3 + 0 : Int32) (fun v3 =>
              F_M_reach_9 n σ x1 x2 v3 (x4 + 1)
            )
          ) else (
            gd (inb ((4 * x4) + x2) 48) (
              lx (x3 + (gI σ 14 0 ((4 * x4) + x2).toNatClampNeg) : Int32) (fun v5 =>
                F_M_reach_9 n σ x1 x2 v5 (x4 + 1)
              )
            )
          )
        )
      )
    )
def F_M_reach (σ : kS) (x1 : Int32) (x2 : Int32) : Option (Int32) :=
  bd (F_M_rest σ x2) (fun r1 =>
    bd (F_M_reach_9 1000 σ x1 x2 r1 0) (fun ex2 =>
      some ex2.1
    )
  )
def F_M_victim_5 : Nat → kS → Int32 → Int32 → Int32 → Int32 → Option (Int32 × Int32)
  | 0, _, _, _, _, _ => none
  | n + 1, σ, x1, x2, x3, x4 =>
    if (gI σ 30 0 0) ≤ x4 then (
      some (x3, x4)
    ) else (
      gd (inb x4 12) (
        gd (inb x1 12) (
          if (gI σ 1 0 x4.toNatClampNeg) ≤ (gI σ 1 0 x1.toNatClampNeg) then (
            F_M_victim_5 n σ x1 x2 x3 (x4 + 1)
          ) else (
            gd (inb ((4 * x4) + x2) 48) (
              if (gI σ 14 0 ((4 * x4) + x2).toNatClampNeg) ≤ 0 then (
                F_M_victim_5 n σ x1 x2 x3 (x4 + 1)
              ) else (
                if x3 < 0 then (
                  F_M_victim_5 n σ x1 x2 x4 (x4 + 1)
                ) else (
                  gd (inb x4 12) (
                    gd (inb x3 12) (
                      if (gI σ 1 0 x4.toNatClampNeg) < (gI σ 1 0 x3.toNatClampNeg) then (
                        F_M_victim_5 n σ x1 x2 x3 (x4 + 1)
                      ) else (
                        F_M_victim_5 n σ x1 x2 x4 (x4 + 1)
                      )
                    )
                  )
                )
              )
            )
          )
        )
      )
    )
def F_M_victim (σ : kS) (x1 : Int32) (x2 : Int32) : Option (Int32) :=
  bd (F_M_victim_5 1000 σ x1 x2 (-1) 0) (fun ex1 =>
    some ex1.1
  )
def F_M_interrupt (σ : kS) (x1 : Int32) : Option (Int32 × kS) :=
  bd (F_M_none σ x1) (fun r1 =>
    if r1 = 0 then (
      gd (inb x1 12) (
        if (gI σ 6 0 x1.toNatClampNeg) < 2 then (
          some (0, σ)
        ) else (
          gd (inb x1 12) (
            if (gI σ 6 0 x1.toNatClampNeg) ≤ 5 then (
              gd (inb x1 12) (
                if (gI σ 6 0 x1.toNatClampNeg) = 4 then (
                  bd (F_M_done σ x1) (fun r9 =>
                    gd (inb r9 120) (
                      lx (gI σ 12 0 r9.toNatClampNeg : Int32) (fun v11 =>
                        gd (inb x1 12) (
                          gd (inb x1 12) (
                            lx (sI σ 5 0 x1.toNatClampNeg (gI σ 3 0 x1.toNatClampNeg)) (fun σ14 =>
                              bd (F_M_enter σ14 x1 1 (gL σ14 0 0 0)) (fun r15 =>
                                if v11 < 0 then (
                                  some (1, r15)
                                ) else (
                                  bd (F_M_serve r15 v11) (fun r16 =>
                                    some (1, r16)
                                  )
                                )
                              )
                            )
                          )
                        )
                      )
                    )
                  )
                ) else (
                  gd (inb x1 12) (
                    gd (inb x1 12) (
                      lx (sI σ 5 0 x1.toNatClampNeg (gI σ 3 0 x1.toNatClampNeg)) (fun σ7 =>
                        bd (F_M_enter σ7 x1 1 (gL σ7 0 0 0)) (fun r8 =>
                          some (1, r8)
                        )
                      )
                    )
                  )
                )
              )
            ) else (
              some (0, σ)
            )
          )
        )
      )
    ) else (
      some (0, σ)
    )
  )
def F_M_preempt_6 : Nat → kS → Int32 → Int32 → Int32 → Int32 → Int32 → Option (kS × Int32 × Int32)
  | 0, _, _, _, _, _, _ => none
  | n + 1, σ, x1, x2, x3, x4, x5 =>
    if 12 ≤ x5 then (
      some (σ, x4, x5)
    ) else (
      bd (F_M_rest σ x2) (fun r1 =>
        if x3 ≤ r1 then (
          some (σ, x4, x5)
        ) else (
          bd (F_M_victim σ x1 x2) (fun r2 =>
            if r2 < 0 then (
              F_M_preempt_6 n σ x1 x2 x3 x4 (x5 + 1)
            ) else (
              gd (inb ((4 * r2) + x2) 48) (
                lx (sI σ 14 0 ((4 * r2) + x2).toNatClampNeg 0) (fun σ4 =>
                  gd (inb x4 12) (
                    lx (sI σ4 21 0 x4.toNatClampNeg r2) (fun σ6 =>
                      F_M_preempt_6 n σ6 x1 x2 x3 (x4 + 1) (x5 + 1)
                    )
                  )
                )
              )
            )
          )
        )
      )
    )
def F_M_preempt_82 : Nat → kS → Int32 → Int32 → Int32 → Option (kS × Int32)
  | 0, _, _, _, _ => none
  | n + 1, σ, x2, x4, x5 =>
    if x4 ≤ x5 then (
      some (σ, x5)
    ) else (
      gd (inb x5 12) (
        bd (F_M_interrupt σ (gI σ 21 0 x5.toNatClampNeg)) (fun r2 =>
          F_M_preempt_82 n r2.2 x2 x4 (x5 + 1)
        )
      )
    )
def F_M_preempt (σ : kS) (x1 : Int32) (x2 : Int32) (x3 : Int32) : Option (kS) :=
  bd (F_M_preempt_6 1000 σ x1 x2 x3 0 0) (fun ex1 =>
    gd (inb ((4 * x1) + x2) 48) (
      gd (inb ((4 * x1) + x2) 48) (
        lx (sI ex1.1 14 0 ((4 * x1) + x2).toNatClampNeg ((gI ex1.1 14 0 ((4 * x1) + x2).toNatClampNeg) + x3)) (fun σ4 =>
          bd (F_M_preempt_82 1000 σ4 x2 ex1.2.1 0) (fun ex5 =>
            bd (F_M_serve ex5.1 x2) (fun r6 =>
              some r6
            )
          )
        )
      )
    )
  )
def F_M_seize (σ : kS) (x1 : Int32) (x2 : Int32) (x3 : Int32) : Option (Int32 × kS) :=
  bd (F_M_head σ x2) (fun r1 =>
    if r1 < 0 then (
      bd (F_M_rest σ x2) (fun r2 =>
        if r2 < x3 then (
          gd (inb x2 4) (
            if (gI σ 16 0 x2.toNatClampNeg) = 0 then (
              gd (inb x1 12) (
                lx (sI σ 6 0 x1.toNatClampNeg 4) (fun σ5 =>
                  gd (inb x1 12) (
                    lx (sI σ5 9 0 x1.toNatClampNeg (gI σ5 32 0 0)) (fun σ7 =>
                      lx (sI σ7 32 0 0 ((gI σ7 32 0 0) + 1)) (fun σ8 =>
                        gd (inb x1 12) (
                          lx (sL σ8 10 0 x1.toNatClampNeg (gL σ8 0 0 0)) (fun σ10 =>
                            some (0, σ10)
                          )
                        )
                      )
                    )
                  )
                )
              )
            ) else (
              bd (F_M_reach σ x1 x2) (fun r11 =>
                if r11 < x3 then (
                  gd (inb x1 12) (
                    lx (sI σ 6 0 x1.toNatClampNeg 4) (fun σ13 =>
                      gd (inb x1 12) (
                        lx (sI σ13 9 0 x1.toNatClampNeg (gI σ13 32 0 0)) (fun σ15 =>
                          lx (sI σ15 32 0 0 ((gI σ15 32 0 0) + 1)) (fun σ16 =>
                            gd (inb x1 12) (
                              lx (sL σ16 10 0 x1.toNatClampNeg (gL σ16 0 0 0)) (fun σ18 =>
                                some (0, σ18)
                              )
                            )
                          )
                        )
                      )
                    )
                  )
                ) else (
                  bd (F_M_preempt σ x1 x2 x3) (fun r19 =>
                    some (1, r19)
                  )
                )
              )
            )
          )
        ) else (
          gd (inb ((4 * x1) + x2) 48) (
            gd (inb ((4 * x1) + x2) 48) (
              lx (sI σ 14 0 ((4 * x1) + x2).toNatClampNeg ((gI σ 14 0 ((4 * x1) + x2).toNatClampNeg) + x3)) (fun σ22 =>
                some (1, σ22)
              )
            )
          )
        )
      )
    ) else (
      gd (inb r1 12) (
        gd (inb x1 12) (
          if (gI σ 1 0 r1.toNatClampNeg) ≤ (gI σ 1 0 x1.toNatClampNeg) then (
            gd (inb x1 12) (
              lx (sI σ 6 0 x1.toNatClampNeg 4) (fun σ26 =>
                gd (inb x1 12) (
                  lx (sI σ26 9 0 x1.toNatClampNeg (gI σ26 32 0 0)) (fun σ28 =>
                    lx (sI σ28 32 0 0 ((gI σ28 32 0 0) + 1)) (fun σ29 =>
                      gd (inb x1 12) (
                        lx (sL σ29 10 0 x1.toNatClampNeg (gL σ29 0 0 0)) (fun σ31 =>
                          some (0, σ31)
                        )
                      )
                    )
                  )
                )
              )
            )
          ) else (
            bd (F_M_rest σ x2) (fun r32 =>
              if r32 < x3 then (
                gd (inb x2 4) (
                  if (gI σ 16 0 x2.toNatClampNeg) = 0 then (
                    gd (inb x1 12) (
                      lx (sI σ 6 0 x1.toNatClampNeg 4) (fun σ35 =>
                        gd (inb x1 12) (
                          lx (sI σ35 9 0 x1.toNatClampNeg (gI σ35 32 0 0)) (fun σ37 =>
                            lx (sI σ37 32 0 0 ((gI σ37 32 0 0) + 1)) (fun σ38 =>
                              gd (inb x1 12) (
                                lx (sL σ38 10 0 x1.toNatClampNeg (gL σ38 0 0 0)) (fun σ40 =>
                                  some (0, σ40)
                                )
                              )
                            )
                          )
                        )
                      )
                    )
                  ) else (
                    bd (F_M_reach σ x1 x2) (fun r41 =>
                      if r41 < x3 then (
                        gd (inb x1 12) (
                          lx (sI σ 6 0 x1.toNatClampNeg 4) (fun σ43 =>
                            gd (inb x1 12) (
                              lx (sI σ43 9 0 x1.toNatClampNeg (gI σ43 32 0 0)) (fun σ45 =>
                                lx (sI σ45 32 0 0 ((gI σ45 32 0 0) + 1)) (fun σ46 =>
                                  gd (inb x1 12) (
                                    lx (sL σ46 10 0 x1.toNatClampNeg (gL σ46 0 0 0)) (fun σ48 =>
                                      some (0, σ48)
                                    )
                                  )
                                )
                              )
                            )
                          )
                        )
                      ) else (
                        bd (F_M_preempt σ x1 x2 x3) (fun r49 =>
                          some (1, r49)
                        )
                      )
                    )
                  )
                )
              ) else (
                gd (inb ((4 * x1) + x2) 48) (
                  gd (inb ((4 * x1) + x2) 48) (
                    lx (sI σ 14 0 ((4 * x1) + x2).toNatClampNeg ((gI σ 14 0 ((4 * x1) + x2).toNatClampNeg) + x3)) (fun σ52 =>
                      some (1, σ52)
                    )
                  )
                )
              )
            )
          )
        )
      )
    )
  )
def F_M_release (σ : kS) (x1 : Int32) (x2 : Int32) (x3 : Int32) : Option (kS) :=
  lx ((4 * x1) + x2 : Int32) (fun v1 =>
    gd (inb v1 48) (
      if (gI σ 14 0 v1.toNatClampNeg) ≤ x3 then (
        gd (inb v1 48) (
          lx (sI σ 14 0 v1.toNatClampNeg 0) (fun σ4 =>
            bd (F_M_serve σ4 x2) (fun r5 =>
              some r5
            )
          )
        )
      ) else (
        gd (inb v1 48) (
          gd (inb v1 48) (
            lx (sI σ 14 0 v1.toNatClampNeg ((gI σ 14 0 v1.toNatClampNeg) - x3)) (fun σ8 =>
              bd (F_M_serve σ8 x2) (fun r9 =>
                some r9
              )
            )
          )
        )
      )
    )
  )
def F_M_holds (σ : kS) (x1 : Int32) : Option (Int32) :=
  gd (inb x1 120) (
    lx (gI σ 12 0 x1.toNatClampNeg : Int32) (fun v2 =>
      gd (inb x1 120) (
        if (gI σ 11 0 x1.toNatClampNeg) = 4 then (
          gd (inb v2 4) (
            gd (inb x1 120) (
              gd (inb v2 4) (
                if (gI σ 19 0 v2.toNatClampNeg) < ((gI σ 20 0 v2.toNatClampNeg) + (gI σ 13 0 x1.toNatClampNeg)) then (
                  some 0
                ) else (
                  some 1
                )
              )
            )
          )
        ) else (
          gd (inb x1 120) (
            if (gI σ 11 0 x1.toNatClampNeg) = 5 then (
              gd (inb v2 4) (
                gd (inb x1 120) (
                  if (gI σ 20 0 v2.toNatClampNeg) < (gI σ 13 0 x1.toNatClampNeg) then (
                    some 0
                  ) else (
                    some 1
                  )
                )
              )
            ) else (
              if (gI σ 30 0 0) ≤ v2 then (
                some 1
              ) else (
                gd (inb v2 12) (
                  if (gI σ 6 0 v2.toNatClampNeg) < 6 then (
                    some 0
                  ) else (
                    some 1
                  )
                )
              )
            )
          )
        )
      )
    )
  )
def F_M_pour (σ : kS) (x1 : Int32) : Option (kS) :=
  gd (inb x1 120) (
    if 6 ≤ (gI σ 11 0 x1.toNatClampNeg) then (
      some σ
    ) else (
      gd (inb x1 120) (
        gd (inb (gI σ 12 0 x1.toNatClampNeg) 4) (
          gd (inb x1 120) (
            if (gI σ 11 0 x1.toNatClampNeg) = 4 then (
              gd (inb x1 120) (
                gd (inb (gI σ 12 0 x1.toNatClampNeg) 4) (
                  lx (sI σ 20 0 (gI σ 12 0 x1.toNatClampNeg).toNatClampNeg ((gI σ 20 0 (gI σ 12 0 x1.toNatClampNeg).toNatClampNeg) + (gI σ 13 0 x1.toNatClampNeg))) (fun σ10 =>
                    some σ10
                  )
                )
              )
            ) else (
              gd (inb x1 120) (
                gd (inb (gI σ 12 0 x1.toNatClampNeg) 4) (
                  lx (sI σ 20 0 (gI σ 12 0 x1.toNatClampNeg).toNatClampNeg ((gI σ 20 0 (gI σ 12 0 x1.toNatClampNeg).toNatClampNeg) + (-(gI σ 13 0 x1.toNatClampNeg)))) (fun σ7 =>
                    some σ7
                  )
                )
              )
            )
          )
        )
      )
    )
  )
def F_M_goOver_15 : Nat → kS → Int32 → Int32 → Int32 → Int32 → Option (Int32 × Int32)
  | 0, _, _, _, _, _ => none
  | n + 1, σ, x1, x2, x3, x4 =>
    if (gI σ 30 0 0) ≤ x4 then (
      some (x3, x4)
    ) else (
      gd (inb x4 12) (
        if (gI σ 6 0 x4.toNatClampNeg) = 5 then (
          gd (inb x4 12) (
            if (gI σ 9 0 x4.toNatClampNeg) ≤ x1 then (
              F_M_goOver_15 n σ x1 x2 x3 (x4 + 1)
            ) else (
              if x3 < 0 then (
                F_M_goOver_15 n σ x1 x2 x4 (x4 + 1)
              ) else (
                gd (inb x4 12) (
                  gd (inb x3 12) (
                    if (gI σ 9 0 x3.toNatClampNeg) ≤ (gI σ 9 0 x4.toNatClampNeg) then (
                      F_M_goOver_15 n σ x1 x2 x3 (x4 + 1)
                    ) else (
                      F_M_goOver_15 n σ x1 x2 x4 (x4 + 1)
                    )
                  )
                )
              )
            )
          )
        ) else (
          F_M_goOver_15 n σ x1 x2 x3 (x4 + 1)
        )
      )
    )
def F_M_goOver_4 : Nat → kS → Int32 → Int32 → Option (Nat × kS × Int32 × Int32)
  | 0, _, _, _ => none
  | n + 1, σ, x1, x2 =>
    if 12 ≤ x2 then (
      some (1, σ, x1, x2)
    ) else (
      bd (F_M_goOver_15 1000 σ x1 x2 (-1) 0) (fun ex1 =>
        if 0 ≤ ex1.1 then (
          gd (inb ex1.1 12) (
            lx (gI σ 9 0 ex1.1.toNatClampNeg : Int32) (fun v3 =>
              bd (F_M_done σ ex1.1) (fun r4 =>
                bd (F_M_holds σ r4) (fun r5 =>
                  if r5 = 0 then (
                    F_M_goOver_4 n σ v3 (x2 + 1)
                  ) else (
                    bd (F_M_done σ ex1.1) (fun r6 =>
                      bd (F_M_pour σ r6) (fun r7 =>
                        bd (F_M_enter r7 ex1.1 1 (gL r7 0 0 0)) (fun r8 =>
                          F_M_goOver_4 n r8 v3 (x2 + 1)
                        )
                      )
                    )
                  )
                )
              )
            )
          )
        ) else (
          some (0, σ, x1, x2)
        )
      )
    )
def F_M_goOver (σ : kS) : Option (kS) :=
  bd (F_M_goOver_4 1000 σ (-1) 0) (fun ex1 =>
    if ex1.1 = 0 then (
      some ex1.2.1
    ) else (
      some ex1.2.1
    )
  )
def F_M_activate (σ : kS) (x1 : Int32) (x2 : Int32) : Option (Int32 × kS) :=
  bd (F_M_none σ x1) (fun r1 =>
    if r1 = 0 then (
      gd (inb x1 12) (
        if (gI σ 6 0 x1.toNatClampNeg) = 0 then (
          bd (F_M_within σ x2 0 1000000) (fun r3 =>
            if r3 = 0 then (
              some (0, σ)
            ) else (
              bd (F_M_enter σ x1 1 ((gL σ 0 0 0) + x2.toInt64)) (fun r4 =>
                some (1, r4)
              )
            )
          )
        ) else (
          gd (inb x1 12) (
            if (gI σ 6 0 x1.toNatClampNeg) = 3 then (
              bd (F_M_within σ x2 0 1000000) (fun r6 =>
                if r6 = 0 then (
                  some (0, σ)
                ) else (
                  bd (F_M_enter σ x1 1 ((gL σ 0 0 0) + x2.toInt64)) (fun r7 =>
                    some (1, r7)
                  )
                )
              )
            ) else (
              some (0, σ)
            )
          )
        )
      )
    ) else (
      some (0, σ)
    )
  )
def F_M_kill_68 : Nat → kS → Int32 → Int32 → Int32 → Option (kS × Int32)
  | 0, _, _, _, _ => none
  | n + 1, σ, x1, x2, x3 =>
    gd (inb x1 12) (
      if (gI σ 4 0 x1.toNatClampNeg) ≤ x3 then (
        some (σ, x3)
      ) else (
        gd (inb ((10 * x1) + x3) 120) (
          if (gI σ 11 0 ((10 * x1) + x3).toNatClampNeg) = 3 then (
            gd (inb ((10 * x1) + x3) 120) (
              gd (inb ((10 * x1) + x3) 120) (
                bd (F_M_release σ x1 (gI σ 12 0 ((10 * x1) + x3).toNatClampNeg) (gI σ 13 0 ((10 * x1) + x3).toNatClampNeg)) (fun r5 =>
                  F_M_kill_68 n r5 x1 x2 (x3 + 1)
                )
              )
            )
          ) else (
            F_M_kill_68 n σ x1 x2 (x3 + 1)
          )
        )
      )
    )
def F_M_kill (σ : kS) (x1 : Int32) : Option (Int32 × kS) :=
  bd (F_M_none σ x1) (fun r1 =>
    if r1 = 0 then (
      gd (inb x1 12) (
        if (gI σ 6 0 x1.toNatClampNeg) < 6 then (
          gd (inb x1 12) (
            if (gI σ 6 0 x1.toNatClampNeg) = 4 then (
              bd (F_M_done σ x1) (fun r11 =>
                gd (inb r11 120) (
                  lx (gI σ 12 0 r11.toNatClampNeg : Int32) (fun v13 =>
                    gd (inb x1 12) (
                      lx (sI σ 8 0 x1.toNatClampNeg (-1)) (fun σ15 =>
                        gd (inb x1 12) (
                          lx (sI σ15 6 0 x1.toNatClampNeg 7) (fun σ17 =>
                            gd (inb x1 12) (
                              lx (gI σ17 5 0 x1.toNatClampNeg : Int32) (fun v19 =>
                                bd (F_M_kill_68 1000 σ17 x1 v13 v19) (fun ex20 =>
                                  if v13 < 0 then (
                                    some (1, ex20.1)
                                  ) else (
                                    bd (F_M_serve ex20.1 v13) (fun r21 =>
                                      some (1, r21)
                                    )
                                  )
                                )
                              )
                            )
                          )
                        )
                      )
                    )
                  )
                )
              )
            ) else (
              gd (inb x1 12) (
                lx (sI σ 8 0 x1.toNatClampNeg (-1)) (fun σ5 =>
                  gd (inb x1 12) (
                    lx (sI σ5 6 0 x1.toNatClampNeg 7) (fun σ7 =>
                      gd (inb x1 12) (
                        lx (gI σ7 5 0 x1.toNatClampNeg : Int32) (fun v9 =>
                          bd (F_M_kill_68 1000 σ7 x1 (-1) v9) (fun ex10 =>
                            some (1, ex10.1)
                          )
                        )
                      )
                    )
                  )
                )
              )
            )
          )
        ) else (
          some (0, σ)
        )
      )
    ) else (
      some (0, σ)
    )
  )
def F_M_perform (σ : kS) (x1 : Int32) (x2 : Int32) : Option (Int32 × kS) :=
  gd (inb x2 120) (
    lx (gI σ 12 0 x2.toNatClampNeg : Int32) (fun v2 =>
      gd (inb x2 120) (
        if (gI σ 11 0 x2.toNatClampNeg) = 0 then (
          bd (F_M_enter σ x1 2 ((gL σ 0 0 0) + v2.toInt64)) (fun r4 =>
            some (0, r4)
          )
        ) else (
          if (gI σ 11 0 x2.toNatClampNeg) = 1 then (
            gd (inb x1 12) (
              lx (sI σ 6 0 x1.toNatClampNeg 3) (fun σ6 =>
                some (0, σ6)
              )
            )
          ) else (
            if (gI σ 11 0 x2.toNatClampNeg) = 2 then (
              gd (inb x2 120) (
                bd (F_M_seize σ x1 v2 (gI σ 13 0 x2.toNatClampNeg)) (fun r8 =>
                  gd (bz r8.1) (
                    some (r8.1, r8.2)
                  )
                )
              )
            ) else (
              if (gI σ 11 0 x2.toNatClampNeg) = 3 then (
                gd (inb x2 120) (
                  bd (F_M_release σ x1 v2 (gI σ 13 0 x2.toNatClampNeg)) (fun r11 =>
                    some (1, r11)
                  )
                )
              ) else (
                if (gI σ 11 0 x2.toNatClampNeg) = 4 then (
                  bd (F_M_holds σ x2) (fun r12 =>
                    if r12 = 0 then (
                      gd (inb x1 12) (
                        lx (sI σ 6 0 x1.toNatClampNeg 5) (fun σ14 =>
                          gd (inb x1 12) (
                            lx (sI σ14 9 0 x1.toNatClampNeg (gI σ14 32 0 0)) (fun σ16 =>
                              lx (sI σ16 32 0 0 ((gI σ16 32 0 0) + 1)) (fun σ17 =>
                                some (0, σ17)
                              )
                            )
                          )
                        )
                      )
                    ) else (
                      bd (F_M_pour σ x2) (fun r18 =>
                        some (1, r18)
                      )
                    )
                  )
                ) else (
                  if (gI σ 11 0 x2.toNatClampNeg) = 5 then (
                    bd (F_M_holds σ x2) (fun r19 =>
                      if r19 = 0 then (
                        gd (inb x1 12) (
                          lx (sI σ 6 0 x1.toNatClampNeg 5) (fun σ21 =>
                            gd (inb x1 12) (
                              lx (sI σ21 9 0 x1.toNatClampNeg (gI σ21 32 0 0)) (fun σ23 =>
                                lx (sI σ23 32 0 0 ((gI σ23 32 0 0) + 1)) (fun σ24 =>
                                  some (0, σ24)
                                )
                              )
                            )
                          )
                        )
                      ) else (
                        bd (F_M_pour σ x2) (fun r25 =>
                          some (1, r25)
                        )
                      )
                    )
                  ) else (
                    if (gI σ 11 0 x2.toNatClampNeg) = 6 then (
                      bd (F_M_holds σ x2) (fun r26 =>
                        if r26 = 0 then (
                          gd (inb x1 12) (
                            lx (sI σ 6 0 x1.toNatClampNeg 5) (fun σ28 =>
                              gd (inb x1 12) (
                                lx (sI σ28 9 0 x1.toNatClampNeg (gI σ28 32 0 0)) (fun σ30 =>
                                  lx (sI σ30 32 0 0 ((gI σ30 32 0 0) + 1)) (fun σ31 =>
                                    some (0, σ31)
                                  )
                                )
                              )
                            )
                          )
                        ) else (
                          bd (F_M_pour σ x2) (fun r32 =>
                            some (1, r32)
                          )
                        )
                      )
                    ) else (
                      if (gI σ 11 0 x2.toNatClampNeg) = 7 then (
                        bd (F_M_activate σ v2 0) (fun r33 =>
                          some (1, r33.2)
                        )
                      ) else (
                        if (gI σ 11 0 x2.toNatClampNeg) = 8 then (
                          bd (F_M_interrupt σ v2) (fun r34 =>
                            some (1, r34.2)
                          )
                        ) else (
                          if (gI σ 11 0 x2.toNatClampNeg) = 9 then (
                            bd (F_M_kill σ v2) (fun r35 =>
                              gd (inb x1 12) (
                                if (gI r35.2 6 0 x1.toNatClampNeg) = 7 then (
                                  some (0, r35.2)
                                ) else (
                                  some (1, r35.2)
                                )
                              )
                            )
                          ) else (
                            bd (F_M_holds σ x2) (fun r37 =>
                              if r37 = 0 then (
                                gd (inb x1 12) (
                                  lx (sI σ 6 0 x1.toNatClampNeg 5) (fun σ39 =>
                                    gd (inb x1 12) (
                                      lx (sI σ39 9 0 x1.toNatClampNeg (gI σ39 32 0 0)) (fun σ41 =>
                                        lx (sI σ41 32 0 0 ((gI σ41 32 0 0) + 1)) (fun σ42 =>
                                          some (0, σ42)
                                        )
                                      )
                                    )
                                  )
                                )
                              ) else (
                                bd (F_M_pour σ x2) (fun r43 =>
                                  some (1, r43)
                                )
                              )
                            )
                          )
                        )
                      )
                    )
                  )
                )
              )
            )
          )
        )
      )
    )
  )
def F_M_turn_2 : Nat → kS → Int32 → Int32 → Option (Nat × kS × Int32)
  | 0, _, _, _ => none
  | n + 1, σ, x1, x2 =>
    if 200 ≤ x2 then (
      some (2, σ, x2)
    ) else (
      gd (inb x1 12) (
        gd (inb x1 12) (
          if (gI σ 4 0 x1.toNatClampNeg) ≤ (gI σ 5 0 x1.toNatClampNeg) then (
            gd (inb x1 12) (
              gd (inb x1 12) (
                lx (sI σ 2 0 x1.toNatClampNeg ((gI σ 2 0 x1.toNatClampNeg) - 1)) (fun σ5 =>
                  gd (inb x1 12) (
                    if (gI σ5 2 0 x1.toNatClampNeg) = 0 then (
                      some (1, σ5, x2)
                    ) else (
                      gd (inb x1 12) (
                        lx (sI σ5 5 0 x1.toNatClampNeg 0) (fun σ8 =>
                          F_M_turn_2 n σ8 x1 (x2 + 1)
                        )
                      )
                    )
                  )
                )
              )
            )
          ) else (
            gd (inb x1 12) (
              gd (inb x1 12) (
                lx (sI σ 5 0 x1.toNatClampNeg ((gI σ 5 0 x1.toNatClampNeg) + 1)) (fun σ11 =>
                  bd (F_M_done σ11 x1) (fun r12 =>
                    bd (F_M_perform σ11 x1 r12) (fun r13 =>
                      if r13.1 = 0 then (
                        some (0, r13.2, x2)
                      ) else (
                        F_M_turn_2 n r13.2 x1 (x2 + 1)
                      )
                    )
                  )
                )
              )
            )
          )
        )
      )
    )
def F_M_turn (σ : kS) (x1 : Int32) : Option (kS) :=
  bd (F_M_turn_2 1000 σ x1 0) (fun ex1 =>
    if ex1.1 = 0 then (
      some ex1.2.1
    ) else (
      if ex1.1 = 1 then (
        gd (inb x1 12) (
          lx (sI ex1.2.1 6 0 x1.toNatClampNeg 6) (fun σ3 =>
            some σ3
          )
        )
      ) else (
        some ex1.2.1
      )
    )
  )
def F_M_advance_2 : Nat → kS → Int64 → Int32 → Option (kS × Int32)
  | 0, _, _, _ => none
  | n + 1, σ, x1, x3 =>
    if 4 ≤ x3 then (
      some (σ, x3)
    ) else (
      gd (inb x3 4) (
        bd (F_M_seized σ x3) (fun r2 =>
          gd (inb x3 4) (
            lx (sL σ 17 0 x3.toNatClampNeg ((gL σ 17 0 x3.toNatClampNeg) + (r2.toInt64 * (x1 - (gL σ 0 0 0))))) (fun σ4 =>
              F_M_advance_2 n σ4 x1 (x3 + 1)
            )
          )
        )
      )
    )
def F_M_advance (σ : kS) (x1 : Int64) : Option (kS) :=
  bd (F_M_advance_2 1000 σ x1 0) (fun ex1 =>
    lx (sL ex1.1 0 0 0 x1) (fun σ2 =>
      some σ2
    )
  )
def F_M_event_13 : Nat → kS → Int32 → Int32 → Option (kS × Int32)
  | 0, _, _, _ => none
  | n + 1, σ, x1, x2 =>
    if x2 ≤ 0 then (
      some (σ, x2)
    ) else (
      gd (inb (x2 - 1) 64) (
        gd (inb x2 64) (
          lx (sI σ 22 0 x2.toNatClampNeg (gI σ 22 0 (x2 - 1).toNatClampNeg)) (fun σ3 =>
            F_M_event_13 n σ3 x1 (x2 + (-1))
          )
        )
      )
    )
def F_M_event (σ : kS) (x1 : Int32) : Option (kS) :=
  gd (inb x1 12) (
    bd (F_M_advance σ (gL σ 7 0 x1.toNatClampNeg)) (fun r2 =>
      bd (F_M_event_13 1000 r2 x1 63) (fun ex3 =>
        gd (inb x1 12) (
          gd (inb 0 64) (
            lx (sI ex3.1 22 0 (0 : Int32).toNatClampNeg (x1 + (16 * (gI ex3.1 5 0 x1.toNatClampNeg)))) (fun σ6 =>
              lx (sI σ6 33 0 0 ((gI σ6 33 0 0) + 1)) (fun σ7 =>
                gd (inb x1 12) (
                  lx (sI σ7 8 0 x1.toNatClampNeg (-1)) (fun σ9 =>
                    gd (inb x1 12) (
                      lx (sI σ9 6 0 x1.toNatClampNeg 1) (fun σ11 =>
                        bd (F_M_turn σ11 x1) (fun r12 =>
                          bd (F_M_goOver r12) (fun r13 =>
                            some r13
                          )
                        )
                      )
                    )
                  )
                )
              )
            )
          )
        )
      )
    )
  )
def F_M_run_38 : Nat → kS → Int32 → Int64 → Int32 → Int32 → Option (kS × Int32 × Int32)
  | 0, _, _, _, _, _ => none
  | n + 1, σ, x1, x2, x4, x5 =>
    if x1 ≤ x4 then (
      some (σ, x4, x5)
    ) else (
      if x5 < 0 then (
        some (σ, x4, x5)
      ) else (
        gd (inb x5 12) (
          if 0 < (lg_cmp (gL σ 7 0 x5.toNatClampNeg) x2) then (
            some (σ, x4, x5)
          ) else (
            bd (F_M_event σ x5) (fun r2 =>
              bd (F_M_first r2) (fun r3 =>
                F_M_run_38 n r2 x1 x2 (x4 + 1) r3
              )
            )
          )
        )
      )
    )
def F_M_run (σ : kS) (x1 : Int32) (x2 : Int64) : Option (Int32 × kS) :=
  if x1 < 0 then (
    some ((-1), σ)
  ) else (
    if 100 < x1 then (
      some ((-1), σ)
    ) else (
      if (lg_cmp x2 (gL σ 0 0 0)) < 0 then (
        some ((-1), σ)
      ) else (
        if (lg_cmp x2 1000000000000) ≤ 0 then (
          bd (F_M_first σ) (fun r1 =>
            bd (F_M_run_38 1000 σ x1 x2 0 r1) (fun ex2 =>
              if x1 ≤ ex2.2.1 then (
                some (ex2.2.1, ex2.1)
              ) else (
                bd (F_M_advance ex2.1 x2) (fun r3 =>
                  some (ex2.2.1, r3)
                )
              )
            )
          )
        ) else (
          some ((-1), σ)
        )
      )
    )
  )
def F_M_now (σ : kS) : Option (Int64) :=
  some (gL σ 0 0 0)
def F_M_next (σ : kS) : Option (Int64) :=
  bd (F_M_first σ) (fun r1 =>
    if 0 ≤ r1 then (
      gd (inb r1 12) (
        some (gL σ 7 0 r1.toNatClampNeg)
      )
    ) else (
      some (-1)
    )
  )
def F_M_state (σ : kS) (x1 : Int32) : Option (Int32) :=
  bd (F_M_none σ x1) (fun r1 =>
    if r1 = 0 then (
      gd (inb x1 12) (
        some (gI σ 6 0 x1.toNatClampNeg)
      )
    ) else (
      some (-1)
    )
  )
def F_M_place (σ : kS) (x1 : Int32) : Option (Int32) :=
  bd (F_M_none σ x1) (fun r1 =>
    if r1 = 0 then (
      gd (inb x1 12) (
        some (gI σ 5 0 x1.toNatClampNeg)
      )
    ) else (
      some (-1)
    )
  )
def F_M_held (σ : kS) (x1 : Int32) (x2 : Int32) : Option (Int32) :=
  bd (F_M_none σ x1) (fun r1 =>
    if r1 = 0 then (
      bd (F_M_within σ x2 0 3) (fun r2 =>
        if r2 = 0 then (
          some (-1)
        ) else (
          gd (inb ((4 * x1) + x2) 48) (
            some (gI σ 14 0 ((4 * x1) + x2).toNatClampNeg)
          )
        )
      )
    ) else (
      some (-1)
    )
  )
def F_M_free (σ : kS) (x1 : Int32) : Option (Int32) :=
  bd (F_M_within σ x1 0 3) (fun r1 =>
    if r1 = 0 then (
      some (-1)
    ) else (
      bd (F_M_rest σ x1) (fun r2 =>
        some r2
      )
    )
  )
def F_M_waiting_16 : Nat → kS → Int32 → Int32 → Int32 → Option (Int32 × Int32)
  | 0, _, _, _, _ => none
  | n + 1, σ, x1, x2, x3 =>
    if (gI σ 30 0 0) ≤ x3 then (
      some (x2, x3)
    ) else (
      if x1 = 4 then (
        gd (inb x3 12) (
          if (gI σ 6 0 x3.toNatClampNeg) = 5 then (
            lx (x2 + 1 : Int32) (fun v9 =>
              F_M_waiting_16 n σ x1 v9 (x3 + 1)
            )
          ) else (
            lx (x2 + 0 : Int32) (fun v8 =>
              F_M_waiting_16 n σ x1 v8 (x3 + 1)
            )
          )
        )
      ) else (
        gd (inb x3 12) (
          if (gI σ 6 0 x3.toNatClampNeg) = 4 then (
            bd (F_M_done σ x3) (fun r3 =>
              gd (inb r3 120) (
                if (gI σ 12 0 r3.toNatClampNeg) = x1 then (
                  lx (x2 + 1 : Int32) (fun v6 =>
                    F_M_waiting_16 n σ x1 v6 (x3 + 1)
                  )
                ) else (
                  lx (x2 + 0 : Int32) (fun v5 =>
                    F_M_waiting_16 n σ x1 v5 (x3 + 1)
                  )
                )
              )
            )
          ) else (
            lx (x2 + 0 : Int32) (fun v2 =>
              F_M_waiting_16 n σ x1 v2 (x3 + 1)
            )
          )
        )
      )
    )
def F_M_waiting (σ : kS) (x1 : Int32) : Option (Int32) :=
  bd (F_M_within σ x1 0 4) (fun r1 =>
    if r1 = 0 then (
      some (-1)
    ) else (
      bd (F_M_waiting_16 1000 σ x1 0 0) (fun ex2 =>
        some ex2.1
      )
    )
  )
def F_M_area (σ : kS) (x1 : Int32) : Option (Int64) :=
  bd (F_M_within σ x1 0 3) (fun r1 =>
    if r1 = 0 then (
      some (-1)
    ) else (
      gd (inb x1 4) (
        some (gL σ 17 0 x1.toNatClampNeg)
      )
    )
  )
def F_M_waited (σ : kS) (x1 : Int32) : Option (Int64) :=
  bd (F_M_within σ x1 0 3) (fun r1 =>
    if r1 = 0 then (
      some (-1)
    ) else (
      gd (inb x1 4) (
        some (gL σ 18 0 x1.toNatClampNeg)
      )
    )
  )
def F_M_level (σ : kS) (x1 : Int32) : Option (Int32) :=
  bd (F_M_within σ x1 0 3) (fun r1 =>
    if r1 = 0 then (
      some (-1)
    ) else (
      gd (inb x1 4) (
        some (gI σ 20 0 x1.toNatClampNeg)
      )
    )
  )
def F_M_stuck_4 : Nat → kS → Int32 → Int32 → Option (Int32 × Int32)
  | 0, _, _, _ => none
  | n + 1, σ, x1, x2 =>
    if (gI σ 30 0 0) ≤ x2 then (
      some (x1, x2)
    ) else (
      if x1 = 0 then (
        gd (inb x2 12) (
          if (gI σ 6 0 x2.toNatClampNeg) = 4 then (
            F_M_stuck_4 n σ 1 (x2 + 1)
          ) else (
            gd (inb x2 12) (
              if (gI σ 6 0 x2.toNatClampNeg) = 5 then (
                F_M_stuck_4 n σ 1 (x2 + 1)
              ) else (
                F_M_stuck_4 n σ 0 (x2 + 1)
              )
            )
          )
        )
      ) else (
        F_M_stuck_4 n σ 1 (x2 + 1)
      )
    )
def F_M_stuck (σ : kS) : Option (Int32) :=
  bd (F_M_stuck_4 1000 σ 0 0) (fun ex1 =>
    if ex1.1 = 0 then (
      some 0
    ) else (
      bd (F_M_first σ) (fun r2 =>
        if 0 ≤ r2 then (
          some 0
        ) else (
          some 1
        )
      )
    )
  )
def F_M_traced (σ : kS) (x1 : Int32) : Option (Int32) :=
  bd (F_M_within σ x1 0 63) (fun r1 =>
    if r1 = 0 then (
      some (-1)
    ) else (
      if (gI σ 33 0 0) ≤ x1 then (
        some (-1)
      ) else (
        gd (inb x1 64) (
          some (gI σ 22 0 x1.toNatClampNeg)
        )
      )
    )
  )
end
section
set_option maxHeartbeats 4000000 in
set_option maxRecDepth 100000 in
theorem c_K_isWithin (l : Launch) (D : va_G) (aa : Nat → Nat → Nat) (q : Nat → ClassId) (hJ : wJ kC aa) (σ : kS) (x0 : Int32) (x1 : Int32) (x2 : Int32) (res : Int32) (h : F_K_isWithin σ x0 x1 x2 = some res) : Met l by_K_isWithin (.code by_K_isWithin bc_K_isWithin 3 (some .boolean) :: lw_g) brm_K_isWithin (va_Pc [.int x0, .int x1, .int x2] (kPre D aa q σ)) (va_Qi (fun (r : Int32) (u : kS) => r = res ∧ u = σ) (kB D aa q) (wA kC aa)) 0 0 (wA kC aa) := by
  refine Met.ofW (cc := bc_K_isWithin) (maxL := 3) (ret := (some .boolean)) (by decide) rfl ?_
  intro p e s m args below meth c s₁ B hml hv
  obtain ⟨rfl, hP, hK⟩ := hv
  have hx := B.exec
  have hb := B.bytes
  have hr := B.returns
  have ht : ∀ w ∈ lw_g, w.before ([.int x0, .int x1, .int x2] : List Value).toArray s = true := fun w h => atoms_spec (ws := .code by_K_isWithin bc_K_isWithin 3 (some .boolean) :: lw_g) B.pre w (List.mem_cons_of_mem _ h)
  have hown : s.vm.findClass bR_K = some m.cls := findClass_of_methodNamed B.named
  have hlocks := B.notSynchronized
  have S : CallFix p m c bc_K_isWithin 3 s ([.int x0, .int x1, .int x2] : List Value).toArray lw_g bR_K := ⟨hx, hb, hml, hown, ht⟩
  have hS : va_S (wA kC aa) s.heap s.heap [] := va_S.rf
  have hl := lv_entry ([.int x0, .int x1, .int x2]) (n := 3) (Nat.le_of_ble_eq_true rfl)
  rw [lg_entry_eq]
  generalize (lg_sl ([.int x0, .int x1, .int x2]) ++ List.replicate (3 - (lg_sl ([.int x0, .int x1, .int x2])).length) Slot.unset).toArray = ls at hl ⊢
  have hl : lv_has ls 3 [(0, .int x0), (1, .int x1), (2, .int x2)] := hl
  unfold F_K_isWithin at h
  refine lv_iload_n hx hb de_K_isWithin_0 rfl (lv_at hl 0 rfl) ?_
  refine lv_iload_n hx hb de_K_isWithin_1 rfl (lv_at hl 1 rfl) ?_
  refine lv_icmp_lt (tgt := 14) hx hb de_K_isWithin_2 (by decide) (fun hc => ?_) (fun hc => ?_)
  · have h := ie_t h hc
    refine lv_iconst (v := 0) hx hb de_K_isWithin_14 (by decide) ?_
    have h := Option.some.inj h
    subst h
    exact W.zret (v := 0) hx hb hr rfl (fun t ht hW => ⟨⟨_, _, rfl, ⟨rfl, rfl⟩, by rw [ht]; exact hP, va_K.moved hW.alike hK⟩, hS.F ht⟩) hS.2.2 de_K_isWithin_15 hlocks
  · have h := ie_f h hc
    refine lv_iload_n hx hb de_K_isWithin_5 rfl (lv_at hl 0 rfl) ?_
    refine lv_iload_n hx hb de_K_isWithin_6 rfl (lv_at hl 2 rfl) ?_
    refine lv_icmp_gt (tgt := 14) hx hb de_K_isWithin_7 (by decide) (fun hc => ?_) (fun hc => ?_)
    · have h := ie_t h hc
      refine lv_iconst (v := 0) hx hb de_K_isWithin_14 (by decide) ?_
      have h := Option.some.inj h
      subst h
      exact W.zret (v := 0) hx hb hr rfl (fun t ht hW => ⟨⟨_, _, rfl, ⟨rfl, rfl⟩, by rw [ht]; exact hP, va_K.moved hW.alike hK⟩, hS.F ht⟩) hS.2.2 de_K_isWithin_15 hlocks
    · have h := ie_f h hc
      refine lv_iconst (v := 1) hx hb de_K_isWithin_10 (by decide) ?_
      refine lv_goto (tgt := 15) hx hb de_K_isWithin_11 (by decide) ?_
      have h := Option.some.inj h
      subst h
      exact W.zret (v := 1) hx hb hr rfl (fun t ht hW => ⟨⟨_, _, rfl, ⟨rfl, rfl⟩, by rw [ht]; exact hP, va_K.moved hW.alike hK⟩, hS.F ht⟩) hS.2.2 de_K_isWithin_15 hlocks
set_option maxHeartbeats 4000000 in
set_option maxRecDepth 100000 in
theorem c_K_process (l : Launch) (D : va_G) (aa : Nat → Nat → Nat) (q : Nat → ClassId) (hJ : wJ kC aa) (σ : kS) (x1 : Int32) (x2 : Int32) (x3 : Int32) (res : Int32 × kS) (h : F_K_process σ x1 x2 x3 = some res) : Met l by_K_process (.code by_K_process bc_K_process 5 (some .int) :: lw_g) brm_K_process (va_Pc [.ref (aa 0 0), .int x1, .int x2, .int x3] (kPre D aa q σ)) (va_Qi (fun (r : Int32) (u : kS) => r = res.1 ∧ u = res.2) (kB D aa q) (wA kC aa)) 0 0 (wA kC aa) := by
  refine Met.ofW (cc := bc_K_process) (maxL := 5) (ret := (some .int)) (by decide) rfl ?_
  intro p e s m args below meth c s₁ B hml hv
  obtain ⟨rfl, hP, hK⟩ := hv
  have hx := B.exec
  have hb := B.bytes
  have hr := B.returns
  have ht : ∀ w ∈ lw_g, w.before ([.ref (aa 0 0), .int x1, .int x2, .int x3] : List Value).toArray s = true := fun w h => atoms_spec (ws := .code by_K_process bc_K_process 5 (some .int) :: lw_g) B.pre w (List.mem_cons_of_mem _ h)
  have hown : s.vm.findClass bR_K = some m.cls := findClass_of_methodNamed B.named
  have hlocks := B.notSynchronized
  have S : CallFix p m c bc_K_process 5 s ([.ref (aa 0 0), .int x1, .int x2, .int x3] : List Value).toArray lw_g bR_K := ⟨hx, hb, hml, hown, ht⟩
  have hS : va_S (wA kC aa) s.heap s.heap [] := va_S.rf
  have hl := lv_entry ([.ref (aa 0 0), .int x1, .int x2, .int x3]) (n := 5) (Nat.le_of_ble_eq_true rfl)
  rw [lg_entry_eq]
  generalize (lg_sl ([.ref (aa 0 0), .int x1, .int x2, .int x3]) ++ List.replicate (5 - (lg_sl ([.ref (aa 0 0), .int x1, .int x2, .int x3])).length) Slot.unset).toArray = ls at hl ⊢
  have hl : lv_has ls 5 [(0, .ref (aa 0 0)), (1, .int x1), (2, .int x2), (3, .int x3)] := hl
  unfold F_K_process at h
  refine lv_aload_n hx hb de_K_process_0 rfl (lv_at hl 0 rfl) ?_
  refine kg_0 (v := .int (gI σ 0 0 0)) hx hb ht hown hK hP (by decide) 6 (by decide) tw_1_177 rfl de_K_process_1 ?_
  refine lv_bipush (v := 12) hx hb de_K_process_4 (by decide) ?_
  refine lv_icmp_ge (tgt := 39) hx hb de_K_process_6 (by decide) (fun hc => ?_) (fun hc => ?_)
  · have h := ie_t h hc
    refine lv_iconst (v := (-1)) hx hb de_K_process_39 (by decide) ?_
    have h := Option.some.inj h
    subst h
    exact W.iret (v := (-1)) hx hb hr (fun t ht hW => ⟨⟨_, _, rfl, ⟨rfl, rfl⟩, by rw [ht]; exact hP, va_K.moved hW.alike hK⟩, hS.F ht⟩) hS.2.2 de_K_process_40 hlocks
  · have h := ie_f h hc
    refine lv_iload_n hx hb de_K_process_9 rfl (lv_at hl 1 rfl) ?_
    refine lv_bipush (v := (-4)) hx hb de_K_process_10 (by decide) ?_
    refine lv_iconst (v := 4) hx hb de_K_process_12 (by decide) ?_
    obtain ⟨r1, hr1, h⟩ := bd_some h
    refine kq_i (va_runS (As := [.int x1, .int (-4), .int 4]) (rest := []) S (c_K_isWithin l D aa q hJ σ x1 (-4) 4 r1 hr1) (cwS 3 ht (gs_in tw_1_203 tw_1_204 tw_1_1 tc_K_isWithin) rfl rfl rfl bh_K_isWithin ⟨Nat.le_of_ble_eq_true rfl, Nat.le_of_ble_eq_true rfl⟩) (kpreS hK hP) rfl rfl hl.1 rfl (lv_room (Nat.le_of_ble_eq_true rfl)) de_K_process_13 ⟨Nat.zero_le _, Nat.zero_le _⟩) hS (fun H locs hP hS => ?_)
    refine lv_if_eq (tgt := 39) hx hb de_K_process_16 (by decide) (fun hc => ?_) (fun hc => ?_)
    · have h := ie_t h hc
      refine lv_iconst (v := (-1)) hx hb de_K_process_39 (by decide) ?_
      have h := Option.some.inj h
      subst h
      exact W.iret (v := (-1)) hx hb hr (fun t ht hW => ⟨⟨_, _, rfl, ⟨rfl, rfl⟩, by rw [ht]; exact hP, va_K.moved hW.alike hK⟩, hS.F ht⟩) hS.2.2 de_K_process_40 hlocks
    · have h := ie_f h hc
      refine lv_iload_n hx hb de_K_process_19 rfl (lv_at hl 2 rfl) ?_
      refine lv_iconst (v := 1) hx hb de_K_process_20 (by decide) ?_
      refine lv_bipush (v := 9) hx hb de_K_process_21 (by decide) ?_
      obtain ⟨r2, hr2, h⟩ := bd_some h
      refine kq_i (va_runS (As := [.int x2, .int 1, .int 9]) (rest := []) S (c_K_isWithin l D aa q hJ σ x2 1 9 r2 hr2) (cwS 3 ht (gs_in tw_1_203 tw_1_204 tw_1_1 tc_K_isWithin) rfl rfl rfl bh_K_isWithin ⟨Nat.le_of_ble_eq_true rfl, Nat.le_of_ble_eq_true rfl⟩) (kpreS hK hP) rfl rfl hl.1 rfl (lv_room (Nat.le_of_ble_eq_true rfl)) de_K_process_23 ⟨Nat.zero_le _, Nat.zero_le _⟩) hS (fun H locs hP hS => ?_)
      refine lv_if_eq (tgt := 39) hx hb de_K_process_26 (by decide) (fun hc => ?_) (fun hc => ?_)
      · have h := ie_t h hc
        refine lv_iconst (v := (-1)) hx hb de_K_process_39 (by decide) ?_
        have h := Option.some.inj h
        subst h
        exact W.iret (v := (-1)) hx hb hr (fun t ht hW => ⟨⟨_, _, rfl, ⟨rfl, rfl⟩, by rw [ht]; exact hP, va_K.moved hW.alike hK⟩, hS.F ht⟩) hS.2.2 de_K_process_40 hlocks
      · have h := ie_f h hc
        refine lv_iload_n hx hb de_K_process_29 rfl (lv_at hl 3 rfl) ?_
        refine lv_iconst (v := 0) hx hb de_K_process_30 (by decide) ?_
        refine lv_bipush (v := 10) hx hb de_K_process_31 (by decide) ?_
        obtain ⟨r3, hr3, h⟩ := bd_some h
        refine kq_i (va_runS (As := [.int x3, .int 0, .int 10]) (rest := []) S (c_K_isWithin l D aa q hJ σ x3 0 10 r3 hr3) (cwS 3 ht (gs_in tw_1_203 tw_1_204 tw_1_1 tc_K_isWithin) rfl rfl rfl bh_K_isWithin ⟨Nat.le_of_ble_eq_true rfl, Nat.le_of_ble_eq_true rfl⟩) (kpreS hK hP) rfl rfl hl.1 rfl (lv_room (Nat.le_of_ble_eq_true rfl)) de_K_process_33 ⟨Nat.zero_le _, Nat.zero_le _⟩) hS (fun H locs hP hS => ?_)
        refine lv_if_ne (tgt := 41) hx hb de_K_process_36 (by decide) (fun hc => ?_) (fun hc => ?_)
        · have h := ie_f h hc
          refine lv_aload_n hx hb de_K_process_41 rfl (lv_at hl 0 rfl) ?_
          refine kg_0 (v := .ref (aa 1 0)) hx hb ht hown hK hP (by decide) 0 (by decide) tw_1_171 rfl de_K_process_42 ?_
          refine lv_aload_n hx hb de_K_process_45 rfl (lv_at hl 0 rfl) ?_
          refine kg_0 (v := .int (gI σ 0 0 0)) hx hb ht hown hK hP (by decide) 6 (by decide) tw_1_177 rfl de_K_process_46 ?_
          obtain ⟨hi4, h⟩ := gd_some h
          refine kl_1 hx hb hK hP (by decide) (inb_in hi4) de_K_process_49 (fun j5 ej5 => ?_)
          have h := lx_at h j5 ej5
          have hj5 : j5 < 12 := by rw [ej5]; exact inb_lt hi4
          refine lv_astore (lv' := [(4, .ref (aa 9 j5)), (0, .ref (aa 0 0)), (1, .int x1), (2, .int x2), (3, .int x3)]) hx hb de_K_process_50 hl (by decide) rfl (fun ls hl => ?_)
          refine lv_aload hx hb de_K_process_52 (lv_at hl 0 rfl) ?_
          refine lv_iload_n hx hb de_K_process_54 rfl (lv_at hl 2 rfl) ?_
          refine kp_9_priority hx hb ht hown hK hP hJ hS hj5 tw_1_73 de_K_process_55 (fun H locs hP hS => ?_)
          obtain ⟨σ6, eσ6, h⟩ := lx_ex h
          rw [← eσ6] at hP
          refine lv_aload hx hb de_K_process_58 (lv_at hl 0 rfl) ?_
          refine lv_iload_n hx hb de_K_process_60 rfl (lv_at hl 3 rfl) ?_
          refine kp_9_roundsLeft hx hb ht hown hK hP hJ hS hj5 tw_1_75 de_K_process_61 (fun H locs hP hS => ?_)
          obtain ⟨σ7, eσ7, h⟩ := lx_ex h
          rw [← eσ7] at hP
          refine lv_aload hx hb de_K_process_64 (lv_at hl 0 rfl) ?_
          refine lv_iload_n hx hb de_K_process_66 rfl (lv_at hl 4 rfl) ?_
          refine kp_9_handler hx hb ht hown hK hP hJ hS hj5 tw_1_77 de_K_process_67 (fun H locs hP hS => ?_)
          obtain ⟨σ8, eσ8, h⟩ := lx_ex h
          rw [← eσ8] at hP
          refine lv_aload_n hx hb de_K_process_70 rfl (lv_at hl 1 rfl) ?_
          refine lv_dup hx hb de_K_process_71 rfl ?_
          refine kg_0 (v := .int (gI σ8 0 0 0)) hx hb ht hown hK hP (by decide) 6 (by decide) tw_1_177 rfl de_K_process_72 ?_
          refine lv_iconst (v := 1) hx hb de_K_process_75 (by decide) ?_
          refine lv_iadd hx hb de_K_process_76 ?_
          refine kp_0_made hx hb ht hown hK hP hJ hS (by decide) tw_1_177 de_K_process_77 (fun H locs hP hS => ?_)
          obtain ⟨σ9, eσ9, h⟩ := lx_ex h
          rw [← eσ9] at hP
          refine lv_aload hx hb de_K_process_80 (lv_at hl 0 rfl) ?_
          refine kg_9 (v := .int (gI σ9 2 j5 0)) hx hb ht hown hK hP hj5 0 (by decide) tw_1_61 rfl de_K_process_82 ?_
          have h := Option.some.inj h
          subst h
          exact W.iret (v := gI σ9 2 j5 0) hx hb hr (fun t ht hW => ⟨⟨_, _, rfl, ⟨rfl, rfl⟩, by rw [ht]; exact hP, va_K.moved hW.alike hK⟩, hS.F ht⟩) hS.2.2 de_K_process_85 hlocks
        · have h := ie_t h hc
          refine lv_iconst (v := (-1)) hx hb de_K_process_39 (by decide) ?_
          have h := Option.some.inj h
          subst h
          exact W.iret (v := (-1)) hx hb hr (fun t ht hW => ⟨⟨_, _, rfl, ⟨rfl, rfl⟩, by rw [ht]; exact hP, va_K.moved hW.alike hK⟩, hS.F ht⟩) hS.2.2 de_K_process_40 hlocks
set_option maxHeartbeats 4000000 in
set_option maxRecDepth 100000 in
theorem c_K_isProcess (l : Launch) (D : va_G) (aa : Nat → Nat → Nat) (q : Nat → ClassId) (hJ : wJ kC aa) (σ : kS) (x1 : Int32) (res : Int32) (h : F_K_isProcess σ x1 = some res) : Met l by_K_isProcess (.code by_K_isProcess bc_K_isProcess 2 (some .boolean) :: lw_g) brm_K_isProcess (va_Pc [.ref (aa 0 0), .int x1] (kPre D aa q σ)) (va_Qi (fun (r : Int32) (u : kS) => r = res ∧ u = σ) (kB D aa q) (wA kC aa)) 0 0 (wA kC aa) := by
  refine Met.ofW (cc := bc_K_isProcess) (maxL := 2) (ret := (some .boolean)) (by decide) rfl ?_
  intro p e s m args below meth c s₁ B hml hv
  obtain ⟨rfl, hP, hK⟩ := hv
  have hx := B.exec
  have hb := B.bytes
  have hr := B.returns
  have ht : ∀ w ∈ lw_g, w.before ([.ref (aa 0 0), .int x1] : List Value).toArray s = true := fun w h => atoms_spec (ws := .code by_K_isProcess bc_K_isProcess 2 (some .boolean) :: lw_g) B.pre w (List.mem_cons_of_mem _ h)
  have hown : s.vm.findClass bR_K = some m.cls := findClass_of_methodNamed B.named
  have hlocks := B.notSynchronized
  have S : CallFix p m c bc_K_isProcess 2 s ([.ref (aa 0 0), .int x1] : List Value).toArray lw_g bR_K := ⟨hx, hb, hml, hown, ht⟩
  have hS : va_S (wA kC aa) s.heap s.heap [] := va_S.rf
  have hl := lv_entry ([.ref (aa 0 0), .int x1]) (n := 2) (Nat.le_of_ble_eq_true rfl)
  rw [lg_entry_eq]
  generalize (lg_sl ([.ref (aa 0 0), .int x1]) ++ List.replicate (2 - (lg_sl ([.ref (aa 0 0), .int x1])).length) Slot.unset).toArray = ls at hl ⊢
  have hl : lv_has ls 2 [(0, .ref (aa 0 0)), (1, .int x1)] := hl
  unfold F_K_isProcess at h
  refine lv_iload_n hx hb de_K_isProcess_0 rfl (lv_at hl 1 rfl) ?_
  refine lv_if_lt (tgt := 16) hx hb de_K_isProcess_1 (by decide) (fun hc => ?_) (fun hc => ?_)
  · have h := ie_t h hc
    refine lv_iconst (v := 0) hx hb de_K_isProcess_16 (by decide) ?_
    have h := Option.some.inj h
    subst h
    exact W.zret (v := 0) hx hb hr rfl (fun t ht hW => ⟨⟨_, _, rfl, ⟨rfl, rfl⟩, by rw [ht]; exact hP, va_K.moved hW.alike hK⟩, hS.F ht⟩) hS.2.2 de_K_isProcess_17 hlocks
  · have h := ie_f h hc
    refine lv_iload_n hx hb de_K_isProcess_4 rfl (lv_at hl 1 rfl) ?_
    refine lv_aload_n hx hb de_K_isProcess_5 rfl (lv_at hl 0 rfl) ?_
    refine kg_0 (v := .int (gI σ 0 0 0)) hx hb ht hown hK hP (by decide) 6 (by decide) tw_1_177 rfl de_K_isProcess_6 ?_
    refine lv_icmp_ge (tgt := 16) hx hb de_K_isProcess_9 (by decide) (fun hc => ?_) (fun hc => ?_)
    · have h := ie_t h hc
      refine lv_iconst (v := 0) hx hb de_K_isProcess_16 (by decide) ?_
      have h := Option.some.inj h
      subst h
      exact W.zret (v := 0) hx hb hr rfl (fun t ht hW => ⟨⟨_, _, rfl, ⟨rfl, rfl⟩, by rw [ht]; exact hP, va_K.moved hW.alike hK⟩, hS.F ht⟩) hS.2.2 de_K_isProcess_17 hlocks
    · have h := ie_f h hc
      refine lv_iconst (v := 1) hx hb de_K_isProcess_12 (by decide) ?_
      refine lv_goto (tgt := 17) hx hb de_K_isProcess_13 (by decide) ?_
      have h := Option.some.inj h
      subst h
      exact W.zret (v := 1) hx hb hr rfl (fun t ht hW => ⟨⟨_, _, rfl, ⟨rfl, rfl⟩, by rw [ht]; exact hP, va_K.moved hW.alike hK⟩, hS.F ht⟩) hS.2.2 de_K_isProcess_17 hlocks
set_option maxHeartbeats 4000000 in
set_option maxRecDepth 100000 in
theorem c_K_isResource (l : Launch) (D : va_G) (aa : Nat → Nat → Nat) (q : Nat → ClassId) (hJ : wJ kC aa) (σ : kS) (x0 : Int32) (res : Int32) (h : F_K_isResource σ x0 = some res) : Met l by_K_isResource (.code by_K_isResource bc_K_isResource 1 (some .boolean) :: lw_g) brm_K_isResource (va_Pc [.int x0] (kPre D aa q σ)) (va_Qi (fun (r : Int32) (u : kS) => r = res ∧ u = σ) (kB D aa q) (wA kC aa)) 0 0 (wA kC aa) := by
  refine Met.ofW (cc := bc_K_isResource) (maxL := 1) (ret := (some .boolean)) (by decide) rfl ?_
  intro p e s m args below meth c s₁ B hml hv
  obtain ⟨rfl, hP, hK⟩ := hv
  have hx := B.exec
  have hb := B.bytes
  have hr := B.returns
  have ht : ∀ w ∈ lw_g, w.before ([.int x0] : List Value).toArray s = true := fun w h => atoms_spec (ws := .code by_K_isResource bc_K_isResource 1 (some .boolean) :: lw_g) B.pre w (List.mem_cons_of_mem _ h)
  have hown : s.vm.findClass bR_K = some m.cls := findClass_of_methodNamed B.named
  have hlocks := B.notSynchronized
  have S : CallFix p m c bc_K_isResource 1 s ([.int x0] : List Value).toArray lw_g bR_K := ⟨hx, hb, hml, hown, ht⟩
  have hS : va_S (wA kC aa) s.heap s.heap [] := va_S.rf
  have hl := lv_entry ([.int x0]) (n := 1) (Nat.le_of_ble_eq_true rfl)
  rw [lg_entry_eq]
  generalize (lg_sl ([.int x0]) ++ List.replicate (1 - (lg_sl ([.int x0])).length) Slot.unset).toArray = ls at hl ⊢
  have hl : lv_has ls 1 [(0, .int x0)] := hl
  unfold F_K_isResource at h
  refine lv_iload_n hx hb de_K_isResource_0 rfl (lv_at hl 0 rfl) ?_
  refine lv_iconst (v := 0) hx hb de_K_isResource_1 (by decide) ?_
  refine lv_iconst (v := 3) hx hb de_K_isResource_2 (by decide) ?_
  obtain ⟨r1, hr1, h⟩ := bd_some h
  refine kq_i (va_runS (As := [.int x0, .int 0, .int 3]) (rest := []) S (c_K_isWithin l D aa q hJ σ x0 0 3 r1 hr1) (cwS 3 ht (gs_in tw_1_203 tw_1_204 tw_1_1 tc_K_isWithin) rfl rfl rfl bh_K_isWithin ⟨Nat.le_of_ble_eq_true rfl, Nat.le_of_ble_eq_true rfl⟩) (kpreS hK hP) rfl rfl hl.1 rfl (lv_room (Nat.le_of_ble_eq_true rfl)) de_K_isResource_3 ⟨Nat.zero_le _, Nat.zero_le _⟩) hS (fun H locs hP hS => ?_)
  obtain ⟨hi2, h⟩ := gd_some h
  have h := Option.some.inj h
  subst h
  exact W.zret (v := r1) hx hb hr (bz_nar hi2) (fun t ht hW => ⟨⟨_, _, rfl, ⟨rfl, rfl⟩, by rw [ht]; exact hP, va_K.moved hW.alike hK⟩, hS.F ht⟩) hS.2.2 de_K_isResource_6 hlocks
set_option maxHeartbeats 4000000 in
set_option maxRecDepth 100000 in
theorem c_K_isTank (l : Launch) (D : va_G) (aa : Nat → Nat → Nat) (q : Nat → ClassId) (hJ : wJ kC aa) (σ : kS) (x0 : Int32) (res : Int32) (h : F_K_isTank σ x0 = some res) : Met l by_K_isTank (.code by_K_isTank bc_K_isTank 1 (some .boolean) :: lw_g) brm_K_isTank (va_Pc [.int x0] (kPre D aa q σ)) (va_Qi (fun (r : Int32) (u : kS) => r = res ∧ u = σ) (kB D aa q) (wA kC aa)) 0 0 (wA kC aa) := by
  refine Met.ofW (cc := bc_K_isTank) (maxL := 1) (ret := (some .boolean)) (by decide) rfl ?_
  intro p e s m args below meth c s₁ B hml hv
  obtain ⟨rfl, hP, hK⟩ := hv
  have hx := B.exec
  have hb := B.bytes
  have hr := B.returns
  have ht : ∀ w ∈ lw_g, w.before ([.int x0] : List Value).toArray s = true := fun w h => atoms_spec (ws := .code by_K_isTank bc_K_isTank 1 (some .boolean) :: lw_g) B.pre w (List.mem_cons_of_mem _ h)
  have hown : s.vm.findClass bR_K = some m.cls := findClass_of_methodNamed B.named
  have hlocks := B.notSynchronized
  have S : CallFix p m c bc_K_isTank 1 s ([.int x0] : List Value).toArray lw_g bR_K := ⟨hx, hb, hml, hown, ht⟩
  have hS : va_S (wA kC aa) s.heap s.heap [] := va_S.rf
  have hl := lv_entry ([.int x0]) (n := 1) (Nat.le_of_ble_eq_true rfl)
  rw [lg_entry_eq]
  generalize (lg_sl ([.int x0]) ++ List.replicate (1 - (lg_sl ([.int x0])).length) Slot.unset).toArray = ls at hl ⊢
  have hl : lv_has ls 1 [(0, .int x0)] := hl
  unfold F_K_isTank at h
  refine lv_iload_n hx hb de_K_isTank_0 rfl (lv_at hl 0 rfl) ?_
  refine lv_iconst (v := 0) hx hb de_K_isTank_1 (by decide) ?_
  refine lv_iconst (v := 3) hx hb de_K_isTank_2 (by decide) ?_
  obtain ⟨r1, hr1, h⟩ := bd_some h
  refine kq_i (va_runS (As := [.int x0, .int 0, .int 3]) (rest := []) S (c_K_isWithin l D aa q hJ σ x0 0 3 r1 hr1) (cwS 3 ht (gs_in tw_1_203 tw_1_204 tw_1_1 tc_K_isWithin) rfl rfl rfl bh_K_isWithin ⟨Nat.le_of_ble_eq_true rfl, Nat.le_of_ble_eq_true rfl⟩) (kpreS hK hP) rfl rfl hl.1 rfl (lv_room (Nat.le_of_ble_eq_true rfl)) de_K_isTank_3 ⟨Nat.zero_le _, Nat.zero_le _⟩) hS (fun H locs hP hS => ?_)
  obtain ⟨hi2, h⟩ := gd_some h
  have h := Option.some.inj h
  subst h
  exact W.zret (v := r1) hx hb hr (bz_nar hi2) (fun t ht hW => ⟨⟨_, _, rfl, ⟨rfl, rfl⟩, by rw [ht]; exact hP, va_K.moved hW.alike hK⟩, hS.F ht⟩) hS.2.2 de_K_isTank_6 hlocks
set_option maxHeartbeats 4000000 in
set_option maxRecDepth 100000 in
theorem c_K_isInstruction (l : Launch) (D : va_G) (aa : Nat → Nat → Nat) (q : Nat → ClassId) (hJ : wJ kC aa) (σ : kS) (x0 : Int32) (x1 : Int32) (x2 : Int32) (res : Int32) (h : F_K_isInstruction σ x0 x1 x2 = some res) : Met l by_K_isInstruction (.code by_K_isInstruction bc_K_isInstruction 3 (some .boolean) :: lw_g) brm_K_isInstruction (va_Pc [.int x0, .int x1, .int x2] (kPre D aa q σ)) (va_Qi (fun (r : Int32) (u : kS) => r = res ∧ u = σ) (kB D aa q) (wA kC aa)) 0 0 (wA kC aa) := by
  refine Met.ofW (cc := bc_K_isInstruction) (maxL := 3) (ret := (some .boolean)) (by decide) rfl ?_
  intro p e s m args below meth c s₁ B hml hv
  obtain ⟨rfl, hP, hK⟩ := hv
  have hx := B.exec
  have hb := B.bytes
  have hr := B.returns
  have ht : ∀ w ∈ lw_g, w.before ([.int x0, .int x1, .int x2] : List Value).toArray s = true := fun w h => atoms_spec (ws := .code by_K_isInstruction bc_K_isInstruction 3 (some .boolean) :: lw_g) B.pre w (List.mem_cons_of_mem _ h)
  have hown : s.vm.findClass bR_K = some m.cls := findClass_of_methodNamed B.named
  have hlocks := B.notSynchronized
  have S : CallFix p m c bc_K_isInstruction 3 s ([.int x0, .int x1, .int x2] : List Value).toArray lw_g bR_K := ⟨hx, hb, hml, hown, ht⟩
  have hS : va_S (wA kC aa) s.heap s.heap [] := va_S.rf
  have hl := lv_entry ([.int x0, .int x1, .int x2]) (n := 3) (Nat.le_of_ble_eq_true rfl)
  rw [lg_entry_eq]
  generalize (lg_sl ([.int x0, .int x1, .int x2]) ++ List.replicate (3 - (lg_sl ([.int x0, .int x1, .int x2])).length) Slot.unset).toArray = ls at hl ⊢
  have hl : lv_has ls 3 [(0, .int x0), (1, .int x1), (2, .int x2)] := hl
  unfold F_K_isInstruction at h
  refine lv_iload_n hx hb de_K_isInstruction_0 rfl (lv_at hl 0 rfl) ?_
  by_cases hk1_0 : x0 = 0
  · have h := ie_t h hk1_0
    refine lv_tableIn (off := 55) (tgt := 56) hx hb de_K_isInstruction_1 (by rw [hk1_0]; decide) (by rw [hk1_0]; decide) (by rw [hk1_0]; rfl) (by decide) ?_
    refine lv_iload_n hx hb de_K_isInstruction_56 rfl (lv_at hl 1 rfl) ?_
    refine lv_iconst (v := 0) hx hb de_K_isInstruction_57 (by decide) ?_
    refine lv_ldc (v := 1000000) hx hb hown (ht _ tw_1_217) de_K_isInstruction_58 ?_
    obtain ⟨r1, hr1, h⟩ := bd_some h
    refine kq_i (va_runS (As := [.int x1, .int 0, .int 1000000]) (rest := []) S (c_K_isWithin l D aa q hJ σ x1 0 1000000 r1 hr1) (cwS 3 ht (gs_in tw_1_203 tw_1_204 tw_1_1 tc_K_isWithin) rfl rfl rfl bh_K_isWithin ⟨Nat.le_of_ble_eq_true rfl, Nat.le_of_ble_eq_true rfl⟩) (kpreS hK hP) rfl rfl hl.1 rfl (lv_room (Nat.le_of_ble_eq_true rfl)) de_K_isInstruction_60 ⟨Nat.zero_le _, Nat.zero_le _⟩) hS (fun H locs hP hS => ?_)
    obtain ⟨hi2, h⟩ := gd_some h
    have h := Option.some.inj h
    subst h
    exact W.zret (v := r1) hx hb hr (bz_nar hi2) (fun t ht hW => ⟨⟨_, _, rfl, ⟨rfl, rfl⟩, by rw [ht]; exact hP, va_K.moved hW.alike hK⟩, hS.F ht⟩) hS.2.2 de_K_isInstruction_63 hlocks
  have h := ie_f h hk1_0
  by_cases hk1_1 : x0 = 1
  · have h := ie_t h hk1_1
    refine lv_tableIn (off := 63) (tgt := 64) hx hb de_K_isInstruction_1 (by rw [hk1_1]; decide) (by rw [hk1_1]; decide) (by rw [hk1_1]; rfl) (by decide) ?_
    refine lv_iconst (v := 1) hx hb de_K_isInstruction_64 (by decide) ?_
    have h := Option.some.inj h
    subst h
    exact W.zret (v := 1) hx hb hr rfl (fun t ht hW => ⟨⟨_, _, rfl, ⟨rfl, rfl⟩, by rw [ht]; exact hP, va_K.moved hW.alike hK⟩, hS.F ht⟩) hS.2.2 de_K_isInstruction_65 hlocks
  have h := ie_f h hk1_1
  by_cases hk1_2 : x0 = 2
  · have h := ie_t h hk1_2
    refine lv_tableIn (off := 65) (tgt := 66) hx hb de_K_isInstruction_1 (by rw [hk1_2]; decide) (by rw [hk1_2]; decide) (by rw [hk1_2]; rfl) (by decide) ?_
    refine lv_iload_n hx hb de_K_isInstruction_66 rfl (lv_at hl 1 rfl) ?_
    obtain ⟨r3, hr3, h⟩ := bd_some h
    refine kq_i (va_runS (As := [.int x1]) (rest := []) S (c_K_isResource l D aa q hJ σ x1 r3 hr3) (cwS 1 ht (gs_in tw_1_218 tw_1_219 tw_1_1 tc_K_isResource) rfl rfl rfl bh_K_isResource ⟨Nat.le_of_ble_eq_true rfl, Nat.le_of_ble_eq_true rfl⟩) (kpreS hK hP) rfl rfl hl.1 rfl (lv_room (Nat.le_of_ble_eq_true rfl)) de_K_isInstruction_67 ⟨Nat.zero_le _, Nat.zero_le _⟩) hS (fun H locs hP hS => ?_)
    refine lv_if_eq (tgt := 87) hx hb de_K_isInstruction_70 (by decide) (fun hc => ?_) (fun hc => ?_)
    · have h := ie_t h hc
      refine lv_iconst (v := 0) hx hb de_K_isInstruction_87 (by decide) ?_
      have h := Option.some.inj h
      subst h
      exact W.zret (v := 0) hx hb hr rfl (fun t ht hW => ⟨⟨_, _, rfl, ⟨rfl, rfl⟩, by rw [ht]; exact hP, va_K.moved hW.alike hK⟩, hS.F ht⟩) hS.2.2 de_K_isInstruction_88 hlocks
    · have h := ie_f h hc
      refine lv_iload_n hx hb de_K_isInstruction_73 rfl (lv_at hl 2 rfl) ?_
      refine lv_iconst (v := 1) hx hb de_K_isInstruction_74 (by decide) ?_
      refine lv_bipush (v := 9) hx hb de_K_isInstruction_75 (by decide) ?_
      obtain ⟨r4, hr4, h⟩ := bd_some h
      refine kq_i (va_runS (As := [.int x2, .int 1, .int 9]) (rest := []) S (c_K_isWithin l D aa q hJ σ x2 1 9 r4 hr4) (cwS 3 ht (gs_in tw_1_203 tw_1_204 tw_1_1 tc_K_isWithin) rfl rfl rfl bh_K_isWithin ⟨Nat.le_of_ble_eq_true rfl, Nat.le_of_ble_eq_true rfl⟩) (kpreS hK hP) rfl rfl hl.1 rfl (lv_room (Nat.le_of_ble_eq_true rfl)) de_K_isInstruction_77 ⟨Nat.zero_le _, Nat.zero_le _⟩) hS (fun H locs hP hS => ?_)
      refine lv_if_eq (tgt := 87) hx hb de_K_isInstruction_80 (by decide) (fun hc => ?_) (fun hc => ?_)
      · have h := ie_t h hc
        refine lv_iconst (v := 0) hx hb de_K_isInstruction_87 (by decide) ?_
        have h := Option.some.inj h
        subst h
        exact W.zret (v := 0) hx hb hr rfl (fun t ht hW => ⟨⟨_, _, rfl, ⟨rfl, rfl⟩, by rw [ht]; exact hP, va_K.moved hW.alike hK⟩, hS.F ht⟩) hS.2.2 de_K_isInstruction_88 hlocks
      · have h := ie_f h hc
        refine lv_iconst (v := 1) hx hb de_K_isInstruction_83 (by decide) ?_
        refine lv_goto (tgt := 88) hx hb de_K_isInstruction_84 (by decide) ?_
        have h := Option.some.inj h
        subst h
        exact W.zret (v := 1) hx hb hr rfl (fun t ht hW => ⟨⟨_, _, rfl, ⟨rfl, rfl⟩, by rw [ht]; exact hP, va_K.moved hW.alike hK⟩, hS.F ht⟩) hS.2.2 de_K_isInstruction_88 hlocks
  have h := ie_f h hk1_2
  by_cases hk1_3 : x0 = 3
  · have h := ie_t h hk1_3
    refine lv_tableIn (off := 65) (tgt := 66) hx hb de_K_isInstruction_1 (by rw [hk1_3]; decide) (by rw [hk1_3]; decide) (by rw [hk1_3]; rfl) (by decide) ?_
    refine lv_iload_n hx hb de_K_isInstruction_66 rfl (lv_at hl 1 rfl) ?_
    obtain ⟨r5, hr5, h⟩ := bd_some h
    refine kq_i (va_runS (As := [.int x1]) (rest := []) S (c_K_isResource l D aa q hJ σ x1 r5 hr5) (cwS 1 ht (gs_in tw_1_218 tw_1_219 tw_1_1 tc_K_isResource) rfl rfl rfl bh_K_isResource ⟨Nat.le_of_ble_eq_true rfl, Nat.le_of_ble_eq_true rfl⟩) (kpreS hK hP) rfl rfl hl.1 rfl (lv_room (Nat.le_of_ble_eq_true rfl)) de_K_isInstruction_67 ⟨Nat.zero_le _, Nat.zero_le _⟩) hS (fun H locs hP hS => ?_)
    refine lv_if_eq (tgt := 87) hx hb de_K_isInstruction_70 (by decide) (fun hc => ?_) (fun hc => ?_)
    · have h := ie_t h hc
      refine lv_iconst (v := 0) hx hb de_K_isInstruction_87 (by decide) ?_
      have h := Option.some.inj h
      subst h
      exact W.zret (v := 0) hx hb hr rfl (fun t ht hW => ⟨⟨_, _, rfl, ⟨rfl, rfl⟩, by rw [ht]; exact hP, va_K.moved hW.alike hK⟩, hS.F ht⟩) hS.2.2 de_K_isInstruction_88 hlocks
    · have h := ie_f h hc
      refine lv_iload_n hx hb de_K_isInstruction_73 rfl (lv_at hl 2 rfl) ?_
      refine lv_iconst (v := 1) hx hb de_K_isInstruction_74 (by decide) ?_
      refine lv_bipush (v := 9) hx hb de_K_isInstruction_75 (by decide) ?_
      obtain ⟨r6, hr6, h⟩ := bd_some h
      refine kq_i (va_runS (As := [.int x2, .int 1, .int 9]) (rest := []) S (c_K_isWithin l D aa q hJ σ x2 1 9 r6 hr6) (cwS 3 ht (gs_in tw_1_203 tw_1_204 tw_1_1 tc_K_isWithin) rfl rfl rfl bh_K_isWithin ⟨Nat.le_of_ble_eq_true rfl, Nat.le_of_ble_eq_true rfl⟩) (kpreS hK hP) rfl rfl hl.1 rfl (lv_room (Nat.le_of_ble_eq_true rfl)) de_K_isInstruction_77 ⟨Nat.zero_le _, Nat.zero_le _⟩) hS (fun H locs hP hS => ?_)
      refine lv_if_eq (tgt := 87) hx hb de_K_isInstruction_80 (by decide) (fun hc => ?_) (fun hc => ?_)
      · have h := ie_t h hc
        refine lv_iconst (v := 0) hx hb de_K_isInstruction_87 (by decide) ?_
        have h := Option.some.inj h
        subst h
        exact W.zret (v := 0) hx hb hr rfl (fun t ht hW => ⟨⟨_, _, rfl, ⟨rfl, rfl⟩, by rw [ht]; exact hP, va_K.moved hW.alike hK⟩, hS.F ht⟩) hS.2.2 de_K_isInstruction_88 hlocks
      · have h := ie_f h hc
        refine lv_iconst (v := 1) hx hb de_K_isInstruction_83 (by decide) ?_
        refine lv_goto (tgt := 88) hx hb de_K_isInstruction_84 (by decide) ?_
        have h := Option.some.inj h
        subst h
        exact W.zret (v := 1) hx hb hr rfl (fun t ht hW => ⟨⟨_, _, rfl, ⟨rfl, rfl⟩, by rw [ht]; exact hP, va_K.moved hW.alike hK⟩, hS.F ht⟩) hS.2.2 de_K_isInstruction_88 hlocks
  have h := ie_f h hk1_3
  by_cases hk1_4 : x0 = 4
  · have h := ie_t h hk1_4
    refine lv_tableIn (off := 88) (tgt := 89) hx hb de_K_isInstruction_1 (by rw [hk1_4]; decide) (by rw [hk1_4]; decide) (by rw [hk1_4]; rfl) (by decide) ?_
    refine lv_iload_n hx hb de_K_isInstruction_89 rfl (lv_at hl 1 rfl) ?_
    obtain ⟨r7, hr7, h⟩ := bd_some h
    refine kq_i (va_runS (As := [.int x1]) (rest := []) S (c_K_isTank l D aa q hJ σ x1 r7 hr7) (cwS 1 ht (gs_in tw_1_221 tw_1_222 tw_1_1 tc_K_isTank) rfl rfl rfl bh_K_isTank ⟨Nat.le_of_ble_eq_true rfl, Nat.le_of_ble_eq_true rfl⟩) (kpreS hK hP) rfl rfl hl.1 rfl (lv_room (Nat.le_of_ble_eq_true rfl)) de_K_isInstruction_90 ⟨Nat.zero_le _, Nat.zero_le _⟩) hS (fun H locs hP hS => ?_)
    refine lv_if_eq (tgt := 111) hx hb de_K_isInstruction_93 (by decide) (fun hc => ?_) (fun hc => ?_)
    · have h := ie_t h hc
      refine lv_iconst (v := 0) hx hb de_K_isInstruction_111 (by decide) ?_
      have h := Option.some.inj h
      subst h
      exact W.zret (v := 0) hx hb hr rfl (fun t ht hW => ⟨⟨_, _, rfl, ⟨rfl, rfl⟩, by rw [ht]; exact hP, va_K.moved hW.alike hK⟩, hS.F ht⟩) hS.2.2 de_K_isInstruction_112 hlocks
    · have h := ie_f h hc
      refine lv_iload_n hx hb de_K_isInstruction_96 rfl (lv_at hl 2 rfl) ?_
      refine lv_iconst (v := 1) hx hb de_K_isInstruction_97 (by decide) ?_
      refine lv_sipush (v := 1000) hx hb de_K_isInstruction_98 (by decide) ?_
      obtain ⟨r8, hr8, h⟩ := bd_some h
      refine kq_i (va_runS (As := [.int x2, .int 1, .int 1000]) (rest := []) S (c_K_isWithin l D aa q hJ σ x2 1 1000 r8 hr8) (cwS 3 ht (gs_in tw_1_203 tw_1_204 tw_1_1 tc_K_isWithin) rfl rfl rfl bh_K_isWithin ⟨Nat.le_of_ble_eq_true rfl, Nat.le_of_ble_eq_true rfl⟩) (kpreS hK hP) rfl rfl hl.1 rfl (lv_room (Nat.le_of_ble_eq_true rfl)) de_K_isInstruction_101 ⟨Nat.zero_le _, Nat.zero_le _⟩) hS (fun H locs hP hS => ?_)
      refine lv_if_eq (tgt := 111) hx hb de_K_isInstruction_104 (by decide) (fun hc => ?_) (fun hc => ?_)
      · have h := ie_t h hc
        refine lv_iconst (v := 0) hx hb de_K_isInstruction_111 (by decide) ?_
        have h := Option.some.inj h
        subst h
        exact W.zret (v := 0) hx hb hr rfl (fun t ht hW => ⟨⟨_, _, rfl, ⟨rfl, rfl⟩, by rw [ht]; exact hP, va_K.moved hW.alike hK⟩, hS.F ht⟩) hS.2.2 de_K_isInstruction_112 hlocks
      · have h := ie_f h hc
        refine lv_iconst (v := 1) hx hb de_K_isInstruction_107 (by decide) ?_
        refine lv_goto (tgt := 112) hx hb de_K_isInstruction_108 (by decide) ?_
        have h := Option.some.inj h
        subst h
        exact W.zret (v := 1) hx hb hr rfl (fun t ht hW => ⟨⟨_, _, rfl, ⟨rfl, rfl⟩, by rw [ht]; exact hP, va_K.moved hW.alike hK⟩, hS.F ht⟩) hS.2.2 de_K_isInstruction_112 hlocks
  have h := ie_f h hk1_4
  by_cases hk1_5 : x0 = 5
  · have h := ie_t h hk1_5
    refine lv_tableIn (off := 88) (tgt := 89) hx hb de_K_isInstruction_1 (by rw [hk1_5]; decide) (by rw [hk1_5]; decide) (by rw [hk1_5]; rfl) (by decide) ?_
    refine lv_iload_n hx hb de_K_isInstruction_89 rfl (lv_at hl 1 rfl) ?_
    obtain ⟨r9, hr9, h⟩ := bd_some h
    refine kq_i (va_runS (As := [.int x1]) (rest := []) S (c_K_isTank l D aa q hJ σ x1 r9 hr9) (cwS 1 ht (gs_in tw_1_221 tw_1_222 tw_1_1 tc_K_isTank) rfl rfl rfl bh_K_isTank ⟨Nat.le_of_ble_eq_true rfl, Nat.le_of_ble_eq_true rfl⟩) (kpreS hK hP) rfl rfl hl.1 rfl (lv_room (Nat.le_of_ble_eq_true rfl)) de_K_isInstruction_90 ⟨Nat.zero_le _, Nat.zero_le _⟩) hS (fun H locs hP hS => ?_)
    refine lv_if_eq (tgt := 111) hx hb de_K_isInstruction_93 (by decide) (fun hc => ?_) (fun hc => ?_)
    · have h := ie_t h hc
      refine lv_iconst (v := 0) hx hb de_K_isInstruction_111 (by decide) ?_
      have h := Option.some.inj h
      subst h
      exact W.zret (v := 0) hx hb hr rfl (fun t ht hW => ⟨⟨_, _, rfl, ⟨rfl, rfl⟩, by rw [ht]; exact hP, va_K.moved hW.alike hK⟩, hS.F ht⟩) hS.2.2 de_K_isInstruction_112 hlocks
    · have h := ie_f h hc
      refine lv_iload_n hx hb de_K_isInstruction_96 rfl (lv_at hl 2 rfl) ?_
      refine lv_iconst (v := 1) hx hb de_K_isInstruction_97 (by decide) ?_
      refine lv_sipush (v := 1000) hx hb de_K_isInstruction_98 (by decide) ?_
      obtain ⟨r10, hr10, h⟩ := bd_some h
      refine kq_i (va_runS (As := [.int x2, .int 1, .int 1000]) (rest := []) S (c_K_isWithin l D aa q hJ σ x2 1 1000 r10 hr10) (cwS 3 ht (gs_in tw_1_203 tw_1_204 tw_1_1 tc_K_isWithin) rfl rfl rfl bh_K_isWithin ⟨Nat.le_of_ble_eq_true rfl, Nat.le_of_ble_eq_true rfl⟩) (kpreS hK hP) rfl rfl hl.1 rfl (lv_room (Nat.le_of_ble_eq_true rfl)) de_K_isInstruction_101 ⟨Nat.zero_le _, Nat.zero_le _⟩) hS (fun H locs hP hS => ?_)
      refine lv_if_eq (tgt := 111) hx hb de_K_isInstruction_104 (by decide) (fun hc => ?_) (fun hc => ?_)
      · have h := ie_t h hc
        refine lv_iconst (v := 0) hx hb de_K_isInstruction_111 (by decide) ?_
        have h := Option.some.inj h
        subst h
        exact W.zret (v := 0) hx hb hr rfl (fun t ht hW => ⟨⟨_, _, rfl, ⟨rfl, rfl⟩, by rw [ht]; exact hP, va_K.moved hW.alike hK⟩, hS.F ht⟩) hS.2.2 de_K_isInstruction_112 hlocks
      · have h := ie_f h hc
        refine lv_iconst (v := 1) hx hb de_K_isInstruction_107 (by decide) ?_
        refine lv_goto (tgt := 112) hx hb de_K_isInstruction_108 (by decide) ?_
        have h := Option.some.inj h
        subst h
        exact W.zret (v := 1) hx hb hr rfl (fun t ht hW => ⟨⟨_, _, rfl, ⟨rfl, rfl⟩, by rw [ht]; exact hP, va_K.moved hW.alike hK⟩, hS.F ht⟩) hS.2.2 de_K_isInstruction_112 hlocks
  have h := ie_f h hk1_5
  by_cases hk1_6 : x0 = 6
  · have h := ie_t h hk1_6
    refine lv_tableIn (off := 112) (tgt := 113) hx hb de_K_isInstruction_1 (by rw [hk1_6]; decide) (by rw [hk1_6]; decide) (by rw [hk1_6]; rfl) (by decide) ?_
    refine lv_iload_n hx hb de_K_isInstruction_113 rfl (lv_at hl 1 rfl) ?_
    refine lv_iconst (v := 0) hx hb de_K_isInstruction_114 (by decide) ?_
    refine lv_bipush (v := 11) hx hb de_K_isInstruction_115 (by decide) ?_
    obtain ⟨r11, hr11, h⟩ := bd_some h
    refine kq_i (va_runS (As := [.int x1, .int 0, .int 11]) (rest := []) S (c_K_isWithin l D aa q hJ σ x1 0 11 r11 hr11) (cwS 3 ht (gs_in tw_1_203 tw_1_204 tw_1_1 tc_K_isWithin) rfl rfl rfl bh_K_isWithin ⟨Nat.le_of_ble_eq_true rfl, Nat.le_of_ble_eq_true rfl⟩) (kpreS hK hP) rfl rfl hl.1 rfl (lv_room (Nat.le_of_ble_eq_true rfl)) de_K_isInstruction_117 ⟨Nat.zero_le _, Nat.zero_le _⟩) hS (fun H locs hP hS => ?_)
    obtain ⟨hi12, h⟩ := gd_some h
    have h := Option.some.inj h
    subst h
    exact W.zret (v := r11) hx hb hr (bz_nar hi12) (fun t ht hW => ⟨⟨_, _, rfl, ⟨rfl, rfl⟩, by rw [ht]; exact hP, va_K.moved hW.alike hK⟩, hS.F ht⟩) hS.2.2 de_K_isInstruction_120 hlocks
  have h := ie_f h hk1_6
  by_cases hk1_7 : x0 = 7
  · have h := ie_t h hk1_7
    refine lv_tableIn (off := 112) (tgt := 113) hx hb de_K_isInstruction_1 (by rw [hk1_7]; decide) (by rw [hk1_7]; decide) (by rw [hk1_7]; rfl) (by decide) ?_
    refine lv_iload_n hx hb de_K_isInstruction_113 rfl (lv_at hl 1 rfl) ?_
    refine lv_iconst (v := 0) hx hb de_K_isInstruction_114 (by decide) ?_
    refine lv_bipush (v := 11) hx hb de_K_isInstruction_115 (by decide) ?_
    obtain ⟨r13, hr13, h⟩ := bd_some h
    refine kq_i (va_runS (As := [.int x1, .int 0, .int 11]) (rest := []) S (c_K_isWithin l D aa q hJ σ x1 0 11 r13 hr13) (cwS 3 ht (gs_in tw_1_203 tw_1_204 tw_1_1 tc_K_isWithin) rfl rfl rfl bh_K_isWithin ⟨Nat.le_of_ble_eq_true rfl, Nat.le_of_ble_eq_true rfl⟩) (kpreS hK hP) rfl rfl hl.1 rfl (lv_room (Nat.le_of_ble_eq_true rfl)) de_K_isInstruction_117 ⟨Nat.zero_le _, Nat.zero_le _⟩) hS (fun H locs hP hS => ?_)
    obtain ⟨hi14, h⟩ := gd_some h
    have h := Option.some.inj h
    subst h
    exact W.zret (v := r13) hx hb hr (bz_nar hi14) (fun t ht hW => ⟨⟨_, _, rfl, ⟨rfl, rfl⟩, by rw [ht]; exact hP, va_K.moved hW.alike hK⟩, hS.F ht⟩) hS.2.2 de_K_isInstruction_120 hlocks
  have h := ie_f h hk1_7
  by_cases hk1_8 : x0 = 8
  · have h := ie_t h hk1_8
    refine lv_tableIn (off := 112) (tgt := 113) hx hb de_K_isInstruction_1 (by rw [hk1_8]; decide) (by rw [hk1_8]; decide) (by rw [hk1_8]; rfl) (by decide) ?_
    refine lv_iload_n hx hb de_K_isInstruction_113 rfl (lv_at hl 1 rfl) ?_
    refine lv_iconst (v := 0) hx hb de_K_isInstruction_114 (by decide) ?_
    refine lv_bipush (v := 11) hx hb de_K_isInstruction_115 (by decide) ?_
    obtain ⟨r15, hr15, h⟩ := bd_some h
    refine kq_i (va_runS (As := [.int x1, .int 0, .int 11]) (rest := []) S (c_K_isWithin l D aa q hJ σ x1 0 11 r15 hr15) (cwS 3 ht (gs_in tw_1_203 tw_1_204 tw_1_1 tc_K_isWithin) rfl rfl rfl bh_K_isWithin ⟨Nat.le_of_ble_eq_true rfl, Nat.le_of_ble_eq_true rfl⟩) (kpreS hK hP) rfl rfl hl.1 rfl (lv_room (Nat.le_of_ble_eq_true rfl)) de_K_isInstruction_117 ⟨Nat.zero_le _, Nat.zero_le _⟩) hS (fun H locs hP hS => ?_)
    obtain ⟨hi16, h⟩ := gd_some h
    have h := Option.some.inj h
    subst h
    exact W.zret (v := r15) hx hb hr (bz_nar hi16) (fun t ht hW => ⟨⟨_, _, rfl, ⟨rfl, rfl⟩, by rw [ht]; exact hP, va_K.moved hW.alike hK⟩, hS.F ht⟩) hS.2.2 de_K_isInstruction_120 hlocks
  have h := ie_f h hk1_8
  by_cases hk1_9 : x0 = 9
  · have h := ie_t h hk1_9
    refine lv_tableIn (off := 112) (tgt := 113) hx hb de_K_isInstruction_1 (by rw [hk1_9]; decide) (by rw [hk1_9]; decide) (by rw [hk1_9]; rfl) (by decide) ?_
    refine lv_iload_n hx hb de_K_isInstruction_113 rfl (lv_at hl 1 rfl) ?_
    refine lv_iconst (v := 0) hx hb de_K_isInstruction_114 (by decide) ?_
    refine lv_bipush (v := 11) hx hb de_K_isInstruction_115 (by decide) ?_
    obtain ⟨r17, hr17, h⟩ := bd_some h
    refine kq_i (va_runS (As := [.int x1, .int 0, .int 11]) (rest := []) S (c_K_isWithin l D aa q hJ σ x1 0 11 r17 hr17) (cwS 3 ht (gs_in tw_1_203 tw_1_204 tw_1_1 tc_K_isWithin) rfl rfl rfl bh_K_isWithin ⟨Nat.le_of_ble_eq_true rfl, Nat.le_of_ble_eq_true rfl⟩) (kpreS hK hP) rfl rfl hl.1 rfl (lv_room (Nat.le_of_ble_eq_true rfl)) de_K_isInstruction_117 ⟨Nat.zero_le _, Nat.zero_le _⟩) hS (fun H locs hP hS => ?_)
    obtain ⟨hi18, h⟩ := gd_some h
    have h := Option.some.inj h
    subst h
    exact W.zret (v := r17) hx hb hr (bz_nar hi18) (fun t ht hW => ⟨⟨_, _, rfl, ⟨rfl, rfl⟩, by rw [ht]; exact hP, va_K.moved hW.alike hK⟩, hS.F ht⟩) hS.2.2 de_K_isInstruction_120 hlocks
  have h := ie_f h hk1_9
  refine lv_tableOut (tgt := 121) hx hb de_K_isInstruction_1 (by have a0 := lv_neT (a := 0) hk1_0 (by decide); have a1 := lv_neT (a := 1) hk1_1 (by decide); have a2 := lv_neT (a := 2) hk1_2 (by decide); have a3 := lv_neT (a := 3) hk1_3 (by decide); have a4 := lv_neT (a := 4) hk1_4 (by decide); have a5 := lv_neT (a := 5) hk1_5 (by decide); have a6 := lv_neT (a := 6) hk1_6 (by decide); have a7 := lv_neT (a := 7) hk1_7 (by decide); have a8 := lv_neT (a := 8) hk1_8 (by decide); have a9 := lv_neT (a := 9) hk1_9 (by decide); omega) (by decide) ?_
  refine lv_iconst (v := 0) hx hb de_K_isInstruction_121 (by decide) ?_
  have h := Option.some.inj h
  subst h
  exact W.zret (v := 0) hx hb hr rfl (fun t ht hW => ⟨⟨_, _, rfl, ⟨rfl, rfl⟩, by rw [ht]; exact hP, va_K.moved hW.alike hK⟩, hS.F ht⟩) hS.2.2 de_K_isInstruction_122 hlocks
set_option maxHeartbeats 4000000 in
set_option maxRecDepth 100000 in
theorem c_P_append (l : Launch) (D : va_G) (aa : Nat → Nat → Nat) (q : Nat → ClassId) (hJ : wJ kC aa) (σ : kS) (g0 : Nat) (hg0 : g0 < 12) (x1 : Int32) (x2 : Int32) (x3 : Int32) (res : kS) (h : F_P_append σ g0 x1 x2 x3 = some res) : Met l by_P_append (.code by_P_append bc_P_append 4 none :: lw_g) brm_P_append (va_Pc [.ref (aa 9 g0), .int x1, .int x2, .int x3] (kPre D aa q σ)) (va_Qv (fun u : kS => u = res) (kB D aa q) (wA kC aa)) 0 0 (wA kC aa) := by
  refine Met.ofW (cc := bc_P_append) (maxL := 4) (ret := none) (by decide) rfl ?_
  intro p e s m args below meth c s₁ B hml hv
  obtain ⟨rfl, hP, hK⟩ := hv
  have hx := B.exec
  have hb := B.bytes
  have hr := B.returns
  have ht : ∀ w ∈ lw_g, w.before ([.ref (aa 9 g0), .int x1, .int x2, .int x3] : List Value).toArray s = true := fun w h => atoms_spec (ws := .code by_P_append bc_P_append 4 none :: lw_g) B.pre w (List.mem_cons_of_mem _ h)
  have hown : s.vm.findClass bR_P = some m.cls := findClass_of_methodNamed B.named
  have hlocks := B.notSynchronized
  have S : CallFix p m c bc_P_append 4 s ([.ref (aa 9 g0), .int x1, .int x2, .int x3] : List Value).toArray lw_g bR_P := ⟨hx, hb, hml, hown, ht⟩
  have hS : va_S (wA kC aa) s.heap s.heap [] := va_S.rf
  have hl := lv_entry ([.ref (aa 9 g0), .int x1, .int x2, .int x3]) (n := 4) (Nat.le_of_ble_eq_true rfl)
  rw [lg_entry_eq]
  generalize (lg_sl ([.ref (aa 9 g0), .int x1, .int x2, .int x3]) ++ List.replicate (4 - (lg_sl ([.ref (aa 9 g0), .int x1, .int x2, .int x3])).length) Slot.unset).toArray = ls at hl ⊢
  have hl : lv_has ls 4 [(0, .ref (aa 9 g0)), (1, .int x1), (2, .int x2), (3, .int x3)] := hl
  unfold F_P_append at h
  refine lv_aload_n hx hb de_P_append_0 rfl (lv_at hl 0 rfl) ?_
  refine kg_9 (v := .ref (aa 10 g0)) hx hb ht hown hK hP hg0 1 (by decide) tw_1_62 rfl de_P_append_1 ?_
  refine lv_aload_n hx hb de_P_append_4 rfl (lv_at hl 0 rfl) ?_
  refine kg_9 (v := .int (gI σ 3 g0 0)) hx hb ht hown hK hP hg0 5 (by decide) tw_1_70 rfl de_P_append_5 ?_
  refine lv_iload_n hx hb de_P_append_8 rfl (lv_at hl 1 rfl) ?_
  obtain ⟨hi1, h⟩ := gd_some h
  refine kt_10 hx hb hK hP hJ hS hg0 (inb_in hi1) de_P_append_9 (fun H locs hP hS => ?_)
  obtain ⟨σ2, eσ2, h⟩ := lx_ex h
  rw [← eσ2] at hP
  refine lv_aload_n hx hb de_P_append_10 rfl (lv_at hl 0 rfl) ?_
  refine kg_9 (v := .ref (aa 11 g0)) hx hb ht hown hK hP hg0 2 (by decide) tw_1_64 rfl de_P_append_11 ?_
  refine lv_aload_n hx hb de_P_append_14 rfl (lv_at hl 0 rfl) ?_
  refine kg_9 (v := .int (gI σ2 3 g0 0)) hx hb ht hown hK hP hg0 5 (by decide) tw_1_70 rfl de_P_append_15 ?_
  refine lv_iload_n hx hb de_P_append_18 rfl (lv_at hl 2 rfl) ?_
  obtain ⟨hi3, h⟩ := gd_some h
  refine kt_11 hx hb hK hP hJ hS hg0 (inb_in hi3) de_P_append_19 (fun H locs hP hS => ?_)
  obtain ⟨σ4, eσ4, h⟩ := lx_ex h
  rw [← eσ4] at hP
  refine lv_aload_n hx hb de_P_append_20 rfl (lv_at hl 0 rfl) ?_
  refine kg_9 (v := .ref (aa 12 g0)) hx hb ht hown hK hP hg0 3 (by decide) tw_1_66 rfl de_P_append_21 ?_
  refine lv_aload_n hx hb de_P_append_24 rfl (lv_at hl 0 rfl) ?_
  refine kg_9 (v := .int (gI σ4 3 g0 0)) hx hb ht hown hK hP hg0 5 (by decide) tw_1_70 rfl de_P_append_25 ?_
  refine lv_iload_n hx hb de_P_append_28 rfl (lv_at hl 3 rfl) ?_
  obtain ⟨hi5, h⟩ := gd_some h
  refine kt_12 hx hb hK hP hJ hS hg0 (inb_in hi5) de_P_append_29 (fun H locs hP hS => ?_)
  obtain ⟨σ6, eσ6, h⟩ := lx_ex h
  rw [← eσ6] at hP
  refine lv_aload_n hx hb de_P_append_30 rfl (lv_at hl 0 rfl) ?_
  refine lv_dup hx hb de_P_append_31 rfl ?_
  refine kg_9 (v := .int (gI σ6 3 g0 0)) hx hb ht hown hK hP hg0 5 (by decide) tw_1_70 rfl de_P_append_32 ?_
  refine lv_iconst (v := 1) hx hb de_P_append_35 (by decide) ?_
  refine lv_iadd hx hb de_P_append_36 ?_
  refine kp_9_length hx hb ht hown hK hP hJ hS hg0 tw_1_70 de_P_append_37 (fun H locs hP hS => ?_)
  obtain ⟨σ7, eσ7, h⟩ := lx_ex h
  rw [← eσ7] at hP
  have h := Option.some.inj h
  subst h
  exact W.vret hx hb hr (fun t ht hW => ⟨⟨_, rfl, rfl, by rw [ht]; exact hP, va_K.moved hW.alike hK⟩, hS.F ht⟩) hS.2.2 de_P_append_40 hlocks
set_option maxHeartbeats 4000000 in
set_option maxRecDepth 100000 in
theorem c_K_instruct (l : Launch) (D : va_G) (aa : Nat → Nat → Nat) (q : Nat → ClassId) (hJ : wJ kC aa) (σ : kS) (x1 : Int32) (x2 : Int32) (x3 : Int32) (x4 : Int32) (res : Int32 × kS) (h : F_K_instruct σ x1 x2 x3 x4 = some res) : Met l by_K_instruct (.code by_K_instruct bc_K_instruct 6 (some .boolean) :: lw_g) brm_K_instruct (va_Pc [.ref (aa 0 0), .int x1, .int x2, .int x3, .int x4] (kPre D aa q σ)) (va_Qi (fun (r : Int32) (u : kS) => r = res.1 ∧ u = res.2) (kB D aa q) (wA kC aa)) 0 0 (wA kC aa) := by
  refine Met.ofW (cc := bc_K_instruct) (maxL := 6) (ret := (some .boolean)) (by decide) rfl ?_
  intro p e s m args below meth c s₁ B hml hv
  obtain ⟨rfl, hP, hK⟩ := hv
  have hx := B.exec
  have hb := B.bytes
  have hr := B.returns
  have ht : ∀ w ∈ lw_g, w.before ([.ref (aa 0 0), .int x1, .int x2, .int x3, .int x4] : List Value).toArray s = true := fun w h => atoms_spec (ws := .code by_K_instruct bc_K_instruct 6 (some .boolean) :: lw_g) B.pre w (List.mem_cons_of_mem _ h)
  have hown : s.vm.findClass bR_K = some m.cls := findClass_of_methodNamed B.named
  have hlocks := B.notSynchronized
  have S : CallFix p m c bc_K_instruct 6 s ([.ref (aa 0 0), .int x1, .int x2, .int x3, .int x4] : List Value).toArray lw_g bR_K := ⟨hx, hb, hml, hown, ht⟩
  have hS : va_S (wA kC aa) s.heap s.heap [] := va_S.rf
  have hl := lv_entry ([.ref (aa 0 0), .int x1, .int x2, .int x3, .int x4]) (n := 6) (Nat.le_of_ble_eq_true rfl)
  rw [lg_entry_eq]
  generalize (lg_sl ([.ref (aa 0 0), .int x1, .int x2, .int x3, .int x4]) ++ List.replicate (6 - (lg_sl ([.ref (aa 0 0), .int x1, .int x2, .int x3, .int x4])).length) Slot.unset).toArray = ls at hl ⊢
  have hl : lv_has ls 6 [(0, .ref (aa 0 0)), (1, .int x1), (2, .int x2), (3, .int x3), (4, .int x4)] := hl
  unfold F_K_instruct at h
  refine lv_aload_n hx hb de_K_instruct_0 rfl (lv_at hl 0 rfl) ?_
  refine lv_iload_n hx hb de_K_instruct_1 rfl (lv_at hl 1 rfl) ?_
  obtain ⟨r1, hr1, h⟩ := bd_some h
  refine kq_i (va_runV (As := [.int x1]) (rest := []) S (c_K_isProcess l D aa q hJ σ x1 r1 hr1) (cwV 1 ht (gv_in tw_1_210 tw_1_212 ts_K_isProcess tw_1_1 tc_K_isProcess) rfl rfl rfl bh_K_isProcess ⟨Nat.le_of_ble_eq_true rfl, Nat.le_of_ble_eq_true rfl⟩) (kpreV hK hP (kr_0 hK hP (by decide))) rfl rfl hl.1 rfl (lv_room (Nat.le_of_ble_eq_true rfl)) de_K_instruct_2 ⟨Nat.zero_le _, Nat.zero_le _⟩) hS (fun H locs hP hS => ?_)
  refine lv_if_eq (tgt := 18) hx hb de_K_instruct_5 (by decide) (fun hc => ?_) (fun hc => ?_)
  · have h := ie_t h hc
    refine lv_iconst (v := 0) hx hb de_K_instruct_18 (by decide) ?_
    have h := Option.some.inj h
    subst h
    exact W.zret (v := 0) hx hb hr rfl (fun t ht hW => ⟨⟨_, _, rfl, ⟨rfl, rfl⟩, by rw [ht]; exact hP, va_K.moved hW.alike hK⟩, hS.F ht⟩) hS.2.2 de_K_instruct_19 hlocks
  · have h := ie_f h hc
    refine lv_iload_n hx hb de_K_instruct_8 rfl (lv_at hl 2 rfl) ?_
    refine lv_iload_n hx hb de_K_instruct_9 rfl (lv_at hl 3 rfl) ?_
    refine lv_iload hx hb de_K_instruct_10 (lv_at hl 4 rfl) ?_
    obtain ⟨r2, hr2, h⟩ := bd_some h
    refine kq_i (va_runS (As := [.int x2, .int x3, .int x4]) (rest := []) S (c_K_isInstruction l D aa q hJ σ x2 x3 x4 r2 hr2) (cwS 3 ht (gs_in tw_1_214 tw_1_215 tw_1_1 tc_K_isInstruction) rfl rfl rfl bh_K_isInstruction ⟨Nat.le_of_ble_eq_true rfl, Nat.le_of_ble_eq_true rfl⟩) (kpreS hK hP) rfl rfl hl.1 rfl (lv_room (Nat.le_of_ble_eq_true rfl)) de_K_instruct_12 ⟨Nat.zero_le _, Nat.zero_le _⟩) hS (fun H locs hP hS => ?_)
    refine lv_if_ne (tgt := 20) hx hb de_K_instruct_15 (by decide) (fun hc => ?_) (fun hc => ?_)
    · have h := ie_f h hc
      refine lv_aload_n hx hb de_K_instruct_20 rfl (lv_at hl 0 rfl) ?_
      refine kg_0 (v := .ref (aa 1 0)) hx hb ht hown hK hP (by decide) 0 (by decide) tw_1_171 rfl de_K_instruct_21 ?_
      refine lv_iload_n hx hb de_K_instruct_24 rfl (lv_at hl 1 rfl) ?_
      obtain ⟨hi3, h⟩ := gd_some h
      refine kl_1 hx hb hK hP (by decide) (inb_in hi3) de_K_instruct_25 (fun j4 ej4 => ?_)
      have h := lx_at h j4 ej4
      have hj4 : j4 < 12 := by rw [ej4]; exact inb_lt hi3
      refine lv_astore (lv' := [(5, .ref (aa 9 j4)), (0, .ref (aa 0 0)), (1, .int x1), (2, .int x2), (3, .int x3), (4, .int x4)]) hx hb de_K_instruct_26 hl (by decide) rfl (fun ls hl => ?_)
      refine lv_aload hx hb de_K_instruct_28 (lv_at hl 0 rfl) ?_
      refine kg_9 (v := .int (gI σ 7 j4 0)) hx hb ht hown hK hP hj4 9 (by decide) tw_1_79 rfl de_K_instruct_30 ?_
      refine lv_if_ne (tgt := 46) hx hb de_K_instruct_33 (by decide) (fun hc => ?_) (fun hc => ?_)
      · have h := ie_f h hc
        refine lv_iconst (v := 0) hx hb de_K_instruct_46 (by decide) ?_
        have h := Option.some.inj h
        subst h
        exact W.zret (v := 0) hx hb hr rfl (fun t ht hW => ⟨⟨_, _, rfl, ⟨rfl, rfl⟩, by rw [ht]; exact hP, va_K.moved hW.alike hK⟩, hS.F ht⟩) hS.2.2 de_K_instruct_47 hlocks
      · have h := ie_t h hc
        refine lv_aload hx hb de_K_instruct_36 (lv_at hl 0 rfl) ?_
        refine kg_9 (v := .int (gI σ 3 j4 0)) hx hb ht hown hK hP hj4 5 (by decide) tw_1_71 rfl de_K_instruct_38 ?_
        refine lv_bipush (v := 10) hx hb de_K_instruct_41 (by decide) ?_
        refine lv_icmp_lt (tgt := 48) hx hb de_K_instruct_43 (by decide) (fun hc => ?_) (fun hc => ?_)
        · have h := ie_t h hc
          refine lv_aload hx hb de_K_instruct_48 (lv_at hl 0 rfl) ?_
          refine lv_iload_n hx hb de_K_instruct_50 rfl (lv_at hl 3 rfl) ?_
          refine lv_iload_n hx hb de_K_instruct_51 rfl (lv_at hl 4 rfl) ?_
          refine lv_iload hx hb de_K_instruct_52 (lv_at hl 5 rfl) ?_
          obtain ⟨r5, hr5, h⟩ := bd_some h
          refine kq_v (va_runV (As := [.int x2, .int x3, .int x4]) (rest := []) S (c_P_append l D aa q hJ σ j4 hj4 x2 x3 x4 r5 hr5) (cwV 3 ht (gv_in tw_1_224 tw_1_225 tw_1_226 tw_1_4 tc_P_append) rfl rfl rfl bh_P_append ⟨Nat.le_of_ble_eq_true rfl, Nat.le_of_ble_eq_true rfl⟩) (kpreV hK hP (kr_9 hK hP hj4)) rfl rfl hl.1 rfl (lv_room (Nat.le_of_ble_eq_true rfl)) de_K_instruct_54 ⟨Nat.zero_le _, Nat.zero_le _⟩) hS (fun H locs hP hS => ?_)
          refine lv_iconst (v := 1) hx hb de_K_instruct_57 (by decide) ?_
          have h := Option.some.inj h
          subst h
          exact W.zret (v := 1) hx hb hr rfl (fun t ht hW => ⟨⟨_, _, rfl, ⟨rfl, rfl⟩, by rw [ht]; exact hP, va_K.moved hW.alike hK⟩, hS.F ht⟩) hS.2.2 de_K_instruct_58 hlocks
        · have h := ie_f h hc
          refine lv_iconst (v := 0) hx hb de_K_instruct_46 (by decide) ?_
          have h := Option.some.inj h
          subst h
          exact W.zret (v := 0) hx hb hr rfl (fun t ht hW => ⟨⟨_, _, rfl, ⟨rfl, rfl⟩, by rw [ht]; exact hP, va_K.moved hW.alike hK⟩, hS.F ht⟩) hS.2.2 de_K_instruct_47 hlocks
    · have h := ie_t h hc
      refine lv_iconst (v := 0) hx hb de_K_instruct_18 (by decide) ?_
      have h := Option.some.inj h
      subst h
      exact W.zret (v := 0) hx hb hr rfl (fun t ht hW => ⟨⟨_, _, rfl, ⟨rfl, rfl⟩, by rw [ht]; exact hP, va_K.moved hW.alike hK⟩, hS.F ht⟩) hS.2.2 de_K_instruct_19 hlocks
set_option maxHeartbeats 4000000 in
set_option maxRecDepth 100000 in
theorem c_P_secondOperand (l : Launch) (D : va_G) (aa : Nat → Nat → Nat) (q : Nat → ClassId) (hJ : wJ kC aa) (σ : kS) (g0 : Nat) (hg0 : g0 < 12) (res : Int32) (h : F_P_secondOperand σ g0 = some res) : Met l by_P_secondOperand (.code by_P_secondOperand bc_P_secondOperand 1 (some .int) :: lw_g) brm_P_secondOperand (va_Pc [.ref (aa 9 g0)] (kPre D aa q σ)) (va_Qi (fun (r : Int32) (u : kS) => r = res ∧ u = σ) (kB D aa q) (wA kC aa)) 0 0 (wA kC aa) := by
  refine Met.ofW (cc := bc_P_secondOperand) (maxL := 1) (ret := (some .int)) (by decide) rfl ?_
  intro p e s m args below meth c s₁ B hml hv
  obtain ⟨rfl, hP, hK⟩ := hv
  have hx := B.exec
  have hb := B.bytes
  have hr := B.returns
  have ht : ∀ w ∈ lw_g, w.before ([.ref (aa 9 g0)] : List Value).toArray s = true := fun w h => atoms_spec (ws := .code by_P_secondOperand bc_P_secondOperand 1 (some .int) :: lw_g) B.pre w (List.mem_cons_of_mem _ h)
  have hown : s.vm.findClass bR_P = some m.cls := findClass_of_methodNamed B.named
  have hlocks := B.notSynchronized
  have S : CallFix p m c bc_P_secondOperand 1 s ([.ref (aa 9 g0)] : List Value).toArray lw_g bR_P := ⟨hx, hb, hml, hown, ht⟩
  have hS : va_S (wA kC aa) s.heap s.heap [] := va_S.rf
  have hl := lv_entry ([.ref (aa 9 g0)]) (n := 1) (Nat.le_of_ble_eq_true rfl)
  rw [lg_entry_eq]
  generalize (lg_sl ([.ref (aa 9 g0)]) ++ List.replicate (1 - (lg_sl ([.ref (aa 9 g0)])).length) Slot.unset).toArray = ls at hl ⊢
  have hl : lv_has ls 1 [(0, .ref (aa 9 g0))] := hl
  unfold F_P_secondOperand at h
  refine lv_aload_n hx hb de_P_secondOperand_0 rfl (lv_at hl 0 rfl) ?_
  refine kg_9 (v := .ref (aa 12 g0)) hx hb ht hown hK hP hg0 3 (by decide) tw_1_66 rfl de_P_secondOperand_1 ?_
  refine lv_aload_n hx hb de_P_secondOperand_4 rfl (lv_at hl 0 rfl) ?_
  refine kg_9 (v := .int (gI σ 9 g0 0)) hx hb ht hown hK hP hg0 11 (by decide) tw_1_82 rfl de_P_secondOperand_5 ?_
  obtain ⟨hi1, h⟩ := gd_some h
  refine kl_12 hx hb hK hP hg0 (inb_in hi1) de_P_secondOperand_8 ?_
  have h := Option.some.inj h
  subst h
  exact W.iret (v := gI σ 13 g0 (gI σ 9 g0 0).toNatClampNeg) hx hb hr (fun t ht hW => ⟨⟨_, _, rfl, ⟨rfl, rfl⟩, by rw [ht]; exact hP, va_K.moved hW.alike hK⟩, hS.F ht⟩) hS.2.2 de_P_secondOperand_9 hlocks
end
