-- ===== PART A: goes FIRST, ahead of the names: the tables' words, and 'selects' of the private methods out of them =====
/-- a private method of a class that the tables say can be made, by its rows of tables_1 -/
def lw_okq (q : MethodName × Nat) : Prop := (q.1.cls ≠ "java/lang/invoke/MethodHandle" ∧ q.1.cls ≠ "java/lang/invoke/VarHandle") ∧ Cond.instantiable q.1.cls q.2 ∈ tables_1 ∧ Cond.privateMethod q.1 ∈ tables_1 ∧ Cond.instanceMethod q.1 ∈ tables_1
theorem lw_p0 : lw_okq (⟨"NarrowingKernel", "letRangesBeAsTold", "()V"⟩, 20) := ⟨⟨by decide +kernel, by decide +kernel⟩, List.mem_of_getElem? (i := 15) (by decide +kernel), List.mem_of_getElem? (i := 263) (by decide +kernel), List.mem_of_getElem? (i := 264) (by decide +kernel)⟩
theorem lw_p1 : lw_okq (⟨"NarrowingKernel", "isUnknown", "(I)Z"⟩, 20) := ⟨⟨by decide +kernel, by decide +kernel⟩, List.mem_of_getElem? (i := 15) (by decide +kernel), List.mem_of_getElem? (i := 277) (by decide +kernel), List.mem_of_getElem? (i := 278) (by decide +kernel)⟩
theorem lw_p2 : lw_okq (⟨"NarrowingKernel", "isRule", "(I)Z"⟩, 20) := ⟨⟨by decide +kernel, by decide +kernel⟩, List.mem_of_getElem? (i := 15) (by decide +kernel), List.mem_of_getElem? (i := 305) (by decide +kernel), List.mem_of_getElem? (i := 306) (by decide +kernel)⟩
theorem lw_p3 : lw_okq (⟨"NarrowingKernel", "found", "(I)I"⟩, 20) := ⟨⟨by decide +kernel, by decide +kernel⟩, List.mem_of_getElem? (i := 15) (by decide +kernel), List.mem_of_getElem? (i := 309) (by decide +kernel), List.mem_of_getElem? (i := 310) (by decide +kernel)⟩
theorem lw_p4 : lw_okq (⟨"NarrowingKernel", "stands", "(I)Z"⟩, 20) := ⟨⟨by decide +kernel, by decide +kernel⟩, List.mem_of_getElem? (i := 15) (by decide +kernel), List.mem_of_getElem? (i := 339) (by decide +kernel), List.mem_of_getElem? (i := 340) (by decide +kernel)⟩
theorem lw_p5 : lw_okq (⟨"NarrowingKernel$Narrower", "emptyRulesFit", "([LNarrowingKernel$Rule;J[I)Z"⟩, 2) := ⟨⟨by decide +kernel, by decide +kernel⟩, List.mem_of_getElem? (i := 135) (by decide +kernel), List.mem_of_getElem? (i := 391) (by decide +kernel), List.mem_of_getElem? (i := 392) (by decide +kernel)⟩
theorem lw_p6 : lw_okq (⟨"NarrowingKernel$Fitter", "fitsTable", "(LNarrowingKernel$Rule;[I)Z"⟩, 1) := ⟨⟨by decide +kernel, by decide +kernel⟩, List.mem_of_getElem? (i := 125) (by decide +kernel), List.mem_of_getElem? (i := 405) (by decide +kernel), List.mem_of_getElem? (i := 406) (by decide +kernel)⟩
theorem lw_p7 : lw_okq (⟨"NarrowingKernel$Looker", "lookAtSum", "(LNarrowingKernel$Rule;[I)V"⟩, 5) := ⟨⟨by decide +kernel, by decide +kernel⟩, List.mem_of_getElem? (i := 137) (by decide +kernel), List.mem_of_getElem? (i := 426) (by decide +kernel), List.mem_of_getElem? (i := 427) (by decide +kernel)⟩
theorem lw_p8 : lw_okq (⟨"NarrowingKernel$Looker", "lookAtUnlike", "(LNarrowingKernel$Rule;[I)V"⟩, 5) := ⟨⟨by decide +kernel, by decide +kernel⟩, List.mem_of_getElem? (i := 137) (by decide +kernel), List.mem_of_getElem? (i := 449) (by decide +kernel), List.mem_of_getElem? (i := 450) (by decide +kernel)⟩
theorem lw_p9 : lw_okq (⟨"NarrowingKernel$Looker", "takeAll", "(LNarrowingKernel$Rule;[I)V"⟩, 5) := ⟨⟨by decide +kernel, by decide +kernel⟩, List.mem_of_getElem? (i := 137) (by decide +kernel), List.mem_of_getElem? (i := 454) (by decide +kernel), List.mem_of_getElem? (i := 455) (by decide +kernel)⟩
theorem lw_p10 : lw_okq (⟨"NarrowingKernel$Looker", "takeFromOthers", "(LNarrowingKernel$Rule;[II)V"⟩, 5) := ⟨⟨by decide +kernel, by decide +kernel⟩, List.mem_of_getElem? (i := 137) (by decide +kernel), List.mem_of_getElem? (i := 458) (by decide +kernel), List.mem_of_getElem? (i := 459) (by decide +kernel)⟩
theorem lw_p11 : lw_okq (⟨"NarrowingKernel$Looker", "lookAtTable", "(LNarrowingKernel$Rule;[I)V"⟩, 5) := ⟨⟨by decide +kernel, by decide +kernel⟩, List.mem_of_getElem? (i := 137) (by decide +kernel), List.mem_of_getElem? (i := 462) (by decide +kernel), List.mem_of_getElem? (i := 463) (by decide +kernel)⟩
theorem lw_p12 : lw_okq (⟨"NarrowingKernel$Looker", "giveBack", "(LNarrowingKernel$Rule;[II)V"⟩, 5) := ⟨⟨by decide +kernel, by decide +kernel⟩, List.mem_of_getElem? (i := 137) (by decide +kernel), List.mem_of_getElem? (i := 467) (by decide +kernel), List.mem_of_getElem? (i := 468) (by decide +kernel)⟩
theorem lw_p13 : lw_okq (⟨"NarrowingKernel$Looker", "lookAtLoad", "(LNarrowingKernel$Rule;[I)V"⟩, 5) := ⟨⟨by decide +kernel, by decide +kernel⟩, List.mem_of_getElem? (i := 137) (by decide +kernel), List.mem_of_getElem? (i := 471) (by decide +kernel), List.mem_of_getElem? (i := 472) (by decide +kernel)⟩
theorem lw_p14 : lw_okq (⟨"NarrowingKernel$Looker", "loadTakes", "(LNarrowingKernel$Rule;IIII)Z"⟩, 5) := ⟨⟨by decide +kernel, by decide +kernel⟩, List.mem_of_getElem? (i := 137) (by decide +kernel), List.mem_of_getElem? (i := 489) (by decide +kernel), List.mem_of_getElem? (i := 490) (by decide +kernel)⟩
theorem lw_p15 : lw_okq (⟨"NarrowingKernel$Looker", "lookAtRing", "(LNarrowingKernel$Rule;[I)V"⟩, 5) := ⟨⟨by decide +kernel, by decide +kernel⟩, List.mem_of_getElem? (i := 137) (by decide +kernel), List.mem_of_getElem? (i := 493) (by decide +kernel), List.mem_of_getElem? (i := 494) (by decide +kernel)⟩
def lw_privs_1 : List (MethodName × Nat) := [(⟨"NarrowingKernel", "letRangesBeAsTold", "()V"⟩, 20), (⟨"NarrowingKernel", "isUnknown", "(I)Z"⟩, 20), (⟨"NarrowingKernel", "isRule", "(I)Z"⟩, 20), (⟨"NarrowingKernel", "found", "(I)I"⟩, 20), (⟨"NarrowingKernel", "stands", "(I)Z"⟩, 20), (⟨"NarrowingKernel$Narrower", "emptyRulesFit", "([LNarrowingKernel$Rule;J[I)Z"⟩, 2), (⟨"NarrowingKernel$Fitter", "fitsTable", "(LNarrowingKernel$Rule;[I)Z"⟩, 1), (⟨"NarrowingKernel$Looker", "lookAtSum", "(LNarrowingKernel$Rule;[I)V"⟩, 5), (⟨"NarrowingKernel$Looker", "lookAtUnlike", "(LNarrowingKernel$Rule;[I)V"⟩, 5), (⟨"NarrowingKernel$Looker", "takeAll", "(LNarrowingKernel$Rule;[I)V"⟩, 5), (⟨"NarrowingKernel$Looker", "takeFromOthers", "(LNarrowingKernel$Rule;[II)V"⟩, 5), (⟨"NarrowingKernel$Looker", "lookAtTable", "(LNarrowingKernel$Rule;[I)V"⟩, 5), (⟨"NarrowingKernel$Looker", "giveBack", "(LNarrowingKernel$Rule;[II)V"⟩, 5), (⟨"NarrowingKernel$Looker", "lookAtLoad", "(LNarrowingKernel$Rule;[I)V"⟩, 5), (⟨"NarrowingKernel$Looker", "loadTakes", "(LNarrowingKernel$Rule;IIII)Z"⟩, 5), (⟨"NarrowingKernel$Looker", "lookAtRing", "(LNarrowingKernel$Rule;[I)V"⟩, 5)]
theorem lw_r1 : ∀ q ∈ lw_privs_1, lw_okq q := List.forall_mem_cons.mpr ⟨lw_p0, List.forall_mem_cons.mpr ⟨lw_p1, List.forall_mem_cons.mpr ⟨lw_p2, List.forall_mem_cons.mpr ⟨lw_p3, List.forall_mem_cons.mpr ⟨lw_p4, List.forall_mem_cons.mpr ⟨lw_p5, List.forall_mem_cons.mpr ⟨lw_p6, List.forall_mem_cons.mpr ⟨lw_p7, List.forall_mem_cons.mpr ⟨lw_p8, List.forall_mem_cons.mpr ⟨lw_p9, List.forall_mem_cons.mpr ⟨lw_p10, List.forall_mem_cons.mpr ⟨lw_p11, List.forall_mem_cons.mpr ⟨lw_p12, List.forall_mem_cons.mpr ⟨lw_p13, List.forall_mem_cons.mpr ⟨lw_p14, List.forall_mem_cons.mpr ⟨lw_p15, fun _ h => absurd h List.not_mem_nil⟩⟩⟩⟩⟩⟩⟩⟩⟩⟩⟩⟩⟩⟩⟩⟩
theorem lw_p16 : lw_okq (⟨"NarrowingKernel$Looker", "lookAtClause", "(LNarrowingKernel$Rule;[I)V"⟩, 5) := ⟨⟨by decide +kernel, by decide +kernel⟩, List.mem_of_getElem? (i := 137) (by decide +kernel), List.mem_of_getElem? (i := 500) (by decide +kernel), List.mem_of_getElem? (i := 501) (by decide +kernel)⟩
theorem lw_p17 : lw_okq (⟨"NarrowingKernel", "isLacked", "(III)Z"⟩, 20) := ⟨⟨by decide +kernel, by decide +kernel⟩, List.mem_of_getElem? (i := 15) (by decide +kernel), List.mem_of_getElem? (i := 536) (by decide +kernel), List.mem_of_getElem? (i := 537) (by decide +kernel)⟩
theorem lw_p18 : lw_okq (⟨"NarrowingKernel", "narrowToldBySteps", "(I)Z"⟩, 20) := ⟨⟨by decide +kernel, by decide +kernel⟩, List.mem_of_getElem? (i := 15) (by decide +kernel), List.mem_of_getElem? (i := 540) (by decide +kernel), List.mem_of_getElem? (i := 541) (by decide +kernel)⟩
theorem lw_p19 : lw_okq (⟨"NarrowingKernel", "noneIsEmpty", "([I)Z"⟩, 20) := ⟨⟨by decide +kernel, by decide +kernel⟩, List.mem_of_getElem? (i := 15) (by decide +kernel), List.mem_of_getElem? (i := 544) (by decide +kernel), List.mem_of_getElem? (i := 545) (by decide +kernel)⟩
theorem lw_p20 : lw_okq (⟨"NarrowingKernel", "keepReasons", "(I)I"⟩, 20) := ⟨⟨by decide +kernel, by decide +kernel⟩, List.mem_of_getElem? (i := 15) (by decide +kernel), List.mem_of_getElem? (i := 548) (by decide +kernel), List.mem_of_getElem? (i := 549) (by decide +kernel)⟩
theorem lw_p21 : lw_okq (⟨"NarrowingKernel", "narrowAside", "()I"⟩, 20) := ⟨⟨by decide +kernel, by decide +kernel⟩, List.mem_of_getElem? (i := 15) (by decide +kernel), List.mem_of_getElem? (i := 560) (by decide +kernel), List.mem_of_getElem? (i := 561) (by decide +kernel)⟩
theorem lw_p22 : lw_okq (⟨"NarrowingKernel", "countWays", "([II)I"⟩, 20) := ⟨⟨by decide +kernel, by decide +kernel⟩, List.mem_of_getElem? (i := 15) (by decide +kernel), List.mem_of_getElem? (i := 564) (by decide +kernel), List.mem_of_getElem? (i := 565) (by decide +kernel)⟩
theorem lw_p23 : lw_okq (⟨"NarrowingKernel", "findsAnswer", "([I)Z"⟩, 20) := ⟨⟨by decide +kernel, by decide +kernel⟩, List.mem_of_getElem? (i := 15) (by decide +kernel), List.mem_of_getElem? (i := 568) (by decide +kernel), List.mem_of_getElem? (i := 569) (by decide +kernel)⟩
theorem lw_p24 : lw_okq (⟨"NarrowingKernel$Search", "arrange", "([II[LNarrowingKernel$Rule;J)I"⟩, 6) := ⟨⟨by decide +kernel, by decide +kernel⟩, List.mem_of_getElem? (i := 171) (by decide +kernel), List.mem_of_getElem? (i := 576) (by decide +kernel), List.mem_of_getElem? (i := 577) (by decide +kernel)⟩
theorem lw_p25 : lw_okq (⟨"NarrowingKernel$Search", "lastStage", "(LNarrowingKernel$Rule;)I"⟩, 6) := ⟨⟨by decide +kernel, by decide +kernel⟩, List.mem_of_getElem? (i := 171) (by decide +kernel), List.mem_of_getElem? (i := 582) (by decide +kernel), List.mem_of_getElem? (i := 583) (by decide +kernel)⟩
theorem lw_p26 : lw_okq (⟨"NarrowingKernel$Search", "allFit", "([LNarrowingKernel$Rule;J)Z"⟩, 6) := ⟨⟨by decide +kernel, by decide +kernel⟩, List.mem_of_getElem? (i := 171) (by decide +kernel), List.mem_of_getElem? (i := 587) (by decide +kernel), List.mem_of_getElem? (i := 588) (by decide +kernel)⟩
theorem lw_p27 : lw_okq (⟨"NarrowingKernel", "keepAnswer", "()V"⟩, 20) := ⟨⟨by decide +kernel, by decide +kernel⟩, List.mem_of_getElem? (i := 15) (by decide +kernel), List.mem_of_getElem? (i := 597) (by decide +kernel), List.mem_of_getElem? (i := 598) (by decide +kernel)⟩
theorem lw_p28 : lw_okq (⟨"NarrowingKernel", "findsAnswerAbove", "(I)Z"⟩, 20) := ⟨⟨by decide +kernel, by decide +kernel⟩, List.mem_of_getElem? (i := 15) (by decide +kernel), List.mem_of_getElem? (i := 605) (by decide +kernel), List.mem_of_getElem? (i := 606) (by decide +kernel)⟩
theorem lw_p29 : lw_okq (⟨"NarrowingKernel", "findsAnswerWith", "(II)Z"⟩, 20) := ⟨⟨by decide +kernel, by decide +kernel⟩, List.mem_of_getElem? (i := 15) (by decide +kernel), List.mem_of_getElem? (i := 621) (by decide +kernel), List.mem_of_getElem? (i := 622) (by decide +kernel)⟩
theorem lw_p30 : lw_okq (⟨"NarrowingKernel", "hasAnswerBySteps", "(I)Z"⟩, 20) := ⟨⟨by decide +kernel, by decide +kernel⟩, List.mem_of_getElem? (i := 15) (by decide +kernel), List.mem_of_getElem? (i := 633) (by decide +kernel), List.mem_of_getElem? (i := 634) (by decide +kernel)⟩
theorem lw_p31 : lw_okq (⟨"NarrowingKernel", "isLine", "(I)Z"⟩, 20) := ⟨⟨by decide +kernel, by decide +kernel⟩, List.mem_of_getElem? (i := 15) (by decide +kernel), List.mem_of_getElem? (i := 645) (by decide +kernel), List.mem_of_getElem? (i := 646) (by decide +kernel)⟩
def lw_privs_2 : List (MethodName × Nat) := [(⟨"NarrowingKernel$Looker", "lookAtClause", "(LNarrowingKernel$Rule;[I)V"⟩, 5), (⟨"NarrowingKernel", "isLacked", "(III)Z"⟩, 20), (⟨"NarrowingKernel", "narrowToldBySteps", "(I)Z"⟩, 20), (⟨"NarrowingKernel", "noneIsEmpty", "([I)Z"⟩, 20), (⟨"NarrowingKernel", "keepReasons", "(I)I"⟩, 20), (⟨"NarrowingKernel", "narrowAside", "()I"⟩, 20), (⟨"NarrowingKernel", "countWays", "([II)I"⟩, 20), (⟨"NarrowingKernel", "findsAnswer", "([I)Z"⟩, 20), (⟨"NarrowingKernel$Search", "arrange", "([II[LNarrowingKernel$Rule;J)I"⟩, 6), (⟨"NarrowingKernel$Search", "lastStage", "(LNarrowingKernel$Rule;)I"⟩, 6), (⟨"NarrowingKernel$Search", "allFit", "([LNarrowingKernel$Rule;J)Z"⟩, 6), (⟨"NarrowingKernel", "keepAnswer", "()V"⟩, 20), (⟨"NarrowingKernel", "findsAnswerAbove", "(I)Z"⟩, 20), (⟨"NarrowingKernel", "findsAnswerWith", "(II)Z"⟩, 20), (⟨"NarrowingKernel", "hasAnswerBySteps", "(I)Z"⟩, 20), (⟨"NarrowingKernel", "isLine", "(I)Z"⟩, 20)]
theorem lw_r2 : ∀ q ∈ lw_privs_2, lw_okq q := List.forall_mem_cons.mpr ⟨lw_p16, List.forall_mem_cons.mpr ⟨lw_p17, List.forall_mem_cons.mpr ⟨lw_p18, List.forall_mem_cons.mpr ⟨lw_p19, List.forall_mem_cons.mpr ⟨lw_p20, List.forall_mem_cons.mpr ⟨lw_p21, List.forall_mem_cons.mpr ⟨lw_p22, List.forall_mem_cons.mpr ⟨lw_p23, List.forall_mem_cons.mpr ⟨lw_p24, List.forall_mem_cons.mpr ⟨lw_p25, List.forall_mem_cons.mpr ⟨lw_p26, List.forall_mem_cons.mpr ⟨lw_p27, List.forall_mem_cons.mpr ⟨lw_p28, List.forall_mem_cons.mpr ⟨lw_p29, List.forall_mem_cons.mpr ⟨lw_p30, List.forall_mem_cons.mpr ⟨lw_p31, fun _ h => absurd h List.not_mem_nil⟩⟩⟩⟩⟩⟩⟩⟩⟩⟩⟩⟩⟩⟩⟩⟩
theorem lw_p32 : lw_okq (⟨"NarrowingKernel", "isRightByLines", "(I)I"⟩, 20) := ⟨⟨by decide +kernel, by decide +kernel⟩, List.mem_of_getElem? (i := 15) (by decide +kernel), List.mem_of_getElem? (i := 657) (by decide +kernel), List.mem_of_getElem? (i := 658) (by decide +kernel)⟩
theorem lw_p33 : lw_okq (⟨"NarrowingKernel", "cutToldByFalse", "(LNarrowingKernel$Rule;)Z"⟩, 20) := ⟨⟨by decide +kernel, by decide +kernel⟩, List.mem_of_getElem? (i := 15) (by decide +kernel), List.mem_of_getElem? (i := 661) (by decide +kernel), List.mem_of_getElem? (i := 662) (by decide +kernel)⟩
theorem lw_p34 : lw_okq (⟨"NarrowingKernel", "isRightByRule", "(II)I"⟩, 20) := ⟨⟨by decide +kernel, by decide +kernel⟩, List.mem_of_getElem? (i := 15) (by decide +kernel), List.mem_of_getElem? (i := 665) (by decide +kernel), List.mem_of_getElem? (i := 666) (by decide +kernel)⟩
theorem lw_p35 : lw_okq (⟨"NarrowingKernelModel", "asTold", "()V"⟩, 34) := ⟨⟨by decide +kernel, by decide +kernel⟩, List.mem_of_getElem? (i := 683) (by decide +kernel), List.mem_of_getElem? (i := 805) (by decide +kernel), List.mem_of_getElem? (i := 806) (by decide +kernel)⟩
theorem lw_p36 : lw_okq (⟨"NarrowingKernelModel", "noUnknown", "(I)Z"⟩, 34) := ⟨⟨by decide +kernel, by decide +kernel⟩, List.mem_of_getElem? (i := 683) (by decide +kernel), List.mem_of_getElem? (i := 813) (by decide +kernel), List.mem_of_getElem? (i := 814) (by decide +kernel)⟩
theorem lw_p37 : lw_okq (⟨"NarrowingKernelModel", "noRule", "(I)Z"⟩, 34) := ⟨⟨by decide +kernel, by decide +kernel⟩, List.mem_of_getElem? (i := 683) (by decide +kernel), List.mem_of_getElem? (i := 833) (by decide +kernel), List.mem_of_getElem? (i := 834) (by decide +kernel)⟩
theorem lw_p38 : lw_okq (⟨"NarrowingKernelModel", "finds", "(I)I"⟩, 34) := ⟨⟨by decide +kernel, by decide +kernel⟩, List.mem_of_getElem? (i := 683) (by decide +kernel), List.mem_of_getElem? (i := 837) (by decide +kernel), List.mem_of_getElem? (i := 838) (by decide +kernel)⟩
theorem lw_p39 : lw_okq (⟨"NarrowingKernelModel", "added", "(IIII)I"⟩, 34) := ⟨⟨by decide +kernel, by decide +kernel⟩, List.mem_of_getElem? (i := 683) (by decide +kernel), List.mem_of_getElem? (i := 844) (by decide +kernel), List.mem_of_getElem? (i := 845) (by decide +kernel)⟩
theorem lw_p40 : lw_okq (⟨"NarrowingKernelModel", "asideAs", "(Z)V"⟩, 34) := ⟨⟨by decide +kernel, by decide +kernel⟩, List.mem_of_getElem? (i := 683) (by decide +kernel), List.mem_of_getElem? (i := 885) (by decide +kernel), List.mem_of_getElem? (i := 886) (by decide +kernel)⟩
theorem lw_p41 : lw_okq (⟨"NarrowingKernelModel", "narrowAside", "()V"⟩, 34) := ⟨⟨by decide +kernel, by decide +kernel⟩, List.mem_of_getElem? (i := 683) (by decide +kernel), List.mem_of_getElem? (i := 889) (by decide +kernel), List.mem_of_getElem? (i := 890) (by decide +kernel)⟩
theorem lw_p42 : lw_okq (⟨"NarrowingKernelModel", "hasNone", "()Z"⟩, 34) := ⟨⟨by decide +kernel, by decide +kernel⟩, List.mem_of_getElem? (i := 683) (by decide +kernel), List.mem_of_getElem? (i := 893) (by decide +kernel), List.mem_of_getElem? (i := 894) (by decide +kernel)⟩
theorem lw_p43 : lw_okq (⟨"NarrowingKernelModel", "fitsBare", "(I)Z"⟩, 34) := ⟨⟨by decide +kernel, by decide +kernel⟩, List.mem_of_getElem? (i := 683) (by decide +kernel), List.mem_of_getElem? (i := 897) (by decide +kernel), List.mem_of_getElem? (i := 898) (by decide +kernel)⟩
theorem lw_p44 : lw_okq (⟨"NarrowingKernelModel", "left", "(II)I"⟩, 34) := ⟨⟨by decide +kernel, by decide +kernel⟩, List.mem_of_getElem? (i := 683) (by decide +kernel), List.mem_of_getElem? (i := 901) (by decide +kernel), List.mem_of_getElem? (i := 902) (by decide +kernel)⟩
theorem lw_p45 : lw_okq (⟨"NarrowingKernelModel", "asideOf", "(II)I"⟩, 34) := ⟨⟨by decide +kernel, by decide +kernel⟩, List.mem_of_getElem? (i := 683) (by decide +kernel), List.mem_of_getElem? (i := 905) (by decide +kernel), List.mem_of_getElem? (i := 906) (by decide +kernel)⟩
theorem lw_p46 : lw_okq (⟨"NarrowingKernelModel", "goes", "(III)Z"⟩, 34) := ⟨⟨by decide +kernel, by decide +kernel⟩, List.mem_of_getElem? (i := 683) (by decide +kernel), List.mem_of_getElem? (i := 909) (by decide +kernel), List.mem_of_getElem? (i := 910) (by decide +kernel)⟩
theorem lw_p47 : lw_okq (⟨"NarrowingKernelModel", "goesBySum", "(III)Z"⟩, 34) := ⟨⟨by decide +kernel, by decide +kernel⟩, List.mem_of_getElem? (i := 683) (by decide +kernel), List.mem_of_getElem? (i := 913) (by decide +kernel), List.mem_of_getElem? (i := 914) (by decide +kernel)⟩
def lw_privs_3 : List (MethodName × Nat) := [(⟨"NarrowingKernel", "isRightByLines", "(I)I"⟩, 20), (⟨"NarrowingKernel", "cutToldByFalse", "(LNarrowingKernel$Rule;)Z"⟩, 20), (⟨"NarrowingKernel", "isRightByRule", "(II)I"⟩, 20), (⟨"NarrowingKernelModel", "asTold", "()V"⟩, 34), (⟨"NarrowingKernelModel", "noUnknown", "(I)Z"⟩, 34), (⟨"NarrowingKernelModel", "noRule", "(I)Z"⟩, 34), (⟨"NarrowingKernelModel", "finds", "(I)I"⟩, 34), (⟨"NarrowingKernelModel", "added", "(IIII)I"⟩, 34), (⟨"NarrowingKernelModel", "asideAs", "(Z)V"⟩, 34), (⟨"NarrowingKernelModel", "narrowAside", "()V"⟩, 34), (⟨"NarrowingKernelModel", "hasNone", "()Z"⟩, 34), (⟨"NarrowingKernelModel", "fitsBare", "(I)Z"⟩, 34), (⟨"NarrowingKernelModel", "left", "(II)I"⟩, 34), (⟨"NarrowingKernelModel", "asideOf", "(II)I"⟩, 34), (⟨"NarrowingKernelModel", "goes", "(III)Z"⟩, 34), (⟨"NarrowingKernelModel", "goesBySum", "(III)Z"⟩, 34)]
theorem lw_r3 : ∀ q ∈ lw_privs_3, lw_okq q := List.forall_mem_cons.mpr ⟨lw_p32, List.forall_mem_cons.mpr ⟨lw_p33, List.forall_mem_cons.mpr ⟨lw_p34, List.forall_mem_cons.mpr ⟨lw_p35, List.forall_mem_cons.mpr ⟨lw_p36, List.forall_mem_cons.mpr ⟨lw_p37, List.forall_mem_cons.mpr ⟨lw_p38, List.forall_mem_cons.mpr ⟨lw_p39, List.forall_mem_cons.mpr ⟨lw_p40, List.forall_mem_cons.mpr ⟨lw_p41, List.forall_mem_cons.mpr ⟨lw_p42, List.forall_mem_cons.mpr ⟨lw_p43, List.forall_mem_cons.mpr ⟨lw_p44, List.forall_mem_cons.mpr ⟨lw_p45, List.forall_mem_cons.mpr ⟨lw_p46, List.forall_mem_cons.mpr ⟨lw_p47, fun _ h => absurd h List.not_mem_nil⟩⟩⟩⟩⟩⟩⟩⟩⟩⟩⟩⟩⟩⟩⟩⟩
theorem lw_p48 : lw_okq (⟨"NarrowingKernelModel", "end", "(IIZ)I"⟩, 34) := ⟨⟨by decide +kernel, by decide +kernel⟩, List.mem_of_getElem? (i := 683) (by decide +kernel), List.mem_of_getElem? (i := 917) (by decide +kernel), List.mem_of_getElem? (i := 918) (by decide +kernel)⟩
theorem lw_p49 : lw_okq (⟨"NarrowingKernelModel", "goesByUnlike", "(III)Z"⟩, 34) := ⟨⟨by decide +kernel, by decide +kernel⟩, List.mem_of_getElem? (i := 683) (by decide +kernel), List.mem_of_getElem? (i := 927) (by decide +kernel), List.mem_of_getElem? (i := 928) (by decide +kernel)⟩
theorem lw_p50 : lw_okq (⟨"NarrowingKernelModel", "goesByTable", "(III)Z"⟩, 34) := ⟨⟨by decide +kernel, by decide +kernel⟩, List.mem_of_getElem? (i := 683) (by decide +kernel), List.mem_of_getElem? (i := 931) (by decide +kernel), List.mem_of_getElem? (i := 932) (by decide +kernel)⟩
theorem lw_p51 : lw_okq (⟨"NarrowingKernelModel", "goesByLoad", "(III)Z"⟩, 34) := ⟨⟨by decide +kernel, by decide +kernel⟩, List.mem_of_getElem? (i := 683) (by decide +kernel), List.mem_of_getElem? (i := 935) (by decide +kernel), List.mem_of_getElem? (i := 936) (by decide +kernel)⟩
theorem lw_p52 : lw_okq (⟨"NarrowingKernelModel", "mustRun", "(III)Z"⟩, 34) := ⟨⟨by decide +kernel, by decide +kernel⟩, List.mem_of_getElem? (i := 683) (by decide +kernel), List.mem_of_getElem? (i := 939) (by decide +kernel), List.mem_of_getElem? (i := 940) (by decide +kernel)⟩
theorem lw_p53 : lw_okq (⟨"NarrowingKernelModel", "goesByRing", "(III)Z"⟩, 34) := ⟨⟨by decide +kernel, by decide +kernel⟩, List.mem_of_getElem? (i := 683) (by decide +kernel), List.mem_of_getElem? (i := 943) (by decide +kernel), List.mem_of_getElem? (i := 944) (by decide +kernel)⟩
theorem lw_p54 : lw_okq (⟨"NarrowingKernelModel", "goesByClause", "(III)Z"⟩, 34) := ⟨⟨by decide +kernel, by decide +kernel⟩, List.mem_of_getElem? (i := 683) (by decide +kernel), List.mem_of_getElem? (i := 947) (by decide +kernel), List.mem_of_getElem? (i := 948) (by decide +kernel)⟩
theorem lw_p55 : lw_okq (⟨"NarrowingKernelModel", "isLacked", "(III)Z"⟩, 34) := ⟨⟨by decide +kernel, by decide +kernel⟩, List.mem_of_getElem? (i := 683) (by decide +kernel), List.mem_of_getElem? (i := 971) (by decide +kernel), List.mem_of_getElem? (i := 972) (by decide +kernel)⟩
theorem lw_p56 : lw_okq (⟨"NarrowingKernelModel", "asideCut", "(I)V"⟩, 34) := ⟨⟨by decide +kernel, by decide +kernel⟩, List.mem_of_getElem? (i := 683) (by decide +kernel), List.mem_of_getElem? (i := 975) (by decide +kernel), List.mem_of_getElem? (i := 976) (by decide +kernel)⟩
theorem lw_p57 : lw_okq (⟨"NarrowingKernelModel", "reasoned", "(I)I"⟩, 34) := ⟨⟨by decide +kernel, by decide +kernel⟩, List.mem_of_getElem? (i := 683) (by decide +kernel), List.mem_of_getElem? (i := 979) (by decide +kernel), List.mem_of_getElem? (i := 980) (by decide +kernel)⟩
theorem lw_p58 : lw_okq (⟨"NarrowingKernelModel", "begun", "()I"⟩, 34) := ⟨⟨by decide +kernel, by decide +kernel⟩, List.mem_of_getElem? (i := 683) (by decide +kernel), List.mem_of_getElem? (i := 991) (by decide +kernel), List.mem_of_getElem? (i := 992) (by decide +kernel)⟩
theorem lw_p59 : lw_okq (⟨"NarrowingKernelModel", "isFar", "()Z"⟩, 34) := ⟨⟨by decide +kernel, by decide +kernel⟩, List.mem_of_getElem? (i := 683) (by decide +kernel), List.mem_of_getElem? (i := 995) (by decide +kernel), List.mem_of_getElem? (i := 996) (by decide +kernel)⟩
theorem lw_p60 : lw_okq (⟨"NarrowingKernelModel", "first", "()V"⟩, 34) := ⟨⟨by decide +kernel, by decide +kernel⟩, List.mem_of_getElem? (i := 683) (by decide +kernel), List.mem_of_getElem? (i := 1000) (by decide +kernel), List.mem_of_getElem? (i := 1001) (by decide +kernel)⟩
theorem lw_p61 : lw_okq (⟨"NarrowingKernelModel", "fitsAll", "()Z"⟩, 34) := ⟨⟨by decide +kernel, by decide +kernel⟩, List.mem_of_getElem? (i := 683) (by decide +kernel), List.mem_of_getElem? (i := 1004) (by decide +kernel), List.mem_of_getElem? (i := 1005) (by decide +kernel)⟩
theorem lw_p62 : lw_okq (⟨"NarrowingKernelModel", "fits", "(I)Z"⟩, 34) := ⟨⟨by decide +kernel, by decide +kernel⟩, List.mem_of_getElem? (i := 683) (by decide +kernel), List.mem_of_getElem? (i := 1008) (by decide +kernel), List.mem_of_getElem? (i := 1009) (by decide +kernel)⟩
theorem lw_p63 : lw_okq (⟨"NarrowingKernelModel", "fitsSum", "(I)Z"⟩, 34) := ⟨⟨by decide +kernel, by decide +kernel⟩, List.mem_of_getElem? (i := 683) (by decide +kernel), List.mem_of_getElem? (i := 1012) (by decide +kernel), List.mem_of_getElem? (i := 1013) (by decide +kernel)⟩
def lw_privs_4 : List (MethodName × Nat) := [(⟨"NarrowingKernelModel", "end", "(IIZ)I"⟩, 34), (⟨"NarrowingKernelModel", "goesByUnlike", "(III)Z"⟩, 34), (⟨"NarrowingKernelModel", "goesByTable", "(III)Z"⟩, 34), (⟨"NarrowingKernelModel", "goesByLoad", "(III)Z"⟩, 34), (⟨"NarrowingKernelModel", "mustRun", "(III)Z"⟩, 34), (⟨"NarrowingKernelModel", "goesByRing", "(III)Z"⟩, 34), (⟨"NarrowingKernelModel", "goesByClause", "(III)Z"⟩, 34), (⟨"NarrowingKernelModel", "isLacked", "(III)Z"⟩, 34), (⟨"NarrowingKernelModel", "asideCut", "(I)V"⟩, 34), (⟨"NarrowingKernelModel", "reasoned", "(I)I"⟩, 34), (⟨"NarrowingKernelModel", "begun", "()I"⟩, 34), (⟨"NarrowingKernelModel", "isFar", "()Z"⟩, 34), (⟨"NarrowingKernelModel", "first", "()V"⟩, 34), (⟨"NarrowingKernelModel", "fitsAll", "()Z"⟩, 34), (⟨"NarrowingKernelModel", "fits", "(I)Z"⟩, 34), (⟨"NarrowingKernelModel", "fitsSum", "(I)Z"⟩, 34)]
theorem lw_r4 : ∀ q ∈ lw_privs_4, lw_okq q := List.forall_mem_cons.mpr ⟨lw_p48, List.forall_mem_cons.mpr ⟨lw_p49, List.forall_mem_cons.mpr ⟨lw_p50, List.forall_mem_cons.mpr ⟨lw_p51, List.forall_mem_cons.mpr ⟨lw_p52, List.forall_mem_cons.mpr ⟨lw_p53, List.forall_mem_cons.mpr ⟨lw_p54, List.forall_mem_cons.mpr ⟨lw_p55, List.forall_mem_cons.mpr ⟨lw_p56, List.forall_mem_cons.mpr ⟨lw_p57, List.forall_mem_cons.mpr ⟨lw_p58, List.forall_mem_cons.mpr ⟨lw_p59, List.forall_mem_cons.mpr ⟨lw_p60, List.forall_mem_cons.mpr ⟨lw_p61, List.forall_mem_cons.mpr ⟨lw_p62, List.forall_mem_cons.mpr ⟨lw_p63, fun _ h => absurd h List.not_mem_nil⟩⟩⟩⟩⟩⟩⟩⟩⟩⟩⟩⟩⟩⟩⟩⟩
theorem lw_p64 : lw_okq (⟨"NarrowingKernelModel", "fitsUnlike", "(I)Z"⟩, 34) := ⟨⟨by decide +kernel, by decide +kernel⟩, List.mem_of_getElem? (i := 683) (by decide +kernel), List.mem_of_getElem? (i := 1016) (by decide +kernel), List.mem_of_getElem? (i := 1017) (by decide +kernel)⟩
theorem lw_p65 : lw_okq (⟨"NarrowingKernelModel", "fitsTable", "(I)Z"⟩, 34) := ⟨⟨by decide +kernel, by decide +kernel⟩, List.mem_of_getElem? (i := 683) (by decide +kernel), List.mem_of_getElem? (i := 1020) (by decide +kernel), List.mem_of_getElem? (i := 1021) (by decide +kernel)⟩
theorem lw_p66 : lw_okq (⟨"NarrowingKernelModel", "fitsLoad", "(I)Z"⟩, 34) := ⟨⟨by decide +kernel, by decide +kernel⟩, List.mem_of_getElem? (i := 683) (by decide +kernel), List.mem_of_getElem? (i := 1024) (by decide +kernel), List.mem_of_getElem? (i := 1025) (by decide +kernel)⟩
theorem lw_p67 : lw_okq (⟨"NarrowingKernelModel", "fitsRing", "(I)Z"⟩, 34) := ⟨⟨by decide +kernel, by decide +kernel⟩, List.mem_of_getElem? (i := 683) (by decide +kernel), List.mem_of_getElem? (i := 1028) (by decide +kernel), List.mem_of_getElem? (i := 1029) (by decide +kernel)⟩
theorem lw_p68 : lw_okq (⟨"NarrowingKernelModel", "fitsClause", "(I)Z"⟩, 34) := ⟨⟨by decide +kernel, by decide +kernel⟩, List.mem_of_getElem? (i := 683) (by decide +kernel), List.mem_of_getElem? (i := 1032) (by decide +kernel), List.mem_of_getElem? (i := 1033) (by decide +kernel)⟩
theorem lw_p69 : lw_okq (⟨"NarrowingKernelModel", "keep", "()V"⟩, 34) := ⟨⟨by decide +kernel, by decide +kernel⟩, List.mem_of_getElem? (i := 683) (by decide +kernel), List.mem_of_getElem? (i := 1036) (by decide +kernel), List.mem_of_getElem? (i := 1037) (by decide +kernel)⟩
theorem lw_p70 : lw_okq (⟨"NarrowingKernelModel", "goesOn", "()Z"⟩, 34) := ⟨⟨by decide +kernel, by decide +kernel⟩, List.mem_of_getElem? (i := 683) (by decide +kernel), List.mem_of_getElem? (i := 1040) (by decide +kernel), List.mem_of_getElem? (i := 1041) (by decide +kernel)⟩
theorem lw_p71 : lw_okq (⟨"NarrowingKernelModel", "isAbove", "()Z"⟩, 34) := ⟨⟨by decide +kernel, by decide +kernel⟩, List.mem_of_getElem? (i := 683) (by decide +kernel), List.mem_of_getElem? (i := 1048) (by decide +kernel), List.mem_of_getElem? (i := 1049) (by decide +kernel)⟩
theorem lw_p72 : lw_okq (⟨"NarrowingKernelModel", "hasAnswer", "(I)Z"⟩, 34) := ⟨⟨by decide +kernel, by decide +kernel⟩, List.mem_of_getElem? (i := 683) (by decide +kernel), List.mem_of_getElem? (i := 1072) (by decide +kernel), List.mem_of_getElem? (i := 1073) (by decide +kernel)⟩
theorem lw_p73 : lw_okq (⟨"NarrowingKernelModel", "noLine", "(I)Z"⟩, 34) := ⟨⟨by decide +kernel, by decide +kernel⟩, List.mem_of_getElem? (i := 683) (by decide +kernel), List.mem_of_getElem? (i := 1084) (by decide +kernel), List.mem_of_getElem? (i := 1085) (by decide +kernel)⟩
theorem lw_p74 : lw_okq (⟨"NarrowingKernelModel", "firstWrong", "()I"⟩, 34) := ⟨⟨by decide +kernel, by decide +kernel⟩, List.mem_of_getElem? (i := 683) (by decide +kernel), List.mem_of_getElem? (i := 1096) (by decide +kernel), List.mem_of_getElem? (i := 1097) (by decide +kernel)⟩
theorem lw_p75 : lw_okq (⟨"NarrowingKernelModel", "byLines", "(I)I"⟩, 34) := ⟨⟨by decide +kernel, by decide +kernel⟩, List.mem_of_getElem? (i := 683) (by decide +kernel), List.mem_of_getElem? (i := 1100) (by decide +kernel), List.mem_of_getElem? (i := 1101) (by decide +kernel)⟩
theorem lw_p76 : lw_okq (⟨"NarrowingKernelModel", "takesByLine", "(I)Z"⟩, 34) := ⟨⟨by decide +kernel, by decide +kernel⟩, List.mem_of_getElem? (i := 683) (by decide +kernel), List.mem_of_getElem? (i := 1104) (by decide +kernel), List.mem_of_getElem? (i := 1105) (by decide +kernel)⟩
theorem lw_p77 : lw_okq (⟨"NarrowingKernelModel", "byRule", "(I)I"⟩, 34) := ⟨⟨by decide +kernel, by decide +kernel⟩, List.mem_of_getElem? (i := 683) (by decide +kernel), List.mem_of_getElem? (i := 1108) (by decide +kernel), List.mem_of_getElem? (i := 1109) (by decide +kernel)⟩
def lw_privs_5 : List (MethodName × Nat) := [(⟨"NarrowingKernelModel", "fitsUnlike", "(I)Z"⟩, 34), (⟨"NarrowingKernelModel", "fitsTable", "(I)Z"⟩, 34), (⟨"NarrowingKernelModel", "fitsLoad", "(I)Z"⟩, 34), (⟨"NarrowingKernelModel", "fitsRing", "(I)Z"⟩, 34), (⟨"NarrowingKernelModel", "fitsClause", "(I)Z"⟩, 34), (⟨"NarrowingKernelModel", "keep", "()V"⟩, 34), (⟨"NarrowingKernelModel", "goesOn", "()Z"⟩, 34), (⟨"NarrowingKernelModel", "isAbove", "()Z"⟩, 34), (⟨"NarrowingKernelModel", "hasAnswer", "(I)Z"⟩, 34), (⟨"NarrowingKernelModel", "noLine", "(I)Z"⟩, 34), (⟨"NarrowingKernelModel", "firstWrong", "()I"⟩, 34), (⟨"NarrowingKernelModel", "byLines", "(I)I"⟩, 34), (⟨"NarrowingKernelModel", "takesByLine", "(I)Z"⟩, 34), (⟨"NarrowingKernelModel", "byRule", "(I)I"⟩, 34)]
theorem lw_r5 : ∀ q ∈ lw_privs_5, lw_okq q := List.forall_mem_cons.mpr ⟨lw_p64, List.forall_mem_cons.mpr ⟨lw_p65, List.forall_mem_cons.mpr ⟨lw_p66, List.forall_mem_cons.mpr ⟨lw_p67, List.forall_mem_cons.mpr ⟨lw_p68, List.forall_mem_cons.mpr ⟨lw_p69, List.forall_mem_cons.mpr ⟨lw_p70, List.forall_mem_cons.mpr ⟨lw_p71, List.forall_mem_cons.mpr ⟨lw_p72, List.forall_mem_cons.mpr ⟨lw_p73, List.forall_mem_cons.mpr ⟨lw_p74, List.forall_mem_cons.mpr ⟨lw_p75, List.forall_mem_cons.mpr ⟨lw_p76, List.forall_mem_cons.mpr ⟨lw_p77, fun _ h => absurd h List.not_mem_nil⟩⟩⟩⟩⟩⟩⟩⟩⟩⟩⟩⟩⟩⟩
def lw_privs : List (MethodName × Nat) := lw_privs_1 ++ (lw_privs_2 ++ (lw_privs_3 ++ (lw_privs_4 ++ (lw_privs_5))))
def lw_tbl : List Cond := k2_sels lw_privs ++ tables_1
theorem lw_privs_ok : ∀ q ∈ lw_privs, lw_okq q := by
  show ∀ q ∈ lw_privs_1 ++ (lw_privs_2 ++ (lw_privs_3 ++ (lw_privs_4 ++ (lw_privs_5)))), lw_okq q
  exact List.forall_mem_append.mpr ⟨lw_r1, List.forall_mem_append.mpr ⟨lw_r2, List.forall_mem_append.mpr ⟨lw_r3, List.forall_mem_append.mpr ⟨lw_r4, lw_r5⟩⟩⟩⟩
/-- what the tables say of an array of arrays (va_mna below names it; the kit has it not) -/
def va_AOA (ty : FieldType) (U : State) : Prop := (Cond.arrayOver (.array ty)).before #[] U = true
theorem va_AOA.of {ty : FieldType} {A : Array Value} {U : State} (h : (Cond.arrayOver (.array ty)).before A U = true) : va_AOA ty U := h
theorem va_AOA.use {ty : FieldType} {A : Array Value} {U : State} (h : va_AOA ty U) : (Cond.arrayOver (.array ty)).before A U = true := h
theorem va_AOA.same {ty : FieldType} {u U : State} (h : u.vm = U.vm) (hz : va_AOA ty u) : va_AOA ty U := by
  have e : (Cond.arrayOver (.array ty)).before #[] u = (Cond.arrayOver (.array ty)).before #[] U := by
    unfold Cond.before Cond.holds
    simp only [Cond.value, h]
  exact e.symm.trans hz
-- ===== names, out of claim/NAMES.whole.lean.txt =====
/-! ===== BEGIN words of one list among another's, by their places ===== -/
theorem goodIn_r {big : List Cond} (ws : List Cond) (ps : List Nat) (hp : ws = ps.filterMap (fun i => big[i]?)) (h : ws.all goodWord = true) : GoodIn big ws := by
  intro w hw
  have h1 := List.all_eq_true.mp h w hw
  rw [hp] at hw
  obtain ⟨i, -, hi⟩ := List.mem_filterMap.mp hw
  have hm : w ∈ big := by first | exact List.mem_of_getElem? hi | exact List.getElem?_mem hi
  exact ⟨hm, good_of_word h1⟩
theorem goodIn_app {big a b : List Cond} (ha : GoodIn big a) (hb : GoodIn big b) : GoodIn big (a ++ b) := fun w h => (List.mem_append.mp h).elim (ha w) (hb w)
theorem goodIn_ca {big a b : List Cond} {c : Cond} (ha : GoodIn big (c :: a)) (hb : GoodIn big b) : GoodIn big (c :: (a ++ b)) := fun w h => (List.mem_cons.mp h).elim (fun e => ha w (List.mem_cons.mpr (Or.inl e))) (fun h => (List.mem_append.mp h).elim (fun h => ha w (List.mem_cons.mpr (Or.inr h))) (hb w))
theorem goodIn_sub {big ws : List Cond} (hm : ∀ w ∈ ws, w ∈ big) (h : ws.all goodWord = true) : GoodIn big ws := fun w hw => ⟨hm w hw, good_of_word (List.all_eq_true.mp h w hw)⟩
/-! ===== END ===== -/

/-! ===== BEGIN new T[n][m]: the outer array a place, the inner ones among the pooled ===== -/
/-- f, but v at every address of l -/
def vr_up {α : Type} (f : Nat → α) (l : List Nat) (v : α) : Nat → α := fun a => if a ∈ l then v else f a
theorem vr_up_in {α : Type} {f : Nat → α} {l : List Nat} {v : α} {a : Nat} (h : a ∈ l) : vr_up f l v a = v := if_pos h
theorem vr_up_ne {α : Type} {f : Nat → α} {l : List Nat} {v : α} {a : Nat} (h : a ∉ l) : vr_up f l v a = f a := if_neg h
theorem vr_rows {L l : List Nat} {f : Nat → va_E} {e : va_E} (h : ∀ a, a ∈ l → a ∉ L) : va_pl L f ++ l.map (fun a => (a, e)) = va_pl (L ++ l) (vr_up f l e) := by
  unfold va_pl
  rw [List.map_append]
  congr 1
  · apply List.map_congr_left
    intro a ha
    rw [vr_up_ne (fun q => h a q ha)]
  · apply List.map_congr_left
    intro a ha
    rw [vr_up_in ha]
theorem vr_lay {X rows : va_W} {x : Nat × va_E} {pl : va_W} {D : va_G} {cl : List vw_C} {H : Heap} (hP : va_P D cl (((X ++ pl) ++ [x]) ++ rows) H) : va_P D cl ((X ++ [x]) ++ (pl ++ rows)) H := by
  rw [List.append_assoc (X ++ pl)] at hP
  have h := va_P.swap hP
  rw [← List.append_assoc X] at h
  have h2 := va_P.swap h
  rw [List.append_assoc (X ++ [x])] at h2
  exact h2
theorem vr_layD {X rows : va_W} {x : Nat × va_E} {pl : va_W} {A : Nat → Prop} (hD : va_D A (((X ++ pl) ++ [x]) ++ rows)) : va_D A ((X ++ [x]) ++ (pl ++ rows)) := by
  rw [List.append_assoc (X ++ pl)] at hD
  have h := va_D.swap hD
  rw [← List.append_assoc X] at h
  have h2 := va_D.swap h
  rw [List.append_assoc (X ++ [x])] at h2
  exact h2
theorem vr_outer (c : ClassId) (N h0 : Nat) : ∀ i : Nat, Jvm.Free.Multi.outerC c N h0 i = arrV c N (fun j => va_rf (if j < i then some (h0 + 1 + j) else none))
  | 0 => by
    show ({ cls := c, slots := Array.replicate N .null, vm := .none } : Cell) = _
    rw [arrV_new]
    refine congrArg (arrV c N) (funext fun j => ?_)
    simp [va_rf]
  | i + 1 => by
    show (Jvm.Free.Multi.outerC c N h0 i).setSlot i (.ref (h0 + 1 + i)) = _
    rw [vr_outer c N h0 i, arrV_store]
    refine congrArg (arrV c N) (funext fun j => ?_)
    by_cases e : j = i
    · subst e
      simp [updV, va_rf]
    · by_cases h : j < i
      · simp [updV, e, h, Nat.lt_succ_of_lt h]
      · simp [updV, e, h, show ¬ j < i + 1 by omega]
section VGM
variable {p : Program} {l : Launch} {e : Env} {R : Room} {s : State} {m : MethodId} {args : Array Value} {below : List Frame} {meth : Method} {c : Code} {H : Heap} {locs : List Loc} {cells slots : Nat} {Q : State → Prop}
variable {cc : ByteArray} {pc : Nat} {ls : Array Slot} {rest : List Value} {D : va_G} {cl : List vw_C} {A : Nat → Prop} {a : Nat} {tys : List (ClassId × FieldType)} {ws : va_W} {H0 : Heap}
theorem va_mna {X : va_W} {L : List Nat} {f : Nat → va_E} {cc : ByteArray} (hexec : p.tables.exec = Jvm.exec) (hb : c.code = cc) {own : String} {index : Nat} {ty : FieldType} {cy : ClassId} (hown : s.vm.findClass own = some m.cls) (hclink : (Cond.classLink own index ("[" ++ (FieldType.array ty).toString)).before args s = true) (hover : va_AOA ty s) (harr : (Cond.arrayClass ty).before args s = true) (hcy : s.vm.findClass (FieldType.array ty).toString = some cy)
    (hK : va_K D cl tys s) (hP : va_P D cl (X ++ va_pl L f) H) (hD : va_D A (X ++ va_pl L f)) (hS : va_S A H0 H locs) (hA : ∀ q, H0.size ≤ q → A q) {n k : Int32} {N' K' : Nat} {z : vp_A} (hn : ¬ n < 0) (hk : ¬ k < 0) (hN : n.toNatClampNeg = N') (hM : k.toNatClampNeg = K')
    (hb1 : N' * 4 ≤ 536870912) (hb2 : K' * componentBytes ty ≤ 536870912) (hb3 : K' ≤ 536870912) (hdf : fits ty (defaultValue ty) = true) (hdd : (defaultValue ty).isDefault = true) (hcells : cells + (1 + N') ≤ R.cells) (hslots : slots + (N' + N' * K') ≤ R.slots) (hz : ∀ c : ClassId, Jvm.Free.Multi.innerC c K' (defaultValue ty) = vp_cell c z) (hdg : decode cc pc = .ok (.multianewarray index 2, 4))
    (kk : ∀ (q : Nat) (r : Nat → Nat) (cA : ClassId) (H1 : Heap), (∀ i j : Nat, i < N' → j < N' → r i = r j → i = j) → (∀ i : Nat, i < N' → r i ∉ L) → va_K D cl (tys ++ [(cA, .array ty)]) s →
      va_P D cl ((X ++ [(q, .inl (cA, N', .inr (.inr (.inr (.inr (fun i => if i < N' then some (r i) else none))))))]) ++ va_pl (L ++ (List.range N').map r) (vr_up f ((List.range N').map r) (.inl (cy, z)))) H1 → va_D A ((X ++ [(q, .inl (cA, N', .inr (.inr (.inr (.inr (fun i => if i < N' then some (r i) else none))))))]) ++ va_pl (L ++ (List.range N').map r) (vr_up f ((List.range N').map r) (.inl (cy, z)))) → va_S A H0 H1 locs →
      W p l e R s m args below meth c H1 locs (cells + 1 + N') (slots + N' + N' * K') Q (F0 m (pc + 4) ls (.ref q :: rest))) : W p l e R s m args below meth c H locs cells slots Q (F0 m pc ls (.int k :: .int n :: rest)) := by
  subst hN
  subst hM
  intro T hT Xs
  obtain ⟨vm₁, cA, comp, -, fA, fC, hO, -, X', step⟩ := Xs.multianewarray2F hexec hown hclink (va_AOA.use hover) harr (g := F0 m pc ls (.int k :: .int n :: rest)) rfl (by rw [hb]; exact hdg) rfl hn hk hb1 hb2 hb3 hdf hdd hcells hslots
  have ec : some cy = some comp := hcy.symm.trans fC
  cases ec
  generalize hF : Jvm.Free.Multi.fill (T.setVm vm₁) cA cy n.toNatClampNeg k.toNatClampNeg (defaultValue ty) n.toNatClampNeg = F at X' step
  have hTh : (T.setVm vm₁).heap = H := hT
  obtain ⟨f1, f2, -, -⟩ := Jvm.Free.Multi.fill_facts (T.setVm vm₁) cA cy n.toNatClampNeg k.toNatClampNeg (defaultValue ty) n.toNatClampNeg
  rw [hF, hTh] at f1 f2
  have hold : ∀ x : Nat, x < H.size → F.heap[x]? = H[x]? := fun x hx => by
    have := Jvm.Free.Multi.fill_old (T.setVm vm₁) cA cy n.toNatClampNeg k.toNatClampNeg (defaultValue ty) (a := x) (by rw [hTh]; exact hx) n.toNatClampNeg
    rw [hF, hTh] at this
    exact this
  have hrow : ∀ j : Nat, j < n.toNatClampNeg → F.heap[H.size + 1 + j]? = some (vp_cell cy z) := fun j hj => by
    have := Jvm.Free.Multi.fill_inner (T.setVm vm₁) cA cy n.toNatClampNeg k.toNatClampNeg (defaultValue ty) n.toNatClampNeg j hj
    rw [hF, hTh, hz] at this
    exact this
  have hout : Jvm.Free.Multi.outerC cA n.toNatClampNeg H.size n.toNatClampNeg = vp_cell cA (n.toNatClampNeg, .inr (.inr (.inr (.inr (fun i => if i < n.toNatClampNeg then some (H.size + 1 + i) else none))))) := by
    rw [vp_cell_q]
    exact vr_outer cA n.toNatClampNeg H.size n.toNatClampNeg
  rw [hout] at f2
  have hlt : ∀ a, a ∈ L → a < H.size := fun a ha => by
    obtain ⟨k9, hk9⟩ := va_pl_get (X := X) (f := f) ha
    exact (hP k9 _ hk9).lt
  have hnl : ∀ i : Nat, i < n.toNatClampNeg → H.size + 1 + i ∉ L := fun i _ h => by
    have := hlt _ h
    omega
  have hnm : ∀ a, a ∈ (List.range n.toNatClampNeg).map (fun i => H.size + 1 + i) → a ∉ L := fun a ha h => by
    obtain ⟨i, -, rfl⟩ := List.mem_map.mp ha
    have := hlt _ h
    omega
  have hP0 : va_P D cl (X ++ va_pl L f) F.heap := hP.kept (fun k9 x hx => hold x.1 ((hP k9 x hx).lt))
  have hP1 : va_P D cl ((X ++ va_pl L f) ++ [(H.size, .inl (cA, n.toNatClampNeg, .inr (.inr (.inr (.inr (fun i => if i < n.toNatClampNeg then some (H.size + 1 + i) else none))))))]) F.heap := hP0.app (fun k9 x hx => by
    have h0 : k9 < 1 := (List.getElem?_eq_some_iff.mp hx).1
    rw [show k9 = 0 by omega] at hx
    cases hx
    exact f2)
  have hP2 : va_P D cl (((X ++ va_pl L f) ++ [(H.size, .inl (cA, n.toNatClampNeg, .inr (.inr (.inr (.inr (fun i => if i < n.toNatClampNeg then some (H.size + 1 + i) else none))))))]) ++ ((List.range n.toNatClampNeg).map (fun i => H.size + 1 + i)).map (fun a => (a, .inl (cy, z)))) F.heap := hP1.app (fun k9 x hx => by
    obtain ⟨a, ha, rfl⟩ := List.mem_map.mp (List.mem_of_getElem? hx)
    obtain ⟨i, hi, rfl⟩ := List.mem_map.mp ha
    exact hrow i (List.mem_range.mp hi))
  have hD2 : va_D A (((X ++ va_pl L f) ++ [(H.size, .inl (cA, n.toNatClampNeg, .inr (.inr (.inr (.inr (fun i => if i < n.toNatClampNeg then some (H.size + 1 + i) else none))))))]) ++ ((List.range n.toNatClampNeg).map (fun i => H.size + 1 + i)).map (fun a => (a, .inl (cy, z)))) := by
    have hD1 := hD.push (e := .inl (cA, n.toNatClampNeg, .inr (.inr (.inr (.inr (fun i => if i < n.toNatClampNeg then some (H.size + 1 + i) else none)))))) hP rfl (hA _ hS.1)
    generalize hW1 : (X ++ va_pl L f) ++ [(H.size, .inl (cA, n.toNatClampNeg, .inr (.inr (.inr (.inr (fun i => if i < n.toNatClampNeg then some (H.size + 1 + i) else none))))))] = W1 at hD1 hP1 ⊢
    have hle : ∀ (k9 : Nat) (x : Nat × va_E), W1[k9]? = some x → x.1 ≤ H.size := fun k9 x hx => by
      rw [← hW1] at hx
      by_cases hl : k9 < (X ++ va_pl L f).length
      · rw [List.getElem?_append_left hl] at hx
        exact Nat.le_of_lt ((hP k9 x hx).lt)
      · rw [List.getElem?_append_right (by omega)] at hx
        have h0 : k9 - (X ++ va_pl L f).length < 1 := (List.getElem?_eq_some_iff.mp hx).1
        rw [show k9 - (X ++ va_pl L f).length = 0 by omega] at hx
        cases hx
        exact Nat.le_refl _
    have hr : ∀ (k9 : Nat) (x : Nat × va_E), (((List.range n.toNatClampNeg).map (fun i => H.size + 1 + i)).map (fun a => ((a, .inl (cy, z)) : Nat × va_E)))[k9]? = some x → x.1 = H.size + 1 + k9 := fun k9 x hx => by
      rw [List.getElem?_map, List.getElem?_map] at hx
      by_cases h9 : k9 < n.toNatClampNeg
      · rw [List.getElem?_range h9] at hx
        cases hx
        rfl
      · have hn0 : (List.range n.toNatClampNeg)[k9]? = none := List.getElem?_eq_none (by rw [List.length_range]; omega)
        rw [hn0] at hx
        cases hx
    refine ⟨fun i j x y hi hj hxy => ?_, fun k9 x hx => ?_⟩
    · by_cases h1 : i < W1.length <;> by_cases h2 : j < W1.length
      · rw [List.getElem?_append_left h1] at hi
        rw [List.getElem?_append_left h2] at hj
        exact hD1.1 i j x y hi hj hxy
      · rw [List.getElem?_append_left h1] at hi
        rw [List.getElem?_append_right (by omega)] at hj
        have := hle _ _ hi
        have := hr _ _ hj
        omega
      · rw [List.getElem?_append_right (by omega)] at hi
        rw [List.getElem?_append_left h2] at hj
        have := hle _ _ hj
        have := hr _ _ hi
        omega
      · rw [List.getElem?_append_right (by omega)] at hi hj
        have := hr _ _ hi
        have := hr _ _ hj
        omega
    · by_cases h1 : k9 < W1.length
      · rw [List.getElem?_append_left h1] at hx
        exact hD1.2 k9 x hx
      · rw [List.getElem?_append_right (by omega)] at hx
        have := hr _ _ hx
        exact hA _ (by have := hS.1; omega)
  have hAr : ArrOfT s cA (.array ty) := fun N9 z9 => by
    obtain ⟨-, k9, hk9, cm9, hkk9⟩ := (hO 0 0 0).1
    exact ⟨(fun q hq => by cases hq), k9, hk9, cm9, hkk9⟩
  have hK2 : va_K D cl (tys ++ [(cA, .array ty)]) s := ⟨hK.1, fun k9 x hx => by
    by_cases hl : k9 < tys.length
    · rw [List.getElem?_append_left hl] at hx
      exact hK.2 k9 x hx
    · rw [List.getElem?_append_right (by omega)] at hx
      have h0 : k9 - tys.length < 1 := (List.getElem?_eq_some_iff.mp hx).1
      rw [show k9 - tys.length = 0 by omega] at hx
      cases hx
      exact ⟨hAr, fA⟩⟩
  obtain ⟨t, a1, b1⟩ := kk H.size (fun i => H.size + 1 + i) cA F.heap (fun i j _ _ h => by have h9 : H.size + 1 + i = H.size + 1 + j := h; omega) hnl hK2 (by rw [← vr_rows hnm]; exact vr_lay hP2) (by rw [← vr_rows hnm]; exact vr_layD hD2) ⟨by rw [f1]; have := hS.1; omega, fun x h1 h2 => (hold x (Nat.lt_of_lt_of_le h1 hS.1)).trans (hS.2.1 x h1 h2), hS.2.2⟩ F rfl X'
  refine ⟨t, step t ?_, b1⟩
  have e : T.heap.size = H.size := by rw [hT]
  rw [e]
  exact a1
end VGM
/-! ===== END ===== -/

/-! ===== BEGIN printed: names, fields, word lists, decode rows ===== -/
def RX0 : String := "NarrowingKernel$Fitter"
def TX0 : u_T := fun k => match k with
  | _ => ("NarrowingKernel$Fitter", "tables", "LNarrowingKernel$Tables;", true)
def tyX0 : Nat → FieldType := fun k => match k with
  | _ => .object "NarrowingKernel$Tables"
abbrev wsX00 : List Cond := u_ws RX0 TX0 1
theorem nmX0 : ∀ a, a < 1 → ∀ b, b < 1 → a ≠ b → (TX0 a).2.1 ≠ (TX0 b).2.1 := by decide +kernel
theorem tyX0_ok : ∀ k, k < 1 → parseFieldDescriptor (TX0 k).2.2.1 = some (tyX0 k) := by decide +kernel
abbrev cX0_init : ByteArray := prog_2_method_1_code
def yX0_init : MethodName := ⟨RX0, "<init>", "(LNarrowingKernel$Tables;)V"⟩
abbrev cX0_fits : ByteArray := prog_2_method_2_code
def yX0_fits : MethodName := ⟨RX0, "fits", "(LNarrowingKernel$Rule;[I)Z"⟩
abbrev cX0_fitsSum : ByteArray := prog_2_method_3_code
def yX0_fitsSum : MethodName := ⟨RX0, "fitsSum", "(LNarrowingKernel$Rule;[I)Z"⟩
abbrev cX0_fitsUnlike : ByteArray := prog_2_method_4_code
def yX0_fitsUnlike : MethodName := ⟨RX0, "fitsUnlike", "(LNarrowingKernel$Rule;[I)Z"⟩
abbrev cX0_fitsTable : ByteArray := prog_2_method_5_code
def yX0_fitsTable : MethodName := ⟨RX0, "fitsTable", "(LNarrowingKernel$Rule;[I)Z"⟩
abbrev cX0_fitsLoad : ByteArray := prog_2_method_6_code
def yX0_fitsLoad : MethodName := ⟨RX0, "fitsLoad", "(LNarrowingKernel$Rule;[I)Z"⟩
abbrev cX0_fitsRing : ByteArray := prog_2_method_7_code
def yX0_fitsRing : MethodName := ⟨RX0, "fitsRing", "(LNarrowingKernel$Rule;[I)Z"⟩
abbrev cX0_fitsClause : ByteArray := prog_2_method_8_code
def yX0_fitsClause : MethodName := ⟨RX0, "fitsClause", "(LNarrowingKernel$Rule;[I)Z"⟩
def RX1 : String := "NarrowingKernel$Looker"
def TX1 : u_T := fun k => match k with
  | 0 => ("NarrowingKernel$Looker", "tables", "LNarrowingKernel$Tables;", true)
  | 1 => ("NarrowingKernel$Looker", "gone", "[I", true)
  | 2 => ("NarrowingKernel$Looker", "joined", "[I", true)
  | 3 => ("NarrowingKernel$Looker", "must", "[I", true)
  | _ => ("NarrowingKernel$Looker", "so", "[I", true)
def tyX1 : Nat → FieldType := fun k => match k with
  | 0 => .object "NarrowingKernel$Tables"
  | 1 => .array .int
  | 2 => .array .int
  | 3 => .array .int
  | _ => .array .int
abbrev wsX10 : List Cond := u_ws RX1 TX1 5
theorem nmX1 : ∀ a, a < 5 → ∀ b, b < 5 → a ≠ b → (TX1 a).2.1 ≠ (TX1 b).2.1 := by decide +kernel
theorem tyX1_ok : ∀ k, k < 5 → parseFieldDescriptor (TX1 k).2.2.1 = some (tyX1 k) := by decide +kernel
abbrev cX1_init : ByteArray := prog_3_method_1_code
def yX1_init : MethodName := ⟨RX1, "<init>", "(LNarrowingKernel$Tables;)V"⟩
abbrev cX1_look : ByteArray := prog_3_method_2_code
def yX1_look : MethodName := ⟨RX1, "look", "(LNarrowingKernel$Rule;[I)V"⟩
abbrev cX1_lookAtSum : ByteArray := prog_3_method_3_code
def yX1_lookAtSum : MethodName := ⟨RX1, "lookAtSum", "(LNarrowingKernel$Rule;[I)V"⟩
abbrev cX1_lowest : ByteArray := prog_3_method_4_code
def yX1_lowest : MethodName := ⟨RX1, "lowest", "(II)I"⟩
abbrev cX1_highest : ByteArray := prog_3_method_5_code
def yX1_highest : MethodName := ⟨RX1, "highest", "(II)I"⟩
abbrev cX1_sumTakes : ByteArray := prog_3_method_6_code
def yX1_sumTakes : MethodName := ⟨RX1, "sumTakes", "(LNarrowingKernel$Rule;IIZ)Z"⟩
abbrev cX1_lookAtUnlike : ByteArray := prog_3_method_7_code
def yX1_lookAtUnlike : MethodName := ⟨RX1, "lookAtUnlike", "(LNarrowingKernel$Rule;[I)V"⟩
abbrev cX1_takeAll : ByteArray := prog_3_method_8_code
def yX1_takeAll : MethodName := ⟨RX1, "takeAll", "(LNarrowingKernel$Rule;[I)V"⟩
abbrev cX1_takeFromOthers : ByteArray := prog_3_method_9_code
def yX1_takeFromOthers : MethodName := ⟨RX1, "takeFromOthers", "(LNarrowingKernel$Rule;[II)V"⟩
abbrev cX1_lookAtTable : ByteArray := prog_3_method_10_code
def yX1_lookAtTable : MethodName := ⟨RX1, "lookAtTable", "(LNarrowingKernel$Rule;[I)V"⟩
abbrev cX1_giveBack : ByteArray := prog_3_method_11_code
def yX1_giveBack : MethodName := ⟨RX1, "giveBack", "(LNarrowingKernel$Rule;[II)V"⟩
abbrev cX1_lookAtLoad : ByteArray := prog_3_method_12_code
def yX1_lookAtLoad : MethodName := ⟨RX1, "lookAtLoad", "(LNarrowingKernel$Rule;[I)V"⟩
abbrev cX1_loadTakes : ByteArray := prog_3_method_13_code
def yX1_loadTakes : MethodName := ⟨RX1, "loadTakes", "(LNarrowingKernel$Rule;IIII)Z"⟩
abbrev cX1_lookAtRing : ByteArray := prog_3_method_14_code
def yX1_lookAtRing : MethodName := ⟨RX1, "lookAtRing", "(LNarrowingKernel$Rule;[I)V"⟩
abbrev cX1_closesTooSoon : ByteArray := prog_3_method_15_code
def yX1_closesTooSoon : MethodName := ⟨RX1, "closesTooSoon", "(LNarrowingKernel$Rule;[III)Z"⟩
abbrev cX1_lookAtClause : ByteArray := prog_3_method_16_code
def yX1_lookAtClause : MethodName := ⟨RX1, "lookAtClause", "(LNarrowingKernel$Rule;[I)V"⟩
def RX2 : String := "NarrowingKernel$Narrower"
def TX2 : u_T := fun k => match k with
  | 0 => ("NarrowingKernel$Narrower", "looker", "LNarrowingKernel$Looker;", true)
  | _ => ("NarrowingKernel$Narrower", "fitter", "LNarrowingKernel$Fitter;", true)
def tyX2 : Nat → FieldType := fun k => match k with
  | 0 => .object "NarrowingKernel$Looker"
  | _ => .object "NarrowingKernel$Fitter"
abbrev wsX20 : List Cond := u_ws RX2 TX2 2
theorem nmX2 : ∀ a, a < 2 → ∀ b, b < 2 → a ≠ b → (TX2 a).2.1 ≠ (TX2 b).2.1 := by decide +kernel
theorem tyX2_ok : ∀ k, k < 2 → parseFieldDescriptor (TX2 k).2.2.1 = some (tyX2 k) := by decide +kernel
abbrev cX2_init : ByteArray := prog_4_method_1_code
def yX2_init : MethodName := ⟨RX2, "<init>", "(LNarrowingKernel$Looker;LNarrowingKernel$Fitter;)V"⟩
abbrev cX2_countTaken : ByteArray := prog_4_method_2_code
def yX2_countTaken : MethodName := ⟨RX2, "countTaken", "(LNarrowingKernel$Rule;[I)I"⟩
abbrev cX2_run : ByteArray := prog_4_method_3_code
def yX2_run : MethodName := ⟨RX2, "run", "([I[LNarrowingKernel$Rule;J)Z"⟩
abbrev cX2_emptyRulesFit : ByteArray := prog_4_method_4_code
def yX2_emptyRulesFit : MethodName := ⟨RX2, "emptyRulesFit", "([LNarrowingKernel$Rule;J[I)Z"⟩
def RX3 : String := "NarrowingKernel$Rule"
def TX3 : u_T := fun k => match k with
  | 0 => ("NarrowingKernel$Rule", "kind", "I", false)
  | 1 => ("NarrowingKernel$Rule", "setting", "I", false)
  | 2 => ("NarrowingKernel$Rule", "bound", "I", false)
  | 3 => ("NarrowingKernel$Rule", "parts", "I", false)
  | 4 => ("NarrowingKernel$Rule", "members", "I", false)
  | 5 => ("NarrowingKernel$Rule", "of", "[I", true)
  | 6 => ("NarrowingKernel$Rule", "a", "[I", true)
  | _ => ("NarrowingKernel$Rule", "b", "[I", true)
def tyX3 : Nat → FieldType := fun k => match k with
  | 0 => .int
  | 1 => .int
  | 2 => .int
  | 3 => .int
  | 4 => .int
  | 5 => .array .int
  | 6 => .array .int
  | _ => .array .int
abbrev wsX30 : List Cond := u_ws RX3 TX3 8
theorem nmX3 : ∀ a, a < 8 → ∀ b, b < 8 → a ≠ b → (TX3 a).2.1 ≠ (TX3 b).2.1 := by decide +kernel
theorem tyX3_ok : ∀ k, k < 8 → parseFieldDescriptor (TX3 k).2.2.1 = some (tyX3 k) := by decide +kernel
abbrev cX3_init : ByteArray := prog_5_method_1_code
def yX3_init : MethodName := ⟨RX3, "<init>", "()V"⟩
abbrev cX3_begin : ByteArray := prog_5_method_2_code
def yX3_begin : MethodName := ⟨RX3, "begin", "(III)V"⟩
abbrev cX3_join : ByteArray := prog_5_method_3_code
def yX3_join : MethodName := ⟨RX3, "join", "(III)V"⟩
abbrev cX3_isOf : ByteArray := prog_5_method_4_code
def yX3_isOf : MethodName := ⟨RX3, "isOf", "(I)Z"⟩
def RX4 : String := "NarrowingKernel$Search"
def TX4 : u_T := fun k => match k with
  | 0 => ("NarrowingKernel$Search", "fitter", "LNarrowingKernel$Fitter;", true)
  | 1 => ("NarrowingKernel$Search", "number", "[I", true)
  | 2 => ("NarrowingKernel$Search", "open", "[I", true)
  | 3 => ("NarrowingKernel$Search", "left", "[I", true)
  | 4 => ("NarrowingKernel$Search", "stage", "[I", true)
  | _ => ("NarrowingKernel$Search", "dueAt", "[J", true)
def tyX4 : Nat → FieldType := fun k => match k with
  | 0 => .object "NarrowingKernel$Fitter"
  | 1 => .array .int
  | 2 => .array .int
  | 3 => .array .int
  | 4 => .array .int
  | _ => .array .long
abbrev wsX40 : List Cond := u_ws RX4 TX4 6
theorem nmX4 : ∀ a, a < 6 → ∀ b, b < 6 → a ≠ b → (TX4 a).2.1 ≠ (TX4 b).2.1 := by decide +kernel
theorem tyX4_ok : ∀ k, k < 6 → parseFieldDescriptor (TX4 k).2.2.1 = some (tyX4 k) := by decide +kernel
abbrev cX4_init : ByteArray := prog_6_method_1_code
def yX4_init : MethodName := ⟨RX4, "<init>", "(LNarrowingKernel$Fitter;)V"⟩
abbrev cX4_find : ByteArray := prog_6_method_2_code
def yX4_find : MethodName := ⟨RX4, "find", "([II[LNarrowingKernel$Rule;JI)I"⟩
abbrev cX4_arrange : ByteArray := prog_6_method_3_code
def yX4_arrange : MethodName := ⟨RX4, "arrange", "([II[LNarrowingKernel$Rule;J)I"⟩
abbrev cX4_lastStage : ByteArray := prog_6_method_4_code
def yX4_lastStage : MethodName := ⟨RX4, "lastStage", "(LNarrowingKernel$Rule;)I"⟩
abbrev cX4_allFit : ByteArray := prog_6_method_5_code
def yX4_allFit : MethodName := ⟨RX4, "allFit", "([LNarrowingKernel$Rule;J)Z"⟩
def RX5 : String := "NarrowingKernel$Steps"
def TX5 : u_T := fun k => match k with
  | 0 => ("NarrowingKernel$Steps", "size", "I", false)
  | 1 => ("NarrowingKernel$Steps", "of", "[I", true)
  | 2 => ("NarrowingKernel$Steps", "so", "[I", true)
  | _ => ("NarrowingKernel$Steps", "before", "[[I", true)
def tyX5 : Nat → FieldType := fun k => match k with
  | 0 => .int
  | 1 => .array .int
  | 2 => .array .int
  | _ => .array (.array .int)
abbrev wsX50 : List Cond := u_ws RX5 TX5 4
theorem nmX5 : ∀ a, a < 4 → ∀ b, b < 4 → a ≠ b → (TX5 a).2.1 ≠ (TX5 b).2.1 := by decide +kernel
theorem tyX5_ok : ∀ k, k < 4 → parseFieldDescriptor (TX5 k).2.2.1 = some (tyX5 k) := by decide +kernel
abbrev cX5_init : ByteArray := prog_7_method_1_code
def yX5_init : MethodName := ⟨RX5, "<init>", "()V"⟩
abbrev cX5_all : ByteArray := prog_7_method_2_code
def yX5_all : MethodName := ⟨RX5, "all", "()I"⟩
def RX6 : String := "NarrowingKernel$Tables"
def TX6 : u_T := fun k => match k with
  | 0 => ("NarrowingKernel$Tables", "size", "[I", true)
  | _ => ("NarrowingKernel$Tables", "cells", "[[I", true)
def tyX6 : Nat → FieldType := fun k => match k with
  | 0 => .array .int
  | _ => .array (.array .int)
abbrev wsX60 : List Cond := u_ws RX6 TX6 2
theorem nmX6 : ∀ a, a < 2 → ∀ b, b < 2 → a ≠ b → (TX6 a).2.1 ≠ (TX6 b).2.1 := by decide +kernel
theorem tyX6_ok : ∀ k, k < 2 → parseFieldDescriptor (TX6 k).2.2.1 = some (tyX6 k) := by decide +kernel
abbrev cX6_init : ByteArray := prog_8_method_1_code
def yX6_init : MethodName := ⟨RX6, "<init>", "()V"⟩
abbrev cX6_lay : ByteArray := prog_8_method_2_code
def yX6_lay : MethodName := ⟨RX6, "lay", "(II)V"⟩
abbrev cX6_isMissing : ByteArray := prog_8_method_3_code
def yX6_isMissing : MethodName := ⟨RX6, "isMissing", "(I)Z"⟩
abbrev cX6_hasCells : ByteArray := prog_8_method_4_code
def yX6_hasCells : MethodName := ⟨RX6, "hasCells", "(III)Z"⟩
abbrev cX6_countLaid : ByteArray := prog_8_method_5_code
def yX6_countLaid : MethodName := ⟨RX6, "countLaid", "()I"⟩
abbrev cX6_countRows : ByteArray := prog_8_method_6_code
def yX6_countRows : MethodName := ⟨RX6, "countRows", "(II)I"⟩
def RX7 : String := "NarrowingKernel"
def TX7 : u_T := fun k => match k with
  | 0 => ("NarrowingKernel", "told", "[I", true)
  | 1 => ("NarrowingKernel", "now", "[I", true)
  | 2 => ("NarrowingKernel", "unknowns", "I", false)
  | 3 => ("NarrowingKernel", "rules", "[LNarrowingKernel$Rule;", true)
  | 4 => ("NarrowingKernel", "ruleCount", "I", false)
  | 5 => ("NarrowingKernel", "standing", "J", false)
  | 6 => ("NarrowingKernel", "tables", "LNarrowingKernel$Tables;", true)
  | 7 => ("NarrowingKernel", "steps", "LNarrowingKernel$Steps;", true)
  | 8 => ("NarrowingKernel", "reasons", "[I", true)
  | 9 => ("NarrowingKernel", "reasonCount", "I", false)
  | 10 => ("NarrowingKernel", "theAnswer", "[I", true)
  | 11 => ("NarrowingKernel", "answered", "I", false)
  | 12 => ("NarrowingKernel", "lines", "[LNarrowingKernel$Rule;", true)
  | 13 => ("NarrowingKernel", "from", "[I", true)
  | 14 => ("NarrowingKernel", "lineCount", "I", false)
  | 15 => ("NarrowingKernel", "findings", "I", false)
  | 16 => ("NarrowingKernel", "narrower", "LNarrowingKernel$Narrower;", true)
  | 17 => ("NarrowingKernel", "search", "LNarrowingKernel$Search;", true)
  | 18 => ("NarrowingKernel", "work", "[I", true)
  | _ => ("NarrowingKernel", "cut", "[I", true)
def tyX7 : Nat → FieldType := fun k => match k with
  | 0 => .array .int
  | 1 => .array .int
  | 2 => .int
  | 3 => .array (.object "NarrowingKernel$Rule")
  | 4 => .int
  | 5 => .long
  | 6 => .object "NarrowingKernel$Tables"
  | 7 => .object "NarrowingKernel$Steps"
  | 8 => .array .int
  | 9 => .int
  | 10 => .array .int
  | 11 => .int
  | 12 => .array (.object "NarrowingKernel$Rule")
  | 13 => .array .int
  | 14 => .int
  | 15 => .int
  | 16 => .object "NarrowingKernel$Narrower"
  | 17 => .object "NarrowingKernel$Search"
  | 18 => .array .int
  | _ => .array .int
abbrev wsX70 : List Cond := u_ws RX7 TX7 20
theorem nmX7 : ∀ a, a < 20 → ∀ b, b < 20 → a ≠ b → (TX7 a).2.1 ≠ (TX7 b).2.1 := by decide +kernel
theorem tyX7_ok : ∀ k, k < 20 → parseFieldDescriptor (TX7 k).2.2.1 = some (tyX7 k) := by decide +kernel
abbrev cX7_init : ByteArray := prog_1_method_1_code
def yX7_init : MethodName := ⟨RX7, "<init>", "()V"⟩
abbrev cX7_unknown : ByteArray := prog_1_method_2_code
def yX7_unknown : MethodName := ⟨RX7, "unknown", "(II)I"⟩
abbrev cX7_hole : ByteArray := prog_1_method_3_code
def yX7_hole : MethodName := ⟨RX7, "hole", "(II)I"⟩
abbrev cX7_rule : ByteArray := prog_1_method_4_code
def yX7_rule : MethodName := ⟨RX7, "rule", "(III)I"⟩
abbrev cX7_mayBeSet : ByteArray := prog_1_method_5_code
def yX7_mayBeSet : MethodName := ⟨RX7, "mayBeSet", "(III)Z"⟩
abbrev cX7_part : ByteArray := prog_1_method_6_code
def yX7_part : MethodName := ⟨RX7, "part", "(IIII)I"⟩
abbrev cX7_mayBePart : ByteArray := prog_1_method_7_code
def yX7_mayBePart : MethodName := ⟨RX7, "mayBePart", "(III)Z"⟩
abbrev cX7_literal : ByteArray := prog_1_method_8_code
def yX7_literal : MethodName := ⟨RX7, "literal", "(IIII)I"⟩
abbrev cX7_stand : ByteArray := prog_1_method_9_code
def yX7_stand : MethodName := ⟨RX7, "stand", "(IZ)I"⟩
abbrev cX7_table : ByteArray := prog_1_method_10_code
def yX7_table : MethodName := ⟨RX7, "table", "(III)I"⟩
abbrev cX7_tear : ByteArray := prog_1_method_11_code
def yX7_tear : MethodName := ⟨RX7, "tear", "(I)I"⟩
abbrev cX7_cell : ByteArray := prog_1_method_12_code
def yX7_cell : MethodName := ⟨RX7, "cell", "(III)I"⟩
abbrev cX7_copy : ByteArray := prog_1_method_13_code
def yX7_copy : MethodName := ⟨RX7, "copy", "(IIIII)I"⟩
abbrev cX7_get : ByteArray := prog_1_method_14_code
def yX7_get : MethodName := ⟨RX7, "get", "(II)I"⟩
abbrev cX7_about : ByteArray := prog_1_method_15_code
def yX7_about : MethodName := ⟨RX7, "about", "(II)I"⟩
abbrev cX7_narrow : ByteArray := prog_1_method_16_code
def yX7_narrow : MethodName := ⟨RX7, "narrow", "()I"⟩
abbrev cX7_takes : ByteArray := prog_1_method_17_code
def yX7_takes : MethodName := ⟨RX7, "takes", "(I)I"⟩
abbrev cX7_step : ByteArray := prog_1_method_18_code
def yX7_step : MethodName := ⟨RX7, "step", "(III)I"⟩
abbrev cX7_undo : ByteArray := prog_1_method_19_code
def yX7_undo : MethodName := ⟨RX7, "undo", "(I)I"⟩
abbrev cX7_range : ByteArray := prog_1_method_20_code
def yX7_range : MethodName := ⟨RX7, "range", "(II)I"⟩
abbrev cX7_why : ByteArray := prog_1_method_21_code
def yX7_why : MethodName := ⟨RX7, "why", "(II)I"⟩
abbrev cX7_isLacked : ByteArray := prog_1_method_22_code
def yX7_isLacked : MethodName := ⟨RX7, "isLacked", "(III)Z"⟩
abbrev cX7_narrowToldBySteps : ByteArray := prog_1_method_23_code
def yX7_narrowToldBySteps : MethodName := ⟨RX7, "narrowToldBySteps", "(I)Z"⟩
abbrev cX7_keepReasons : ByteArray := prog_1_method_24_code
def yX7_keepReasons : MethodName := ⟨RX7, "keepReasons", "(I)I"⟩
abbrev cX7_reason : ByteArray := prog_1_method_25_code
def yX7_reason : MethodName := ⟨RX7, "reason", "(I)I"⟩
abbrev cX7_solve : ByteArray := prog_1_method_26_code
def yX7_solve : MethodName := ⟨RX7, "solve", "()I"⟩
abbrev cX7_next : ByteArray := prog_1_method_27_code
def yX7_next : MethodName := ⟨RX7, "next", "()I"⟩
abbrev cX7_findsAnswerAbove : ByteArray := prog_1_method_28_code
def yX7_findsAnswerAbove : MethodName := ⟨RX7, "findsAnswerAbove", "(I)Z"⟩
abbrev cX7_answer : ByteArray := prog_1_method_29_code
def yX7_answer : MethodName := ⟨RX7, "answer", "(I)I"⟩
abbrev cX7_count : ByteArray := prog_1_method_30_code
def yX7_count : MethodName := ⟨RX7, "count", "(I)I"⟩
abbrev cX7_best : ByteArray := prog_1_method_31_code
def yX7_best : MethodName := ⟨RX7, "best", "(IZ)I"⟩
abbrev cX7_has : ByteArray := prog_1_method_32_code
def yX7_has : MethodName := ⟨RX7, "has", "(III)I"⟩
abbrev cX7_core : ByteArray := prog_1_method_33_code
def yX7_core : MethodName := ⟨RX7, "core", "()I"⟩
abbrev cX7_hasAnswerBySteps : ByteArray := prog_1_method_34_code
def yX7_hasAnswerBySteps : MethodName := ⟨RX7, "hasAnswerBySteps", "(I)Z"⟩
abbrev cX7_narrowAside : ByteArray := prog_1_method_35_code
def yX7_narrowAside : MethodName := ⟨RX7, "narrowAside", "()I"⟩
abbrev cX7_countWays : ByteArray := prog_1_method_36_code
def yX7_countWays : MethodName := ⟨RX7, "countWays", "([II)I"⟩
abbrev cX7_findsAnswerWith : ByteArray := prog_1_method_37_code
def yX7_findsAnswerWith : MethodName := ⟨RX7, "findsAnswerWith", "(II)Z"⟩
abbrev cX7_findsAnswer : ByteArray := prog_1_method_38_code
def yX7_findsAnswer : MethodName := ⟨RX7, "findsAnswer", "([I)Z"⟩
abbrev cX7_keepAnswer : ByteArray := prog_1_method_39_code
def yX7_keepAnswer : MethodName := ⟨RX7, "keepAnswer", "()V"⟩
abbrev cX7_line : ByteArray := prog_1_method_40_code
def yX7_line : MethodName := ⟨RX7, "line", "(I)I"⟩
abbrev cX7_says : ByteArray := prog_1_method_41_code
def yX7_says : MethodName := ⟨RX7, "says", "(IIII)I"⟩
abbrev cX7_forge : ByteArray := prog_1_method_42_code
def yX7_forge : MethodName := ⟨RX7, "forge", "(IIII)I"⟩
abbrev cX7_check : ByteArray := prog_1_method_43_code
def yX7_check : MethodName := ⟨RX7, "check", "()I"⟩
abbrev cX7_refutes : ByteArray := prog_1_method_44_code
def yX7_refutes : MethodName := ⟨RX7, "refutes", "()I"⟩
abbrev cX7_isRightByRule : ByteArray := prog_1_method_45_code
def yX7_isRightByRule : MethodName := ⟨RX7, "isRightByRule", "(II)I"⟩
abbrev cX7_isRightByLines : ByteArray := prog_1_method_46_code
def yX7_isRightByLines : MethodName := ⟨RX7, "isRightByLines", "(I)I"⟩
abbrev cX7_cutToldByFalse : ByteArray := prog_1_method_47_code
def yX7_cutToldByFalse : MethodName := ⟨RX7, "cutToldByFalse", "(LNarrowingKernel$Rule;)Z"⟩
abbrev cX7_total : ByteArray := prog_1_method_48_code
def yX7_total : MethodName := ⟨RX7, "total", "(I)I"⟩
abbrev cX7_isUnknown : ByteArray := prog_1_method_49_code
def yX7_isUnknown : MethodName := ⟨RX7, "isUnknown", "(I)Z"⟩
abbrev cX7_isRule : ByteArray := prog_1_method_50_code
def yX7_isRule : MethodName := ⟨RX7, "isRule", "(I)Z"⟩
abbrev cX7_isLine : ByteArray := prog_1_method_51_code
def yX7_isLine : MethodName := ⟨RX7, "isLine", "(I)Z"⟩
abbrev cX7_stands : ByteArray := prog_1_method_52_code
def yX7_stands : MethodName := ⟨RX7, "stands", "(I)Z"⟩
abbrev cX7_isTable : ByteArray := prog_1_method_53_code
def yX7_isTable : MethodName := ⟨RX7, "isTable", "(I)Z"⟩
abbrev cX7_isNumber : ByteArray := prog_1_method_54_code
def yX7_isNumber : MethodName := ⟨RX7, "isNumber", "(I)Z"⟩
abbrev cX7_isLiteral : ByteArray := prog_1_method_55_code
def yX7_isLiteral : MethodName := ⟨RX7, "isLiteral", "(II)Z"⟩
abbrev cX7_numbersSo : ByteArray := prog_1_method_56_code
def yX7_numbersSo : MethodName := ⟨RX7, "numbersSo", "(II)I"⟩
abbrev cX7_found : ByteArray := prog_1_method_57_code
def yX7_found : MethodName := ⟨RX7, "found", "(I)I"⟩
abbrev cX7_letRangesBeAsTold : ByteArray := prog_1_method_58_code
def yX7_letRangesBeAsTold : MethodName := ⟨RX7, "letRangesBeAsTold", "()V"⟩
abbrev cX7_bring : ByteArray := prog_1_method_59_code
def yX7_bring : MethodName := ⟨RX7, "bring", "([I[I)V"⟩
abbrev cX7_noneIsEmpty : ByteArray := prog_1_method_60_code
def yX7_noneIsEmpty : MethodName := ⟨RX7, "noneIsEmpty", "([I)Z"⟩
abbrev cX7_least : ByteArray := prog_1_method_61_code
def yX7_least : MethodName := ⟨RX7, "least", "(I)I"⟩
abbrev cX7_greatest : ByteArray := prog_1_method_62_code
def yX7_greatest : MethodName := ⟨RX7, "greatest", "(I)I"⟩
abbrev cX7_isOne : ByteArray := prog_1_method_63_code
def yX7_isOne : MethodName := ⟨RX7, "isOne", "(I)Z"⟩
def RX8 : String := "NarrowingKernelModel"
def TX8 : u_T := fun k => match k with
  | 0 => ("NarrowingKernelModel", "thrown", "I", false)
  | 1 => ("NarrowingKernelModel", "unknowns", "I", false)
  | 2 => ("NarrowingKernelModel", "told", "[I", true)
  | 3 => ("NarrowingKernelModel", "range", "[I", true)
  | 4 => ("NarrowingKernelModel", "steps", "I", false)
  | 5 => ("NarrowingKernelModel", "stepOf", "[I", true)
  | 6 => ("NarrowingKernelModel", "stepBits", "[I", true)
  | 7 => ("NarrowingKernelModel", "before", "[I", true)
  | 8 => ("NarrowingKernelModel", "rules", "I", false)
  | 9 => ("NarrowingKernelModel", "kind", "[I", true)
  | 10 => ("NarrowingKernelModel", "numberA", "[I", true)
  | 11 => ("NarrowingKernelModel", "numberB", "[I", true)
  | 12 => ("NarrowingKernelModel", "stands", "[Z", true)
  | 13 => ("NarrowingKernelModel", "parts", "[I", true)
  | 14 => ("NarrowingKernelModel", "partOf", "[I", true)
  | 15 => ("NarrowingKernelModel", "partA", "[I", true)
  | 16 => ("NarrowingKernelModel", "partB", "[I", true)
  | 17 => ("NarrowingKernelModel", "cells", "[I", true)
  | 18 => ("NarrowingKernelModel", "cellOf", "[I", true)
  | 19 => ("NarrowingKernelModel", "lines", "I", false)
  | 20 => ("NarrowingKernelModel", "lineRule", "[I", true)
  | 21 => ("NarrowingKernelModel", "lineMany", "[I", true)
  | 22 => ("NarrowingKernelModel", "lineOf", "[I", true)
  | 23 => ("NarrowingKernelModel", "lineBits", "[I", true)
  | 24 => ("NarrowingKernelModel", "findings", "I", false)
  | 25 => ("NarrowingKernelModel", "reasons", "I", false)
  | 26 => ("NarrowingKernelModel", "reasonOf", "[I", true)
  | 27 => ("NarrowingKernelModel", "answered", "I", false)
  | 28 => ("NarrowingKernelModel", "answerOf", "[I", true)
  | 29 => ("NarrowingKernelModel", "aside", "[I", true)
  | 30 => ("NarrowingKernelModel", "fresh", "[I", true)
  | 31 => ("NarrowingKernelModel", "dead", "Z", false)
  | 32 => ("NarrowingKernelModel", "moved", "[I", true)
  | _ => ("NarrowingKernelModel", "val", "[I", true)
def tyX8 : Nat → FieldType := fun k => match k with
  | 0 => .int
  | 1 => .int
  | 2 => .array .int
  | 3 => .array .int
  | 4 => .int
  | 5 => .array .int
  | 6 => .array .int
  | 7 => .array .int
  | 8 => .int
  | 9 => .array .int
  | 10 => .array .int
  | 11 => .array .int
  | 12 => .array .boolean
  | 13 => .array .int
  | 14 => .array .int
  | 15 => .array .int
  | 16 => .array .int
  | 17 => .array .int
  | 18 => .array .int
  | 19 => .int
  | 20 => .array .int
  | 21 => .array .int
  | 22 => .array .int
  | 23 => .array .int
  | 24 => .int
  | 25 => .int
  | 26 => .array .int
  | 27 => .int
  | 28 => .array .int
  | 29 => .array .int
  | 30 => .array .int
  | 31 => .boolean
  | 32 => .array .int
  | _ => .array .int
abbrev wsX80 : List Cond := u_ws RX8 TX8 34
theorem nmX8 : ∀ a, a < 34 → ∀ b, b < 34 → a ≠ b → (TX8 a).2.1 ≠ (TX8 b).2.1 := by decide +kernel
theorem tyX8_ok : ∀ k, k < 34 → parseFieldDescriptor (TX8 k).2.2.1 = some (tyX8 k) := by decide +kernel
abbrev cX8_init : ByteArray := prog_10_method_1_code
def yX8_init : MethodName := ⟨RX8, "<init>", "()V"⟩
abbrev cX8_in : ByteArray := prog_10_method_3_code
def yX8_in : MethodName := ⟨RX8, "in", "(JJJ)Z"⟩
abbrev cX8_noUnknown : ByteArray := prog_10_method_4_code
def yX8_noUnknown : MethodName := ⟨RX8, "noUnknown", "(I)Z"⟩
abbrev cX8_noRule : ByteArray := prog_10_method_5_code
def yX8_noRule : MethodName := ⟨RX8, "noRule", "(I)Z"⟩
abbrev cX8_finds : ByteArray := prog_10_method_6_code
def yX8_finds : MethodName := ⟨RX8, "finds", "(I)I"⟩
abbrev cX8_bits : ByteArray := prog_10_method_7_code
def yX8_bits : MethodName := ⟨RX8, "bits", "(II)I"⟩
abbrev cX8_many : ByteArray := prog_10_method_8_code
def yX8_many : MethodName := ⟨RX8, "many", "(I)I"⟩
abbrev cX8_least : ByteArray := prog_10_method_9_code
def yX8_least : MethodName := ⟨RX8, "least", "(I)I"⟩
abbrev cX8_greatest : ByteArray := prog_10_method_10_code
def yX8_greatest : MethodName := ⟨RX8, "greatest", "(I)I"⟩
abbrev cX8_asTold : ByteArray := prog_10_method_11_code
def yX8_asTold : MethodName := ⟨RX8, "asTold", "()V"⟩
abbrev cX8_unknown : ByteArray := prog_10_method_12_code
def yX8_unknown : MethodName := ⟨RX8, "unknown", "(II)I"⟩
abbrev cX8_hole : ByteArray := prog_10_method_13_code
def yX8_hole : MethodName := ⟨RX8, "hole", "(II)I"⟩
abbrev cX8_rule : ByteArray := prog_10_method_14_code
def yX8_rule : MethodName := ⟨RX8, "rule", "(III)I"⟩
abbrev cX8_part : ByteArray := prog_10_method_15_code
def yX8_part : MethodName := ⟨RX8, "part", "(IIII)I"⟩
abbrev cX8_added : ByteArray := prog_10_method_16_code
def yX8_added : MethodName := ⟨RX8, "added", "(IIII)I"⟩
abbrev cX8_literal : ByteArray := prog_10_method_17_code
def yX8_literal : MethodName := ⟨RX8, "literal", "(IIII)I"⟩
abbrev cX8_stand : ByteArray := prog_10_method_18_code
def yX8_stand : MethodName := ⟨RX8, "stand", "(IZ)I"⟩
abbrev cX8_table : ByteArray := prog_10_method_19_code
def yX8_table : MethodName := ⟨RX8, "table", "(III)I"⟩
abbrev cX8_tear : ByteArray := prog_10_method_20_code
def yX8_tear : MethodName := ⟨RX8, "tear", "(I)I"⟩
abbrev cX8_cell : ByteArray := prog_10_method_21_code
def yX8_cell : MethodName := ⟨RX8, "cell", "(III)I"⟩
abbrev cX8_copy : ByteArray := prog_10_method_22_code
def yX8_copy : MethodName := ⟨RX8, "copy", "(IIIII)I"⟩
abbrev cX8_get : ByteArray := prog_10_method_23_code
def yX8_get : MethodName := ⟨RX8, "get", "(II)I"⟩
abbrev cX8_about : ByteArray := prog_10_method_24_code
def yX8_about : MethodName := ⟨RX8, "about", "(II)I"⟩
abbrev cX8_asideOf : ByteArray := prog_10_method_25_code
def yX8_asideOf : MethodName := ⟨RX8, "asideOf", "(II)I"⟩
abbrev cX8_end : ByteArray := prog_10_method_26_code
def yX8_end : MethodName := ⟨RX8, "end", "(IIZ)I"⟩
abbrev cX8_goesBySum : ByteArray := prog_10_method_27_code
def yX8_goesBySum : MethodName := ⟨RX8, "goesBySum", "(III)Z"⟩
abbrev cX8_goesByUnlike : ByteArray := prog_10_method_28_code
def yX8_goesByUnlike : MethodName := ⟨RX8, "goesByUnlike", "(III)Z"⟩
abbrev cX8_goesByTable : ByteArray := prog_10_method_29_code
def yX8_goesByTable : MethodName := ⟨RX8, "goesByTable", "(III)Z"⟩
abbrev cX8_mustRun : ByteArray := prog_10_method_30_code
def yX8_mustRun : MethodName := ⟨RX8, "mustRun", "(III)Z"⟩
abbrev cX8_goesByLoad : ByteArray := prog_10_method_31_code
def yX8_goesByLoad : MethodName := ⟨RX8, "goesByLoad", "(III)Z"⟩
abbrev cX8_goesByRing : ByteArray := prog_10_method_32_code
def yX8_goesByRing : MethodName := ⟨RX8, "goesByRing", "(III)Z"⟩
abbrev cX8_goesByClause : ByteArray := prog_10_method_33_code
def yX8_goesByClause : MethodName := ⟨RX8, "goesByClause", "(III)Z"⟩
abbrev cX8_goes : ByteArray := prog_10_method_34_code
def yX8_goes : MethodName := ⟨RX8, "goes", "(III)Z"⟩
abbrev cX8_left : ByteArray := prog_10_method_35_code
def yX8_left : MethodName := ⟨RX8, "left", "(II)I"⟩
abbrev cX8_fitsBare : ByteArray := prog_10_method_36_code
def yX8_fitsBare : MethodName := ⟨RX8, "fitsBare", "(I)Z"⟩
abbrev cX8_hasNone : ByteArray := prog_10_method_37_code
def yX8_hasNone : MethodName := ⟨RX8, "hasNone", "()Z"⟩
abbrev cX8_narrowAside : ByteArray := prog_10_method_38_code
def yX8_narrowAside : MethodName := ⟨RX8, "narrowAside", "()V"⟩
abbrev cX8_asideAs : ByteArray := prog_10_method_39_code
def yX8_asideAs : MethodName := ⟨RX8, "asideAs", "(Z)V"⟩
abbrev cX8_narrow : ByteArray := prog_10_method_40_code
def yX8_narrow : MethodName := ⟨RX8, "narrow", "()I"⟩
abbrev cX8_takes : ByteArray := prog_10_method_41_code
def yX8_takes : MethodName := ⟨RX8, "takes", "(I)I"⟩
abbrev cX8_step : ByteArray := prog_10_method_42_code
def yX8_step : MethodName := ⟨RX8, "step", "(III)I"⟩
abbrev cX8_undo : ByteArray := prog_10_method_43_code
def yX8_undo : MethodName := ⟨RX8, "undo", "(I)I"⟩
abbrev cX8_range : ByteArray := prog_10_method_44_code
def yX8_range : MethodName := ⟨RX8, "range", "(II)I"⟩
abbrev cX8_asideCut : ByteArray := prog_10_method_45_code
def yX8_asideCut : MethodName := ⟨RX8, "asideCut", "(I)V"⟩
abbrev cX8_isLacked : ByteArray := prog_10_method_46_code
def yX8_isLacked : MethodName := ⟨RX8, "isLacked", "(III)Z"⟩
abbrev cX8_reasoned : ByteArray := prog_10_method_47_code
def yX8_reasoned : MethodName := ⟨RX8, "reasoned", "(I)I"⟩
abbrev cX8_why : ByteArray := prog_10_method_48_code
def yX8_why : MethodName := ⟨RX8, "why", "(II)I"⟩
abbrev cX8_reason : ByteArray := prog_10_method_49_code
def yX8_reason : MethodName := ⟨RX8, "reason", "(I)I"⟩
abbrev cX8_fitsLoad : ByteArray := prog_10_method_50_code
def yX8_fitsLoad : MethodName := ⟨RX8, "fitsLoad", "(I)Z"⟩
abbrev cX8_fitsTable : ByteArray := prog_10_method_51_code
def yX8_fitsTable : MethodName := ⟨RX8, "fitsTable", "(I)Z"⟩
abbrev cX8_fitsRing : ByteArray := prog_10_method_52_code
def yX8_fitsRing : MethodName := ⟨RX8, "fitsRing", "(I)Z"⟩
abbrev cX8_fitsSum : ByteArray := prog_10_method_53_code
def yX8_fitsSum : MethodName := ⟨RX8, "fitsSum", "(I)Z"⟩
abbrev cX8_fitsUnlike : ByteArray := prog_10_method_54_code
def yX8_fitsUnlike : MethodName := ⟨RX8, "fitsUnlike", "(I)Z"⟩
abbrev cX8_fitsClause : ByteArray := prog_10_method_55_code
def yX8_fitsClause : MethodName := ⟨RX8, "fitsClause", "(I)Z"⟩
abbrev cX8_fits : ByteArray := prog_10_method_56_code
def yX8_fits : MethodName := ⟨RX8, "fits", "(I)Z"⟩
abbrev cX8_fitsAll : ByteArray := prog_10_method_57_code
def yX8_fitsAll : MethodName := ⟨RX8, "fitsAll", "()Z"⟩
abbrev cX8_isFar : ByteArray := prog_10_method_58_code
def yX8_isFar : MethodName := ⟨RX8, "isFar", "()Z"⟩
abbrev cX8_first : ByteArray := prog_10_method_59_code
def yX8_first : MethodName := ⟨RX8, "first", "()V"⟩
abbrev cX8_goesOn : ByteArray := prog_10_method_60_code
def yX8_goesOn : MethodName := ⟨RX8, "goesOn", "()Z"⟩
abbrev cX8_begun : ByteArray := prog_10_method_61_code
def yX8_begun : MethodName := ⟨RX8, "begun", "()I"⟩
abbrev cX8_keep : ByteArray := prog_10_method_62_code
def yX8_keep : MethodName := ⟨RX8, "keep", "()V"⟩
abbrev cX8_solve : ByteArray := prog_10_method_63_code
def yX8_solve : MethodName := ⟨RX8, "solve", "()I"⟩
abbrev cX8_isAbove : ByteArray := prog_10_method_64_code
def yX8_isAbove : MethodName := ⟨RX8, "isAbove", "()Z"⟩
abbrev cX8_next : ByteArray := prog_10_method_65_code
def yX8_next : MethodName := ⟨RX8, "next", "()I"⟩
abbrev cX8_answer : ByteArray := prog_10_method_66_code
def yX8_answer : MethodName := ⟨RX8, "answer", "(I)I"⟩
abbrev cX8_count : ByteArray := prog_10_method_67_code
def yX8_count : MethodName := ⟨RX8, "count", "(I)I"⟩
abbrev cX8_best : ByteArray := prog_10_method_68_code
def yX8_best : MethodName := ⟨RX8, "best", "(IZ)I"⟩
abbrev cX8_has : ByteArray := prog_10_method_69_code
def yX8_has : MethodName := ⟨RX8, "has", "(III)I"⟩
abbrev cX8_hasAnswer : ByteArray := prog_10_method_70_code
def yX8_hasAnswer : MethodName := ⟨RX8, "hasAnswer", "(I)Z"⟩
abbrev cX8_core : ByteArray := prog_10_method_71_code
def yX8_core : MethodName := ⟨RX8, "core", "()I"⟩
abbrev cX8_noLine : ByteArray := prog_10_method_72_code
def yX8_noLine : MethodName := ⟨RX8, "noLine", "(I)Z"⟩
abbrev cX8_line : ByteArray := prog_10_method_73_code
def yX8_line : MethodName := ⟨RX8, "line", "(I)I"⟩
abbrev cX8_says : ByteArray := prog_10_method_74_code
def yX8_says : MethodName := ⟨RX8, "says", "(IIII)I"⟩
abbrev cX8_forge : ByteArray := prog_10_method_75_code
def yX8_forge : MethodName := ⟨RX8, "forge", "(IIII)I"⟩
abbrev cX8_byRule : ByteArray := prog_10_method_76_code
def yX8_byRule : MethodName := ⟨RX8, "byRule", "(I)I"⟩
abbrev cX8_takesByLine : ByteArray := prog_10_method_77_code
def yX8_takesByLine : MethodName := ⟨RX8, "takesByLine", "(I)Z"⟩
abbrev cX8_byLines : ByteArray := prog_10_method_78_code
def yX8_byLines : MethodName := ⟨RX8, "byLines", "(I)I"⟩
abbrev cX8_firstWrong : ByteArray := prog_10_method_79_code
def yX8_firstWrong : MethodName := ⟨RX8, "firstWrong", "()I"⟩
abbrev cX8_check : ByteArray := prog_10_method_80_code
def yX8_check : MethodName := ⟨RX8, "check", "()I"⟩
abbrev cX8_refutes : ByteArray := prog_10_method_81_code
def yX8_refutes : MethodName := ⟨RX8, "refutes", "()I"⟩
abbrev cX8_total : ByteArray := prog_10_method_82_code
def yX8_total : MethodName := ⟨RX8, "total", "(I)I"⟩
def RJ6 : String := "java/lang/Integer"
def TJ6 : u_T := fun k => match k with
  | _ => ("", "", "", false)
def tyJ6 : Nat → FieldType := fun k => match k with
  | _ => .int
abbrev wsJ60 : List Cond := u_ws RJ6 TJ6 0
theorem nmJ6 : ∀ a, a < 0 → ∀ b, b < 0 → a ≠ b → (TJ6 a).2.1 ≠ (TJ6 b).2.1 := by decide +kernel
theorem tyJ6_ok : ∀ k, k < 0 → parseFieldDescriptor (TJ6 k).2.2.1 = some (tyJ6 k) := by decide +kernel
abbrev cJ6_numberOfLeadingZeros_0f7a4 : ByteArray := prog_11_method_47_code
def yJ6_numberOfLeadingZeros_0f7a4 : MethodName := ⟨RJ6, "numberOfLeadingZeros", "(I)I"⟩
abbrev cJ6_numberOfTrailingZeros_0f7a4 : ByteArray := prog_11_method_48_code
def yJ6_numberOfTrailingZeros_0f7a4 : MethodName := ⟨RJ6, "numberOfTrailingZeros", "(I)I"⟩
abbrev cJ6_bitCount_0f7a4 : ByteArray := prog_11_method_49_code
def yJ6_bitCount_0f7a4 : MethodName := ⟨RJ6, "bitCount", "(I)I"⟩
def RJ13 : String := "java/lang/Long"
def TJ13 : u_T := fun k => match k with
  | _ => ("", "", "", false)
def tyJ13 : Nat → FieldType := fun k => match k with
  | _ => .int
abbrev wsJ130 : List Cond := u_ws RJ13 TJ13 0
theorem nmJ13 : ∀ a, a < 0 → ∀ b, b < 0 → a ≠ b → (TJ13 a).2.1 ≠ (TJ13 b).2.1 := by decide +kernel
theorem tyJ13_ok : ∀ k, k < 0 → parseFieldDescriptor (TJ13 k).2.2.1 = some (tyJ13 k) := by decide +kernel
abbrev cJ13_numberOfTrailingZeros_95d88 : ByteArray := prog_12_method_49_code
def yJ13_numberOfTrailingZeros_95d88 : MethodName := ⟨RJ13, "numberOfTrailingZeros", "(J)I"⟩
def RJ9 : String := "java/lang/Math"
def TJ9 : u_T := fun k => match k with
  | _ => ("", "", "", false)
def tyJ9 : Nat → FieldType := fun k => match k with
  | _ => .int
abbrev wsJ90 : List Cond := u_ws RJ9 TJ9 0
theorem nmJ9 : ∀ a, a < 0 → ∀ b, b < 0 → a ≠ b → (TJ9 a).2.1 ≠ (TJ9 b).2.1 := by decide +kernel
theorem tyJ9_ok : ∀ k, k < 0 → parseFieldDescriptor (TJ9 k).2.2.1 = some (tyJ9 k) := by decide +kernel
abbrev cJ9_max_7cf53 : ByteArray := prog_13_method_65_code
def yJ9_max_7cf53 : MethodName := ⟨RJ9, "max", "(II)I"⟩
abbrev cJ9_min_7cf53 : ByteArray := prog_13_method_69_code
def yJ9_min_7cf53 : MethodName := ⟨RJ9, "min", "(II)I"⟩
def RJ10 : String := "java/lang/System"
def TJ10 : u_T := fun k => match k with
  | _ => ("", "", "", false)
def tyJ10 : Nat → FieldType := fun k => match k with
  | _ => .int
abbrev wsJ100 : List Cond := u_ws RJ10 TJ10 0
theorem nmJ10 : ∀ a, a < 0 → ∀ b, b < 0 → a ≠ b → (TJ10 a).2.1 ≠ (TJ10 b).2.1 := by decide +kernel
theorem tyJ10_ok : ∀ k, k < 0 → parseFieldDescriptor (TJ10 k).2.2.1 = some (tyJ10 k) := by decide +kernel
def RL : String := "NarrowingKernelLaw"
abbrev cL_law : ByteArray := code
def yL_law : MethodName := ⟨RL, "law", "([I)Z"⟩
abbrev vwCl : List vw_C := [(RX0, TX0, 1), (RX1, TX1, 5), (RX2, TX2, 2), (RX3, TX3, 8), (RX4, TX4, 6), (RX5, TX5, 4), (RX6, TX6, 2), (RX7, TX7, 20), (RX8, TX8, 34)]
