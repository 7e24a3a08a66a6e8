section
-- ===== PART A: goes FIRST, ahead of the names: the tables' words, and 'selects' of the private methods out of them =====
/-- a private method of a class that the tables say can be made, by its rows of tables_1 -/
def lw_okq (q : MethodName × Nat) : Prop := (q.1.cls ≠ "java/lang/invoke/MethodHandle" ∧ q.1.cls ≠ "java/lang/invoke/VarHandle") ∧ Cond.instantiable q.1.cls q.2 ∈ tables_1 ∧ Cond.privateMethod q.1 ∈ tables_1 ∧ Cond.instanceMethod q.1 ∈ tables_1
theorem lw_p0 : lw_okq (⟨"NarrowingKernel", "letRangesBeAsTold", "()V"⟩, 20) := ⟨⟨by decide +kernel, by decide +kernel⟩, List.mem_of_getElem? (i := 15) (by decide +kernel), List.mem_of_getElem? (i := 263) (by decide +kernel), List.mem_of_getElem? (i := 264) (by decide +kernel)⟩
theorem lw_p1 : lw_okq (⟨"NarrowingKernel", "isUnknown", "(I)Z"⟩, 20) := ⟨⟨by decide +kernel, by decide +kernel⟩, List.mem_of_getElem? (i := 15) (by decide +kernel), List.mem_of_getElem? (i := 277) (by decide +kernel), List.mem_of_getElem? (i := 278) (by decide +kernel)⟩
theorem lw_p2 : lw_okq (⟨"NarrowingKernel", "isRule", "(I)Z"⟩, 20) := ⟨⟨by decide +kernel, by decide +kernel⟩, List.mem_of_getElem? (i := 15) (by decide +kernel), List.mem_of_getElem? (i := 305) (by decide +kernel), List.mem_of_getElem? (i := 306) (by decide +kernel)⟩
theorem lw_p3 : lw_okq (⟨"NarrowingKernel", "found", "(I)I"⟩, 20) := ⟨⟨by decide +kernel, by decide +kernel⟩, List.mem_of_getElem? (i := 15) (by decide +kernel), List.mem_of_getElem? (i := 309) (by decide +kernel), List.mem_of_getElem? (i := 310) (by decide +kernel)⟩
theorem lw_p4 : lw_okq (⟨"NarrowingKernel", "stands", "(I)Z"⟩, 20) := ⟨⟨by decide +kernel, by decide +kernel⟩, List.mem_of_getElem? (i := 15) (by decide +kernel), List.mem_of_getElem? (i := 339) (by decide +kernel), List.mem_of_getElem? (i := 340) (by decide +kernel)⟩
theorem lw_p5 : lw_okq (⟨"NarrowingKernel$Narrower", "emptyRulesFit", "([LNarrowingKernel$Rule;J[I)Z"⟩, 2) := ⟨⟨by decide +kernel, by decide +kernel⟩, List.mem_of_getElem? (i := 135) (by decide +kernel), List.mem_of_getElem? (i := 391) (by decide +kernel), List.mem_of_getElem? (i := 392) (by decide +kernel)⟩
theorem lw_p6 : lw_okq (⟨"NarrowingKernel$Fitter", "fitsTable", "(LNarrowingKernel$Rule;[I)Z"⟩, 1) := ⟨⟨by decide +kernel, by decide +kernel⟩, List.mem_of_getElem? (i := 125) (by decide +kernel), List.mem_of_getElem? (i := 405) (by decide +kernel), List.mem_of_getElem? (i := 406) (by decide +kernel)⟩
theorem lw_p7 : lw_okq (⟨"NarrowingKernel$Looker", "lookAtSum", "(LNarrowingKernel$Rule;[I)V"⟩, 5) := ⟨⟨by decide +kernel, by decide +kernel⟩, List.mem_of_getElem? (i := 137) (by decide +kernel), List.mem_of_getElem? (i := 426) (by decide +kernel), List.mem_of_getElem? (i := 427) (by decide +kernel)⟩
theorem lw_p8 : lw_okq (⟨"NarrowingKernel$Looker", "lookAtUnlike", "(LNarrowingKernel$Rule;[I)V"⟩, 5) := ⟨⟨by decide +kernel, by decide +kernel⟩, List.mem_of_getElem? (i := 137) (by decide +kernel), List.mem_of_getElem? (i := 449) (by decide +kernel), List.mem_of_getElem? (i := 450) (by decide +kernel)⟩
theorem lw_p9 : lw_okq (⟨"NarrowingKernel$Looker", "takeAll", "(LNarrowingKernel$Rule;[I)V"⟩, 5) := ⟨⟨by decide +kernel, by decide +kernel⟩, List.mem_of_getElem? (i := 137) (by decide +kernel), List.mem_of_getElem? (i := 454) (by decide +kernel), List.mem_of_getElem? (i := 455) (by decide +kernel)⟩
theorem lw_p10 : lw_okq (⟨"NarrowingKernel$Looker", "takeFromOthers", "(LNarrowingKernel$Rule;[II)V"⟩, 5) := ⟨⟨by decide +kernel, by decide +kernel⟩, List.mem_of_getElem? (i := 137) (by decide +kernel), List.mem_of_getElem? (i := 458) (by decide +kernel), List.mem_of_getElem? (i := 459) (by decide +kernel)⟩
theorem lw_p11 : lw_okq (⟨"NarrowingKernel$Looker", "lookAtTable", "(LNarrowingKernel$Rule;[I)V"⟩, 5) := ⟨⟨by decide +kernel, by decide +kernel⟩, List.mem_of_getElem? (i := 137) (by decide +kernel), List.mem_of_getElem? (i := 462) (by decide +kernel), List.mem_of_getElem? (i := 463) (by decide +kernel)⟩
theorem lw_p12 : lw_okq (⟨"NarrowingKernel$Looker", "giveBack", "(LNarrowingKernel$Rule;[II)V"⟩, 5) := ⟨⟨by decide +kernel, by decide +kernel⟩, List.mem_of_getElem? (i := 137) (by decide +kernel), List.mem_of_getElem? (i := 467) (by decide +kernel), List.mem_of_getElem? (i := 468) (by decide +kernel)⟩
theorem lw_p13 : lw_okq (⟨"NarrowingKernel$Looker", "lookAtLoad", "(LNarrowingKernel$Rule;[I)V"⟩, 5) := ⟨⟨by decide +kernel, by decide +kernel⟩, List.mem_of_getElem? (i := 137) (by decide +kernel), List.mem_of_getElem? (i := 471) (by decide +kernel), List.mem_of_getElem? (i := 472) (by decide +kernel)⟩
theorem lw_p14 : lw_okq (⟨"NarrowingKernel$Looker", "loadTakes", "(LNarrowingKernel$Rule;IIII)Z"⟩, 5) := ⟨⟨by decide +kernel, by decide +kernel⟩, List.mem_of_getElem? (i := 137) (by decide +kernel), List.mem_of_getElem? (i := 489) (by decide +kernel), List.mem_of_getElem? (i := 490) (by decide +kernel)⟩
theorem lw_p15 : lw_okq (⟨"NarrowingKernel$Looker", "lookAtRing", "(LNarrowingKernel$Rule;[I)V"⟩, 5) := ⟨⟨by decide +kernel, by decide +kernel⟩, List.mem_of_getElem? (i := 137) (by decide +kernel), List.mem_of_getElem? (i := 493) (by decide +kernel), List.mem_of_getElem? (i := 494) (by decide +kernel)⟩
def lw_privs_1 : List (MethodName × Nat) := [(⟨"NarrowingKernel", "letRangesBeAsTold", "()V"⟩, 20), (⟨"NarrowingKernel", "isUnknown", "(I)Z"⟩, 20), (⟨"NarrowingKernel", "isRule", "(I)Z"⟩, 20), (⟨"NarrowingKernel", "found", "(I)I"⟩, 20), (⟨"NarrowingKernel", "stands", "(I)Z"⟩, 20), (⟨"NarrowingKernel$Narrower", "emptyRulesFit", "([LNarrowingKernel$Rule;J[I)Z"⟩, 2), (⟨"NarrowingKernel$Fitter", "fitsTable", "(LNarrowingKernel$Rule;[I)Z"⟩, 1), (⟨"NarrowingKernel$Looker", "lookAtSum", "(LNarrowingKernel$Rule;[I)V"⟩, 5), (⟨"NarrowingKernel$Looker", "lookAtUnlike", "(LNarrowingKernel$Rule;[I)V"⟩, 5), (⟨"NarrowingKernel$Looker", "takeAll", "(LNarrowingKernel$Rule;[I)V"⟩, 5), (⟨"NarrowingKernel$Looker", "takeFromOthers", "(LNarrowingKernel$Rule;[II)V"⟩, 5), (⟨"NarrowingKernel$Looker", "lookAtTable", "(LNarrowingKernel$Rule;[I)V"⟩, 5), (⟨"NarrowingKernel$Looker", "giveBack", "(LNarrowingKernel$Rule;[II)V"⟩, 5), (⟨"NarrowingKernel$Looker", "lookAtLoad", "(LNarrowingKernel$Rule;[I)V"⟩, 5), (⟨"NarrowingKernel$Looker", "loadTakes", "(LNarrowingKernel$Rule;IIII)Z"⟩, 5), (⟨"NarrowingKernel$Looker", "lookAtRing", "(LNarrowingKernel$Rule;[I)V"⟩, 5)]
theorem lw_r1 : ∀ q ∈ lw_privs_1, lw_okq q := List.forall_mem_cons.mpr ⟨lw_p0, List.forall_mem_cons.mpr ⟨lw_p1, List.forall_mem_cons.mpr ⟨lw_p2, List.forall_mem_cons.mpr ⟨lw_p3, List.forall_mem_cons.mpr ⟨lw_p4, List.forall_mem_cons.mpr ⟨lw_p5, List.forall_mem_cons.mpr ⟨lw_p6, List.forall_mem_cons.mpr ⟨lw_p7, List.forall_mem_cons.mpr ⟨lw_p8, List.forall_mem_cons.mpr ⟨lw_p9, List.forall_mem_cons.mpr ⟨lw_p10, List.forall_mem_cons.mpr ⟨lw_p11, List.forall_mem_cons.mpr ⟨lw_p12, List.forall_mem_cons.mpr ⟨lw_p13, List.forall_mem_cons.mpr ⟨lw_p14, List.forall_mem_cons.mpr ⟨lw_p15, fun _ h => absurd h List.not_mem_nil⟩⟩⟩⟩⟩⟩⟩⟩⟩⟩⟩⟩⟩⟩⟩⟩
theorem lw_p16 : lw_okq (⟨"NarrowingKernel$Looker", "lookAtClause", "(LNarrowingKernel$Rule;[I)V"⟩, 5) := ⟨⟨by decide +kernel, by decide +kernel⟩, List.mem_of_getElem? (i := 137) (by decide +kernel), List.mem_of_getElem? (i := 500) (by decide +kernel), List.mem_of_getElem? (i := 501) (by decide +kernel)⟩
theorem lw_p17 : lw_okq (⟨"NarrowingKernel", "isLacked", "(III)Z"⟩, 20) := ⟨⟨by decide +kernel, by decide +kernel⟩, List.mem_of_getElem? (i := 15) (by decide +kernel), List.mem_of_getElem? (i := 536) (by decide +kernel), List.mem_of_getElem? (i := 537) (by decide +kernel)⟩
theorem lw_p18 : lw_okq (⟨"NarrowingKernel", "narrowToldBySteps", "(I)Z"⟩, 20) := ⟨⟨by decide +kernel, by decide +kernel⟩, List.mem_of_getElem? (i := 15) (by decide +kernel), List.mem_of_getElem? (i := 540) (by decide +kernel), List.mem_of_getElem? (i := 541) (by decide +kernel)⟩
theorem lw_p19 : lw_okq (⟨"NarrowingKernel", "noneIsEmpty", "([I)Z"⟩, 20) := ⟨⟨by decide +kernel, by decide +kernel⟩, List.mem_of_getElem? (i := 15) (by decide +kernel), List.mem_of_getElem? (i := 544) (by decide +kernel), List.mem_of_getElem? (i := 545) (by decide +kernel)⟩
theorem lw_p20 : lw_okq (⟨"NarrowingKernel", "keepReasons", "(I)I"⟩, 20) := ⟨⟨by decide +kernel, by decide +kernel⟩, List.mem_of_getElem? (i := 15) (by decide +kernel), List.mem_of_getElem? (i := 548) (by decide +kernel), List.mem_of_getElem? (i := 549) (by decide +kernel)⟩
theorem lw_p21 : lw_okq (⟨"NarrowingKernel", "narrowAside", "()I"⟩, 20) := ⟨⟨by decide +kernel, by decide +kernel⟩, List.mem_of_getElem? (i := 15) (by decide +kernel), List.mem_of_getElem? (i := 560) (by decide +kernel), List.mem_of_getElem? (i := 561) (by decide +kernel)⟩
theorem lw_p22 : lw_okq (⟨"NarrowingKernel", "countWays", "([II)I"⟩, 20) := ⟨⟨by decide +kernel, by decide +kernel⟩, List.mem_of_getElem? (i := 15) (by decide +kernel), List.mem_of_getElem? (i := 564) (by decide +kernel), List.mem_of_getElem? (i := 565) (by decide +kernel)⟩
theorem lw_p23 : lw_okq (⟨"NarrowingKernel", "findsAnswer", "([I)Z"⟩, 20) := ⟨⟨by decide +kernel, by decide +kernel⟩, List.mem_of_getElem? (i := 15) (by decide +kernel), List.mem_of_getElem? (i := 568) (by decide +kernel), List.mem_of_getElem? (i := 569) (by decide +kernel)⟩
theorem lw_p24 : lw_okq (⟨"NarrowingKernel$Search", "arrange", "([II[LNarrowingKernel$Rule;J)I"⟩, 6) := ⟨⟨by decide +kernel, by decide +kernel⟩, List.mem_of_getElem? (i := 171) (by decide +kernel), List.mem_of_getElem? (i := 576) (by decide +kernel), List.mem_of_getElem? (i := 577) (by decide +kernel)⟩
theorem lw_p25 : lw_okq (⟨"NarrowingKernel$Search", "lastStage", "(LNarrowingKernel$Rule;)I"⟩, 6) := ⟨⟨by decide +kernel, by decide +kernel⟩, List.mem_of_getElem? (i := 171) (by decide +kernel), List.mem_of_getElem? (i := 582) (by decide +kernel), List.mem_of_getElem? (i := 583) (by decide +kernel)⟩
theorem lw_p26 : lw_okq (⟨"NarrowingKernel$Search", "allFit", "([LNarrowingKernel$Rule;J)Z"⟩, 6) := ⟨⟨by decide +kernel, by decide +kernel⟩, List.mem_of_getElem? (i := 171) (by decide +kernel), List.mem_of_getElem? (i := 587) (by decide +kernel), List.mem_of_getElem? (i := 588) (by decide +kernel)⟩
theorem lw_p27 : lw_okq (⟨"NarrowingKernel", "keepAnswer", "()V"⟩, 20) := ⟨⟨by decide +kernel, by decide +kernel⟩, List.mem_of_getElem? (i := 15) (by decide +kernel), List.mem_of_getElem? (i := 597) (by decide +kernel), List.mem_of_getElem? (i := 598) (by decide +kernel)⟩
theorem lw_p28 : lw_okq (⟨"NarrowingKernel", "findsAnswerAbove", "(I)Z"⟩, 20) := ⟨⟨by decide +kernel, by decide +kernel⟩, List.mem_of_getElem? (i := 15) (by decide +kernel), List.mem_of_getElem? (i := 605) (by decide +kernel), List.mem_of_getElem? (i := 606) (by decide +kernel)⟩
theorem lw_p29 : lw_okq (⟨"NarrowingKernel", "findsAnswerWith", "(II)Z"⟩, 20) := ⟨⟨by decide +kernel, by decide +kernel⟩, List.mem_of_getElem? (i := 15) (by decide +kernel), List.mem_of_getElem? (i := 621) (by decide +kernel), List.mem_of_getElem? (i := 622) (by decide +kernel)⟩
theorem lw_p30 : lw_okq (⟨"NarrowingKernel", "hasAnswerBySteps", "(I)Z"⟩, 20) := ⟨⟨by decide +kernel, by decide +kernel⟩, List.mem_of_getElem? (i := 15) (by decide +kernel), List.mem_of_getElem? (i := 633) (by decide +kernel), List.mem_of_getElem? (i := 634) (by decide +kernel)⟩
theorem lw_p31 : lw_okq (⟨"NarrowingKernel", "isLine", "(I)Z"⟩, 20) := ⟨⟨by decide +kernel, by decide +kernel⟩, List.mem_of_getElem? (i := 15) (by decide +kernel), List.mem_of_getElem? (i := 645) (by decide +kernel), List.mem_of_getElem? (i := 646) (by decide +kernel)⟩
def lw_privs_2 : List (MethodName × Nat) := [(⟨"NarrowingKernel$Looker", "lookAtClause", "(LNarrowingKernel$Rule;[I)V"⟩, 5), (⟨"NarrowingKernel", "isLacked", "(III)Z"⟩, 20), (⟨"NarrowingKernel", "narrowToldBySteps", "(I)Z"⟩, 20), (⟨"NarrowingKernel", "noneIsEmpty", "([I)Z"⟩, 20), (⟨"NarrowingKernel", "keepReasons", "(I)I"⟩, 20), (⟨"NarrowingKernel", "narrowAside", "()I"⟩, 20), (⟨"NarrowingKernel", "countWays", "([II)I"⟩, 20), (⟨"NarrowingKernel", "findsAnswer", "([I)Z"⟩, 20), (⟨"NarrowingKernel$Search", "arrange", "([II[LNarrowingKernel$Rule;J)I"⟩, 6), (⟨"NarrowingKernel$Search", "lastStage", "(LNarrowingKernel$Rule;)I"⟩, 6), (⟨"NarrowingKernel$Search", "allFit", "([LNarrowingKernel$Rule;J)Z"⟩, 6), (⟨"NarrowingKernel", "keepAnswer", "()V"⟩, 20), (⟨"NarrowingKernel", "findsAnswerAbove", "(I)Z"⟩, 20), (⟨"NarrowingKernel", "findsAnswerWith", "(II)Z"⟩, 20), (⟨"NarrowingKernel", "hasAnswerBySteps", "(I)Z"⟩, 20), (⟨"NarrowingKernel", "isLine", "(I)Z"⟩, 20)]
theorem lw_r2 : ∀ q ∈ lw_privs_2, lw_okq q := List.forall_mem_cons.mpr ⟨lw_p16, List.forall_mem_cons.mpr ⟨lw_p17, List.forall_mem_cons.mpr ⟨lw_p18, List.forall_mem_cons.mpr ⟨lw_p19, List.forall_mem_cons.mpr ⟨lw_p20, List.forall_mem_cons.mpr ⟨lw_p21, List.forall_mem_cons.mpr ⟨lw_p22, List.forall_mem_cons.mpr ⟨lw_p23, List.forall_mem_cons.mpr ⟨lw_p24, List.forall_mem_cons.mpr ⟨lw_p25, List.forall_mem_cons.mpr ⟨lw_p26, List.forall_mem_cons.mpr ⟨lw_p27, List.forall_mem_cons.mpr ⟨lw_p28, List.forall_mem_cons.mpr ⟨lw_p29, List.forall_mem_cons.mpr ⟨lw_p30, List.forall_mem_cons.mpr ⟨lw_p31, fun _ h => absurd h List.not_mem_nil⟩⟩⟩⟩⟩⟩⟩⟩⟩⟩⟩⟩⟩⟩⟩⟩
theorem lw_p32 : lw_okq (⟨"NarrowingKernel", "isRightByLines", "(I)I"⟩, 20) := ⟨⟨by decide +kernel, by decide +kernel⟩, List.mem_of_getElem? (i := 15) (by decide +kernel), List.mem_of_getElem? (i := 657) (by decide +kernel), List.mem_of_getElem? (i := 658) (by decide +kernel)⟩
theorem lw_p33 : lw_okq (⟨"NarrowingKernel", "cutToldByFalse", "(LNarrowingKernel$Rule;)Z"⟩, 20) := ⟨⟨by decide +kernel, by decide +kernel⟩, List.mem_of_getElem? (i := 15) (by decide +kernel), List.mem_of_getElem? (i := 661) (by decide +kernel), List.mem_of_getElem? (i := 662) (by decide +kernel)⟩
theorem lw_p34 : lw_okq (⟨"NarrowingKernel", "isRightByRule", "(II)I"⟩, 20) := ⟨⟨by decide +kernel, by decide +kernel⟩, List.mem_of_getElem? (i := 15) (by decide +kernel), List.mem_of_getElem? (i := 665) (by decide +kernel), List.mem_of_getElem? (i := 666) (by decide +kernel)⟩
theorem lw_p35 : lw_okq (⟨"NarrowingKernelModel", "asTold", "()V"⟩, 34) := ⟨⟨by decide +kernel, by decide +kernel⟩, List.mem_of_getElem? (i := 683) (by decide +kernel), List.mem_of_getElem? (i := 805) (by decide +kernel), List.mem_of_getElem? (i := 806) (by decide +kernel)⟩
theorem lw_p36 : lw_okq (⟨"NarrowingKernelModel", "noUnknown", "(I)Z"⟩, 34) := ⟨⟨by decide +kernel, by decide +kernel⟩, List.mem_of_getElem? (i := 683) (by decide +kernel), List.mem_of_getElem? (i := 813) (by decide +kernel), List.mem_of_getElem? (i := 814) (by decide +kernel)⟩
theorem lw_p37 : lw_okq (⟨"NarrowingKernelModel", "noRule", "(I)Z"⟩, 34) := ⟨⟨by decide +kernel, by decide +kernel⟩, List.mem_of_getElem? (i := 683) (by decide +kernel), List.mem_of_getElem? (i := 833) (by decide +kernel), List.mem_of_getElem? (i := 834) (by decide +kernel)⟩
theorem lw_p38 : lw_okq (⟨"NarrowingKernelModel", "finds", "(I)I"⟩, 34) := ⟨⟨by decide +kernel, by decide +kernel⟩, List.mem_of_getElem? (i := 683) (by decide +kernel), List.mem_of_getElem? (i := 837) (by decide +kernel), List.mem_of_getElem? (i := 838) (by decide +kernel)⟩
theorem lw_p39 : lw_okq (⟨"NarrowingKernelModel", "added", "(IIII)I"⟩, 34) := ⟨⟨by decide +kernel, by decide +kernel⟩, List.mem_of_getElem? (i := 683) (by decide +kernel), List.mem_of_getElem? (i := 844) (by decide +kernel), List.mem_of_getElem? (i := 845) (by decide +kernel)⟩
theorem lw_p40 : lw_okq (⟨"NarrowingKernelModel", "asideAs", "(Z)V"⟩, 34) := ⟨⟨by decide +kernel, by decide +kernel⟩, List.mem_of_getElem? (i := 683) (by decide +kernel), List.mem_of_getElem? (i := 885) (by decide +kernel), List.mem_of_getElem? (i := 886) (by decide +kernel)⟩
theorem lw_p41 : lw_okq (⟨"NarrowingKernelModel", "narrowAside", "()V"⟩, 34) := ⟨⟨by decide +kernel, by decide +kernel⟩, List.mem_of_getElem? (i := 683) (by decide +kernel), List.mem_of_getElem? (i := 889) (by decide +kernel), List.mem_of_getElem? (i := 890) (by decide +kernel)⟩
theorem lw_p42 : lw_okq (⟨"NarrowingKernelModel", "hasNone", "()Z"⟩, 34) := ⟨⟨by decide +kernel, by decide +kernel⟩, List.mem_of_getElem? (i := 683) (by decide +kernel), List.mem_of_getElem? (i := 893) (by decide +kernel), List.mem_of_getElem? (i := 894) (by decide +kernel)⟩
theorem lw_p43 : lw_okq (⟨"NarrowingKernelModel", "fitsBare", "(I)Z"⟩, 34) := ⟨⟨by decide +kernel, by decide +kernel⟩, List.mem_of_getElem? (i := 683) (by decide +kernel), List.mem_of_getElem? (i := 897) (by decide +kernel), List.mem_of_getElem? (i := 898) (by decide +kernel)⟩
theorem lw_p44 : lw_okq (⟨"NarrowingKernelModel", "left", "(II)I"⟩, 34) := ⟨⟨by decide +kernel, by decide +kernel⟩, List.mem_of_getElem? (i := 683) (by decide +kernel), List.mem_of_getElem? (i := 901) (by decide +kernel), List.mem_of_getElem? (i := 902) (by decide +kernel)⟩
theorem lw_p45 : lw_okq (⟨"NarrowingKernelModel", "asideOf", "(II)I"⟩, 34) := ⟨⟨by decide +kernel, by decide +kernel⟩, List.mem_of_getElem? (i := 683) (by decide +kernel), List.mem_of_getElem? (i := 905) (by decide +kernel), List.mem_of_getElem? (i := 906) (by decide +kernel)⟩
theorem lw_p46 : lw_okq (⟨"NarrowingKernelModel", "goes", "(III)Z"⟩, 34) := ⟨⟨by decide +kernel, by decide +kernel⟩, List.mem_of_getElem? (i := 683) (by decide +kernel), List.mem_of_getElem? (i := 909) (by decide +kernel), List.mem_of_getElem? (i := 910) (by decide +kernel)⟩
theorem lw_p47 : lw_okq (⟨"NarrowingKernelModel", "goesBySum", "(III)Z"⟩, 34) := ⟨⟨by decide +kernel, by decide +kernel⟩, List.mem_of_getElem? (i := 683) (by decide +kernel), List.mem_of_getElem? (i := 913) (by decide +kernel), List.mem_of_getElem? (i := 914) (by decide +kernel)⟩
def lw_privs_3 : List (MethodName × Nat) := [(⟨"NarrowingKernel", "isRightByLines", "(I)I"⟩, 20), (⟨"NarrowingKernel", "cutToldByFalse", "(LNarrowingKernel$Rule;)Z"⟩, 20), (⟨"NarrowingKernel", "isRightByRule", "(II)I"⟩, 20), (⟨"NarrowingKernelModel", "asTold", "()V"⟩, 34), (⟨"NarrowingKernelModel", "noUnknown", "(I)Z"⟩, 34), (⟨"NarrowingKernelModel", "noRule", "(I)Z"⟩, 34), (⟨"NarrowingKernelModel", "finds", "(I)I"⟩, 34), (⟨"NarrowingKernelModel", "added", "(IIII)I"⟩, 34), (⟨"NarrowingKernelModel", "asideAs", "(Z)V"⟩, 34), (⟨"NarrowingKernelModel", "narrowAside", "()V"⟩, 34), (⟨"NarrowingKernelModel", "hasNone", "()Z"⟩, 34), (⟨"NarrowingKernelModel", "fitsBare", "(I)Z"⟩, 34), (⟨"NarrowingKernelModel", "left", "(II)I"⟩, 34), (⟨"NarrowingKernelModel", "asideOf", "(II)I"⟩, 34), (⟨"NarrowingKernelModel", "goes", "(III)Z"⟩, 34), (⟨"NarrowingKernelModel", "goesBySum", "(III)Z"⟩, 34)]
theorem lw_r3 : ∀ q ∈ lw_privs_3, lw_okq q := List.forall_mem_cons.mpr ⟨lw_p32, List.forall_mem_cons.mpr ⟨lw_p33, List.forall_mem_cons.mpr ⟨lw_p34, List.forall_mem_cons.mpr ⟨lw_p35, List.forall_mem_cons.mpr ⟨lw_p36, List.forall_mem_cons.mpr ⟨lw_p37, List.forall_mem_cons.mpr ⟨lw_p38, List.forall_mem_cons.mpr ⟨lw_p39, List.forall_mem_cons.mpr ⟨lw_p40, List.forall_mem_cons.mpr ⟨lw_p41, List.forall_mem_cons.mpr ⟨lw_p42, List.forall_mem_cons.mpr ⟨lw_p43, List.forall_mem_cons.mpr ⟨lw_p44, List.forall_mem_cons.mpr ⟨lw_p45, List.forall_mem_cons.mpr ⟨lw_p46, List.forall_mem_cons.mpr ⟨lw_p47, fun _ h => absurd h List.not_mem_nil⟩⟩⟩⟩⟩⟩⟩⟩⟩⟩⟩⟩⟩⟩⟩⟩
theorem lw_p48 : lw_okq (⟨"NarrowingKernelModel", "end", "(IIZ)I"⟩, 34) := ⟨⟨by decide +kernel, by decide +kernel⟩, List.mem_of_getElem? (i := 683) (by decide +kernel), List.mem_of_getElem? (i := 917) (by decide +kernel), List.mem_of_getElem? (i := 918) (by decide +kernel)⟩
theorem lw_p49 : lw_okq (⟨"NarrowingKernelModel", "goesByUnlike", "(III)Z"⟩, 34) := ⟨⟨by decide +kernel, by decide +kernel⟩, List.mem_of_getElem? (i := 683) (by decide +kernel), List.mem_of_getElem? (i := 927) (by decide +kernel), List.mem_of_getElem? (i := 928) (by decide +kernel)⟩
theorem lw_p50 : lw_okq (⟨"NarrowingKernelModel", "goesByTable", "(III)Z"⟩, 34) := ⟨⟨by decide +kernel, by decide +kernel⟩, List.mem_of_getElem? (i := 683) (by decide +kernel), List.mem_of_getElem? (i := 931) (by decide +kernel), List.mem_of_getElem? (i := 932) (by decide +kernel)⟩
theorem lw_p51 : lw_okq (⟨"NarrowingKernelModel", "goesByLoad", "(III)Z"⟩, 34) := ⟨⟨by decide +kernel, by decide +kernel⟩, List.mem_of_getElem? (i := 683) (by decide +kernel), List.mem_of_getElem? (i := 935) (by decide +kernel), List.mem_of_getElem? (i := 936) (by decide +kernel)⟩
theorem lw_p52 : lw_okq (⟨"NarrowingKernelModel", "mustRun", "(III)Z"⟩, 34) := ⟨⟨by decide +kernel, by decide +kernel⟩, List.mem_of_getElem? (i := 683) (by decide +kernel), List.mem_of_getElem? (i := 939) (by decide +kernel), List.mem_of_getElem? (i := 940) (by decide +kernel)⟩
theorem lw_p53 : lw_okq (⟨"NarrowingKernelModel", "goesByRing", "(III)Z"⟩, 34) := ⟨⟨by decide +kernel, by decide +kernel⟩, List.mem_of_getElem? (i := 683) (by decide +kernel), List.mem_of_getElem? (i := 943) (by decide +kernel), List.mem_of_getElem? (i := 944) (by decide +kernel)⟩
theorem lw_p54 : lw_okq (⟨"NarrowingKernelModel", "goesByClause", "(III)Z"⟩, 34) := ⟨⟨by decide +kernel, by decide +kernel⟩, List.mem_of_getElem? (i := 683) (by decide +kernel), List.mem_of_getElem? (i := 947) (by decide +kernel), List.mem_of_getElem? (i := 948) (by decide +kernel)⟩
theorem lw_p55 : lw_okq (⟨"NarrowingKernelModel", "isLacked", "(III)Z"⟩, 34) := ⟨⟨by decide +kernel, by decide +kernel⟩, List.mem_of_getElem? (i := 683) (by decide +kernel), List.mem_of_getElem? (i := 971) (by decide +kernel), List.mem_of_getElem? (i := 972) (by decide +kernel)⟩
theorem lw_p56 : lw_okq (⟨"NarrowingKernelModel", "asideCut", "(I)V"⟩, 34) := ⟨⟨by decide +kernel, by decide +kernel⟩, List.mem_of_getElem? (i := 683) (by decide +kernel), List.mem_of_getElem? (i := 975) (by decide +kernel), List.mem_of_getElem? (i := 976) (by decide +kernel)⟩
theorem lw_p57 : lw_okq (⟨"NarrowingKernelModel", "reasoned", "(I)I"⟩, 34) := ⟨⟨by decide +kernel, by decide +kernel⟩, List.mem_of_getElem? (i := 683) (by decide +kernel), List.mem_of_getElem? (i := 979) (by decide +kernel), List.mem_of_getElem? (i := 980) (by decide +kernel)⟩
theorem lw_p58 : lw_okq (⟨"NarrowingKernelModel", "begun", "()I"⟩, 34) := ⟨⟨by decide +kernel, by decide +kernel⟩, List.mem_of_getElem? (i := 683) (by decide +kernel), List.mem_of_getElem? (i := 991) (by decide +kernel), List.mem_of_getElem? (i := 992) (by decide +kernel)⟩
theorem lw_p59 : lw_okq (⟨"NarrowingKernelModel", "isFar", "()Z"⟩, 34) := ⟨⟨by decide +kernel, by decide +kernel⟩, List.mem_of_getElem? (i := 683) (by decide +kernel), List.mem_of_getElem? (i := 995) (by decide +kernel), List.mem_of_getElem? (i := 996) (by decide +kernel)⟩
theorem lw_p60 : lw_okq (⟨"NarrowingKernelModel", "first", "()V"⟩, 34) := ⟨⟨by decide +kernel, by decide +kernel⟩, List.mem_of_getElem? (i := 683) (by decide +kernel), List.mem_of_getElem? (i := 1000) (by decide +kernel), List.mem_of_getElem? (i := 1001) (by decide +kernel)⟩
theorem lw_p61 : lw_okq (⟨"NarrowingKernelModel", "fitsAll", "()Z"⟩, 34) := ⟨⟨by decide +kernel, by decide +kernel⟩, List.mem_of_getElem? (i := 683) (by decide +kernel), List.mem_of_getElem? (i := 1004) (by decide +kernel), List.mem_of_getElem? (i := 1005) (by decide +kernel)⟩
theorem lw_p62 : lw_okq (⟨"NarrowingKernelModel", "fits", "(I)Z"⟩, 34) := ⟨⟨by decide +kernel, by decide +kernel⟩, List.mem_of_getElem? (i := 683) (by decide +kernel), List.mem_of_getElem? (i := 1008) (by decide +kernel), List.mem_of_getElem? (i := 1009) (by decide +kernel)⟩
theorem lw_p63 : lw_okq (⟨"NarrowingKernelModel", "fitsSum", "(I)Z"⟩, 34) := ⟨⟨by decide +kernel, by decide +kernel⟩, List.mem_of_getElem? (i := 683) (by decide +kernel), List.mem_of_getElem? (i := 1012) (by decide +kernel), List.mem_of_getElem? (i := 1013) (by decide +kernel)⟩
def lw_privs_4 : List (MethodName × Nat) := [(⟨"NarrowingKernelModel", "end", "(IIZ)I"⟩, 34), (⟨"NarrowingKernelModel", "goesByUnlike", "(III)Z"⟩, 34), (⟨"NarrowingKernelModel", "goesByTable", "(III)Z"⟩, 34), (⟨"NarrowingKernelModel", "goesByLoad", "(III)Z"⟩, 34), (⟨"NarrowingKernelModel", "mustRun", "(III)Z"⟩, 34), (⟨"NarrowingKernelModel", "goesByRing", "(III)Z"⟩, 34), (⟨"NarrowingKernelModel", "goesByClause", "(III)Z"⟩, 34), (⟨"NarrowingKernelModel", "isLacked", "(III)Z"⟩, 34), (⟨"NarrowingKernelModel", "asideCut", "(I)V"⟩, 34), (⟨"NarrowingKernelModel", "reasoned", "(I)I"⟩, 34), (⟨"NarrowingKernelModel", "begun", "()I"⟩, 34), (⟨"NarrowingKernelModel", "isFar", "()Z"⟩, 34), (⟨"NarrowingKernelModel", "first", "()V"⟩, 34), (⟨"NarrowingKernelModel", "fitsAll", "()Z"⟩, 34), (⟨"NarrowingKernelModel", "fits", "(I)Z"⟩, 34), (⟨"NarrowingKernelModel", "fitsSum", "(I)Z"⟩, 34)]
theorem lw_r4 : ∀ q ∈ lw_privs_4, lw_okq q := List.forall_mem_cons.mpr ⟨lw_p48, List.forall_mem_cons.mpr ⟨lw_p49, List.forall_mem_cons.mpr ⟨lw_p50, List.forall_mem_cons.mpr ⟨lw_p51, List.forall_mem_cons.mpr ⟨lw_p52, List.forall_mem_cons.mpr ⟨lw_p53, List.forall_mem_cons.mpr ⟨lw_p54, List.forall_mem_cons.mpr ⟨lw_p55, List.forall_mem_cons.mpr ⟨lw_p56, List.forall_mem_cons.mpr ⟨lw_p57, List.forall_mem_cons.mpr ⟨lw_p58, List.forall_mem_cons.mpr ⟨lw_p59, List.forall_mem_cons.mpr ⟨lw_p60, List.forall_mem_cons.mpr ⟨lw_p61, List.forall_mem_cons.mpr ⟨lw_p62, List.forall_mem_cons.mpr ⟨lw_p63, fun _ h => absurd h List.not_mem_nil⟩⟩⟩⟩⟩⟩⟩⟩⟩⟩⟩⟩⟩⟩⟩⟩
theorem lw_p64 : lw_okq (⟨"NarrowingKernelModel", "fitsUnlike", "(I)Z"⟩, 34) := ⟨⟨by decide +kernel, by decide +kernel⟩, List.mem_of_getElem? (i := 683) (by decide +kernel), List.mem_of_getElem? (i := 1016) (by decide +kernel), List.mem_of_getElem? (i := 1017) (by decide +kernel)⟩
theorem lw_p65 : lw_okq (⟨"NarrowingKernelModel", "fitsTable", "(I)Z"⟩, 34) := ⟨⟨by decide +kernel, by decide +kernel⟩, List.mem_of_getElem? (i := 683) (by decide +kernel), List.mem_of_getElem? (i := 1020) (by decide +kernel), List.mem_of_getElem? (i := 1021) (by decide +kernel)⟩
theorem lw_p66 : lw_okq (⟨"NarrowingKernelModel", "fitsLoad", "(I)Z"⟩, 34) := ⟨⟨by decide +kernel, by decide +kernel⟩, List.mem_of_getElem? (i := 683) (by decide +kernel), List.mem_of_getElem? (i := 1024) (by decide +kernel), List.mem_of_getElem? (i := 1025) (by decide +kernel)⟩
theorem lw_p67 : lw_okq (⟨"NarrowingKernelModel", "fitsRing", "(I)Z"⟩, 34) := ⟨⟨by decide +kernel, by decide +kernel⟩, List.mem_of_getElem? (i := 683) (by decide +kernel), List.mem_of_getElem? (i := 1028) (by decide +kernel), List.mem_of_getElem? (i := 1029) (by decide +kernel)⟩
theorem lw_p68 : lw_okq (⟨"NarrowingKernelModel", "fitsClause", "(I)Z"⟩, 34) := ⟨⟨by decide +kernel, by decide +kernel⟩, List.mem_of_getElem? (i := 683) (by decide +kernel), List.mem_of_getElem? (i := 1032) (by decide +kernel), List.mem_of_getElem? (i := 1033) (by decide +kernel)⟩
theorem lw_p69 : lw_okq (⟨"NarrowingKernelModel", "keep", "()V"⟩, 34) := ⟨⟨by decide +kernel, by decide +kernel⟩, List.mem_of_getElem? (i := 683) (by decide +kernel), List.mem_of_getElem? (i := 1036) (by decide +kernel), List.mem_of_getElem? (i := 1037) (by decide +kernel)⟩
theorem lw_p70 : lw_okq (⟨"NarrowingKernelModel", "goesOn", "()Z"⟩, 34) := ⟨⟨by decide +kernel, by decide +kernel⟩, List.mem_of_getElem? (i := 683) (by decide +kernel), List.mem_of_getElem? (i := 1040) (by decide +kernel), List.mem_of_getElem? (i := 1041) (by decide +kernel)⟩
theorem lw_p71 : lw_okq (⟨"NarrowingKernelModel", "isAbove", "()Z"⟩, 34) := ⟨⟨by decide +kernel, by decide +kernel⟩, List.mem_of_getElem? (i := 683) (by decide +kernel), List.mem_of_getElem? (i := 1048) (by decide +kernel), List.mem_of_getElem? (i := 1049) (by decide +kernel)⟩
theorem lw_p72 : lw_okq (⟨"NarrowingKernelModel", "hasAnswer", "(I)Z"⟩, 34) := ⟨⟨by decide +kernel, by decide +kernel⟩, List.mem_of_getElem? (i := 683) (by decide +kernel), List.mem_of_getElem? (i := 1072) (by decide +kernel), List.mem_of_getElem? (i := 1073) (by decide +kernel)⟩
theorem lw_p73 : lw_okq (⟨"NarrowingKernelModel", "noLine", "(I)Z"⟩, 34) := ⟨⟨by decide +kernel, by decide +kernel⟩, List.mem_of_getElem? (i := 683) (by decide +kernel), List.mem_of_getElem? (i := 1084) (by decide +kernel), List.mem_of_getElem? (i := 1085) (by decide +kernel)⟩
theorem lw_p74 : lw_okq (⟨"NarrowingKernelModel", "firstWrong", "()I"⟩, 34) := ⟨⟨by decide +kernel, by decide +kernel⟩, List.mem_of_getElem? (i := 683) (by decide +kernel), List.mem_of_getElem? (i := 1096) (by decide +kernel), List.mem_of_getElem? (i := 1097) (by decide +kernel)⟩
theorem lw_p75 : lw_okq (⟨"NarrowingKernelModel", "byLines", "(I)I"⟩, 34) := ⟨⟨by decide +kernel, by decide +kernel⟩, List.mem_of_getElem? (i := 683) (by decide +kernel), List.mem_of_getElem? (i := 1100) (by decide +kernel), List.mem_of_getElem? (i := 1101) (by decide +kernel)⟩
theorem lw_p76 : lw_okq (⟨"NarrowingKernelModel", "takesByLine", "(I)Z"⟩, 34) := ⟨⟨by decide +kernel, by decide +kernel⟩, List.mem_of_getElem? (i := 683) (by decide +kernel), List.mem_of_getElem? (i := 1104) (by decide +kernel), List.mem_of_getElem? (i := 1105) (by decide +kernel)⟩
theorem lw_p77 : lw_okq (⟨"NarrowingKernelModel", "byRule", "(I)I"⟩, 34) := ⟨⟨by decide +kernel, by decide +kernel⟩, List.mem_of_getElem? (i := 683) (by decide +kernel), List.mem_of_getElem? (i := 1108) (by decide +kernel), List.mem_of_getElem? (i := 1109) (by decide +kernel)⟩
def lw_privs_5 : List (MethodName × Nat) := [(⟨"NarrowingKernelModel", "fitsUnlike", "(I)Z"⟩, 34), (⟨"NarrowingKernelModel", "fitsTable", "(I)Z"⟩, 34), (⟨"NarrowingKernelModel", "fitsLoad", "(I)Z"⟩, 34), (⟨"NarrowingKernelModel", "fitsRing", "(I)Z"⟩, 34), (⟨"NarrowingKernelModel", "fitsClause", "(I)Z"⟩, 34), (⟨"NarrowingKernelModel", "keep", "()V"⟩, 34), (⟨"NarrowingKernelModel", "goesOn", "()Z"⟩, 34), (⟨"NarrowingKernelModel", "isAbove", "()Z"⟩, 34), (⟨"NarrowingKernelModel", "hasAnswer", "(I)Z"⟩, 34), (⟨"NarrowingKernelModel", "noLine", "(I)Z"⟩, 34), (⟨"NarrowingKernelModel", "firstWrong", "()I"⟩, 34), (⟨"NarrowingKernelModel", "byLines", "(I)I"⟩, 34), (⟨"NarrowingKernelModel", "takesByLine", "(I)Z"⟩, 34), (⟨"NarrowingKernelModel", "byRule", "(I)I"⟩, 34)]
theorem lw_r5 : ∀ q ∈ lw_privs_5, lw_okq q := List.forall_mem_cons.mpr ⟨lw_p64, List.forall_mem_cons.mpr ⟨lw_p65, List.forall_mem_cons.mpr ⟨lw_p66, List.forall_mem_cons.mpr ⟨lw_p67, List.forall_mem_cons.mpr ⟨lw_p68, List.forall_mem_cons.mpr ⟨lw_p69, List.forall_mem_cons.mpr ⟨lw_p70, List.forall_mem_cons.mpr ⟨lw_p71, List.forall_mem_cons.mpr ⟨lw_p72, List.forall_mem_cons.mpr ⟨lw_p73, List.forall_mem_cons.mpr ⟨lw_p74, List.forall_mem_cons.mpr ⟨lw_p75, List.forall_mem_cons.mpr ⟨lw_p76, List.forall_mem_cons.mpr ⟨lw_p77, fun _ h => absurd h List.not_mem_nil⟩⟩⟩⟩⟩⟩⟩⟩⟩⟩⟩⟩⟩⟩
def lw_privs : List (MethodName × Nat) := lw_privs_1 ++ (lw_privs_2 ++ (lw_privs_3 ++ (lw_privs_4 ++ (lw_privs_5))))
def lw_tbl : List Cond := k2_sels lw_privs ++ tables_1
theorem lw_privs_ok : ∀ q ∈ lw_privs, lw_okq q := by
  show ∀ q ∈ lw_privs_1 ++ (lw_privs_2 ++ (lw_privs_3 ++ (lw_privs_4 ++ (lw_privs_5)))), lw_okq q
  exact List.forall_mem_append.mpr ⟨lw_r1, List.forall_mem_append.mpr ⟨lw_r2, List.forall_mem_append.mpr ⟨lw_r3, List.forall_mem_append.mpr ⟨lw_r4, lw_r5⟩⟩⟩⟩
/-- what the tables say of an array of arrays (va_mna below names it; the kit has it not) -/
def va_AOA (ty : FieldType) (U : State) : Prop := (Cond.arrayOver (.array ty)).before #[] U = true
theorem va_AOA.of {ty : FieldType} {A : Array Value} {U : State} (h : (Cond.arrayOver (.array ty)).before A U = true) : va_AOA ty U := h
theorem va_AOA.use {ty : FieldType} {A : Array Value} {U : State} (h : va_AOA ty U) : (Cond.arrayOver (.array ty)).before A U = true := h
theorem va_AOA.same {ty : FieldType} {u U : State} (h : u.vm = U.vm) (hz : va_AOA ty u) : va_AOA ty U := by
  have e : (Cond.arrayOver (.array ty)).before #[] u = (Cond.arrayOver (.array ty)).before #[] U := by
    unfold Cond.before Cond.holds
    simp only [Cond.value, h]
  exact e.symm.trans hz
-- ===== names, out of claim/NAMES.whole.lean.txt =====
/-! ===== BEGIN words of one list among another's, by their places ===== -/
theorem goodIn_r {big : List Cond} (ws : List Cond) (ps : List Nat) (hp : ws = ps.filterMap (fun i => big[i]?)) (h : ws.all goodWord = true) : GoodIn big ws := by
  intro w hw
  have h1 := List.all_eq_true.mp h w hw
  rw [hp] at hw
  obtain ⟨i, -, hi⟩ := List.mem_filterMap.mp hw
  have hm : w ∈ big := by first | exact List.mem_of_getElem? hi | exact List.getElem?_mem hi
  exact ⟨hm, good_of_word h1⟩
theorem goodIn_app {big a b : List Cond} (ha : GoodIn big a) (hb : GoodIn big b) : GoodIn big (a ++ b) := fun w h => (List.mem_append.mp h).elim (ha w) (hb w)
theorem goodIn_ca {big a b : List Cond} {c : Cond} (ha : GoodIn big (c :: a)) (hb : GoodIn big b) : GoodIn big (c :: (a ++ b)) := fun w h => (List.mem_cons.mp h).elim (fun e => ha w (List.mem_cons.mpr (Or.inl e))) (fun h => (List.mem_append.mp h).elim (fun h => ha w (List.mem_cons.mpr (Or.inr h))) (hb w))
theorem goodIn_sub {big ws : List Cond} (hm : ∀ w ∈ ws, w ∈ big) (h : ws.all goodWord = true) : GoodIn big ws := fun w hw => ⟨hm w hw, good_of_word (List.all_eq_true.mp h w hw)⟩
/-! ===== END ===== -/

/-! ===== BEGIN new T[n][m]: the outer array a place, the inner ones among the pooled ===== -/
/-- f, but v at every address of l -/
def vr_up {α : Type} (f : Nat → α) (l : List Nat) (v : α) : Nat → α := fun a => if a ∈ l then v else f a
theorem vr_up_in {α : Type} {f : Nat → α} {l : List Nat} {v : α} {a : Nat} (h : a ∈ l) : vr_up f l v a = v := if_pos h
theorem vr_up_ne {α : Type} {f : Nat → α} {l : List Nat} {v : α} {a : Nat} (h : a ∉ l) : vr_up f l v a = f a := if_neg h
theorem vr_rows {L l : List Nat} {f : Nat → va_E} {e : va_E} (h : ∀ a, a ∈ l → a ∉ L) : va_pl L f ++ l.map (fun a => (a, e)) = va_pl (L ++ l) (vr_up f l e) := by
  unfold va_pl
  rw [List.map_append]
  congr 1
  · apply List.map_congr_left
    intro a ha
    rw [vr_up_ne (fun q => h a q ha)]
  · apply List.map_congr_left
    intro a ha
    rw [vr_up_in ha]
theorem vr_lay {X rows : va_W} {x : Nat × va_E} {pl : va_W} {D : va_G} {cl : List vw_C} {H : Heap} (hP : va_P D cl (((X ++ pl) ++ [x]) ++ rows) H) : va_P D cl ((X ++ [x]) ++ (pl ++ rows)) H := by
  rw [List.append_assoc (X ++ pl)] at hP
  have h := va_P.swap hP
  rw [← List.append_assoc X] at h
  have h2 := va_P.swap h
  rw [List.append_assoc (X ++ [x])] at h2
  exact h2
theorem vr_layD {X rows : va_W} {x : Nat × va_E} {pl : va_W} {A : Nat → Prop} (hD : va_D A (((X ++ pl) ++ [x]) ++ rows)) : va_D A ((X ++ [x]) ++ (pl ++ rows)) := by
  rw [List.append_assoc (X ++ pl)] at hD
  have h := va_D.swap hD
  rw [← List.append_assoc X] at h
  have h2 := va_D.swap h
  rw [List.append_assoc (X ++ [x])] at h2
  exact h2
theorem vr_outer (c : ClassId) (N h0 : Nat) : ∀ i : Nat, Jvm.Free.Multi.outerC c N h0 i = arrV c N (fun j => va_rf (if j < i then some (h0 + 1 + j) else none))
  | 0 => by
    show ({ cls := c, slots := Array.replicate N .null, vm := .none } : Cell) = _
    rw [arrV_new]
    refine congrArg (arrV c N) (funext fun j => ?_)
    simp [va_rf]
  | i + 1 => by
    show (Jvm.Free.Multi.outerC c N h0 i).setSlot i (.ref (h0 + 1 + i)) = _
    rw [vr_outer c N h0 i, arrV_store]
    refine congrArg (arrV c N) (funext fun j => ?_)
    by_cases e : j = i
    · subst e
      simp [updV, va_rf]
    · by_cases h : j < i
      · simp [updV, e, h, Nat.lt_succ_of_lt h]
      · simp [updV, e, h, show ¬ j < i + 1 by omega]
section VGM
variable {p : Program} {l : Launch} {e : Env} {R : Room} {s : State} {m : MethodId} {args : Array Value} {below : List Frame} {meth : Method} {c : Code} {H : Heap} {locs : List Loc} {cells slots : Nat} {Q : State → Prop}
variable {cc : ByteArray} {pc : Nat} {ls : Array Slot} {rest : List Value} {D : va_G} {cl : List vw_C} {A : Nat → Prop} {a : Nat} {tys : List (ClassId × FieldType)} {ws : va_W} {H0 : Heap}
theorem va_mna {X : va_W} {L : List Nat} {f : Nat → va_E} {cc : ByteArray} (hexec : p.tables.exec = Jvm.exec) (hb : c.code = cc) {own : String} {index : Nat} {ty : FieldType} {cy : ClassId} (hown : s.vm.findClass own = some m.cls) (hclink : (Cond.classLink own index ("[" ++ (FieldType.array ty).toString)).before args s = true) (hover : va_AOA ty s) (harr : (Cond.arrayClass ty).before args s = true) (hcy : s.vm.findClass (FieldType.array ty).toString = some cy)
    (hK : va_K D cl tys s) (hP : va_P D cl (X ++ va_pl L f) H) (hD : va_D A (X ++ va_pl L f)) (hS : va_S A H0 H locs) (hA : ∀ q, H0.size ≤ q → A q) {n k : Int32} {N' K' : Nat} {z : vp_A} (hn : ¬ n < 0) (hk : ¬ k < 0) (hN : n.toNatClampNeg = N') (hM : k.toNatClampNeg = K')
    (hb1 : N' * 4 ≤ 536870912) (hb2 : K' * componentBytes ty ≤ 536870912) (hb3 : K' ≤ 536870912) (hdf : fits ty (defaultValue ty) = true) (hdd : (defaultValue ty).isDefault = true) (hcells : cells + (1 + N') ≤ R.cells) (hslots : slots + (N' + N' * K') ≤ R.slots) (hz : ∀ c : ClassId, Jvm.Free.Multi.innerC c K' (defaultValue ty) = vp_cell c z) (hdg : decode cc pc = .ok (.multianewarray index 2, 4))
    (kk : ∀ (q : Nat) (r : Nat → Nat) (cA : ClassId) (H1 : Heap), (∀ i j : Nat, i < N' → j < N' → r i = r j → i = j) → (∀ i : Nat, i < N' → r i ∉ L) → va_K D cl (tys ++ [(cA, .array ty)]) s →
      va_P D cl ((X ++ [(q, .inl (cA, N', .inr (.inr (.inr (.inr (fun i => if i < N' then some (r i) else none))))))]) ++ va_pl (L ++ (List.range N').map r) (vr_up f ((List.range N').map r) (.inl (cy, z)))) H1 → va_D A ((X ++ [(q, .inl (cA, N', .inr (.inr (.inr (.inr (fun i => if i < N' then some (r i) else none))))))]) ++ va_pl (L ++ (List.range N').map r) (vr_up f ((List.range N').map r) (.inl (cy, z)))) → va_S A H0 H1 locs →
      W p l e R s m args below meth c H1 locs (cells + 1 + N') (slots + N' + N' * K') Q (F0 m (pc + 4) ls (.ref q :: rest))) : W p l e R s m args below meth c H locs cells slots Q (F0 m pc ls (.int k :: .int n :: rest)) := by
  subst hN
  subst hM
  intro T hT Xs
  obtain ⟨vm₁, cA, comp, -, fA, fC, hO, -, X', step⟩ := Xs.multianewarray2F hexec hown hclink (va_AOA.use hover) harr (g := F0 m pc ls (.int k :: .int n :: rest)) rfl (by rw [hb]; exact hdg) rfl hn hk hb1 hb2 hb3 hdf hdd hcells hslots
  have ec : some cy = some comp := hcy.symm.trans fC
  cases ec
  generalize hF : Jvm.Free.Multi.fill (T.setVm vm₁) cA cy n.toNatClampNeg k.toNatClampNeg (defaultValue ty) n.toNatClampNeg = F at X' step
  have hTh : (T.setVm vm₁).heap = H := hT
  obtain ⟨f1, f2, -, -⟩ := Jvm.Free.Multi.fill_facts (T.setVm vm₁) cA cy n.toNatClampNeg k.toNatClampNeg (defaultValue ty) n.toNatClampNeg
  rw [hF, hTh] at f1 f2
  have hold : ∀ x : Nat, x < H.size → F.heap[x]? = H[x]? := fun x hx => by
    have := Jvm.Free.Multi.fill_old (T.setVm vm₁) cA cy n.toNatClampNeg k.toNatClampNeg (defaultValue ty) (a := x) (by rw [hTh]; exact hx) n.toNatClampNeg
    rw [hF, hTh] at this
    exact this
  have hrow : ∀ j : Nat, j < n.toNatClampNeg → F.heap[H.size + 1 + j]? = some (vp_cell cy z) := fun j hj => by
    have := Jvm.Free.Multi.fill_inner (T.setVm vm₁) cA cy n.toNatClampNeg k.toNatClampNeg (defaultValue ty) n.toNatClampNeg j hj
    rw [hF, hTh, hz] at this
    exact this
  have hout : Jvm.Free.Multi.outerC cA n.toNatClampNeg H.size n.toNatClampNeg = vp_cell cA (n.toNatClampNeg, .inr (.inr (.inr (.inr (fun i => if i < n.toNatClampNeg then some (H.size + 1 + i) else none))))) := by
    rw [vp_cell_q]
    exact vr_outer cA n.toNatClampNeg H.size n.toNatClampNeg
  rw [hout] at f2
  have hlt : ∀ a, a ∈ L → a < H.size := fun a ha => by
    obtain ⟨k9, hk9⟩ := va_pl_get (X := X) (f := f) ha
    exact (hP k9 _ hk9).lt
  have hnl : ∀ i : Nat, i < n.toNatClampNeg → H.size + 1 + i ∉ L := fun i _ h => by
    have := hlt _ h
    omega
  have hnm : ∀ a, a ∈ (List.range n.toNatClampNeg).map (fun i => H.size + 1 + i) → a ∉ L := fun a ha h => by
    obtain ⟨i, -, rfl⟩ := List.mem_map.mp ha
    have := hlt _ h
    omega
  have hP0 : va_P D cl (X ++ va_pl L f) F.heap := hP.kept (fun k9 x hx => hold x.1 ((hP k9 x hx).lt))
  have hP1 : va_P D cl ((X ++ va_pl L f) ++ [(H.size, .inl (cA, n.toNatClampNeg, .inr (.inr (.inr (.inr (fun i => if i < n.toNatClampNeg then some (H.size + 1 + i) else none))))))]) F.heap := hP0.app (fun k9 x hx => by
    have h0 : k9 < 1 := (List.getElem?_eq_some_iff.mp hx).1
    rw [show k9 = 0 by omega] at hx
    cases hx
    exact f2)
  have hP2 : va_P D cl (((X ++ va_pl L f) ++ [(H.size, .inl (cA, n.toNatClampNeg, .inr (.inr (.inr (.inr (fun i => if i < n.toNatClampNeg then some (H.size + 1 + i) else none))))))]) ++ ((List.range n.toNatClampNeg).map (fun i => H.size + 1 + i)).map (fun a => (a, .inl (cy, z)))) F.heap := hP1.app (fun k9 x hx => by
    obtain ⟨a, ha, rfl⟩ := List.mem_map.mp (List.mem_of_getElem? hx)
    obtain ⟨i, hi, rfl⟩ := List.mem_map.mp ha
    exact hrow i (List.mem_range.mp hi))
  have hD2 : va_D A (((X ++ va_pl L f) ++ [(H.size, .inl (cA, n.toNatClampNeg, .inr (.inr (.inr (.inr (fun i => if i < n.toNatClampNeg then some (H.size + 1 + i) else none))))))]) ++ ((List.range n.toNatClampNeg).map (fun i => H.size + 1 + i)).map (fun a => (a, .inl (cy, z)))) := by
    have hD1 := hD.push (e := .inl (cA, n.toNatClampNeg, .inr (.inr (.inr (.inr (fun i => if i < n.toNatClampNeg then some (H.size + 1 + i) else none)))))) hP rfl (hA _ hS.1)
    generalize hW1 : (X ++ va_pl L f) ++ [(H.size, .inl (cA, n.toNatClampNeg, .inr (.inr (.inr (.inr (fun i => if i < n.toNatClampNeg then some (H.size + 1 + i) else none))))))] = W1 at hD1 hP1 ⊢
    have hle : ∀ (k9 : Nat) (x : Nat × va_E), W1[k9]? = some x → x.1 ≤ H.size := fun k9 x hx => by
      rw [← hW1] at hx
      by_cases hl : k9 < (X ++ va_pl L f).length
      · rw [List.getElem?_append_left hl] at hx
        exact Nat.le_of_lt ((hP k9 x hx).lt)
      · rw [List.getElem?_append_right (by omega)] at hx
        have h0 : k9 - (X ++ va_pl L f).length < 1 := (List.getElem?_eq_some_iff.mp hx).1
        rw [show k9 - (X ++ va_pl L f).length = 0 by omega] at hx
        cases hx
        exact Nat.le_refl _
    have hr : ∀ (k9 : Nat) (x : Nat × va_E), (((List.range n.toNatClampNeg).map (fun i => H.size + 1 + i)).map (fun a => ((a, .inl (cy, z)) : Nat × va_E)))[k9]? = some x → x.1 = H.size + 1 + k9 := fun k9 x hx => by
      rw [List.getElem?_map, List.getElem?_map] at hx
      by_cases h9 : k9 < n.toNatClampNeg
      · rw [List.getElem?_range h9] at hx
        cases hx
        rfl
      · have hn0 : (List.range n.toNatClampNeg)[k9]? = none := List.getElem?_eq_none (by rw [List.length_range]; omega)
        rw [hn0] at hx
        cases hx
    refine ⟨fun i j x y hi hj hxy => ?_, fun k9 x hx => ?_⟩
    · by_cases h1 : i < W1.length <;> by_cases h2 : j < W1.length
      · rw [List.getElem?_append_left h1] at hi
        rw [List.getElem?_append_left h2] at hj
        exact hD1.1 i j x y hi hj hxy
      · rw [List.getElem?_append_left h1] at hi
        rw [List.getElem?_append_right (by omega)] at hj
        have := hle _ _ hi
        have := hr _ _ hj
        omega
      · rw [List.getElem?_append_right (by omega)] at hi
        rw [List.getElem?_append_left h2] at hj
        have := hle _ _ hj
        have := hr _ _ hi
        omega
      · rw [List.getElem?_append_right (by omega)] at hi hj
        have := hr _ _ hi
        have := hr _ _ hj
        omega
    · by_cases h1 : k9 < W1.length
      · rw [List.getElem?_append_left h1] at hx
        exact hD1.2 k9 x hx
      · rw [List.getElem?_append_right (by omega)] at hx
        have := hr _ _ hx
        exact hA _ (by have := hS.1; omega)
  have hAr : ArrOfT s cA (.array ty) := fun N9 z9 => by
    obtain ⟨-, k9, hk9, cm9, hkk9⟩ := (hO 0 0 0).1
    exact ⟨(fun q hq => by cases hq), k9, hk9, cm9, hkk9⟩
  have hK2 : va_K D cl (tys ++ [(cA, .array ty)]) s := ⟨hK.1, fun k9 x hx => by
    by_cases hl : k9 < tys.length
    · rw [List.getElem?_append_left hl] at hx
      exact hK.2 k9 x hx
    · rw [List.getElem?_append_right (by omega)] at hx
      have h0 : k9 - tys.length < 1 := (List.getElem?_eq_some_iff.mp hx).1
      rw [show k9 - tys.length = 0 by omega] at hx
      cases hx
      exact ⟨hAr, fA⟩⟩
  obtain ⟨t, a1, b1⟩ := kk H.size (fun i => H.size + 1 + i) cA F.heap (fun i j _ _ h => by have h9 : H.size + 1 + i = H.size + 1 + j := h; omega) hnl hK2 (by rw [← vr_rows hnm]; exact vr_lay hP2) (by rw [← vr_rows hnm]; exact vr_layD hD2) ⟨by rw [f1]; have := hS.1; omega, fun x h1 h2 => (hold x (Nat.lt_of_lt_of_le h1 hS.1)).trans (hS.2.1 x h1 h2), hS.2.2⟩ F rfl X'
  refine ⟨t, step t ?_, b1⟩
  have e : T.heap.size = H.size := by rw [hT]
  rw [e]
  exact a1
end VGM
/-! ===== END ===== -/

/-! ===== BEGIN printed: names, fields, word lists, decode rows ===== -/
def RX0 : String := "NarrowingKernel$Fitter"
def TX0 : u_T := fun k => match k with
  | _ => ("NarrowingKernel$Fitter", "tables", "LNarrowingKernel$Tables;", true)
def tyX0 : Nat → FieldType := fun k => match k with
  | _ => .object "NarrowingKernel$Tables"
abbrev wsX00 : List Cond := u_ws RX0 TX0 1
theorem nmX0 : ∀ a, a < 1 → ∀ b, b < 1 → a ≠ b → (TX0 a).2.1 ≠ (TX0 b).2.1 := by decide +kernel
theorem tyX0_ok : ∀ k, k < 1 → parseFieldDescriptor (TX0 k).2.2.1 = some (tyX0 k) := by decide +kernel
abbrev cX0_init : ByteArray := prog_2_method_1_code
def yX0_init : MethodName := ⟨RX0, "<init>", "(LNarrowingKernel$Tables;)V"⟩
abbrev cX0_fits : ByteArray := prog_2_method_2_code
def yX0_fits : MethodName := ⟨RX0, "fits", "(LNarrowingKernel$Rule;[I)Z"⟩
abbrev cX0_fitsSum : ByteArray := prog_2_method_3_code
def yX0_fitsSum : MethodName := ⟨RX0, "fitsSum", "(LNarrowingKernel$Rule;[I)Z"⟩
abbrev cX0_fitsUnlike : ByteArray := prog_2_method_4_code
def yX0_fitsUnlike : MethodName := ⟨RX0, "fitsUnlike", "(LNarrowingKernel$Rule;[I)Z"⟩
abbrev cX0_fitsTable : ByteArray := prog_2_method_5_code
def yX0_fitsTable : MethodName := ⟨RX0, "fitsTable", "(LNarrowingKernel$Rule;[I)Z"⟩
abbrev cX0_fitsLoad : ByteArray := prog_2_method_6_code
def yX0_fitsLoad : MethodName := ⟨RX0, "fitsLoad", "(LNarrowingKernel$Rule;[I)Z"⟩
abbrev cX0_fitsRing : ByteArray := prog_2_method_7_code
def yX0_fitsRing : MethodName := ⟨RX0, "fitsRing", "(LNarrowingKernel$Rule;[I)Z"⟩
abbrev cX0_fitsClause : ByteArray := prog_2_method_8_code
def yX0_fitsClause : MethodName := ⟨RX0, "fitsClause", "(LNarrowingKernel$Rule;[I)Z"⟩
def RX1 : String := "NarrowingKernel$Looker"
def TX1 : u_T := fun k => match k with
  | 0 => ("NarrowingKernel$Looker", "tables", "LNarrowingKernel$Tables;", true)
  | 1 => ("NarrowingKernel$Looker", "gone", "[I", true)
  | 2 => ("NarrowingKernel$Looker", "joined", "[I", true)
  | 3 => ("NarrowingKernel$Looker", "must", "[I", true)
  | _ => ("NarrowingKernel$Looker", "so", "[I", true)
def tyX1 : Nat → FieldType := fun k => match k with
  | 0 => .object "NarrowingKernel$Tables"
  | 1 => .array .int
  | 2 => .array .int
  | 3 => .array .int
  | _ => .array .int
abbrev wsX10 : List Cond := u_ws RX1 TX1 5
theorem nmX1 : ∀ a, a < 5 → ∀ b, b < 5 → a ≠ b → (TX1 a).2.1 ≠ (TX1 b).2.1 := by decide +kernel
theorem tyX1_ok : ∀ k, k < 5 → parseFieldDescriptor (TX1 k).2.2.1 = some (tyX1 k) := by decide +kernel
abbrev cX1_init : ByteArray := prog_3_method_1_code
def yX1_init : MethodName := ⟨RX1, "<init>", "(LNarrowingKernel$Tables;)V"⟩
abbrev cX1_look : ByteArray := prog_3_method_2_code
def yX1_look : MethodName := ⟨RX1, "look", "(LNarrowingKernel$Rule;[I)V"⟩
abbrev cX1_lookAtSum : ByteArray := prog_3_method_3_code
def yX1_lookAtSum : MethodName := ⟨RX1, "lookAtSum", "(LNarrowingKernel$Rule;[I)V"⟩
abbrev cX1_lowest : ByteArray := prog_3_method_4_code
def yX1_lowest : MethodName := ⟨RX1, "lowest", "(II)I"⟩
abbrev cX1_highest : ByteArray := prog_3_method_5_code
def yX1_highest : MethodName := ⟨RX1, "highest", "(II)I"⟩
abbrev cX1_sumTakes : ByteArray := prog_3_method_6_code
def yX1_sumTakes : MethodName := ⟨RX1, "sumTakes", "(LNarrowingKernel$Rule;IIZ)Z"⟩
abbrev cX1_lookAtUnlike : ByteArray := prog_3_method_7_code
def yX1_lookAtUnlike : MethodName := ⟨RX1, "lookAtUnlike", "(LNarrowingKernel$Rule;[I)V"⟩
abbrev cX1_takeAll : ByteArray := prog_3_method_8_code
def yX1_takeAll : MethodName := ⟨RX1, "takeAll", "(LNarrowingKernel$Rule;[I)V"⟩
abbrev cX1_takeFromOthers : ByteArray := prog_3_method_9_code
def yX1_takeFromOthers : MethodName := ⟨RX1, "takeFromOthers", "(LNarrowingKernel$Rule;[II)V"⟩
abbrev cX1_lookAtTable : ByteArray := prog_3_method_10_code
def yX1_lookAtTable : MethodName := ⟨RX1, "lookAtTable", "(LNarrowingKernel$Rule;[I)V"⟩
abbrev cX1_giveBack : ByteArray := prog_3_method_11_code
def yX1_giveBack : MethodName := ⟨RX1, "giveBack", "(LNarrowingKernel$Rule;[II)V"⟩
abbrev cX1_lookAtLoad : ByteArray := prog_3_method_12_code
def yX1_lookAtLoad : MethodName := ⟨RX1, "lookAtLoad", "(LNarrowingKernel$Rule;[I)V"⟩
abbrev cX1_loadTakes : ByteArray := prog_3_method_13_code
def yX1_loadTakes : MethodName := ⟨RX1, "loadTakes", "(LNarrowingKernel$Rule;IIII)Z"⟩
abbrev cX1_lookAtRing : ByteArray := prog_3_method_14_code
def yX1_lookAtRing : MethodName := ⟨RX1, "lookAtRing", "(LNarrowingKernel$Rule;[I)V"⟩
abbrev cX1_closesTooSoon : ByteArray := prog_3_method_15_code
def yX1_closesTooSoon : MethodName := ⟨RX1, "closesTooSoon", "(LNarrowingKernel$Rule;[III)Z"⟩
abbrev cX1_lookAtClause : ByteArray := prog_3_method_16_code
def yX1_lookAtClause : MethodName := ⟨RX1, "lookAtClause", "(LNarrowingKernel$Rule;[I)V"⟩
def RX2 : String := "NarrowingKernel$Narrower"
def TX2 : u_T := fun k => match k with
  | 0 => ("NarrowingKernel$Narrower", "looker", "LNarrowingKernel$Looker;", true)
  | _ => ("NarrowingKernel$Narrower", "fitter", "LNarrowingKernel$Fitter;", true)
def tyX2 : Nat → FieldType := fun k => match k with
  | 0 => .object "NarrowingKernel$Looker"
  | _ => .object "NarrowingKernel$Fitter"
abbrev wsX20 : List Cond := u_ws RX2 TX2 2
theorem nmX2 : ∀ a, a < 2 → ∀ b, b < 2 → a ≠ b → (TX2 a).2.1 ≠ (TX2 b).2.1 := by decide +kernel
theorem tyX2_ok : ∀ k, k < 2 → parseFieldDescriptor (TX2 k).2.2.1 = some (tyX2 k) := by decide +kernel
abbrev cX2_init : ByteArray := prog_4_method_1_code
def yX2_init : MethodName := ⟨RX2, "<init>", "(LNarrowingKernel$Looker;LNarrowingKernel$Fitter;)V"⟩
abbrev cX2_countTaken : ByteArray := prog_4_method_2_code
def yX2_countTaken : MethodName := ⟨RX2, "countTaken", "(LNarrowingKernel$Rule;[I)I"⟩
abbrev cX2_run : ByteArray := prog_4_method_3_code
def yX2_run : MethodName := ⟨RX2, "run", "([I[LNarrowingKernel$Rule;J)Z"⟩
abbrev cX2_emptyRulesFit : ByteArray := prog_4_method_4_code
def yX2_emptyRulesFit : MethodName := ⟨RX2, "emptyRulesFit", "([LNarrowingKernel$Rule;J[I)Z"⟩
def RX3 : String := "NarrowingKernel$Rule"
def TX3 : u_T := fun k => match k with
  | 0 => ("NarrowingKernel$Rule", "kind", "I", false)
  | 1 => ("NarrowingKernel$Rule", "setting", "I", false)
  | 2 => ("NarrowingKernel$Rule", "bound", "I", false)
  | 3 => ("NarrowingKernel$Rule", "parts", "I", false)
  | 4 => ("NarrowingKernel$Rule", "members", "I", false)
  | 5 => ("NarrowingKernel$Rule", "of", "[I", true)
  | 6 => ("NarrowingKernel$Rule", "a", "[I", true)
  | _ => ("NarrowingKernel$Rule", "b", "[I", true)
def tyX3 : Nat → FieldType := fun k => match k with
  | 0 => .int
  | 1 => .int
  | 2 => .int
  | 3 => .int
  | 4 => .int
  | 5 => .array .int
  | 6 => .array .int
  | _ => .array .int
abbrev wsX30 : List Cond := u_ws RX3 TX3 8
theorem nmX3 : ∀ a, a < 8 → ∀ b, b < 8 → a ≠ b → (TX3 a).2.1 ≠ (TX3 b).2.1 := by decide +kernel
theorem tyX3_ok : ∀ k, k < 8 → parseFieldDescriptor (TX3 k).2.2.1 = some (tyX3 k) := by decide +kernel
abbrev cX3_init : ByteArray := prog_5_method_1_code
def yX3_init : MethodName := ⟨RX3, "<init>", "()V"⟩
abbrev cX3_begin : ByteArray := prog_5_method_2_code
def yX3_begin : MethodName := ⟨RX3, "begin", "(III)V"⟩
abbrev cX3_join : ByteArray := prog_5_method_3_code
def yX3_join : MethodName := ⟨RX3, "join", "(III)V"⟩
abbrev cX3_isOf : ByteArray := prog_5_method_4_code
def yX3_isOf : MethodName := ⟨RX3, "isOf", "(I)Z"⟩
def RX4 : String := "NarrowingKernel$Search"
def TX4 : u_T := fun k => match k with
  | 0 => ("NarrowingKernel$Search", "fitter", "LNarrowingKernel$Fitter;", true)
  | 1 => ("NarrowingKernel$Search", "number", "[I", true)
  | 2 => ("NarrowingKernel$Search", "open", "[I", true)
  | 3 => ("NarrowingKernel$Search", "left", "[I", true)
  | 4 => ("NarrowingKernel$Search", "stage", "[I", true)
  | _ => ("NarrowingKernel$Search", "dueAt", "[J", true)
def tyX4 : Nat → FieldType := fun k => match k with
  | 0 => .object "NarrowingKernel$Fitter"
  | 1 => .array .int
  | 2 => .array .int
  | 3 => .array .int
  | 4 => .array .int
  | _ => .array .long
abbrev wsX40 : List Cond := u_ws RX4 TX4 6
theorem nmX4 : ∀ a, a < 6 → ∀ b, b < 6 → a ≠ b → (TX4 a).2.1 ≠ (TX4 b).2.1 := by decide +kernel
theorem tyX4_ok : ∀ k, k < 6 → parseFieldDescriptor (TX4 k).2.2.1 = some (tyX4 k) := by decide +kernel
abbrev cX4_init : ByteArray := prog_6_method_1_code
def yX4_init : MethodName := ⟨RX4, "<init>", "(LNarrowingKernel$Fitter;)V"⟩
abbrev cX4_find : ByteArray := prog_6_method_2_code
def yX4_find : MethodName := ⟨RX4, "find", "([II[LNarrowingKernel$Rule;JI)I"⟩
abbrev cX4_arrange : ByteArray := prog_6_method_3_code
def yX4_arrange : MethodName := ⟨RX4, "arrange", "([II[LNarrowingKernel$Rule;J)I"⟩
abbrev cX4_lastStage : ByteArray := prog_6_method_4_code
def yX4_lastStage : MethodName := ⟨RX4, "lastStage", "(LNarrowingKernel$Rule;)I"⟩
abbrev cX4_allFit : ByteArray := prog_6_method_5_code
def yX4_allFit : MethodName := ⟨RX4, "allFit", "([LNarrowingKernel$Rule;J)Z"⟩
def RX5 : String := "NarrowingKernel$Steps"
def TX5 : u_T := fun k => match k with
  | 0 => ("NarrowingKernel$Steps", "size", "I", false)
  | 1 => ("NarrowingKernel$Steps", "of", "[I", true)
  | 2 => ("NarrowingKernel$Steps", "so", "[I", true)
  | _ => ("NarrowingKernel$Steps", "before", "[[I", true)
def tyX5 : Nat → FieldType := fun k => match k with
  | 0 => .int
  | 1 => .array .int
  | 2 => .array .int
  | _ => .array (.array .int)
abbrev wsX50 : List Cond := u_ws RX5 TX5 4
theorem nmX5 : ∀ a, a < 4 → ∀ b, b < 4 → a ≠ b → (TX5 a).2.1 ≠ (TX5 b).2.1 := by decide +kernel
theorem tyX5_ok : ∀ k, k < 4 → parseFieldDescriptor (TX5 k).2.2.1 = some (tyX5 k) := by decide +kernel
abbrev cX5_init : ByteArray := prog_7_method_1_code
def yX5_init : MethodName := ⟨RX5, "<init>", "()V"⟩
abbrev cX5_all : ByteArray := prog_7_method_2_code
def yX5_all : MethodName := ⟨RX5, "all", "()I"⟩
def RX6 : String := "NarrowingKernel$Tables"
def TX6 : u_T := fun k => match k with
  | 0 => ("NarrowingKernel$Tables", "size", "[I", true)
  | _ => ("NarrowingKernel$Tables", "cells", "[[I", true)
def tyX6 : Nat → FieldType := fun k => match k with
  | 0 => .array .int
  | _ => .array (.array .int)
abbrev wsX60 : List Cond := u_ws RX6 TX6 2
theorem nmX6 : ∀ a, a < 2 → ∀ b, b < 2 → a ≠ b → (TX6 a).2.1 ≠ (TX6 b).2.1 := by decide +kernel
theorem tyX6_ok : ∀ k, k < 2 → parseFieldDescriptor (TX6 k).2.2.1 = some (tyX6 k) := by decide +kernel
abbrev cX6_init : ByteArray := prog_8_method_1_code
def yX6_init : MethodName := ⟨RX6, "<init>", "()V"⟩
abbrev cX6_lay : ByteArray := prog_8_method_2_code
def yX6_lay : MethodName := ⟨RX6, "lay", "(II)V"⟩
abbrev cX6_isMissing : ByteArray := prog_8_method_3_code
def yX6_isMissing : MethodName := ⟨RX6, "isMissing", "(I)Z"⟩
abbrev cX6_hasCells : ByteArray := prog_8_method_4_code
def yX6_hasCells : MethodName := ⟨RX6, "hasCells", "(III)Z"⟩
abbrev cX6_countLaid : ByteArray := prog_8_method_5_code
def yX6_countLaid : MethodName := ⟨RX6, "countLaid", "()I"⟩
abbrev cX6_countRows : ByteArray := prog_8_method_6_code
def yX6_countRows : MethodName := ⟨RX6, "countRows", "(II)I"⟩
def RX7 : String := "NarrowingKernel"
def TX7 : u_T := fun k => match k with
  | 0 => ("NarrowingKernel", "told", "[I", true)
  | 1 => ("NarrowingKernel", "now", "[I", true)
  | 2 => ("NarrowingKernel", "unknowns", "I", false)
  | 3 => ("NarrowingKernel", "rules", "[LNarrowingKernel$Rule;", true)
  | 4 => ("NarrowingKernel", "ruleCount", "I", false)
  | 5 => ("NarrowingKernel", "standing", "J", false)
  | 6 => ("NarrowingKernel", "tables", "LNarrowingKernel$Tables;", true)
  | 7 => ("NarrowingKernel", "steps", "LNarrowingKernel$Steps;", true)
  | 8 => ("NarrowingKernel", "reasons", "[I", true)
  | 9 => ("NarrowingKernel", "reasonCount", "I", false)
  | 10 => ("NarrowingKernel", "theAnswer", "[I", true)
  | 11 => ("NarrowingKernel", "answered", "I", false)
  | 12 => ("NarrowingKernel", "lines", "[LNarrowingKernel$Rule;", true)
  | 13 => ("NarrowingKernel", "from", "[I", true)
  | 14 => ("NarrowingKernel", "lineCount", "I", false)
  | 15 => ("NarrowingKernel", "findings", "I", false)
  | 16 => ("NarrowingKernel", "narrower", "LNarrowingKernel$Narrower;", true)
  | 17 => ("NarrowingKernel", "search", "LNarrowingKernel$Search;", true)
  | 18 => ("NarrowingKernel", "work", "[I", true)
  | _ => ("NarrowingKernel", "cut", "[I", true)
def tyX7 : Nat → FieldType := fun k => match k with
  | 0 => .array .int
  | 1 => .array .int
  | 2 => .int
  | 3 => .array (.object "NarrowingKernel$Rule")
  | 4 => .int
  | 5 => .long
  | 6 => .object "NarrowingKernel$Tables"
  | 7 => .object "NarrowingKernel$Steps"
  | 8 => .array .int
  | 9 => .int
  | 10 => .array .int
  | 11 => .int
  | 12 => .array (.object "NarrowingKernel$Rule")
  | 13 => .array .int
  | 14 => .int
  | 15 => .int
  | 16 => .object "NarrowingKernel$Narrower"
  | 17 => .object "NarrowingKernel$Search"
  | 18 => .array .int
  | _ => .array .int
abbrev wsX70 : List Cond := u_ws RX7 TX7 20
theorem nmX7 : ∀ a, a < 20 → ∀ b, b < 20 → a ≠ b → (TX7 a).2.1 ≠ (TX7 b).2.1 := by decide +kernel
theorem tyX7_ok : ∀ k, k < 20 → parseFieldDescriptor (TX7 k).2.2.1 = some (tyX7 k) := by decide +kernel
abbrev cX7_init : ByteArray := prog_1_method_1_code
def yX7_init : MethodName := ⟨RX7, "<init>", "()V"⟩
abbrev cX7_unknown : ByteArray := prog_1_method_2_code
def yX7_unknown : MethodName := ⟨RX7, "unknown", "(II)I"⟩
abbrev cX7_hole : ByteArray := prog_1_method_3_code
def yX7_hole : MethodName := ⟨RX7, "hole", "(II)I"⟩
abbrev cX7_rule : ByteArray := prog_1_method_4_code
def yX7_rule : MethodName := ⟨RX7, "rule", "(III)I"⟩
abbrev cX7_mayBeSet : ByteArray := prog_1_method_5_code
def yX7_mayBeSet : MethodName := ⟨RX7, "mayBeSet", "(III)Z"⟩
abbrev cX7_part : ByteArray := prog_1_method_6_code
def yX7_part : MethodName := ⟨RX7, "part", "(IIII)I"⟩
abbrev cX7_mayBePart : ByteArray := prog_1_method_7_code
def yX7_mayBePart : MethodName := ⟨RX7, "mayBePart", "(III)Z"⟩
abbrev cX7_literal : ByteArray := prog_1_method_8_code
def yX7_literal : MethodName := ⟨RX7, "literal", "(IIII)I"⟩
abbrev cX7_stand : ByteArray := prog_1_method_9_code
def yX7_stand : MethodName := ⟨RX7, "stand", "(IZ)I"⟩
abbrev cX7_table : ByteArray := prog_1_method_10_code
def yX7_table : MethodName := ⟨RX7, "table", "(III)I"⟩
abbrev cX7_tear : ByteArray := prog_1_method_11_code
def yX7_tear : MethodName := ⟨RX7, "tear", "(I)I"⟩
abbrev cX7_cell : ByteArray := prog_1_method_12_code
def yX7_cell : MethodName := ⟨RX7, "cell", "(III)I"⟩
abbrev cX7_copy : ByteArray := prog_1_method_13_code
def yX7_copy : MethodName := ⟨RX7, "copy", "(IIIII)I"⟩
abbrev cX7_get : ByteArray := prog_1_method_14_code
def yX7_get : MethodName := ⟨RX7, "get", "(II)I"⟩
abbrev cX7_about : ByteArray := prog_1_method_15_code
def yX7_about : MethodName := ⟨RX7, "about", "(II)I"⟩
abbrev cX7_narrow : ByteArray := prog_1_method_16_code
def yX7_narrow : MethodName := ⟨RX7, "narrow", "()I"⟩
abbrev cX7_takes : ByteArray := prog_1_method_17_code
def yX7_takes : MethodName := ⟨RX7, "takes", "(I)I"⟩
abbrev cX7_step : ByteArray := prog_1_method_18_code
def yX7_step : MethodName := ⟨RX7, "step", "(III)I"⟩
abbrev cX7_undo : ByteArray := prog_1_method_19_code
def yX7_undo : MethodName := ⟨RX7, "undo", "(I)I"⟩
abbrev cX7_range : ByteArray := prog_1_method_20_code
def yX7_range : MethodName := ⟨RX7, "range", "(II)I"⟩
abbrev cX7_why : ByteArray := prog_1_method_21_code
def yX7_why : MethodName := ⟨RX7, "why", "(II)I"⟩
abbrev cX7_isLacked : ByteArray := prog_1_method_22_code
def yX7_isLacked : MethodName := ⟨RX7, "isLacked", "(III)Z"⟩
abbrev cX7_narrowToldBySteps : ByteArray := prog_1_method_23_code
def yX7_narrowToldBySteps : MethodName := ⟨RX7, "narrowToldBySteps", "(I)Z"⟩
abbrev cX7_keepReasons : ByteArray := prog_1_method_24_code
def yX7_keepReasons : MethodName := ⟨RX7, "keepReasons", "(I)I"⟩
abbrev cX7_reason : ByteArray := prog_1_method_25_code
def yX7_reason : MethodName := ⟨RX7, "reason", "(I)I"⟩
abbrev cX7_solve : ByteArray := prog_1_method_26_code
def yX7_solve : MethodName := ⟨RX7, "solve", "()I"⟩
abbrev cX7_next : ByteArray := prog_1_method_27_code
def yX7_next : MethodName := ⟨RX7, "next", "()I"⟩
abbrev cX7_findsAnswerAbove : ByteArray := prog_1_method_28_code
def yX7_findsAnswerAbove : MethodName := ⟨RX7, "findsAnswerAbove", "(I)Z"⟩
abbrev cX7_answer : ByteArray := prog_1_method_29_code
def yX7_answer : MethodName := ⟨RX7, "answer", "(I)I"⟩
abbrev cX7_count : ByteArray := prog_1_method_30_code
def yX7_count : MethodName := ⟨RX7, "count", "(I)I"⟩
abbrev cX7_best : ByteArray := prog_1_method_31_code
def yX7_best : MethodName := ⟨RX7, "best", "(IZ)I"⟩
abbrev cX7_has : ByteArray := prog_1_method_32_code
def yX7_has : MethodName := ⟨RX7, "has", "(III)I"⟩
abbrev cX7_core : ByteArray := prog_1_method_33_code
def yX7_core : MethodName := ⟨RX7, "core", "()I"⟩
abbrev cX7_hasAnswerBySteps : ByteArray := prog_1_method_34_code
def yX7_hasAnswerBySteps : MethodName := ⟨RX7, "hasAnswerBySteps", "(I)Z"⟩
abbrev cX7_narrowAside : ByteArray := prog_1_method_35_code
def yX7_narrowAside : MethodName := ⟨RX7, "narrowAside", "()I"⟩
abbrev cX7_countWays : ByteArray := prog_1_method_36_code
def yX7_countWays : MethodName := ⟨RX7, "countWays", "([II)I"⟩
abbrev cX7_findsAnswerWith : ByteArray := prog_1_method_37_code
def yX7_findsAnswerWith : MethodName := ⟨RX7, "findsAnswerWith", "(II)Z"⟩
abbrev cX7_findsAnswer : ByteArray := prog_1_method_38_code
def yX7_findsAnswer : MethodName := ⟨RX7, "findsAnswer", "([I)Z"⟩
abbrev cX7_keepAnswer : ByteArray := prog_1_method_39_code
def yX7_keepAnswer : MethodName := ⟨RX7, "keepAnswer", "()V"⟩
abbrev cX7_line : ByteArray := prog_1_method_40_code
def yX7_line : MethodName := ⟨RX7, "line", "(I)I"⟩
abbrev cX7_says : ByteArray := prog_1_method_41_code
def yX7_says : MethodName := ⟨RX7, "says", "(IIII)I"⟩
abbrev cX7_forge : ByteArray := prog_1_method_42_code
def yX7_forge : MethodName := ⟨RX7, "forge", "(IIII)I"⟩
abbrev cX7_check : ByteArray := prog_1_method_43_code
def yX7_check : MethodName := ⟨RX7, "check", "()I"⟩
abbrev cX7_refutes : ByteArray := prog_1_method_44_code
def yX7_refutes : MethodName := ⟨RX7, "refutes", "()I"⟩
abbrev cX7_isRightByRule : ByteArray := prog_1_method_45_code
def yX7_isRightByRule : MethodName := ⟨RX7, "isRightByRule", "(II)I"⟩
abbrev cX7_isRightByLines : ByteArray := prog_1_method_46_code
def yX7_isRightByLines : MethodName := ⟨RX7, "isRightByLines", "(I)I"⟩
abbrev cX7_cutToldByFalse : ByteArray := prog_1_method_47_code
def yX7_cutToldByFalse : MethodName := ⟨RX7, "cutToldByFalse", "(LNarrowingKernel$Rule;)Z"⟩
abbrev cX7_total : ByteArray := prog_1_method_48_code
def yX7_total : MethodName := ⟨RX7, "total", "(I)I"⟩
abbrev cX7_isUnknown : ByteArray := prog_1_method_49_code
def yX7_isUnknown : MethodName := ⟨RX7, "isUnknown", "(I)Z"⟩
abbrev cX7_isRule : ByteArray := prog_1_method_50_code
def yX7_isRule : MethodName := ⟨RX7, "isRule", "(I)Z"⟩
abbrev cX7_isLine : ByteArray := prog_1_method_51_code
def yX7_isLine : MethodName := ⟨RX7, "isLine", "(I)Z"⟩
abbrev cX7_stands : ByteArray := prog_1_method_52_code
def yX7_stands : MethodName := ⟨RX7, "stands", "(I)Z"⟩
abbrev cX7_isTable : ByteArray := prog_1_method_53_code
def yX7_isTable : MethodName := ⟨RX7, "isTable", "(I)Z"⟩
abbrev cX7_isNumber : ByteArray := prog_1_method_54_code
def yX7_isNumber : MethodName := ⟨RX7, "isNumber", "(I)Z"⟩
abbrev cX7_isLiteral : ByteArray := prog_1_method_55_code
def yX7_isLiteral : MethodName := ⟨RX7, "isLiteral", "(II)Z"⟩
abbrev cX7_numbersSo : ByteArray := prog_1_method_56_code
def yX7_numbersSo : MethodName := ⟨RX7, "numbersSo", "(II)I"⟩
abbrev cX7_found : ByteArray := prog_1_method_57_code
def yX7_found : MethodName := ⟨RX7, "found", "(I)I"⟩
abbrev cX7_letRangesBeAsTold : ByteArray := prog_1_method_58_code
def yX7_letRangesBeAsTold : MethodName := ⟨RX7, "letRangesBeAsTold", "()V"⟩
abbrev cX7_bring : ByteArray := prog_1_method_59_code
def yX7_bring : MethodName := ⟨RX7, "bring", "([I[I)V"⟩
abbrev cX7_noneIsEmpty : ByteArray := prog_1_method_60_code
def yX7_noneIsEmpty : MethodName := ⟨RX7, "noneIsEmpty", "([I)Z"⟩
abbrev cX7_least : ByteArray := prog_1_method_61_code
def yX7_least : MethodName := ⟨RX7, "least", "(I)I"⟩
abbrev cX7_greatest : ByteArray := prog_1_method_62_code
def yX7_greatest : MethodName := ⟨RX7, "greatest", "(I)I"⟩
abbrev cX7_isOne : ByteArray := prog_1_method_63_code
def yX7_isOne : MethodName := ⟨RX7, "isOne", "(I)Z"⟩
def RX8 : String := "NarrowingKernelModel"
def TX8 : u_T := fun k => match k with
  | 0 => ("NarrowingKernelModel", "thrown", "I", false)
  | 1 => ("NarrowingKernelModel", "unknowns", "I", false)
  | 2 => ("NarrowingKernelModel", "told", "[I", true)
  | 3 => ("NarrowingKernelModel", "range", "[I", true)
  | 4 => ("NarrowingKernelModel", "steps", "I", false)
  | 5 => ("NarrowingKernelModel", "stepOf", "[I", true)
  | 6 => ("NarrowingKernelModel", "stepBits", "[I", true)
  | 7 => ("NarrowingKernelModel", "before", "[I", true)
  | 8 => ("NarrowingKernelModel", "rules", "I", false)
  | 9 => ("NarrowingKernelModel", "kind", "[I", true)
  | 10 => ("NarrowingKernelModel", "numberA", "[I", true)
  | 11 => ("NarrowingKernelModel", "numberB", "[I", true)
  | 12 => ("NarrowingKernelModel", "stands", "[Z", true)
  | 13 => ("NarrowingKernelModel", "parts", "[I", true)
  | 14 => ("NarrowingKernelModel", "partOf", "[I", true)
  | 15 => ("NarrowingKernelModel", "partA", "[I", true)
  | 16 => ("NarrowingKernelModel", "partB", "[I", true)
  | 17 => ("NarrowingKernelModel", "cells", "[I", true)
  | 18 => ("NarrowingKernelModel", "cellOf", "[I", true)
  | 19 => ("NarrowingKernelModel", "lines", "I", false)
  | 20 => ("NarrowingKernelModel", "lineRule", "[I", true)
  | 21 => ("NarrowingKernelModel", "lineMany", "[I", true)
  | 22 => ("NarrowingKernelModel", "lineOf", "[I", true)
  | 23 => ("NarrowingKernelModel", "lineBits", "[I", true)
  | 24 => ("NarrowingKernelModel", "findings", "I", false)
  | 25 => ("NarrowingKernelModel", "reasons", "I", false)
  | 26 => ("NarrowingKernelModel", "reasonOf", "[I", true)
  | 27 => ("NarrowingKernelModel", "answered", "I", false)
  | 28 => ("NarrowingKernelModel", "answerOf", "[I", true)
  | 29 => ("NarrowingKernelModel", "aside", "[I", true)
  | 30 => ("NarrowingKernelModel", "fresh", "[I", true)
  | 31 => ("NarrowingKernelModel", "dead", "Z", false)
  | 32 => ("NarrowingKernelModel", "moved", "[I", true)
  | _ => ("NarrowingKernelModel", "val", "[I", true)
def tyX8 : Nat → FieldType := fun k => match k with
  | 0 => .int
  | 1 => .int
  | 2 => .array .int
  | 3 => .array .int
  | 4 => .int
  | 5 => .array .int
  | 6 => .array .int
  | 7 => .array .int
  | 8 => .int
  | 9 => .array .int
  | 10 => .array .int
  | 11 => .array .int
  | 12 => .array .boolean
  | 13 => .array .int
  | 14 => .array .int
  | 15 => .array .int
  | 16 => .array .int
  | 17 => .array .int
  | 18 => .array .int
  | 19 => .int
  | 20 => .array .int
  | 21 => .array .int
  | 22 => .array .int
  | 23 => .array .int
  | 24 => .int
  | 25 => .int
  | 26 => .array .int
  | 27 => .int
  | 28 => .array .int
  | 29 => .array .int
  | 30 => .array .int
  | 31 => .boolean
  | 32 => .array .int
  | _ => .array .int
abbrev wsX80 : List Cond := u_ws RX8 TX8 34
theorem nmX8 : ∀ a, a < 34 → ∀ b, b < 34 → a ≠ b → (TX8 a).2.1 ≠ (TX8 b).2.1 := by decide +kernel
theorem tyX8_ok : ∀ k, k < 34 → parseFieldDescriptor (TX8 k).2.2.1 = some (tyX8 k) := by decide +kernel
abbrev cX8_init : ByteArray := prog_10_method_1_code
def yX8_init : MethodName := ⟨RX8, "<init>", "()V"⟩
abbrev cX8_in : ByteArray := prog_10_method_3_code
def yX8_in : MethodName := ⟨RX8, "in", "(JJJ)Z"⟩
abbrev cX8_noUnknown : ByteArray := prog_10_method_4_code
def yX8_noUnknown : MethodName := ⟨RX8, "noUnknown", "(I)Z"⟩
abbrev cX8_noRule : ByteArray := prog_10_method_5_code
def yX8_noRule : MethodName := ⟨RX8, "noRule", "(I)Z"⟩
abbrev cX8_finds : ByteArray := prog_10_method_6_code
def yX8_finds : MethodName := ⟨RX8, "finds", "(I)I"⟩
abbrev cX8_bits : ByteArray := prog_10_method_7_code
def yX8_bits : MethodName := ⟨RX8, "bits", "(II)I"⟩
abbrev cX8_many : ByteArray := prog_10_method_8_code
def yX8_many : MethodName := ⟨RX8, "many", "(I)I"⟩
abbrev cX8_least : ByteArray := prog_10_method_9_code
def yX8_least : MethodName := ⟨RX8, "least", "(I)I"⟩
abbrev cX8_greatest : ByteArray := prog_10_method_10_code
def yX8_greatest : MethodName := ⟨RX8, "greatest", "(I)I"⟩
abbrev cX8_asTold : ByteArray := prog_10_method_11_code
def yX8_asTold : MethodName := ⟨RX8, "asTold", "()V"⟩
abbrev cX8_unknown : ByteArray := prog_10_method_12_code
def yX8_unknown : MethodName := ⟨RX8, "unknown", "(II)I"⟩
abbrev cX8_hole : ByteArray := prog_10_method_13_code
def yX8_hole : MethodName := ⟨RX8, "hole", "(II)I"⟩
abbrev cX8_rule : ByteArray := prog_10_method_14_code
def yX8_rule : MethodName := ⟨RX8, "rule", "(III)I"⟩
abbrev cX8_part : ByteArray := prog_10_method_15_code
def yX8_part : MethodName := ⟨RX8, "part", "(IIII)I"⟩
abbrev cX8_added : ByteArray := prog_10_method_16_code
def yX8_added : MethodName := ⟨RX8, "added", "(IIII)I"⟩
abbrev cX8_literal : ByteArray := prog_10_method_17_code
def yX8_literal : MethodName := ⟨RX8, "literal", "(IIII)I"⟩
abbrev cX8_stand : ByteArray := prog_10_method_18_code
def yX8_stand : MethodName := ⟨RX8, "stand", "(IZ)I"⟩
abbrev cX8_table : ByteArray := prog_10_method_19_code
def yX8_table : MethodName := ⟨RX8, "table", "(III)I"⟩
abbrev cX8_tear : ByteArray := prog_10_method_20_code
def yX8_tear : MethodName := ⟨RX8, "tear", "(I)I"⟩
abbrev cX8_cell : ByteArray := prog_10_method_21_code
def yX8_cell : MethodName := ⟨RX8, "cell", "(III)I"⟩
abbrev cX8_copy : ByteArray := prog_10_method_22_code
def yX8_copy : MethodName := ⟨RX8, "copy", "(IIIII)I"⟩
abbrev cX8_get : ByteArray := prog_10_method_23_code
def yX8_get : MethodName := ⟨RX8, "get", "(II)I"⟩
abbrev cX8_about : ByteArray := prog_10_method_24_code
def yX8_about : MethodName := ⟨RX8, "about", "(II)I"⟩
abbrev cX8_asideOf : ByteArray := prog_10_method_25_code
def yX8_asideOf : MethodName := ⟨RX8, "asideOf", "(II)I"⟩
abbrev cX8_end : ByteArray := prog_10_method_26_code
def yX8_end : MethodName := ⟨RX8, "end", "(IIZ)I"⟩
abbrev cX8_goesBySum : ByteArray := prog_10_method_27_code
def yX8_goesBySum : MethodName := ⟨RX8, "goesBySum", "(III)Z"⟩
abbrev cX8_goesByUnlike : ByteArray := prog_10_method_28_code
def yX8_goesByUnlike : MethodName := ⟨RX8, "goesByUnlike", "(III)Z"⟩
abbrev cX8_goesByTable : ByteArray := prog_10_method_29_code
def yX8_goesByTable : MethodName := ⟨RX8, "goesByTable", "(III)Z"⟩
abbrev cX8_mustRun : ByteArray := prog_10_method_30_code
def yX8_mustRun : MethodName := ⟨RX8, "mustRun", "(III)Z"⟩
abbrev cX8_goesByLoad : ByteArray := prog_10_method_31_code
def yX8_goesByLoad : MethodName := ⟨RX8, "goesByLoad", "(III)Z"⟩
abbrev cX8_goesByRing : ByteArray := prog_10_method_32_code
def yX8_goesByRing : MethodName := ⟨RX8, "goesByRing", "(III)Z"⟩
abbrev cX8_goesByClause : ByteArray := prog_10_method_33_code
def yX8_goesByClause : MethodName := ⟨RX8, "goesByClause", "(III)Z"⟩
abbrev cX8_goes : ByteArray := prog_10_method_34_code
def yX8_goes : MethodName := ⟨RX8, "goes", "(III)Z"⟩
abbrev cX8_left : ByteArray := prog_10_method_35_code
def yX8_left : MethodName := ⟨RX8, "left", "(II)I"⟩
abbrev cX8_fitsBare : ByteArray := prog_10_method_36_code
def yX8_fitsBare : MethodName := ⟨RX8, "fitsBare", "(I)Z"⟩
abbrev cX8_hasNone : ByteArray := prog_10_method_37_code
def yX8_hasNone : MethodName := ⟨RX8, "hasNone", "()Z"⟩
abbrev cX8_narrowAside : ByteArray := prog_10_method_38_code
def yX8_narrowAside : MethodName := ⟨RX8, "narrowAside", "()V"⟩
abbrev cX8_asideAs : ByteArray := prog_10_method_39_code
def yX8_asideAs : MethodName := ⟨RX8, "asideAs", "(Z)V"⟩
abbrev cX8_narrow : ByteArray := prog_10_method_40_code
def yX8_narrow : MethodName := ⟨RX8, "narrow", "()I"⟩
abbrev cX8_takes : ByteArray := prog_10_method_41_code
def yX8_takes : MethodName := ⟨RX8, "takes", "(I)I"⟩
abbrev cX8_step : ByteArray := prog_10_method_42_code
def yX8_step : MethodName := ⟨RX8, "step", "(III)I"⟩
abbrev cX8_undo : ByteArray := prog_10_method_43_code
def yX8_undo : MethodName := ⟨RX8, "undo", "(I)I"⟩
abbrev cX8_range : ByteArray := prog_10_method_44_code
def yX8_range : MethodName := ⟨RX8, "range", "(II)I"⟩
abbrev cX8_asideCut : ByteArray := prog_10_method_45_code
def yX8_asideCut : MethodName := ⟨RX8, "asideCut", "(I)V"⟩
abbrev cX8_isLacked : ByteArray := prog_10_method_46_code
def yX8_isLacked : MethodName := ⟨RX8, "isLacked", "(III)Z"⟩
abbrev cX8_reasoned : ByteArray := prog_10_method_47_code
def yX8_reasoned : MethodName := ⟨RX8, "reasoned", "(I)I"⟩
abbrev cX8_why : ByteArray := prog_10_method_48_code
def yX8_why : MethodName := ⟨RX8, "why", "(II)I"⟩
abbrev cX8_reason : ByteArray := prog_10_method_49_code
def yX8_reason : MethodName := ⟨RX8, "reason", "(I)I"⟩
abbrev cX8_fitsLoad : ByteArray := prog_10_method_50_code
def yX8_fitsLoad : MethodName := ⟨RX8, "fitsLoad", "(I)Z"⟩
abbrev cX8_fitsTable : ByteArray := prog_10_method_51_code
def yX8_fitsTable : MethodName := ⟨RX8, "fitsTable", "(I)Z"⟩
abbrev cX8_fitsRing : ByteArray := prog_10_method_52_code
def yX8_fitsRing : MethodName := ⟨RX8, "fitsRing", "(I)Z"⟩
abbrev cX8_fitsSum : ByteArray := prog_10_method_53_code
def yX8_fitsSum : MethodName := ⟨RX8, "fitsSum", "(I)Z"⟩
abbrev cX8_fitsUnlike : ByteArray := prog_10_method_54_code
def yX8_fitsUnlike : MethodName := ⟨RX8, "fitsUnlike", "(I)Z"⟩
abbrev cX8_fitsClause : ByteArray := prog_10_method_55_code
def yX8_fitsClause : MethodName := ⟨RX8, "fitsClause", "(I)Z"⟩
abbrev cX8_fits : ByteArray := prog_10_method_56_code
def yX8_fits : MethodName := ⟨RX8, "fits", "(I)Z"⟩
abbrev cX8_fitsAll : ByteArray := prog_10_method_57_code
def yX8_fitsAll : MethodName := ⟨RX8, "fitsAll", "()Z"⟩
abbrev cX8_isFar : ByteArray := prog_10_method_58_code
def yX8_isFar : MethodName := ⟨RX8, "isFar", "()Z"⟩
abbrev cX8_first : ByteArray := prog_10_method_59_code
def yX8_first : MethodName := ⟨RX8, "first", "()V"⟩
abbrev cX8_goesOn : ByteArray := prog_10_method_60_code
def yX8_goesOn : MethodName := ⟨RX8, "goesOn", "()Z"⟩
abbrev cX8_begun : ByteArray := prog_10_method_61_code
def yX8_begun : MethodName := ⟨RX8, "begun", "()I"⟩
abbrev cX8_keep : ByteArray := prog_10_method_62_code
def yX8_keep : MethodName := ⟨RX8, "keep", "()V"⟩
abbrev cX8_solve : ByteArray := prog_10_method_63_code
def yX8_solve : MethodName := ⟨RX8, "solve", "()I"⟩
abbrev cX8_isAbove : ByteArray := prog_10_method_64_code
def yX8_isAbove : MethodName := ⟨RX8, "isAbove", "()Z"⟩
abbrev cX8_next : ByteArray := prog_10_method_65_code
def yX8_next : MethodName := ⟨RX8, "next", "()I"⟩
abbrev cX8_answer : ByteArray := prog_10_method_66_code
def yX8_answer : MethodName := ⟨RX8, "answer", "(I)I"⟩
abbrev cX8_count : ByteArray := prog_10_method_67_code
def yX8_count : MethodName := ⟨RX8, "count", "(I)I"⟩
abbrev cX8_best : ByteArray := prog_10_method_68_code
def yX8_best : MethodName := ⟨RX8, "best", "(IZ)I"⟩
abbrev cX8_has : ByteArray := prog_10_method_69_code
def yX8_has : MethodName := ⟨RX8, "has", "(III)I"⟩
abbrev cX8_hasAnswer : ByteArray := prog_10_method_70_code
def yX8_hasAnswer : MethodName := ⟨RX8, "hasAnswer", "(I)Z"⟩
abbrev cX8_core : ByteArray := prog_10_method_71_code
def yX8_core : MethodName := ⟨RX8, "core", "()I"⟩
abbrev cX8_noLine : ByteArray := prog_10_method_72_code
def yX8_noLine : MethodName := ⟨RX8, "noLine", "(I)Z"⟩
abbrev cX8_line : ByteArray := prog_10_method_73_code
def yX8_line : MethodName := ⟨RX8, "line", "(I)I"⟩
abbrev cX8_says : ByteArray := prog_10_method_74_code
def yX8_says : MethodName := ⟨RX8, "says", "(IIII)I"⟩
abbrev cX8_forge : ByteArray := prog_10_method_75_code
def yX8_forge : MethodName := ⟨RX8, "forge", "(IIII)I"⟩
abbrev cX8_byRule : ByteArray := prog_10_method_76_code
def yX8_byRule : MethodName := ⟨RX8, "byRule", "(I)I"⟩
abbrev cX8_takesByLine : ByteArray := prog_10_method_77_code
def yX8_takesByLine : MethodName := ⟨RX8, "takesByLine", "(I)Z"⟩
abbrev cX8_byLines : ByteArray := prog_10_method_78_code
def yX8_byLines : MethodName := ⟨RX8, "byLines", "(I)I"⟩
abbrev cX8_firstWrong : ByteArray := prog_10_method_79_code
def yX8_firstWrong : MethodName := ⟨RX8, "firstWrong", "()I"⟩
abbrev cX8_check : ByteArray := prog_10_method_80_code
def yX8_check : MethodName := ⟨RX8, "check", "()I"⟩
abbrev cX8_refutes : ByteArray := prog_10_method_81_code
def yX8_refutes : MethodName := ⟨RX8, "refutes", "()I"⟩
abbrev cX8_total : ByteArray := prog_10_method_82_code
def yX8_total : MethodName := ⟨RX8, "total", "(I)I"⟩
def RJ6 : String := "java/lang/Integer"
def TJ6 : u_T := fun k => match k with
  | _ => ("", "", "", false)
def tyJ6 : Nat → FieldType := fun k => match k with
  | _ => .int
abbrev wsJ60 : List Cond := u_ws RJ6 TJ6 0
theorem nmJ6 : ∀ a, a < 0 → ∀ b, b < 0 → a ≠ b → (TJ6 a).2.1 ≠ (TJ6 b).2.1 := by decide +kernel
theorem tyJ6_ok : ∀ k, k < 0 → parseFieldDescriptor (TJ6 k).2.2.1 = some (tyJ6 k) := by decide +kernel
abbrev cJ6_numberOfLeadingZeros_0f7a4 : ByteArray := prog_11_method_47_code
def yJ6_numberOfLeadingZeros_0f7a4 : MethodName := ⟨RJ6, "numberOfLeadingZeros", "(I)I"⟩
abbrev cJ6_numberOfTrailingZeros_0f7a4 : ByteArray := prog_11_method_48_code
def yJ6_numberOfTrailingZeros_0f7a4 : MethodName := ⟨RJ6, "numberOfTrailingZeros", "(I)I"⟩
abbrev cJ6_bitCount_0f7a4 : ByteArray := prog_11_method_49_code
def yJ6_bitCount_0f7a4 : MethodName := ⟨RJ6, "bitCount", "(I)I"⟩
def RJ13 : String := "java/lang/Long"
def TJ13 : u_T := fun k => match k with
  | _ => ("", "", "", false)
def tyJ13 : Nat → FieldType := fun k => match k with
  | _ => .int
abbrev wsJ130 : List Cond := u_ws RJ13 TJ13 0
theorem nmJ13 : ∀ a, a < 0 → ∀ b, b < 0 → a ≠ b → (TJ13 a).2.1 ≠ (TJ13 b).2.1 := by decide +kernel
theorem tyJ13_ok : ∀ k, k < 0 → parseFieldDescriptor (TJ13 k).2.2.1 = some (tyJ13 k) := by decide +kernel
abbrev cJ13_numberOfTrailingZeros_95d88 : ByteArray := prog_12_method_49_code
def yJ13_numberOfTrailingZeros_95d88 : MethodName := ⟨RJ13, "numberOfTrailingZeros", "(J)I"⟩
def RJ9 : String := "java/lang/Math"
def TJ9 : u_T := fun k => match k with
  | _ => ("", "", "", false)
def tyJ9 : Nat → FieldType := fun k => match k with
  | _ => .int
abbrev wsJ90 : List Cond := u_ws RJ9 TJ9 0
theorem nmJ9 : ∀ a, a < 0 → ∀ b, b < 0 → a ≠ b → (TJ9 a).2.1 ≠ (TJ9 b).2.1 := by decide +kernel
theorem tyJ9_ok : ∀ k, k < 0 → parseFieldDescriptor (TJ9 k).2.2.1 = some (tyJ9 k) := by decide +kernel
abbrev cJ9_max_7cf53 : ByteArray := prog_13_method_65_code
def yJ9_max_7cf53 : MethodName := ⟨RJ9, "max", "(II)I"⟩
abbrev cJ9_min_7cf53 : ByteArray := prog_13_method_69_code
def yJ9_min_7cf53 : MethodName := ⟨RJ9, "min", "(II)I"⟩
def RJ10 : String := "java/lang/System"
def TJ10 : u_T := fun k => match k with
  | _ => ("", "", "", false)
def tyJ10 : Nat → FieldType := fun k => match k with
  | _ => .int
abbrev wsJ100 : List Cond := u_ws RJ10 TJ10 0
theorem nmJ10 : ∀ a, a < 0 → ∀ b, b < 0 → a ≠ b → (TJ10 a).2.1 ≠ (TJ10 b).2.1 := by decide +kernel
theorem tyJ10_ok : ∀ k, k < 0 → parseFieldDescriptor (TJ10 k).2.2.1 = some (tyJ10 k) := by decide +kernel
def RL : String := "NarrowingKernelLaw"
abbrev cL_law : ByteArray := code
def yL_law : MethodName := ⟨RL, "law", "([I)Z"⟩
abbrev vwCl : List vw_C := [(RX0, TX0, 1), (RX1, TX1, 5), (RX2, TX2, 2), (RX3, TX3, 8), (RX4, TX4, 6), (RX5, TX5, 4), (RX6, TX6, 2), (RX7, TX7, 20), (RX8, TX8, 34)]
end
section
/-! THE PURE MACHINE: cells by number, whole numbers as Int; 'Ev' says what the machine comes to, in these words alone -/
abbrev PV : Type := Int ⊕ (Int ⊕ (Unit ⊕ Option Nat))
abbrev vI (x : Int) : PV := .inl x
abbrev vL (x : Int) : PV := .inr (.inl x)
abbrev vS : PV := .inr (.inr (.inl ()))
abbrev vO (r : Option Nat) : PV := .inr (.inr (.inr r))
abbrev vR (c : Nat) : PV := .inr (.inr (.inr (some c)))
/-- how many cells; each one's kind (0: an object of a class; 1 int[], 2 boolean[], 3 long[], 4 Rule[], 5 int[][], with its length); numbers; references -/
abbrev Mem : Type := Nat × (Nat → Nat × Nat) × (Nat → Nat → Int) × (Nat → Nat → Option Nat)
/-- a method: its name, bytes, locals, answer, depth of its calls -/
abbrev MD : Type := MethodName × ByteArray × Nat × Option FieldType × Nat
/-- launch, the classes' numbers, the arrays' classes, where cells begin, the script -/
abbrev GC : Type := Launch × va_G × (Nat → ClassId) × Nat × Nat × Nat × (Nat → Int32)
def cv (g : GC) : PV → Value
  | .inl x => .int (Int32.ofInt x)
  | .inr (.inl x) => .long (Int64.ofInt x)
  | .inr (.inr (.inl _)) => .ref g.2.2.2.2.1
  | .inr (.inr (.inr r)) => va_rf (r.map (g.2.2.2.1 + ·))
def cty : Nat → Nat → FieldType
  | 0 => tyX0
  | 1 => tyX1
  | 2 => tyX2
  | 3 => tyX3
  | 4 => tyX4
  | 5 => tyX5
  | 6 => tyX6
  | 7 => tyX7
  | _ => tyX8
def cNf : Nat → Nat
  | 0 => 1
  | 1 => 5
  | 2 => 2
  | 3 => 8
  | 4 => 6
  | 5 => 4
  | 6 => 2
  | 7 => 20
  | _ => 34
/-- what a field of a type holds -/
def fld (t : FieldType) (x : Int) (r : Option Nat) : PV := match t with
  | .long => vL x
  | .int => vI x
  | .boolean => vI x
  | _ => vO r
def tysG (g : GC) : List (ClassId × FieldType) := [(g.2.2.1 1, .int), (g.2.2.1 2, .boolean), (g.2.2.1 3, .long), (g.2.2.1 4, .object RX3), (g.2.2.1 5, .array .int)]
def ent (g : GC) (k : Nat × Nat) (x : Nat → Int) (r : Nat → Option Nat) : va_E := match k.1 with
  | 0 => .inr (k.2, (List.range (cNf k.2)).map fun j => cv g (fld (cty k.2 j) (x j) (r j)))
  | 1 => .inl (g.2.2.1 1, k.2, .inl fun j => Int32.ofInt (x j))
  | 2 => .inl (g.2.2.1 2, k.2, .inl fun j => Int32.ofInt (x j))
  | 3 => .inl (g.2.2.1 3, k.2, .inr (.inl fun j => Int64.ofInt (x j)))
  | 4 => .inl (g.2.2.1 4, k.2, .inr (.inr (.inr (.inr fun j => (r j).map (g.2.2.2.1 + ·)))))
  | _ => .inl (g.2.2.1 5, k.2, .inr (.inr (.inr (.inr fun j => (r j).map (g.2.2.2.1 + ·)))))
def wl (g : GC) (m : Mem) : va_W := (List.range m.1).map fun c => (g.2.2.2.1 + c, ent g (m.2.1 c) (m.2.2.1 c) (m.2.2.2 c))
def Rep (g : GC) (m : Mem) (H : Heap) : Prop := va_P g.2.1 vwCl (wl g m) H ∧ H.size = g.2.2.2.1 + m.1
abbrev gA (g : GC) : Nat → Prop := fun q => g.2.2.2.1 ≤ q
theorem wl_at {g : GC} {m : Mem} {c : Nat} (h : c < m.1) : (wl g m)[c]? = some (g.2.2.2.1 + c, ent g (m.2.1 c) (m.2.2.1 c) (m.2.2.2 c)) := by
  simp [wl, h]
theorem wl_D {g : GC} {m : Mem} : va_D (gA g) (wl g m) := by
  refine ⟨fun i j p q hi hj he => ?_, fun k q hk => ?_⟩
  · simp only [wl, List.getElem?_map, Option.map_eq_some_iff] at hi hj
    obtain ⟨a, ha, rfl⟩ := hi
    obtain ⟨b, hb, rfl⟩ := hj
    have h1 := (List.getElem?_eq_some_iff.mp ha).2
    have h2 := (List.getElem?_eq_some_iff.mp hb).2
    simp at h1 h2
    simp at he
    omega
  · simp only [wl, List.getElem?_map, Option.map_eq_some_iff] at hk
    obtain ⟨a, ha, rfl⟩ := hk
    exact Nat.le_add_right _ _
/-- one cell changed -/
def upC {α : Type} (f : Nat → Nat → α) (c i : Nat) (v : α) : Nat → Nat → α := fun c' i' => if c' = c ∧ i' = i then v else f c' i'
theorem wl_set {g : GC} {n : Nat} {sh : Nat → Nat × Nat} {x x' : Nat → Nat → Int} {r r' : Nat → Nat → Option Nat} {c : Nat} {e : va_E} (hc : c < n) (he : ent g (sh c) (x' c) (r' c) = e) (hx : ∀ c', c' ≠ c → x' c' = x c') (hr : ∀ c', c' ≠ c → r' c' = r c') :
    (wl g (n, sh, x, r)).set c (g.2.2.2.1 + c, e) = wl g (n, sh, x', r') := by
  apply List.ext_getElem?
  intro k
  by_cases hk : k = c
  · subst hk
    rw [wl_at (m := (n, sh, x', r')) hc, ← he]
    simp [wl, hc]
  · rw [List.getElem?_set_ne (fun h => hk h.symm)]
    by_cases hkn : k < n
    · rw [wl_at (m := (n, sh, x', r')) hkn, wl_at (m := (n, sh, x, r)) hkn]
      simp only [hx k hk, hr k hk]
    · simp [wl, hkn]
theorem wl_push {g : GC} {n : Nat} {sh sh' : Nat → Nat × Nat} {x x' : Nat → Nat → Int} {r r' : Nat → Nat → Option Nat} {e : va_E} (he : ent g (sh' n) (x' n) (r' n) = e) (hs : ∀ c, c < n → sh' c = sh c) (hx : ∀ c, c < n → x' c = x c) (hr : ∀ c, c < n → r' c = r c) :
    wl g (n, sh, x, r) ++ [(g.2.2.2.1 + n, e)] = wl g (n + 1, sh', x', r') := by
  simp only [wl, List.range_succ, List.map_append, List.map_cons, List.map_nil, he]
  congr 1
  apply List.map_congr_left
  intro c hc
  have hc : c < n := by simpa using hc
  rw [hs c hc, hx c hc, hr c hc]
def nestL : List (String × Nat × MethodName × String) := [("NarrowingKernel", 24, ⟨"NarrowingKernel$Steps", "<init>", "()V"⟩, "NarrowingKernel"), ("NarrowingKernel", 51, ⟨"NarrowingKernel$Rule", "<init>", "()V"⟩, "NarrowingKernel"), ("NarrowingKernel$Looker", 69, ⟨"NarrowingKernel", "isOne", "(I)Z"⟩, "NarrowingKernel"), ("NarrowingKernel$Looker", 114, ⟨"NarrowingKernel", "least", "(I)I"⟩, "NarrowingKernel"), ("NarrowingKernel$Looker", 122, ⟨"NarrowingKernel", "greatest", "(I)I"⟩, "NarrowingKernel"), ("NarrowingKernel$Search", 47, ⟨"NarrowingKernel", "isOne", "(I)Z"⟩, "NarrowingKernel")]
def GT : List Cond := lw_tbl.filter goodWord
theorem GT_mem {w : Cond} (h : w ∈ lw_tbl) (g : goodWord w = true) : w ∈ GT := List.mem_filter.mpr ⟨h, g⟩
theorem GT_good {w : Cond} (h : w ∈ GT) : goodWord w = true := (List.mem_filter.mp h).2
theorem GT_in : GoodIn GT GT := fun w h => ⟨h, good_of_word (GT_good h)⟩
def St (g : GC) (U : State) : Prop := va_K g.2.1 vwCl (tysG g) U ∧ (∀ q ∈ nestL, va_Nw (.methodLinkNest q.1 q.2.1 q.2.2.1 q.2.2.2) U) ∧ va_AO RX3 U ∧ va_AOA .int U
theorem va_AOA.moved {ty : FieldType} {u U : State} (hvm : u.vm.Alike U.vm) (h : va_AOA ty u) : va_AOA ty U := by
  have e := Cond.arrayOver_setVmC (args := #[]) hvm (.array ty)
  exact va_AOA.same (u := u.setVm U.vm) rfl (e.trans h)
theorem St.warm {g : GC} {s U : State} (hW : s.WarmedH U.vm) (h : St g s) : St g U := ⟨va_K.moved hW.alike h.1, fun q hq => (h.2.1 q hq).warmM hW, h.2.2.1.moved hW.alike, h.2.2.2.moved hW.alike⟩
theorem St.calling {g : GC} {s : State} (f : JFrame) (mk : MethodId) (a : Array Value) (h : St g s) : St g (s.calling f mk a) :=
  ⟨va_K.moved (u := s) (U := s.calling f mk a) (Vm.Alike.refl s.vm) h.1, fun q hq => (h.2.1 q hq).same rfl rfl, h.2.2.1.moved (u := s) (U := s.calling f mk a) (Vm.Alike.refl s.vm), h.2.2.2.moved (u := s) (U := s.calling f mk a) (Vm.Alike.refl s.vm)⟩
/-- what is known of locals -/
def facts (g : GC) (pl : List (Option PV)) : List (Nat × Value) := (List.range pl.length).filterMap fun k => (pl.getD k none).map fun v => (k, cv g v)
theorem facts_mem {g : GC} {pl : List (Option PV)} {q : Nat × Value} : q ∈ facts g pl ↔ ∃ v, pl[q.1]? = some (some v) ∧ cv g v = q.2 := by
  obtain ⟨k, w⟩ := q
  simp only [facts, List.mem_filterMap, List.mem_range, Option.map_eq_some_iff]
  constructor
  · rintro ⟨k', hk, v, hv, he⟩
    cases he
    refine ⟨v, ?_, rfl⟩
    rw [List.getD_eq_getElem?_getD] at hv
    cases h : pl[k]? with
    | none => rw [h] at hv; cases hv
    | some o => rw [h] at hv; cases hv; rfl
  · rintro ⟨v, hv, he⟩
    have hl := (List.getElem?_eq_some_iff.mp hv).1
    refine ⟨k, hl, v, ?_, by rw [he]⟩
    rw [List.getD_eq_getElem?_getD, hv]
    rfl
theorem lv_mono {ls : Array Slot} {nL : Nat} {l l' : List (Nat × Value)} (h : lv_has ls nL l) (hm : ∀ q ∈ l', q ∈ l) : lv_has ls nL l' := ⟨h.1, h.2.1, fun q hq => h.2.2 q (hm q hq)⟩
def Cx (g : GC) (M : MD) (p : Program) (R : Room) (s : State) (mi : MethodId) (args : Array Value) (meth : Method) (c : Code) : Prop :=
  p.tables.exec = Jvm.exec ∧ c.code = M.2.1 ∧ c.maxLocals = M.2.2.1 ∧ s.vm.findClass M.1.cls = some mi.cls ∧ (∀ w ∈ GT, w.before args s = true) ∧ St g s ∧ (M.1.name = "<init>" → meth.name = "<init>") ∧ (M.2.2.2.2 ≤ R.frames ∧ 40 * M.2.2.2.2 ≤ R.locals) ∧ g.2.2.2.1 ≤ s.heap.size ∧
  (M.1.cls = RL → va_X g.2.2.2.2.1 g.2.2.2.2.2.1 g.2.2.2.2.2.2 s s.heap ∧ g.2.2.2.2.1 < s.heap.size ∧ g.2.2.2.2.1 < g.2.2.2.1)
/-- the return that stands at a place, and its answer -/
def retAt (M : MD) (pc : Nat) (v : Option PV) : Prop := (M.2.2.2.1 = none ∧ v = none ∧ decode M.2.1 pc = .ok (.return_, 1)) ∨ (∃ x, M.2.2.2.1 = some .int ∧ v = some (vI x) ∧ decode M.2.1 pc = .ok (.ireturn, 1)) ∨ (∃ x, M.2.2.2.1 = some .boolean ∧ v = some (vI x) ∧ (x = 0 ∨ x = 1) ∧ decode M.2.1 pc = .ok (.ireturn, 1))
def Ev (g : GC) (M : MD) (pc : Nat) (pl : List (Option PV)) (st : List PV) (m : Mem) (nc ns : Nat) (Post : Option PV → Mem → Prop) : Prop :=
  ∀ (p : Program) (e : Env) (R : Room) (s : State) (mi : MethodId) (args : Array Value) (below : List Frame) (meth : Method) (c : Code), Cx g M p R s mi args meth c →
  ∀ (H : Heap) (locs : List Loc) (cells slots : Nat) (ls : Array Slot) (Q : State → Prop), cells + nc ≤ R.cells → slots + ns ≤ R.slots → (Rep g m H ∧ s.heap.size + cells ≤ g.2.2.2.1 + m.1) → va_S (gA g) s.heap H locs → lv_has ls M.2.2.1 (facts g pl) →
  (∀ (v : Option PV) (m' : Mem) (H' : Heap) (locs' : List Loc) (pcE : Nat) (ls' : Array Slot), Post v m' → retAt M pcE v → (Rep g m' H' ∧ m'.1 = m.1 + nc) → va_S (gA g) s.heap H' locs' → W p g.1 e R s mi args below meth c H' locs' (cells + nc) (slots + ns) Q (F0 mi pcE ls' (v.toList.map (cv g)))) →
  W p g.1 e R s mi args below meth c H locs cells slots Q (F0 mi pc ls (st.map (cv g)))
section EV
variable {g : GC} {M : MD} {pc : Nat} {pl : List (Option PV)} {st : List PV} {m : Mem} {nc ns : Nat} {Post : Option PV → Mem → Prop}
/-- less known of locals, more asked of the end -/
theorem Ev.weak {pl' : List (Option PV)} (h : Ev g M pc pl' st m nc ns Post) (hs : ∀ (k : Nat) (v : PV), pl'[k]? = some (some v) → pl[k]? = some (some v)) : Ev g M pc pl st m nc ns Post := by
  intro p e R s mi args below meth c C H locs cells slots ls Q hc hs' hR hS hl hk
  refine h p e R s mi args below meth c C H locs cells slots ls Q hc hs' hR hS (lv_mono hl fun q hq => ?_) hk
  obtain ⟨v, h1, h2⟩ := facts_mem.mp hq
  exact facts_mem.mpr ⟨v, hs _ _ h1, h2⟩
theorem Ev.mono {Post' : Option PV → Mem → Prop} (h : Ev g M pc pl st m nc ns Post') (hp : ∀ v m', Post' v m' → Post v m') : Ev g M pc pl st m nc ns Post := by
  intro p e R s mi args below meth c C H locs cells slots ls Q hc hs' hR hS hl hk
  exact h p e R s mi args below meth c C H locs cells slots ls Q hc hs' hR hS hl fun v m' H' locs' pcE ls' a => hk v m' H' locs' pcE ls' (hp _ _ a)
theorem Ev.ireturn {x : Int} (hd : decode M.2.1 pc = .ok (.ireturn, 1)) (hr : M.2.2.2.1 = some .int) (h : Post (some (vI x)) m) : Ev g M pc pl [vI x] m 0 0 Post := by
  intro p e R s mi args below meth c C H locs cells slots ls Q hc hs' hR hS hl hk
  exact hk (some (vI x)) m H locs pc ls h (Or.inr (Or.inl ⟨x, hr, rfl, hd⟩)) ⟨hR.1, rfl⟩ hS
theorem Ev.zreturn {x : Int} (hd : decode M.2.1 pc = .ok (.ireturn, 1)) (hr : M.2.2.2.1 = some .boolean) (hx : x = 0 ∨ x = 1) (h : Post (some (vI x)) m) : Ev g M pc pl [vI x] m 0 0 Post := by
  intro p e R s mi args below meth c C H locs cells slots ls Q hc hs' hR hS hl hk
  exact hk (some (vI x)) m H locs pc ls h (Or.inr (Or.inr ⟨x, hr, rfl, hx, hd⟩)) ⟨hR.1, rfl⟩ hS
theorem Ev.vreturn (hd : decode M.2.1 pc = .ok (.return_, 1)) (hr : M.2.2.2.1 = none) (h : Post none m) : Ev g M pc pl [] m 0 0 Post := by
  intro p e R s mi args below meth c C H locs cells slots ls Q hc hs' hR hS hl hk
  exact hk none m H locs pc ls h (Or.inl ⟨hr, rfl, hd⟩) ⟨hR.1, rfl⟩ hS
/-- a step that touches the stack alone -/
theorem Ev.stp {pc' : Nat} {st' : List PV} (h : ∀ (p : Program) (e : Env) (R : Room) (s : State) (mi : MethodId) (args : Array Value) (below : List Frame) (meth : Method) (c : Code), Cx g M p R s mi args meth c →
    ∀ (H : Heap) (locs : List Loc) (cells slots : Nat) (ls : Array Slot) (Q : State → Prop), Rep g m H → va_S (gA g) s.heap H locs → lv_has ls M.2.2.1 (facts g pl) → W p g.1 e R s mi args below meth c H locs cells slots Q (F0 mi pc' ls (st'.map (cv g))) → W p g.1 e R s mi args below meth c H locs cells slots Q (F0 mi pc ls (st.map (cv g))))
    (k : Ev g M pc' pl st' m nc ns Post) : Ev g M pc pl st m nc ns Post := by
  intro p e R s mi args below meth c C H locs cells slots ls Q hc hs' hR hS hl hk
  exact h p e R s mi args below meth c C H locs cells slots ls Q hR.1 hS hl (k p e R s mi args below meth c C H locs cells slots ls Q hc hs' hR hS hl hk)
theorem W_size {p : Program} {l : Launch} {e : Env} {R : Room} {s : State} {mi : MethodId} {args : Array Value} {below : List Frame} {meth : Method} {c : Code} {H : Heap} {locs : List Loc} {cells slots : Nat} {Q : State → Prop} {f : JFrame}
    (h : H.size ≤ s.heap.size + cells → W p l e R s mi args below meth c H locs cells slots Q f) : W p l e R s mi args below meth c H locs cells slots Q f := by
  intro T hT X
  have h1 : T.heap.size ≤ s.heap.size + cells := X.same.2.2.1
  exact h (by rw [← hT]; exact h1) T hT X
/-- the world's cells are all that there is from its beginning on -/
theorem Rep.of {H : Heap} {H0 : Heap} {locs : List Loc} {k : Nat} (hP : va_P g.2.1 vwCl (wl g m) H) (hS : va_S (gA g) H0 H locs) (h0 : g.2.2.2.1 ≤ H0.size) (h1 : H.size ≤ k) (h2 : k ≤ g.2.2.2.1 + m.1) : Rep g m H := by
  refine ⟨hP, ?_⟩
  have h3 : g.2.2.2.1 + m.1 ≤ H.size := by
    by_cases hm : m.1 = 0
    · rw [hm]
      exact Nat.le_trans h0 hS.1
    · have := (hP (m.1 - 1) _ (wl_at (by omega))).lt
      dsimp only at this
      omega
  omega
theorem lo_at {ls : Array Slot} {n k : Nat} {v : PV} (hl : lv_has ls n (facts g pl)) (hk : pl[k]? = some (some v)) : ls[k]? = some (.val (cv g v)) := hl.2.2 (k, cv g v) (facts_mem.mpr ⟨v, hk, rfl⟩)
end EV
end
section
/-! THE ROWS OF THE PURE MACHINE, one an instruction -/
abbrev inR (x : Int) : Prop := -2147483648 ≤ x ∧ x ≤ 2147483647
abbrev inL (x : Int) : Prop := -9223372036854775808 ≤ x ∧ x ≤ 9223372036854775807
theorem i32_toInt {x : Int} (h : inR x) : (Int32.ofInt x).toInt = x := Int32.toInt_ofInt_of_le (by have := h.1; omega) (by have := h.2; omega)
theorem i64_toInt {x : Int} (h : inL x) : (Int64.ofInt x).toInt = x := Int64.toInt_ofInt_of_le (by have := h.1; omega) (by have := h.2; omega)
theorem i32_lt {x y : Int} (hx : inR x) (hy : inR y) : Int32.ofInt x < Int32.ofInt y ↔ x < y := by rw [Int32.lt_iff_toInt_lt, i32_toInt hx, i32_toInt hy]
theorem i32_le {x y : Int} (hx : inR x) (hy : inR y) : Int32.ofInt x ≤ Int32.ofInt y ↔ x ≤ y := by rw [Int32.le_iff_toInt_le, i32_toInt hx, i32_toInt hy]
theorem i32_eq {x y : Int} (hx : inR x) (hy : inR y) : Int32.ofInt x = Int32.ofInt y ↔ x = y := by rw [← Int32.toInt_inj, i32_toInt hx, i32_toInt hy]
theorem i32_gt {x y : Int} (hx : inR x) (hy : inR y) : Int32.ofInt x > Int32.ofInt y ↔ x > y := i32_lt hy hx
theorem i32_ge {x y : Int} (hx : inR x) (hy : inR y) : Int32.ofInt x ≥ Int32.ofInt y ↔ x ≥ y := i32_le hy hx
theorem i64_lt {x y : Int} (hx : inL x) (hy : inL y) : Int64.ofInt x < Int64.ofInt y ↔ x < y := by rw [Int64.lt_iff_toInt_lt, i64_toInt hx, i64_toInt hy]
theorem i64_eq {x y : Int} (hx : inL x) (hy : inL y) : Int64.ofInt x = Int64.ofInt y ↔ x = y := by rw [← Int64.toInt_inj, i64_toInt hx, i64_toInt hy]
theorem i0 : (0 : Int32) = Int32.ofInt 0 := rfl
theorem i32_neg {x : Int} (hx : inR x) : Int32.ofInt x < 0 ↔ x < 0 := by rw [i0]; exact i32_lt hx ⟨by decide, by decide⟩
theorem i32_nat {x : Int} (h0 : 0 ≤ x) (hx : x ≤ 2147483647) : (Int32.ofInt x).toNatClampNeg = x.toNat := by
  rw [Int32.toNatClampNeg, i32_toInt ⟨by omega, hx⟩]
theorem i32_in {x : Int} {n : Nat} (h0 : 0 ≤ x) (hx : x < n) (hn : n ≤ 2147483647) : vp_in (Int32.ofInt x) n := by
  intro h
  rcases h with h | h
  · have := (i32_neg ⟨by omega, by omega⟩).mp h
    omega
  · rw [i32_nat h0 (by omega)] at h
    omega
def iAnd (x y : Int) : Int := (Int32.ofInt x &&& Int32.ofInt y).toInt
def iOr (x y : Int) : Int := (Int32.ofInt x ||| Int32.ofInt y).toInt
def iXor (x y : Int) : Int := (Int32.ofInt x ^^^ Int32.ofInt y).toInt
def iShl (x y : Int) : Int := (Int32.ofInt x <<< (Int32.ofInt y &&& 31)).toInt
def iShr (x y : Int) : Int := (Int32.ofInt x >>> (Int32.ofInt y &&& 31)).toInt
def iUshr (x y : Int) : Int := ((Int32.ofInt x).toUInt32 >>> ((Int32.ofInt y).toUInt32 &&& Int32.toUInt32 31)).toInt32.toInt
def lAnd (x y : Int) : Int := (Int64.ofInt x &&& Int64.ofInt y).toInt
def lOr (x y : Int) : Int := (Int64.ofInt x ||| Int64.ofInt y).toInt
def lXor (x y : Int) : Int := (Int64.ofInt x ^^^ Int64.ofInt y).toInt
def lShl (x y : Int) : Int := (Int64.ofInt x <<< ((Int32.ofInt y).toInt64 &&& 63)).toInt
def lShr (x y : Int) : Int := (Int64.ofInt x >>> ((Int32.ofInt y).toInt64 &&& 63)).toInt
def lUshr (x y : Int) : Int := ((Int64.ofInt x).toUInt64 >>> ((Int32.ofInt y).toInt64.toUInt64 &&& Int64.toUInt64 63)).toInt64.toInt
def lCmp (x y : Int) : Int := if y < x then 1 else if x = y then 0 else -1
theorem cvI {g : GC} (v : Int32) : cv g (vI v.toInt) = .int v := by simp [cv]
theorem cvL {g : GC} (v : Int64) : cv g (vL v.toInt) = .long v := by simp [cv]
/-- two-slot values -/
def isL : Option PV → Bool
  | some (.inr (.inl _)) => true
  | _ => false
def clr (o : Option PV) : Option PV := if isL o then none else o
def st1 (pl : List (Option PV)) (i : Nat) (v : PV) : List (Option PV) := (if i = 0 then pl else pl.modify (i - 1) clr).set i (some v)
def st2 (pl : List (Option PV)) (i : Nat) (v : PV) : List (Option PV) := ((if i = 0 then pl else pl.modify (i - 1) clr).set (i + 1) none).set i (some v)
theorem cat_isL {g : GC} (v : PV) : (cv g v).category = 2 ↔ isL (some v) = true := by
  rcases v with x | x | x | x
  · simp [cv, Value.category, isL]
  · simp [cv, Value.category, isL]
  · simp [cv, Value.category, isL]
  · cases x <;> simp [cv, Value.category, isL, va_rf]
section EV
variable {g : GC} {M : MD} {pc : Nat} {pl : List (Option PV)} {st : List PV} {m : Mem} {nc ns : Nat} {Post : Option PV → Mem → Prop}
theorem st1_facts {i : Nat} {v : PV} {q : Nat × Value} (h : q ∈ facts g (st1 pl i v)) : q ∈ (i, cv g v) :: (facts g pl).filter (fun q => !(q.1 == i) && !(q.1 + 1 == i && q.2.category == 2)) := by
  obtain ⟨w, h1, h2⟩ := facts_mem.mp h
  obtain ⟨k, qv⟩ := q
  dsimp only at h1 h2
  subst h2
  by_cases hk : k = i
  · subst hk
    unfold st1 at h1
    rw [List.getElem?_set_self'] at h1
    cases hh : ((if k = 0 then pl else pl.modify (k - 1) clr)[k]?) with
    | none => rw [hh] at h1; cases h1
    | some o => rw [hh] at h1; cases h1; exact List.mem_cons_self
  · refine List.mem_cons_of_mem _ (List.mem_filter.mpr ⟨?_, ?_⟩)
    · refine facts_mem.mpr ⟨w, ?_, rfl⟩
      unfold st1 at h1
      rw [List.getElem?_set_ne (fun h => hk h.symm)] at h1
      split at h1
      · exact h1
      · rw [List.getElem?_modify] at h1
        cases ho : pl[k]? with
        | none => rw [ho] at h1; simp at h1
        | some o =>
          rw [ho] at h1
          by_cases hki : i - 1 = k
          · simp only [hki, if_true, Option.map_eq_map, Option.map_some, Option.some.injEq, clr] at h1
            split at h1
            · cases h1
            · simp [ho, h1]
          · simp only [hki, if_false, Option.map_eq_map, Option.map_some, Option.some.injEq] at h1
            simp [ho, h1]
    · simp only [Bool.and_eq_true, Bool.not_eq_true', beq_eq_false_iff_ne, ne_eq, hk, not_false_eq_true, true_and, Bool.and_eq_false_iff]
      by_cases hki : k + 1 = i
      · right
        intro hc
        rw [cat_isL] at hc
        unfold st1 at h1
        rw [List.getElem?_set_ne (fun h => hk h.symm), if_neg (by omega), List.getElem?_modify] at h1
        cases ho : pl[k]? with
        | none => rw [ho] at h1; simp at h1
        | some o =>
          rw [ho] at h1
          have hik : i - 1 = k := by omega
          simp only [hik, if_true, Option.map_eq_map, Option.map_some, Option.some.injEq, clr] at h1
          split at h1
          · cases h1
          · rename_i hx
            rw [h1] at hx
            exact hx hc
      · exact Or.inl hki
theorem st2_facts {i : Nat} {v : PV} {q : Nat × Value} (h : q ∈ facts g (st2 pl i v)) : q ∈ (i, cv g v) :: (facts g pl).filter (fun q => !(q.1 == i) && (!(q.1 == i + 1) && !(q.1 + 1 == i && q.2.category == 2))) := by
  have h' : q ∈ facts g (st1 pl i v) ∧ q.1 ≠ i + 1 := by
    obtain ⟨w, h1, h2⟩ := facts_mem.mp h
    unfold st2 at h1
    by_cases hk : q.1 = i
    · rw [hk, List.getElem?_set_self'] at h1
      refine ⟨facts_mem.mpr ⟨w, ?_, h2⟩, by omega⟩
      unfold st1
      rw [hk, List.getElem?_set_self']
      rw [List.getElem?_set_ne (by omega)] at h1
      exact h1
    · rw [List.getElem?_set_ne (fun h => hk h.symm)] at h1
      by_cases hk2 : q.1 = i + 1
      · rw [hk2, List.getElem?_set_self'] at h1
        cases hh : ((if i = 0 then pl else pl.modify (i - 1) clr)[i + 1]?) with
        | none => rw [hh] at h1; cases h1
        | some o => rw [hh] at h1; cases h1
      · rw [List.getElem?_set_ne (fun h => hk2 h.symm)] at h1
        refine ⟨facts_mem.mpr ⟨w, ?_, h2⟩, hk2⟩
        unfold st1
        rw [List.getElem?_set_ne (fun h => hk h.symm)]
        exact h1
  rcases List.mem_cons.mp (st1_facts h'.1) with h1 | h1
  · exact List.mem_cons.mpr (Or.inl h1)
  · refine List.mem_cons_of_mem _ (List.mem_filter.mpr ⟨(List.mem_filter.mp h1).1, ?_⟩)
    have h2 := (List.mem_filter.mp h1).2
    have h3 : (q.1 == i + 1) = false := by simp [h'.2]
    simp only [h3]
    simpa using h2
/-- a step that changes locals -/
theorem Ev.lstp {pc' : Nat} {pl' : List (Option PV)} {st' : List PV} (h : ∀ (p : Program) (e : Env) (R : Room) (s : State) (mi : MethodId) (args : Array Value) (below : List Frame) (meth : Method) (c : Code), Cx g M p R s mi args meth c →
    ∀ (H : Heap) (locs : List Loc) (cells slots : Nat) (ls : Array Slot) (Q : State → Prop), lv_has ls M.2.2.1 (facts g pl) → (∀ ls', lv_has ls' M.2.2.1 (facts g pl') → W p g.1 e R s mi args below meth c H locs cells slots Q (F0 mi pc' ls' (st'.map (cv g)))) → W p g.1 e R s mi args below meth c H locs cells slots Q (F0 mi pc ls (st.map (cv g))))
    (k : Ev g M pc' pl' st' m nc ns Post) : Ev g M pc pl st m nc ns Post := by
  intro p e R s mi args below meth c C H locs cells slots ls Q hc hs' hR hS hl hk
  exact h p e R s mi args below meth c C H locs cells slots ls Q hl fun ls' hl' => k p e R s mi args below meth c C H locs cells slots ls' Q hc hs' hR hS hl' hk
theorem Ev.iconst {n : Int} (hd : decode M.2.1 pc = .ok (.iconst n, 1)) (k : Ev g M (pc + 1) pl (vI n :: st) m nc ns Post) : Ev g M pc pl st m nc ns Post := by
  refine Ev.stp (fun p e R s mi args below meth c C H locs cells slots ls Q hR hS hl kk => ?_) k
  exact lv_iconst C.1 C.2.1 hd rfl kk
theorem Ev.bipush {n : Int} (hv : (Int8.ofInt n).toInt32 = Int32.ofInt n) (hd : decode M.2.1 pc = .ok (.bipush n, 2)) (k : Ev g M (pc + 2) pl (vI n :: st) m nc ns Post) : Ev g M pc pl st m nc ns Post := by
  refine Ev.stp (fun p e R s mi args below meth c C H locs cells slots ls Q hR hS hl kk => ?_) k
  exact lv_bipush C.1 C.2.1 hd hv kk
theorem Ev.sipush {n : Int} (hv : (Int16.ofInt n).toInt32 = Int32.ofInt n) (hd : decode M.2.1 pc = .ok (.sipush n, 3)) (k : Ev g M (pc + 3) pl (vI n :: st) m nc ns Post) : Ev g M pc pl st m nc ns Post := by
  refine Ev.stp (fun p e R s mi args below meth c C H locs cells slots ls Q hR hS hl kk => ?_) k
  exact lv_sipush C.1 C.2.1 hd hv kk
theorem Ev.ldc {i : Nat} {n : Int} (hw : Cond.constant M.1.cls i (Int32.ofInt n) ∈ lw_tbl) (hd : decode M.2.1 pc = .ok (.ldc i, 2)) (k : Ev g M (pc + 2) pl (vI n :: st) m nc ns Post) : Ev g M pc pl st m nc ns Post := by
  refine Ev.stp (fun p e R s mi args below meth c C H locs cells slots ls Q hR hS hl kk => ?_) k
  exact lv_ldc C.1 C.2.1 C.2.2.2.1 (C.2.2.2.2.1 _ (GT_mem hw rfl)) hd kk
theorem Ev.ldcw {i : Nat} {n : Int} (hw : Cond.constant M.1.cls i (Int32.ofInt n) ∈ lw_tbl) (hd : decode M.2.1 pc = .ok (.ldc_w i, 3)) (k : Ev g M (pc + 3) pl (vI n :: st) m nc ns Post) : Ev g M pc pl st m nc ns Post := by
  refine Ev.stp (fun p e R s mi args below meth c C H locs cells slots ls Q hR hS hl kk => ?_) k
  exact lv_ldcw C.1 C.2.1 C.2.2.2.1 (C.2.2.2.2.1 _ (GT_mem hw rfl)) hd kk
theorem Ev.ldc2 {i : Nat} {n : Int} (hw : Cond.constantLong M.1.cls i (Int64.ofInt n) ∈ lw_tbl) (hd : decode M.2.1 pc = .ok (.ldc2_w i, 3)) (k : Ev g M (pc + 3) pl (vL n :: st) m nc ns Post) : Ev g M pc pl st m nc ns Post := by
  refine Ev.stp (fun p e R s mi args below meth c C H locs cells slots ls Q hR hS hl kk => ?_) k
  exact lv_ldc2 C.1 C.2.1 C.2.2.2.1 (C.2.2.2.2.1 _ (GT_mem hw rfl)) hd kk
theorem Ev.lconst {n : Fin 2} (x : Int) (hx : Int64.ofInt x = Int64.ofNat n.val) (hd : decode M.2.1 pc = .ok (.lconst n, 1)) (k : Ev g M (pc + 1) pl (vL x :: st) m nc ns Post) : Ev g M pc pl st m nc ns Post := by
  refine Ev.stp (fun p e R s mi args below meth c C H locs cells slots ls Q hR hS hl kk => ?_) k
  exact lv_lconst C.1 C.2.1 hd hx.symm kk
theorem Ev.iload_n {k : Fin 4} {i : Nat} {x : Int} (hd : decode M.2.1 pc = .ok (.iload_n k, 1)) (hi : (k : Nat) = i) (hv : pl[i]? = some (some (vI x))) (kk : Ev g M (pc + 1) pl (vI x :: st) m nc ns Post) : Ev g M pc pl st m nc ns Post :=
  Ev.stp (fun p e R s mi args below meth c C H locs cells slots ls Q hR hS hl kk => lv_iload_n C.1 C.2.1 hd hi (lo_at hl hv) kk) kk
theorem Ev.iload {i : Nat} {x : Int} (hd : decode M.2.1 pc = .ok (.iload i, 2)) (hv : pl[i]? = some (some (vI x))) (kk : Ev g M (pc + 2) pl (vI x :: st) m nc ns Post) : Ev g M pc pl st m nc ns Post :=
  Ev.stp (fun p e R s mi args below meth c C H locs cells slots ls Q hR hS hl kk => lv_iload C.1 C.2.1 hd (lo_at hl hv) kk) kk
theorem Ev.lload_n {k : Fin 4} {i : Nat} {x : Int} (hd : decode M.2.1 pc = .ok (.lload_n k, 1)) (hi : (k : Nat) = i) (hv : pl[i]? = some (some (vL x))) (kk : Ev g M (pc + 1) pl (vL x :: st) m nc ns Post) : Ev g M pc pl st m nc ns Post :=
  Ev.stp (fun p e R s mi args below meth c C H locs cells slots ls Q hR hS hl kk => lv_lload_n C.1 C.2.1 hd hi (lo_at hl hv) kk) kk
theorem Ev.lload {i : Nat} {x : Int} (hd : decode M.2.1 pc = .ok (.lload i, 2)) (hv : pl[i]? = some (some (vL x))) (kk : Ev g M (pc + 2) pl (vL x :: st) m nc ns Post) : Ev g M pc pl st m nc ns Post :=
  Ev.stp (fun p e R s mi args below meth c C H locs cells slots ls Q hR hS hl kk => lv_lload C.1 C.2.1 hd (lo_at hl hv) kk) kk
theorem Ev.aload_n {k : Fin 4} {i : Nat} {c : Nat} (hd : decode M.2.1 pc = .ok (.aload_n k, 1)) (hi : (k : Nat) = i) (hv : pl[i]? = some (some (vR c))) (kk : Ev g M (pc + 1) pl (vR c :: st) m nc ns Post) : Ev g M pc pl st m nc ns Post :=
  Ev.stp (fun p e R s mi args below meth c C H locs cells slots ls Q hR hS hl kk => lv_aload_n C.1 C.2.1 hd hi (lo_at hl hv) kk) kk
theorem Ev.aload {i : Nat} {c : Nat} (hd : decode M.2.1 pc = .ok (.aload i, 2)) (hv : pl[i]? = some (some (vR c))) (kk : Ev g M (pc + 2) pl (vR c :: st) m nc ns Post) : Ev g M pc pl st m nc ns Post :=
  Ev.stp (fun p e R s mi args below meth c C H locs cells slots ls Q hR hS hl kk => lv_aload C.1 C.2.1 hd (lo_at hl hv) kk) kk
theorem Ev.aloadS {k : Fin 4} {i : Nat} (hd : decode M.2.1 pc = .ok (.aload_n k, 1)) (hi : (k : Nat) = i) (hv : pl[i]? = some (some vS)) (kk : Ev g M (pc + 1) pl (vS :: st) m nc ns Post) : Ev g M pc pl st m nc ns Post :=
  Ev.stp (fun p e R s mi args below meth c C H locs cells slots ls Q hR hS hl kk => lv_aload_n C.1 C.2.1 hd hi (lo_at hl hv) kk) kk
theorem Ev.istore {i : Nat} {x : Int} {pl' : List (Option PV)} (hd : decode M.2.1 pc = .ok (.istore i, 2)) (hi : i < M.2.2.1) (hp : st1 pl i (vI x) = pl') (k : Ev g M (pc + 2) pl' st m nc ns Post) : Ev g M pc pl (vI x :: st) m nc ns Post := by
  subst hp
  exact Ev.lstp (fun p e R s mi args below meth c C H locs cells slots ls Q hl kk => lv_istore C.1 C.2.1 hd hl hi rfl fun ls' hl' => kk ls' (lv_mono hl' fun q hq => st1_facts hq)) k
theorem Ev.istore_n {i : Nat} {j : Fin 4} {x : Int} {pl' : List (Option PV)} (hd : decode M.2.1 pc = .ok (.istore_n j, 1)) (hj : (j : Nat) = i) (hi : i < M.2.2.1) (hp : st1 pl i (vI x) = pl') (k : Ev g M (pc + 1) pl' st m nc ns Post) : Ev g M pc pl (vI x :: st) m nc ns Post := by
  subst hp
  exact Ev.lstp (fun p e R s mi args below meth c C H locs cells slots ls Q hl kk => lv_istore_n C.1 C.2.1 hd hj hl hi rfl fun ls' hl' => kk ls' (lv_mono hl' fun q hq => st1_facts hq)) k
theorem Ev.astore {i : Nat} {x : Nat} {pl' : List (Option PV)} (hd : decode M.2.1 pc = .ok (.astore i, 2)) (hi : i < M.2.2.1) (hp : st1 pl i (vR x) = pl') (k : Ev g M (pc + 2) pl' st m nc ns Post) : Ev g M pc pl (vR x :: st) m nc ns Post := by
  subst hp
  exact Ev.lstp (fun p e R s mi args below meth c C H locs cells slots ls Q hl kk => lv_astore C.1 C.2.1 hd hl hi rfl fun ls' hl' => kk ls' (lv_mono hl' fun q hq => st1_facts hq)) k
theorem Ev.astore_n {i : Nat} {j : Fin 4} {x : Nat} {pl' : List (Option PV)} (hd : decode M.2.1 pc = .ok (.astore_n j, 1)) (hj : (j : Nat) = i) (hi : i < M.2.2.1) (hp : st1 pl i (vR x) = pl') (k : Ev g M (pc + 1) pl' st m nc ns Post) : Ev g M pc pl (vR x :: st) m nc ns Post := by
  subst hp
  exact Ev.lstp (fun p e R s mi args below meth c C H locs cells slots ls Q hl kk => lv_astore_n C.1 C.2.1 hd hj hl hi rfl fun ls' hl' => kk ls' (lv_mono hl' fun q hq => st1_facts hq)) k
theorem Ev.lstore {i : Nat} {x : Int} {pl' : List (Option PV)} (hd : decode M.2.1 pc = .ok (.lstore i, 2)) (hi : i + 1 < M.2.2.1) (hp : st2 pl i (vL x) = pl') (k : Ev g M (pc + 2) pl' st m nc ns Post) : Ev g M pc pl (vL x :: st) m nc ns Post := by
  subst hp
  exact Ev.lstp (fun p e R s mi args below meth c C H locs cells slots ls Q hl kk => lv_lstore C.1 C.2.1 hd hl hi rfl fun ls' hl' => kk ls' (lv_mono hl' fun q hq => st2_facts hq)) k
theorem Ev.lstore_n {i : Nat} {j : Fin 4} {x : Int} {pl' : List (Option PV)} (hd : decode M.2.1 pc = .ok (.lstore_n j, 1)) (hj : (j : Nat) = i) (hi : i + 1 < M.2.2.1) (hp : st2 pl i (vL x) = pl') (k : Ev g M (pc + 1) pl' st m nc ns Post) : Ev g M pc pl (vL x :: st) m nc ns Post := by
  subst hp
  exact Ev.lstp (fun p e R s mi args below meth c C H locs cells slots ls Q hl kk => lv_lstore_n C.1 C.2.1 hd hj hl hi rfl fun ls' hl' => kk ls' (lv_mono hl' fun q hq => st2_facts hq)) k
theorem Ev.iinc {i : Nat} {n x : Int} {pl' : List (Option PV)} (hd : decode M.2.1 pc = .ok (.iinc i n, 3)) (hv : pl[i]? = some (some (vI x))) (hi : i < M.2.2.1) (hp : st1 pl i (vI (x + n)) = pl') (k : Ev g M (pc + 3) pl' st m nc ns Post) : Ev g M pc pl st m nc ns Post := by
  subst hp
  refine Ev.lstp (fun p e R s mi args below meth c C H locs cells slots ls Q hl kk => ?_) k
  obtain ⟨q, hq⟩ := List.getElem?_of_mem (facts_mem (g := g) (pl := pl) (q := (i, cv g (vI x))) |>.mpr ⟨_, hv, rfl⟩)
  exact lv_iinc C.1 C.2.1 hd hl hq (v := Int32.ofInt (x + n)) (by rw [Int32.ofInt_add]) hi rfl fun ls' hl' => kk ls' (lv_mono hl' fun q hq => st1_facts hq)
theorem Ev.iadd {x y : Int} (hd : decode M.2.1 pc = .ok (.iadd, 1)) (k : Ev g M (pc + 1) pl (vI (x + y) :: st) m nc ns Post) : Ev g M pc pl (vI y :: vI x :: st) m nc ns Post := by
  refine Ev.stp (fun p e R s mi args below meth c C H locs cells slots ls Q hR hS hl kk => ?_) k
  refine lv_iadd C.1 C.2.1 hd ?_
  rw [← Int32.ofInt_add]
  exact kk
theorem Ev.isub {x y : Int} (hd : decode M.2.1 pc = .ok (.isub, 1)) (k : Ev g M (pc + 1) pl (vI (x - y) :: st) m nc ns Post) : Ev g M pc pl (vI y :: vI x :: st) m nc ns Post := by
  refine Ev.stp (fun p e R s mi args below meth c C H locs cells slots ls Q hR hS hl kk => ?_) k
  refine lv_isub C.1 C.2.1 hd ?_
  rw [← Int32.ofInt_sub]
  exact kk
theorem Ev.imul {x y : Int} (hd : decode M.2.1 pc = .ok (.imul, 1)) (k : Ev g M (pc + 1) pl (vI (x * y) :: st) m nc ns Post) : Ev g M pc pl (vI y :: vI x :: st) m nc ns Post := by
  refine Ev.stp (fun p e R s mi args below meth c C H locs cells slots ls Q hR hS hl kk => ?_) k
  refine lv_imul C.1 C.2.1 hd ?_
  rw [← Int32.ofInt_mul]
  exact kk
theorem Ev.ladd {x y : Int} (hd : decode M.2.1 pc = .ok (.ladd, 1)) (k : Ev g M (pc + 1) pl (vL (x + y) :: st) m nc ns Post) : Ev g M pc pl (vL y :: vL x :: st) m nc ns Post := by
  refine Ev.stp (fun p e R s mi args below meth c C H locs cells slots ls Q hR hS hl kk => ?_) k
  refine lv_ladd C.1 C.2.1 hd ?_
  rw [← Int64.ofInt_add]
  exact kk
theorem Ev.lsub {x y : Int} (hd : decode M.2.1 pc = .ok (.lsub, 1)) (k : Ev g M (pc + 1) pl (vL (x - y) :: st) m nc ns Post) : Ev g M pc pl (vL y :: vL x :: st) m nc ns Post := by
  refine Ev.stp (fun p e R s mi args below meth c C H locs cells slots ls Q hR hS hl kk => ?_) k
  refine lv_lsub C.1 C.2.1 hd ?_
  rw [← Int64.ofInt_sub]
  exact kk
theorem Ev.lmul {x y : Int} (hd : decode M.2.1 pc = .ok (.lmul, 1)) (k : Ev g M (pc + 1) pl (vL (x * y) :: st) m nc ns Post) : Ev g M pc pl (vL y :: vL x :: st) m nc ns Post := by
  refine Ev.stp (fun p e R s mi args below meth c C H locs cells slots ls Q hR hS hl kk => ?_) k
  refine lv_lmul C.1 C.2.1 hd ?_
  rw [← Int64.ofInt_mul]
  exact kk
theorem Ev.ineg {x : Int} (hd : decode M.2.1 pc = .ok (.ineg, 1)) (k : Ev g M (pc + 1) pl (vI (-x) :: st) m nc ns Post) : Ev g M pc pl (vI x :: st) m nc ns Post := by
  refine Ev.stp (fun p e R s mi args below meth c C H locs cells slots ls Q hR hS hl kk => ?_) k
  refine lv_ineg C.1 C.2.1 hd ?_
  rw [← Int32.ofInt_neg]
  exact kk
theorem Ev.iand {x y : Int} (hd : decode M.2.1 pc = .ok (.iand, 1)) (k : Ev g M (pc + 1) pl (vI (iAnd x y) :: st) m nc ns Post) : Ev g M pc pl (vI y :: vI x :: st) m nc ns Post := by
  refine Ev.stp (fun p e R s mi args below meth c C H locs cells slots ls Q hR hS hl kk => ?_) k
  refine lv_iand C.1 C.2.1 hd ?_
  rw [← cvI (g := g)]
  exact kk
theorem Ev.ior {x y : Int} (hd : decode M.2.1 pc = .ok (.ior, 1)) (k : Ev g M (pc + 1) pl (vI (iOr x y) :: st) m nc ns Post) : Ev g M pc pl (vI y :: vI x :: st) m nc ns Post := by
  refine Ev.stp (fun p e R s mi args below meth c C H locs cells slots ls Q hR hS hl kk => ?_) k
  refine lv_ior C.1 C.2.1 hd ?_
  rw [← cvI (g := g)]
  exact kk
theorem Ev.ixor {x y : Int} (hd : decode M.2.1 pc = .ok (.ixor, 1)) (k : Ev g M (pc + 1) pl (vI (iXor x y) :: st) m nc ns Post) : Ev g M pc pl (vI y :: vI x :: st) m nc ns Post := by
  refine Ev.stp (fun p e R s mi args below meth c C H locs cells slots ls Q hR hS hl kk => ?_) k
  refine lv_ixor C.1 C.2.1 hd ?_
  rw [← cvI (g := g)]
  exact kk
theorem Ev.ishl {x y : Int} (hd : decode M.2.1 pc = .ok (.ishl, 1)) (k : Ev g M (pc + 1) pl (vI (iShl x y) :: st) m nc ns Post) : Ev g M pc pl (vI y :: vI x :: st) m nc ns Post := by
  refine Ev.stp (fun p e R s mi args below meth c C H locs cells slots ls Q hR hS hl kk => ?_) k
  refine lv_ishl C.1 C.2.1 hd ?_
  rw [← cvI (g := g)]
  exact kk
theorem Ev.ishr {x y : Int} (hd : decode M.2.1 pc = .ok (.ishr, 1)) (k : Ev g M (pc + 1) pl (vI (iShr x y) :: st) m nc ns Post) : Ev g M pc pl (vI y :: vI x :: st) m nc ns Post := by
  refine Ev.stp (fun p e R s mi args below meth c C H locs cells slots ls Q hR hS hl kk => ?_) k
  refine lv_ishr C.1 C.2.1 hd ?_
  rw [← cvI (g := g)]
  exact kk
theorem Ev.iushr {x y : Int} (hd : decode M.2.1 pc = .ok (.iushr, 1)) (k : Ev g M (pc + 1) pl (vI (iUshr x y) :: st) m nc ns Post) : Ev g M pc pl (vI y :: vI x :: st) m nc ns Post := by
  refine Ev.stp (fun p e R s mi args below meth c C H locs cells slots ls Q hR hS hl kk => ?_) k
  refine lv_iushr C.1 C.2.1 hd rfl ?_
  rw [← cvI (g := g)]
  exact kk
theorem Ev.land {x y : Int} (hd : decode M.2.1 pc = .ok (.land, 1)) (k : Ev g M (pc + 1) pl (vL (lAnd x y) :: st) m nc ns Post) : Ev g M pc pl (vL y :: vL x :: st) m nc ns Post := by
  refine Ev.stp (fun p e R s mi args below meth c C H locs cells slots ls Q hR hS hl kk => ?_) k
  refine lv_land C.1 C.2.1 hd ?_
  rw [← cvL (g := g)]
  exact kk
theorem Ev.lor {x y : Int} (hd : decode M.2.1 pc = .ok (.lor, 1)) (k : Ev g M (pc + 1) pl (vL (lOr x y) :: st) m nc ns Post) : Ev g M pc pl (vL y :: vL x :: st) m nc ns Post := by
  refine Ev.stp (fun p e R s mi args below meth c C H locs cells slots ls Q hR hS hl kk => ?_) k
  refine lv_lor C.1 C.2.1 hd ?_
  rw [← cvL (g := g)]
  exact kk
theorem Ev.lxor {x y : Int} (hd : decode M.2.1 pc = .ok (.lxor, 1)) (k : Ev g M (pc + 1) pl (vL (lXor x y) :: st) m nc ns Post) : Ev g M pc pl (vL y :: vL x :: st) m nc ns Post := by
  refine Ev.stp (fun p e R s mi args below meth c C H locs cells slots ls Q hR hS hl kk => ?_) k
  refine lv_lxor C.1 C.2.1 hd ?_
  rw [← cvL (g := g)]
  exact kk
theorem Ev.lshl {x y : Int} (hd : decode M.2.1 pc = .ok (.lshl, 1)) (k : Ev g M (pc + 1) pl (vL (lShl x y) :: st) m nc ns Post) : Ev g M pc pl (vI y :: vL x :: st) m nc ns Post := by
  refine Ev.stp (fun p e R s mi args below meth c C H locs cells slots ls Q hR hS hl kk => ?_) k
  refine lv_lshl C.1 C.2.1 hd rfl ?_
  rw [← cvL (g := g)]
  exact kk
theorem Ev.lshr {x y : Int} (hd : decode M.2.1 pc = .ok (.lshr, 1)) (k : Ev g M (pc + 1) pl (vL (lShr x y) :: st) m nc ns Post) : Ev g M pc pl (vI y :: vL x :: st) m nc ns Post := by
  refine Ev.stp (fun p e R s mi args below meth c C H locs cells slots ls Q hR hS hl kk => ?_) k
  refine lv_lshr C.1 C.2.1 hd rfl ?_
  rw [← cvL (g := g)]
  exact kk
theorem Ev.lushr {x y : Int} (hd : decode M.2.1 pc = .ok (.lushr, 1)) (k : Ev g M (pc + 1) pl (vL (lUshr x y) :: st) m nc ns Post) : Ev g M pc pl (vI y :: vL x :: st) m nc ns Post := by
  refine Ev.stp (fun p e R s mi args below meth c C H locs cells slots ls Q hR hS hl kk => ?_) k
  refine lv_lushr C.1 C.2.1 hd rfl ?_
  rw [← cvL (g := g)]
  exact kk
theorem Ev.i2l {x : Int} (hx : inR x) (hd : decode M.2.1 pc = .ok (.i2l, 1)) (k : Ev g M (pc + 1) pl (vL x :: st) m nc ns Post) : Ev g M pc pl (vI x :: st) m nc ns Post := by
  refine Ev.stp (fun p e R s mi args below meth c C H locs cells slots ls Q hR hS hl kk => ?_) k
  exact lv_i2l C.1 C.2.1 hd (by rw [← Int64.ofInt_int32ToInt, i32_toInt hx]) kk
theorem Ev.l2i {x : Int} (hd : decode M.2.1 pc = .ok (.l2i, 1)) (k : Ev g M (pc + 1) pl (vI x :: st) m nc ns Post) : Ev g M pc pl (vL x :: st) m nc ns Post := by
  refine Ev.stp (fun p e R s mi args below meth c C H locs cells slots ls Q hR hS hl kk => ?_) k
  exact lv_l2i C.1 C.2.1 hd (by simp) kk
theorem Ev.lcmp {x y : Int} (hx : inL x) (hy : inL y) (hd : decode M.2.1 pc = .ok (.lcmp, 1)) (k : Ev g M (pc + 1) pl (vI (lCmp x y) :: st) m nc ns Post) : Ev g M pc pl (vL y :: vL x :: st) m nc ns Post := by
  refine Ev.stp (fun p e R s mi args below meth c C H locs cells slots ls Q hR hS hl kk => ?_) k
  refine W.lcmp C.1 C.2.1 hd ?_
  have e : lg_cmp (Int64.ofInt x) (Int64.ofInt y) = Int32.ofInt (lCmp x y) := by
    unfold lg_cmp lCmp
    simp only [gt_iff_lt, i64_lt hy hx, i64_eq hx hy]
    split
    · rfl
    · split <;> rfl
  rw [e]
  exact kk
theorem Ev.idiv {x y : Int} (h0 : 0 ≤ x) (hx : x ≤ 2147483647) (h1 : 0 < y) (hy : y ≤ 2147483647) (hd : decode M.2.1 pc = .ok (.idiv, 1)) (k : Ev g M (pc + 1) pl (vI (x / y) :: st) m nc ns Post) : Ev g M pc pl (vI y :: vI x :: st) m nc ns Post := by
  refine Ev.stp (fun p e R s mi args below meth c C H locs cells slots ls Q hR hS hl kk => ?_) k
  have hne : ¬ Int32.ofInt y = 0 := by
    rw [i0, i32_eq ⟨by omega, hy⟩ ⟨by decide, by decide⟩]
    omega
  refine lv_idiv C.1 C.2.1 hd hne ?_
  have e : Int32.ofInt x / Int32.ofInt y = Int32.ofInt (x / y) := by
    obtain ⟨a, rfl⟩ := Int.eq_ofNat_of_zero_le h0
    obtain ⟨b, rfl⟩ := Int.eq_ofNat_of_zero_le (Int.le_of_lt h1)
    exact pk_div (a := a) (d := b) (by omega) (by omega) (by omega)
  rw [e]
  exact kk
theorem Ev.dupI {x : Int} (hd : decode M.2.1 pc = .ok (.dup, 1)) (k : Ev g M (pc + 1) pl (vI x :: vI x :: st) m nc ns Post) : Ev g M pc pl (vI x :: st) m nc ns Post := by
  refine Ev.stp (fun p e R s mi args below meth c C H locs cells slots ls Q hR hS hl kk => ?_) k
  exact lv_dup C.1 C.2.1 hd rfl kk
theorem Ev.dupR {x : Nat} (hd : decode M.2.1 pc = .ok (.dup, 1)) (k : Ev g M (pc + 1) pl (vR x :: vR x :: st) m nc ns Post) : Ev g M pc pl (vR x :: st) m nc ns Post := by
  refine Ev.stp (fun p e R s mi args below meth c C H locs cells slots ls Q hR hS hl kk => ?_) k
  exact lv_dup C.1 C.2.1 hd rfl kk
theorem Ev.dup2RI {x : Nat} {y : Int} (hd : decode M.2.1 pc = .ok (.dup2, 1)) (k : Ev g M (pc + 1) pl (vI y :: vR x :: vI y :: vR x :: st) m nc ns Post) : Ev g M pc pl (vI y :: vR x :: st) m nc ns Post := by
  refine Ev.stp (fun p e R s mi args below meth c C H locs cells slots ls Q hR hS hl kk => ?_) k
  exact lv_dup2_11 C.1 C.2.1 hd rfl rfl kk
theorem Ev.dup2L {x : Int} (hd : decode M.2.1 pc = .ok (.dup2, 1)) (k : Ev g M (pc + 1) pl (vL x :: vL x :: st) m nc ns Post) : Ev g M pc pl (vL x :: st) m nc ns Post := by
  refine Ev.stp (fun p e R s mi args below meth c C H locs cells slots ls Q hR hS hl kk => ?_) k
  exact lv_dup2_2 C.1 C.2.1 hd rfl kk
theorem Ev.popI {x : Int} (hd : decode M.2.1 pc = .ok (.pop, 1)) (k : Ev g M (pc + 1) pl st m nc ns Post) : Ev g M pc pl (vI x :: st) m nc ns Post := by
  refine Ev.stp (fun p e R s mi args below meth c C H locs cells slots ls Q hR hS hl kk => ?_) k
  exact lv_pop C.1 C.2.1 hd rfl kk
theorem Ev.icmp_eq {x y : Int} (hx : inR x) (hy : inR y) {off : Int} {tgt : Nat} (hd : decode M.2.1 pc = .ok (.if_icmp .eq off, 3)) (ht : (pc : Int) + off = (tgt : Int)) (kt : (x = y) → Ev g M tgt pl st m nc ns Post) (kf : ¬ (x = y) → Ev g M (pc + 3) pl st m nc ns Post) : Ev g M pc pl (vI y :: vI x :: st) m nc ns Post := by
  intro p e R s mi args below meth c C H locs cells slots ls Q hc hs' hR hS hl hk
  exact lv_icmp_eq C.1 C.2.1 hd ht (fun h => kt (((i32_eq hx hy).mp h)) p e R s mi args below meth c C H locs cells slots ls Q hc hs' hR hS hl hk) (fun h => kf (fun z => h ((i32_eq hx hy).mpr z)) p e R s mi args below meth c C H locs cells slots ls Q hc hs' hR hS hl hk)
theorem Ev.if_eq {x : Int} (hx : inR x) {off : Int} {tgt : Nat} (hd : decode M.2.1 pc = .ok (.ifCond .eq off, 3)) (ht : (pc : Int) + off = (tgt : Int)) (kt : (x = 0) → Ev g M tgt pl st m nc ns Post) (kf : ¬ (x = 0) → Ev g M (pc + 3) pl st m nc ns Post) : Ev g M pc pl (vI x :: st) m nc ns Post := by
  intro p e R s mi args below meth c C H locs cells slots ls Q hc hs' hR hS hl hk
  exact lv_if_eq C.1 C.2.1 hd ht (fun h => kt (((i32_eq hx ⟨by decide, by decide⟩).mp h)) p e R s mi args below meth c C H locs cells slots ls Q hc hs' hR hS hl hk) (fun h => kf (fun z => h ((i32_eq hx ⟨by decide, by decide⟩).mpr z)) p e R s mi args below meth c C H locs cells slots ls Q hc hs' hR hS hl hk)
theorem Ev.icmp_ne {x y : Int} (hx : inR x) (hy : inR y) {off : Int} {tgt : Nat} (hd : decode M.2.1 pc = .ok (.if_icmp .ne off, 3)) (ht : (pc : Int) + off = (tgt : Int)) (kt : (x ≠ y) → Ev g M tgt pl st m nc ns Post) (kf : (x = y) → Ev g M (pc + 3) pl st m nc ns Post) : Ev g M pc pl (vI y :: vI x :: st) m nc ns Post := by
  intro p e R s mi args below meth c C H locs cells slots ls Q hc hs' hR hS hl hk
  exact lv_icmp_ne C.1 C.2.1 hd ht (fun h => kt (fun z => h ((i32_eq hx hy).mpr z)) p e R s mi args below meth c C H locs cells slots ls Q hc hs' hR hS hl hk) (fun h => kf ((i32_eq hx hy).mp h) p e R s mi args below meth c C H locs cells slots ls Q hc hs' hR hS hl hk)
theorem Ev.if_ne {x : Int} (hx : inR x) {off : Int} {tgt : Nat} (hd : decode M.2.1 pc = .ok (.ifCond .ne off, 3)) (ht : (pc : Int) + off = (tgt : Int)) (kt : (x ≠ 0) → Ev g M tgt pl st m nc ns Post) (kf : (x = 0) → Ev g M (pc + 3) pl st m nc ns Post) : Ev g M pc pl (vI x :: st) m nc ns Post := by
  intro p e R s mi args below meth c C H locs cells slots ls Q hc hs' hR hS hl hk
  exact lv_if_ne C.1 C.2.1 hd ht (fun h => kt (fun z => h ((i32_eq hx ⟨by decide, by decide⟩).mpr z)) p e R s mi args below meth c C H locs cells slots ls Q hc hs' hR hS hl hk) (fun h => kf ((i32_eq hx ⟨by decide, by decide⟩).mp h) p e R s mi args below meth c C H locs cells slots ls Q hc hs' hR hS hl hk)
theorem Ev.icmp_lt {x y : Int} (hx : inR x) (hy : inR y) {off : Int} {tgt : Nat} (hd : decode M.2.1 pc = .ok (.if_icmp .lt off, 3)) (ht : (pc : Int) + off = (tgt : Int)) (kt : (x < y) → Ev g M tgt pl st m nc ns Post) (kf : ¬ (x < y) → Ev g M (pc + 3) pl st m nc ns Post) : Ev g M pc pl (vI y :: vI x :: st) m nc ns Post := by
  intro p e R s mi args below meth c C H locs cells slots ls Q hc hs' hR hS hl hk
  exact lv_icmp_lt C.1 C.2.1 hd ht (fun h => kt (((i32_lt hx hy).mp h)) p e R s mi args below meth c C H locs cells slots ls Q hc hs' hR hS hl hk) (fun h => kf (fun z => h ((i32_lt hx hy).mpr z)) p e R s mi args below meth c C H locs cells slots ls Q hc hs' hR hS hl hk)
theorem Ev.if_lt {x : Int} (hx : inR x) {off : Int} {tgt : Nat} (hd : decode M.2.1 pc = .ok (.ifCond .lt off, 3)) (ht : (pc : Int) + off = (tgt : Int)) (kt : (x < 0) → Ev g M tgt pl st m nc ns Post) (kf : ¬ (x < 0) → Ev g M (pc + 3) pl st m nc ns Post) : Ev g M pc pl (vI x :: st) m nc ns Post := by
  intro p e R s mi args below meth c C H locs cells slots ls Q hc hs' hR hS hl hk
  exact lv_if_lt C.1 C.2.1 hd ht (fun h => kt (((i32_lt hx ⟨by decide, by decide⟩).mp h)) p e R s mi args below meth c C H locs cells slots ls Q hc hs' hR hS hl hk) (fun h => kf (fun z => h ((i32_lt hx ⟨by decide, by decide⟩).mpr z)) p e R s mi args below meth c C H locs cells slots ls Q hc hs' hR hS hl hk)
theorem Ev.icmp_ge {x y : Int} (hx : inR x) (hy : inR y) {off : Int} {tgt : Nat} (hd : decode M.2.1 pc = .ok (.if_icmp .ge off, 3)) (ht : (pc : Int) + off = (tgt : Int)) (kt : (x ≥ y) → Ev g M tgt pl st m nc ns Post) (kf : ¬ (x ≥ y) → Ev g M (pc + 3) pl st m nc ns Post) : Ev g M pc pl (vI y :: vI x :: st) m nc ns Post := by
  intro p e R s mi args below meth c C H locs cells slots ls Q hc hs' hR hS hl hk
  exact lv_icmp_ge C.1 C.2.1 hd ht (fun h => kt (((i32_ge hx hy).mp h)) p e R s mi args below meth c C H locs cells slots ls Q hc hs' hR hS hl hk) (fun h => kf (fun z => h ((i32_ge hx hy).mpr z)) p e R s mi args below meth c C H locs cells slots ls Q hc hs' hR hS hl hk)
theorem Ev.if_ge {x : Int} (hx : inR x) {off : Int} {tgt : Nat} (hd : decode M.2.1 pc = .ok (.ifCond .ge off, 3)) (ht : (pc : Int) + off = (tgt : Int)) (kt : (x ≥ 0) → Ev g M tgt pl st m nc ns Post) (kf : ¬ (x ≥ 0) → Ev g M (pc + 3) pl st m nc ns Post) : Ev g M pc pl (vI x :: st) m nc ns Post := by
  intro p e R s mi args below meth c C H locs cells slots ls Q hc hs' hR hS hl hk
  exact lv_if_ge C.1 C.2.1 hd ht (fun h => kt (((i32_ge hx ⟨by decide, by decide⟩).mp h)) p e R s mi args below meth c C H locs cells slots ls Q hc hs' hR hS hl hk) (fun h => kf (fun z => h ((i32_ge hx ⟨by decide, by decide⟩).mpr z)) p e R s mi args below meth c C H locs cells slots ls Q hc hs' hR hS hl hk)
theorem Ev.icmp_gt {x y : Int} (hx : inR x) (hy : inR y) {off : Int} {tgt : Nat} (hd : decode M.2.1 pc = .ok (.if_icmp .gt off, 3)) (ht : (pc : Int) + off = (tgt : Int)) (kt : (x > y) → Ev g M tgt pl st m nc ns Post) (kf : ¬ (x > y) → Ev g M (pc + 3) pl st m nc ns Post) : Ev g M pc pl (vI y :: vI x :: st) m nc ns Post := by
  intro p e R s mi args below meth c C H locs cells slots ls Q hc hs' hR hS hl hk
  exact lv_icmp_gt C.1 C.2.1 hd ht (fun h => kt (((i32_gt hx hy).mp h)) p e R s mi args below meth c C H locs cells slots ls Q hc hs' hR hS hl hk) (fun h => kf (fun z => h ((i32_gt hx hy).mpr z)) p e R s mi args below meth c C H locs cells slots ls Q hc hs' hR hS hl hk)
theorem Ev.if_gt {x : Int} (hx : inR x) {off : Int} {tgt : Nat} (hd : decode M.2.1 pc = .ok (.ifCond .gt off, 3)) (ht : (pc : Int) + off = (tgt : Int)) (kt : (x > 0) → Ev g M tgt pl st m nc ns Post) (kf : ¬ (x > 0) → Ev g M (pc + 3) pl st m nc ns Post) : Ev g M pc pl (vI x :: st) m nc ns Post := by
  intro p e R s mi args below meth c C H locs cells slots ls Q hc hs' hR hS hl hk
  exact lv_if_gt C.1 C.2.1 hd ht (fun h => kt (((i32_gt hx ⟨by decide, by decide⟩).mp h)) p e R s mi args below meth c C H locs cells slots ls Q hc hs' hR hS hl hk) (fun h => kf (fun z => h ((i32_gt hx ⟨by decide, by decide⟩).mpr z)) p e R s mi args below meth c C H locs cells slots ls Q hc hs' hR hS hl hk)
theorem Ev.icmp_le {x y : Int} (hx : inR x) (hy : inR y) {off : Int} {tgt : Nat} (hd : decode M.2.1 pc = .ok (.if_icmp .le off, 3)) (ht : (pc : Int) + off = (tgt : Int)) (kt : (x ≤ y) → Ev g M tgt pl st m nc ns Post) (kf : ¬ (x ≤ y) → Ev g M (pc + 3) pl st m nc ns Post) : Ev g M pc pl (vI y :: vI x :: st) m nc ns Post := by
  intro p e R s mi args below meth c C H locs cells slots ls Q hc hs' hR hS hl hk
  exact lv_icmp_le C.1 C.2.1 hd ht (fun h => kt (((i32_le hx hy).mp h)) p e R s mi args below meth c C H locs cells slots ls Q hc hs' hR hS hl hk) (fun h => kf (fun z => h ((i32_le hx hy).mpr z)) p e R s mi args below meth c C H locs cells slots ls Q hc hs' hR hS hl hk)
theorem Ev.if_le {x : Int} (hx : inR x) {off : Int} {tgt : Nat} (hd : decode M.2.1 pc = .ok (.ifCond .le off, 3)) (ht : (pc : Int) + off = (tgt : Int)) (kt : (x ≤ 0) → Ev g M tgt pl st m nc ns Post) (kf : ¬ (x ≤ 0) → Ev g M (pc + 3) pl st m nc ns Post) : Ev g M pc pl (vI x :: st) m nc ns Post := by
  intro p e R s mi args below meth c C H locs cells slots ls Q hc hs' hR hS hl hk
  exact lv_if_le C.1 C.2.1 hd ht (fun h => kt (((i32_le hx ⟨by decide, by decide⟩).mp h)) p e R s mi args below meth c C H locs cells slots ls Q hc hs' hR hS hl hk) (fun h => kf (fun z => h ((i32_le hx ⟨by decide, by decide⟩).mpr z)) p e R s mi args below meth c C H locs cells slots ls Q hc hs' hR hS hl hk)
theorem Ev.goto {off : Int} {tgt : Nat} (hd : decode M.2.1 pc = .ok (.goto off, 3)) (ht : (pc : Int) + off = (tgt : Int)) (k : Ev g M tgt pl st m nc ns Post) : Ev g M pc pl st m nc ns Post :=
  Ev.stp (fun p e R s mi args below meth c C H locs cells slots ls Q hR hS hl kk => lv_goto C.1 C.2.1 hd ht kk) k
theorem Ev.tableIn {dflt lo hi : Int} {offs : Array Int} {len : Nat} {x : Int} {off : Int} {tgt : Nat} (hd : decode M.2.1 pc = .ok (.tableswitch dflt lo hi offs, len)) (hx : inR x) (h1 : lo ≤ x) (h2 : x ≤ hi) (ho : offs[(x - lo).toNat]? = some off) (ht : (pc : Int) + off = (tgt : Int)) (k : Ev g M tgt pl st m nc ns Post) : Ev g M pc pl (vI x :: st) m nc ns Post :=
  Ev.stp (fun p e R s mi args below meth c C H locs cells slots ls Q hR hS hl kk => lv_tableIn C.1 C.2.1 hd (by rw [i32_toInt hx]; omega) (by rw [i32_toInt hx]; omega) (by rw [i32_toInt hx]; exact ho) ht kk) k
theorem Ev.tableOut {dflt lo hi : Int} {offs : Array Int} {len : Nat} {x : Int} {tgt : Nat} (hd : decode M.2.1 pc = .ok (.tableswitch dflt lo hi offs, len)) (hx : inR x) (h : x < lo ∨ hi < x) (ht : (pc : Int) + dflt = (tgt : Int)) (k : Ev g M tgt pl st m nc ns Post) : Ev g M pc pl (vI x :: st) m nc ns Post :=
  Ev.stp (fun p e R s mi args below meth c C H locs cells slots ls Q hR hS hl kk => lv_tableOut C.1 C.2.1 hd (by rw [i32_toInt hx]; exact h) ht kk) k
theorem Ev.lookup {dflt : Int} {ps : Array (Int × Int)} {len : Nat} {x off : Int} {tgt : Nat} (hd : decode M.2.1 pc = .ok (.lookupswitch dflt ps, len)) (hx : inR x) (hp : (ps.toList.zip (ps.toList.drop 1)).all (fun (a, next) => a.1 < next.1) = true) (ho : Op.lookupswitch.offset ps.toList dflt x = off) (ht : (pc : Int) + off = (tgt : Int)) (k : Ev g M tgt pl st m nc ns Post) : Ev g M pc pl (vI x :: st) m nc ns Post :=
  Ev.stp (fun p e R s mi args below meth c C H locs cells slots ls Q hR hS hl kk => lv_lookup C.1 C.2.1 hd hp (by rw [i32_toInt hx]; exact ho) ht kk) k
end EV
end
section
/-! FIELDS AND ARRAYS -/
theorem GT_lay (C : String) (T : u_T) (N : Nat) (h : ((List.range N).map (u_lay C T)).all (fun w => decide (w ∈ lw_tbl) && goodWord w) = true) : ∀ w ∈ u_ws C T N, w ∈ GT := by
  intro w hw
  have h1 := List.all_eq_true.mp h w hw
  simp only [Bool.and_eq_true, decide_eq_true_eq] at h1
  exact GT_mem h1.1 h1.2
theorem cl0 : ∀ w ∈ u_ws RX0 TX0 1, w ∈ GT := GT_lay _ _ _ (by decide +kernel)
theorem cl1 : ∀ w ∈ u_ws RX1 TX1 5, w ∈ GT := GT_lay _ _ _ (by decide +kernel)
theorem cl2 : ∀ w ∈ u_ws RX2 TX2 2, w ∈ GT := GT_lay _ _ _ (by decide +kernel)
theorem cl3 : ∀ w ∈ u_ws RX3 TX3 8, w ∈ GT := GT_lay _ _ _ (by decide +kernel)
theorem cl4 : ∀ w ∈ u_ws RX4 TX4 6, w ∈ GT := GT_lay _ _ _ (by decide +kernel)
theorem cl5 : ∀ w ∈ u_ws RX5 TX5 4, w ∈ GT := GT_lay _ _ _ (by decide +kernel)
theorem cl6 : ∀ w ∈ u_ws RX6 TX6 2, w ∈ GT := GT_lay _ _ _ (by decide +kernel)
theorem cl7 : ∀ w ∈ u_ws RX7 TX7 20, w ∈ GT := GT_lay _ _ _ (by decide +kernel)
theorem cl8 : ∀ w ∈ u_ws RX8 TX8 34, w ∈ GT := GT_lay _ _ _ (by decide +kernel)
def clP (ci : Nat) (q : vw_C) : Prop := (∀ w ∈ u_ws q.1 q.2.1 q.2.2, w ∈ GT) ∧ (∀ k, k < q.2.2 → parseFieldDescriptor (q.2.1 k).2.2.1 = some (cty ci k)) ∧ (∀ a, a < q.2.2 → ∀ b, b < q.2.2 → a ≠ b → (q.2.1 a).2.1 ≠ (q.2.1 b).2.1) ∧ q.2.2 = cNf ci
theorem clOK {ci : Nat} {q : vw_C} (h : vwCl[ci]? = some q) : clP ci q := by
  match ci, h with
  | 0, h => cases h; exact ⟨cl0, tyX0_ok, nmX0, rfl⟩
  | 1, h => cases h; exact ⟨cl1, tyX1_ok, nmX1, rfl⟩
  | 2, h => cases h; exact ⟨cl2, tyX2_ok, nmX2, rfl⟩
  | 3, h => cases h; exact ⟨cl3, tyX3_ok, nmX3, rfl⟩
  | 4, h => cases h; exact ⟨cl4, tyX4_ok, nmX4, rfl⟩
  | 5, h => cases h; exact ⟨cl5, tyX5_ok, nmX5, rfl⟩
  | 6, h => cases h; exact ⟨cl6, tyX6_ok, nmX6, rfl⟩
  | 7, h => cases h; exact ⟨cl7, tyX7_ok, nmX7, rfl⟩
  | 8, h => cases h; exact ⟨cl8, tyX8_ok, nmX8, rfl⟩
  | k + 9, h => simp [vwCl] at h
/-- a cell that holds a reference, a number -/
abbrev Mem.wx (m : Mem) (c k : Nat) (v : Int) : Mem := (m.1, m.2.1, upC m.2.2.1 c k v, m.2.2.2)
abbrev Mem.wr (m : Mem) (c k : Nat) (v : Option Nat) : Mem := (m.1, m.2.1, m.2.2.1, upC m.2.2.2 c k v)
theorem upC_ne {α : Type} {f : Nat → Nat → α} {c i c' : Nat} {v : α} (h : c' ≠ c) : upC f c i v c' = f c' := by
  funext j; simp [upC, h]
theorem upC_self {α : Type} {f : Nat → Nat → α} {c i j : Nat} {v : α} (h : j ≠ i) : upC f c i v c j = f c j := by simp [upC, h]
theorem upC_at {α : Type} {f : Nat → Nat → α} {c i : Nat} {v : α} : upC f c i v c i = v := by simp [upC]
theorem ent_obj {g : GC} {ci : Nat} {x : Nat → Int} {r : Nat → Option Nat} : ent g (0, ci) x r = .inr (ci, (List.range (cNf ci)).map fun j => cv g (fld (cty ci j) (x j) (r j))) := rfl
theorem ent_set {g : GC} {ci k : Nat} {x x' : Nat → Int} {r r' : Nat → Option Nat} {v : PV} (hk : k < cNf ci) (hv : fld (cty ci k) (x' k) (r' k) = v) (hx : ∀ j, j ≠ k → x' j = x j) (hr : ∀ j, j ≠ k → r' j = r j) :
    ent g (0, ci) x' r' = .inr (ci, ((List.range (cNf ci)).map fun j => cv g (fld (cty ci j) (x j) (r j))).set k (cv g v)) := by
  rw [ent_obj]
  congr 2
  apply List.ext_getElem?
  intro j
  by_cases hj : j = k
  · subst hj
    simp [hk, hv]
  · rw [List.getElem?_set_ne (fun h => hj h.symm)]
    simp only [List.getElem?_map]
    by_cases hn : j < cNf ci
    · simp [hn, hx j hj, hr j hj]
    · simp [hn]
section EV
variable {g : GC} {M : MD} {pc : Nat} {pl : List (Option PV)} {st : List PV} {m : Mem} {nc ns : Nat} {Post : Option PV → Mem → Prop}
theorem Rep.at {H : Heap} (h : Rep g m H) {c : Nat} {k : Nat × Nat} (hc : c < m.1) (hs : m.2.1 c = k) : (wl g m)[c]? = some (g.2.2.2.1 + c, ent g k (m.2.2.1 c) (m.2.2.2 c)) := by rw [← hs]; exact wl_at hc
theorem Ev.getf {ci c k idx : Nat} {q : vw_C} {v : PV} (hd : decode M.2.1 pc = .ok (.getfield idx, 3)) (hq : vwCl[ci]? = some q) (hk : k < q.2.2) (hw : Cond.fieldLink M.1.cls idx (q.2.1 k).1 (q.2.1 k).2.1 (q.2.1 k).2.2.1 ∈ lw_tbl) (hc : c < m.1) (hs : m.2.1 c = (0, ci)) (hv : fld (cty ci k) (m.2.2.1 c k) (m.2.2.2 c k) = v)
    (kk : Ev g M (pc + 3) pl (v :: st) m nc ns Post) : Ev g M pc pl (vR c :: st) m nc ns Post := by
  refine Ev.stp (fun p e R s mi args below meth c C H locs cells slots ls Q hR hS hl kk => ?_) kk
  have ho := clOK hq
  obtain ⟨C1, T1, N1⟩ := q
  refine va_get C.1 C.2.1 C.2.2.2.2.1 ho.1 C.2.2.2.1 C.2.2.2.2.2.1.1 hR.1 _ (hR.at hc hs) hq k hk (C.2.2.2.2.1 _ (GT_mem hw rfl)) (fun _ h => h) ?_ hd kk
  have hN : k < cNf ci := by rw [← ho.2.2.2]; exact hk
  simp [hN, hv]
theorem Ev.putf0 {ci c k idx : Nat} {q : vw_C} {v : PV} {m' : Mem} {x' : Nat → Nat → Int} {r' : Nat → Nat → Option Nat} (hm : m' = (m.1, m.2.1, x', r')) (hd : decode M.2.1 pc = .ok (.putfield idx, 3)) (hq : vwCl[ci]? = some q) (hk : k < q.2.2) (hw : Cond.fieldLink M.1.cls idx (q.2.1 k).1 (q.2.1 k).2.1 (q.2.1 k).2.2.1 ∈ lw_tbl) (hc : c < m.1) (hs : m.2.1 c = (0, ci))
    (hf : (q.2.1 k).2.2.2 = false ∨ ((q.2.1 k).2.2.2 = true ∧ M.1.name = "<init>" ∧ (q.2.1 k).1 = M.1.cls)) (hn : narrow (cty ci k) (cv g v) = cv g v) (hfit : fits (cty ci k) (cv g v) = true)
    (hv : fld (cty ci k) (x' c k) (r' c k) = v) (hx : ∀ c', c' ≠ c → x' c' = m.2.2.1 c') (hr : ∀ c', c' ≠ c → r' c' = m.2.2.2 c') (hx2 : ∀ j, j ≠ k → x' c j = m.2.2.1 c j) (hr2 : ∀ j, j ≠ k → r' c j = m.2.2.2 c j)
    (kk : Ev g M (pc + 3) pl st m' nc ns Post) : Ev g M pc pl (v :: vR c :: st) m nc ns Post := by
  intro p e R s mi args below meth c9 C H locs cells slots ls Q hcr hsr hR hS hl hk9
  have ho := clOK hq
  obtain ⟨C1, T1, N1⟩ := q
  obtain ⟨n, sh, x, r⟩ := m
  subst hm
  have hN : k < cNf ci := by rw [← ho.2.2.2]; exact hk
  have he := hR.1.at hc hs
  have hset := wl_set (g := g) (n := n) (sh := sh) (x := x) (x' := x') (r := r) (r' := r') hc (e := .inr (ci, ((List.range (cNf ci)).map fun j => cv g (fld (cty ci j) (x c j) (r c j))).set k (cv g v))) (by rw [show sh c = (0, ci) from hs]; exact ent_set hN hv hx2 hr2) hx hr
  have fin : ∀ (H1 : Heap) (locs1 : List Loc), va_P g.2.1 vwCl ((wl g (n, sh, x, r)).set c (g.2.2.2.1 + c, .inr (ci, ((List.range (cNf ci)).map fun j => cv g (fld (cty ci j) (x c j) (r c j))).set k (cv g v)))) H1 → va_S (gA g) s.heap H1 locs1 → W p g.1 e R s mi args below meth c9 H1 locs1 cells slots Q (F0 mi (pc + 3) ls (st.map (cv g))) := by
    intro H1 locs1 hP1 hS1
    rw [hset] at hP1
    exact W_size fun hz => kk p e R s mi args below meth c9 C H1 locs1 cells slots ls Q hcr hsr ⟨Rep.of hP1 hS1 C.2.2.2.2.2.2.2.2.1 hz hR.2, hR.2⟩ hS1 hl hk9
  have hl2 : k < ((List.range (cNf ci)).map fun j => cv g (fld (cty ci j) (x c j) (r c j))).length := by simp [hN]
  rcases hf with hf | ⟨hf, hi, hdc⟩
  · exact va_put C.1 C.2.1 C.2.2.2.2.1 ho.1 (cty ci) ho.2.1 ho.2.2.1 C.2.2.2.1 C.2.2.2.2.2.1.1 hR.1.1 wl_D hS c he hq k hk (C.2.2.2.2.1 _ (GT_mem hw rfl)) (fun _ h => h) hf (ho.2.1 k hk) hn hfit hl2 hd fun H1 locs1 hP1 _ hS1 => fin H1 locs1 hP1 hS1
  · exact va_putF C.1 C.2.1 C.2.2.2.2.1 ho.1 (cty ci) ho.2.1 ho.2.2.1 C.2.2.2.1 C.2.2.2.2.2.1.1 hR.1.1 wl_D hS c he hq k hk (C.2.2.2.2.1 _ (GT_mem hw rfl)) (fun _ h => h) hf (C.2.2.2.2.2.2.1 hi) hdc (ho.2.1 k hk) hn hfit hl2 hd fun H1 locs1 hP1 _ hS1 => fin H1 locs1 hP1 hS1
end EV
theorem ent_i {g : GC} {n : Nat} {x : Nat → Int} {r : Nat → Option Nat} : ent g (1, n) x r = .inl (g.2.2.1 1, n, .inl fun j => Int32.ofInt (x j)) := rfl
theorem tys_at {g : GC} : (tysG g)[0]? = some (g.2.2.1 1, .int) ∧ (tysG g)[1]? = some (g.2.2.1 2, .boolean) ∧ (tysG g)[2]? = some (g.2.2.1 3, .long) ∧ (tysG g)[3]? = some (g.2.2.1 4, .object RX3) ∧ (tysG g)[4]? = some (g.2.2.1 5, .array .int) := ⟨rfl, rfl, rfl, rfl, rfl⟩
section EV
variable {g : GC} {M : MD} {pc : Nat} {pl : List (Option PV)} {st : List PV} {m : Mem} {nc ns : Nat} {Post : Option PV → Mem → Prop}
theorem Ev.iaload {c n : Nat} {i v : Int} (hd : decode M.2.1 pc = .ok (.iaload, 1)) (hc : c < m.1) (hs : m.2.1 c = (1, n)) (hn : n ≤ 2147483647) (h0 : 0 ≤ i) (h1 : i < n) (hv : m.2.2.1 c i.toNat = v)
    (kk : Ev g M (pc + 1) pl (vI v :: st) m nc ns Post) : Ev g M pc pl (vI i :: vR c :: st) m nc ns Post := by
  refine Ev.stp (fun p e R s mi args below meth c9 C H locs cells slots ls Q hR hS hl kk => ?_) kk
  refine va_iald C.1 C.2.1 C.2.2.2.2.2.1.1 hR.1 c 0 (hR.at hc hs) tys_at.1 (i32_in h0 h1 hn) hd ?_
  rw [i32_nat h0 (by omega), hv]
  exact kk
theorem Ev.zaload {c n : Nat} {i v : Int} (hd : decode M.2.1 pc = .ok (.baload, 1)) (hc : c < m.1) (hs : m.2.1 c = (2, n)) (hn : n ≤ 2147483647) (h0 : 0 ≤ i) (h1 : i < n) (hv : m.2.2.1 c i.toNat = v)
    (kk : Ev g M (pc + 1) pl (vI v :: st) m nc ns Post) : Ev g M pc pl (vI i :: vR c :: st) m nc ns Post := by
  refine Ev.stp (fun p e R s mi args below meth c9 C H locs cells slots ls Q hR hS hl kk => ?_) kk
  refine va_zald C.1 C.2.1 C.2.2.2.2.2.1.1 hR.1 c 1 (hR.at hc hs) tys_at.2.1 (i32_in h0 h1 hn) hd ?_
  rw [i32_nat h0 (by omega), hv]
  exact kk
theorem Ev.laload {c n : Nat} {i v : Int} (hd : decode M.2.1 pc = .ok (.laload, 1)) (hc : c < m.1) (hs : m.2.1 c = (3, n)) (hn : n ≤ 2147483647) (h0 : 0 ≤ i) (h1 : i < n) (hv : m.2.2.1 c i.toNat = v)
    (kk : Ev g M (pc + 1) pl (vL v :: st) m nc ns Post) : Ev g M pc pl (vI i :: vR c :: st) m nc ns Post := by
  refine Ev.stp (fun p e R s mi args below meth c9 C H locs cells slots ls Q hR hS hl kk => ?_) kk
  refine va_lald C.1 C.2.1 C.2.2.2.2.2.1.1 hR.1 c 2 (hR.at hc hs) tys_at.2.2.1 (i32_in h0 h1 hn) hd ?_
  rw [i32_nat h0 (by omega), hv]
  exact kk
theorem Ev.raload {c n : Nat} {i : Int} {v : Option Nat} (hd : decode M.2.1 pc = .ok (.aaload, 1)) (hc : c < m.1) (hs : m.2.1 c = (4, n)) (hn : n ≤ 2147483647) (h0 : 0 ≤ i) (h1 : i < n) (hv : m.2.2.2 c i.toNat = v)
    (kk : Ev g M (pc + 1) pl (vO v :: st) m nc ns Post) : Ev g M pc pl (vI i :: vR c :: st) m nc ns Post := by
  refine Ev.stp (fun p e R s mi args below meth c9 C H locs cells slots ls Q hR hS hl kk => ?_) kk
  refine va_aldq C.1 C.2.1 C.2.2.2.2.2.1.1 hR.1 c 3 (hR.at hc hs) tys_at.2.2.2.1 (i32_in h0 h1 hn) hd ?_
  rw [i32_nat h0 (by omega), hv]
  exact kk
theorem Ev.maload {c n : Nat} {i : Int} {v : Option Nat} (hd : decode M.2.1 pc = .ok (.aaload, 1)) (hc : c < m.1) (hs : m.2.1 c = (5, n)) (hn : n ≤ 2147483647) (h0 : 0 ≤ i) (h1 : i < n) (hv : m.2.2.2 c i.toNat = v)
    (kk : Ev g M (pc + 1) pl (vO v :: st) m nc ns Post) : Ev g M pc pl (vI i :: vR c :: st) m nc ns Post := by
  refine Ev.stp (fun p e R s mi args below meth c9 C H locs cells slots ls Q hR hS hl kk => ?_) kk
  have he := hR.at hc hs
  have hlt : i.toNat < n := by omega
  refine W.aald (v := va_rf ((m.2.2.2 c i.toNat).map (g.2.2.2.1 + ·))) (ty := .array .int) C.1 C.2.1 (hR.1 c _ he) ((C.2.2.2.2.2.1.1.2 4 _ tys_at.2.2.2.2).1 n (fun j => va_rf ((m.2.2.2 c j).map (g.2.2.2.1 + ·)))) rfl (fun q => by cases q) (by show ¬ (_ ∨ (arrV _ _ _).slots.size ≤ _); rw [arrV_size]; exact i32_in h0 h1 hn) (by rw [i32_nat h0 (by omega)]; show (arrV _ _ _).slots[_]? = _; rw [arrV_read _ _ hlt]) rfl rfl hd ?_
  rw [hv]
  exact kk
theorem Ev.ralen {c n : Nat} (hd : decode M.2.1 pc = .ok (.arraylength, 1)) (hc : c < m.1) (hs : m.2.1 c = (4, n))
    (kk : Ev g M (pc + 1) pl (vI n :: st) m nc ns Post) : Ev g M pc pl (vR c :: st) m nc ns Post := by
  refine Ev.stp (fun p e R s mi args below meth c9 C H locs cells slots ls Q hR hS hl kk => ?_) kk
  exact va_alen C.1 C.2.1 C.2.2.2.2.2.1.1 hR.1 c 3 (hR.at hc hs) tys_at.2.2.2.1 rfl hd kk
/-- a store into an array, by what its world is behind it -/
theorem Ev.st0 {c n d : Nat} {x' : Nat → Nat → Int} {r' : Nat → Nat → Option Nat} {st' : List PV} {e' : va_E} (hc : c < m.1) (hs : m.2.1 c = (d, n)) (he : ent g (d, n) (x' c) (r' c) = e') (hx : ∀ c', c' ≠ c → x' c' = m.2.2.1 c') (hr : ∀ c', c' ≠ c → r' c' = m.2.2.2 c')
    (hrow : ∀ (p : Program) (e : Env) (R : Room) (s : State) (mi : MethodId) (args : Array Value) (below : List Frame) (meth : Method) (c9 : Code), Cx g M p R s mi args meth c9 →
      ∀ (H : Heap) (locs : List Loc) (cells slots : Nat) (ls : Array Slot) (Q : State → Prop), Rep g m H → va_S (gA g) s.heap H locs →
        (∀ (H1 : Heap) (locs1 : List Loc), va_P g.2.1 vwCl ((wl g m).set c (g.2.2.2.1 + c, e')) H1 → va_D (gA g) ((wl g m).set c (g.2.2.2.1 + c, e')) → va_S (gA g) s.heap H1 locs1 → W p g.1 e R s mi args below meth c9 H1 locs1 cells slots Q (F0 mi (pc + 1) ls (st'.map (cv g)))) →
        W p g.1 e R s mi args below meth c9 H locs cells slots Q (F0 mi pc ls (st.map (cv g))))
    (kk : Ev g M (pc + 1) pl st' (m.1, m.2.1, x', r') nc ns Post) : Ev g M pc pl st m nc ns Post := by
  intro p e R s mi args below meth c9 C H locs cells slots ls Q hcr hsr hR hS hl hk9
  refine hrow p e R s mi args below meth c9 C H locs cells slots ls Q hR.1 hS fun H1 locs1 hP1 _ hS1 => ?_
  obtain ⟨n0, sh, x, r⟩ := m
  rw [wl_set (sh := sh) (x := x) (x' := x') (r := r) (r' := r') hc (by rw [show sh c = (d, n) from hs]; exact he) hx hr] at hP1
  exact W_size fun hz => kk p e R s mi args below meth c9 C H1 locs1 cells slots ls Q hcr hsr ⟨Rep.of hP1 hS1 C.2.2.2.2.2.2.2.2.1 hz hR.2, hR.2⟩ hS1 hl hk9
theorem Ev.iastore {c n : Nat} {i v : Int} (hd : decode M.2.1 pc = .ok (.iastore, 1)) (hc : c < m.1) (hs : m.2.1 c = (1, n)) (hn : n ≤ 2147483647) (h0 : 0 ≤ i) (h1 : i < n)
    (kk : Ev g M (pc + 1) pl st (m.wx c i.toNat v) nc ns Post) : Ev g M pc pl (vI v :: vI i :: vR c :: st) m nc ns Post := by
  refine Ev.st0 (x' := upC m.2.2.1 c i.toNat v) (r' := m.2.2.2) (st' := st) hc hs rfl (fun c' h => upC_ne h) (fun _ _ => rfl) (fun p e R s mi args below meth c9 C H locs cells slots ls Q hR hS kk => ?_) kk
  refine va_iast C.1 C.2.1 C.2.2.2.2.2.1.1 hR.1 wl_D hS c 0 (hR.at hc hs) tys_at.1 (i32_in h0 h1 hn) hd ?_
  have e : upd (fun j => Int32.ofInt (m.2.2.1 c j)) (Int32.ofInt i).toNatClampNeg (Int32.ofInt v) = fun j => Int32.ofInt (upC m.2.2.1 c i.toNat v c j) := by
    rw [i32_nat h0 (by omega)]
    funext j
    by_cases hj : j = i.toNat
    · subst hj; simp [upd, upC_at]
    · simp [upd, hj, upC_self hj]
  rw [e]
  exact kk
theorem Ev.lastore {c n : Nat} {i v : Int} (hd : decode M.2.1 pc = .ok (.lastore, 1)) (hc : c < m.1) (hs : m.2.1 c = (3, n)) (hn : n ≤ 2147483647) (h0 : 0 ≤ i) (h1 : i < n)
    (kk : Ev g M (pc + 1) pl st (m.wx c i.toNat v) nc ns Post) : Ev g M pc pl (vL v :: vI i :: vR c :: st) m nc ns Post := by
  refine Ev.st0 (x' := upC m.2.2.1 c i.toNat v) (r' := m.2.2.2) (st' := st) hc hs rfl (fun c' h => upC_ne h) (fun _ _ => rfl) (fun p e R s mi args below meth c9 C H locs cells slots ls Q hR hS kk => ?_) kk
  refine va_last C.1 C.2.1 C.2.2.2.2.2.1.1 hR.1 wl_D hS c 2 (hR.at hc hs) tys_at.2.2.1 (i32_in h0 h1 hn) hd ?_
  have e : vp_updL (fun j => Int64.ofInt (m.2.2.1 c j)) (Int32.ofInt i).toNatClampNeg (Int64.ofInt v) = fun j => Int64.ofInt (upC m.2.2.1 c i.toNat v c j) := by
    rw [i32_nat h0 (by omega)]
    funext j
    by_cases hj : j = i.toNat
    · subst hj; simp [vp_updL, upC_at]
    · simp [vp_updL, hj, upC_self hj]
  rw [e]
  exact kk
theorem Ev.zastore {c n : Nat} {i v : Int} (hd : decode M.2.1 pc = .ok (.bastore, 1)) (hc : c < m.1) (hs : m.2.1 c = (2, n)) (hn : n ≤ 2147483647) (h0 : 0 ≤ i) (h1 : i < n) (hv : v = 0 ∨ v = 1)
    (kk : Ev g M (pc + 1) pl st (m.wx c i.toNat v) nc ns Post) : Ev g M pc pl (vI v :: vI i :: vR c :: st) m nc ns Post := by
  refine Ev.st0 (x' := upC m.2.2.1 c i.toNat v) (r' := m.2.2.2) (st' := st) hc hs rfl (fun c' h => upC_ne h) (fun _ _ => rfl) (fun p e R s mi args below meth c9 C H locs cells slots ls Q hR hS kk => ?_) kk
  refine va_zast C.1 C.2.1 C.2.2.2.2.2.1.1 hR.1 wl_D hS c 1 (hR.at hc hs) tys_at.2.1 (i32_in h0 h1 hn) hd ?_
  have ev : vp_nar .boolean (Int32.ofInt v) = Int32.ofInt v := by rcases hv with rfl | rfl <;> rfl
  have e : upd (fun j => Int32.ofInt (m.2.2.1 c j)) (Int32.ofInt i).toNatClampNeg (vp_nar .boolean (Int32.ofInt v)) = fun j => Int32.ofInt (upC m.2.2.1 c i.toNat v c j) := by
    rw [i32_nat h0 (by omega), ev]
    funext j
    by_cases hj : j = i.toNat
    · subst hj; simp [upd, upC_at]
    · simp [upd, hj, upC_self hj]
  rw [e]
  exact kk
theorem Ev.rastore {c n v : Nat} {i : Int} (hd : decode M.2.1 pc = .ok (.aastore, 1)) (hc : c < m.1) (hs : m.2.1 c = (4, n)) (hn : n ≤ 2147483647) (h0 : 0 ≤ i) (h1 : i < n) (hvc : v < m.1) (hvs : m.2.1 v = (0, 3))
    (kk : Ev g M (pc + 1) pl st (m.wr c i.toNat (some v)) nc ns Post) : Ev g M pc pl (vR v :: vI i :: vR c :: st) m nc ns Post := by
  refine Ev.st0 (x' := m.2.2.1) (r' := upC m.2.2.2 c i.toNat (some v)) (st' := st) hc hs rfl (fun _ _ => rfl) (fun c' h => upC_ne h) (fun p e R s mi args below meth c9 C H locs cells slots ls Q hR hS kk => ?_) kk
  refine va_astq C.1 C.2.1 C.2.2.2.2.2.1.1 hR.1 wl_D hS c 3 v 3 (r := (RX3, TX3, 8)) (hR.at hc hs) tys_at.2.2.2.1 (hR.at hvc hvs) rfl (i32_in h0 h1 hn) hd ?_
  have e : va_up (fun j => (m.2.2.2 c j).map (g.2.2.2.1 + ·)) (Int32.ofInt i).toNatClampNeg (some (g.2.2.2.1 + v)) = fun j => (upC m.2.2.2 c i.toNat (some v) c j).map (g.2.2.2.1 + ·) := by
    rw [i32_nat h0 (by omega)]
    funext j
    by_cases hj : j = i.toNat
    · subst hj; simp [va_up, upC_at]
    · simp [va_up, hj, upC_self hj]
  rw [e]
  exact kk
/-- the script -/
theorem Ev.slen (hM : M.1.cls = RL) (hd : decode M.2.1 pc = .ok (.arraylength, 1)) (kk : Ev g M (pc + 1) pl (vI g.2.2.2.2.2.1 :: st) m nc ns Post) : Ev g M pc pl (vS :: st) m nc ns Post := by
  refine Ev.stp (fun p e R s mi args below meth c9 C H locs cells slots ls Q hR hS hl kk => ?_) kk
  obtain ⟨hX, hb1, hb2⟩ := C.2.2.2.2.2.2.2.2.2 hM
  exact va_slen C.1 C.2.1 hX hb1 (Nat.not_le.mpr hb2) hS hd kk
theorem Ev.sload {i v : Int} (hM : M.1.cls = RL) (hd : decode M.2.1 pc = .ok (.iaload, 1)) (hn : g.2.2.2.2.2.1 ≤ 2147483647) (h0 : 0 ≤ i) (h1 : i < g.2.2.2.2.2.1) (hv : (g.2.2.2.2.2.2 i.toNat).toInt = v) (kk : Ev g M (pc + 1) pl (vI v :: st) m nc ns Post) : Ev g M pc pl (vI i :: vS :: st) m nc ns Post := by
  refine Ev.stp (fun p e R s mi args below meth c9 C H locs cells slots ls Q hR hS hl kk => ?_) kk
  obtain ⟨hX, hb1, hb2⟩ := C.2.2.2.2.2.2.2.2.2 hM
  refine va_sld C.1 C.2.1 hX hb1 (Nat.not_le.mpr hb2) hS (i32_in h0 h1 hn) hd ?_
  rw [i32_nat h0 (by omega), ← cvI (g := g), hv]
  exact kk
end EV
end
section
/-! CALLS: a method's run gives its contract, and a contract a row -/
def cpy (x : Nat → Nat → Int) (a b sp dp n : Nat) : Nat → Nat → Int := fun c i => if c = b ∧ dp ≤ i ∧ i < dp + n then x a (sp + (i - dp)) else x c i
def entL : List PV → List (Option PV)
  | [] => []
  | v :: vs => if isL (some v) then some v :: none :: entL vs else some v :: entL vs
def entP (M : MD) (args : List PV) : List (Option PV) := entL args ++ List.replicate (M.2.2.1 - (entL args).length) none
abbrev wsM (M : MD) : List Cond := Cond.code M.1 M.2.1 M.2.2.1 M.2.2.2.1 :: GT
abbrev rmM (M : MD) (nc ns : Nat) : Room := { frames := M.2.2.2.2, cells := nc, slots := ns, locals := 40 * M.2.2.2.2 }
theorem entL_args {g : GC} (args : List PV) : ∀ (i k : Nat) (v : PV), (entL args)[k]? = some (some v) → (i + k, cv g v) ∈ lv_args i (args.map (cv g)) := by
  induction args with
  | nil => intro i k v h; simp [entL] at h
  | cons a as ih =>
    intro i k v h
    rw [List.map_cons, lv_args]
    by_cases hL : isL (some a) = true
    · rw [entL, if_pos hL] at h
      rw [if_pos ((cat_isL a).mpr hL)]
      match k, h with
      | 0, h => cases h; exact List.mem_cons_self
      | 1, h => cases h
      | k + 2, h =>
        have := ih (i + 2) k v h
        rw [show i + 2 + k = i + (k + 2) by omega] at this
        exact List.mem_cons_of_mem _ this
    · rw [entL, if_neg hL] at h
      rw [if_neg (fun z => hL ((cat_isL a).mp z))]
      match k, h with
      | 0, h => cases h; exact List.mem_cons_self
      | k + 1, h =>
        have := ih (i + 1) k v h
        rw [show i + 1 + k = i + (k + 1) by omega] at this
        exact List.mem_cons_of_mem _ this
theorem entL_len {g : GC} (args : List PV) : (lg_sl (args.map (cv g))).length = (entL args).length := by
  induction args with
  | nil => rfl
  | cons a as ih =>
    have e : lg_sl ((a :: as).map (cv g)) = (if (cv g a).category = 2 then [Slot.val (cv g a), Slot.second] else [Slot.val (cv g a)]) ++ lg_sl (as.map (cv g)) := by simp [lg_sl]
    rw [e, List.length_append, ih, entL]
    by_cases hL : isL (some a) = true
    · rw [if_pos ((cat_isL a).mpr hL), if_pos hL]; simp; omega
    · rw [if_neg (fun z => hL ((cat_isL a).mp z)), if_neg hL]; simp; omega
/-- what a method's end is -/
def QM (g : GC) (k nc : Nat) (Post : Option PV → Mem → Prop) : Array Value → State → Outcome → State → Prop := fun _ st o t =>
  (∃ (v : Option PV) (m' : Mem), o = .returned (v.map (cv g)) ∧ Post v m' ∧ m'.1 = k + nc ∧ Rep g m' t.heap) ∧ va_F (gA g) st t
abbrev Pc0 (g : GC) (args : List PV) (m : Mem) : Array Value → State → Prop := va_Pc (args.map (cv g)) (fun U => Rep g m U.heap ∧ St g U)
theorem Pc0_blind {g : GC} {args : List PV} {m : Mem} : FrameBlind (Pc0 g args m) := fun a U f mk h => ⟨h.1, h.2.1, h.2.2.calling f mk a⟩
/-- what a program says of a method: it isn't the law's, its code is among the words -/
def okM (M : MD) : Prop := (plainName M.1.cls = true ∧ M.1.cls ≠ RL) ∧ (M.1.cls ≠ "java/lang/invoke/MethodHandle" ∧ M.1.cls ≠ "java/lang/invoke/VarHandle") ∧ (Cond.code M.1 M.2.1 M.2.2.1 M.2.2.2.1 ∈ lw_tbl ∧ Cond.initialized M.1.cls ∈ lw_tbl) ∧ M.2.2.1 ≤ 21
theorem Ev.met {g : GC} {M : MD} {args : List PV} {m : Mem} {nc ns : Nat} {Post : Option PV → Mem → Prop} (h : Ev g M 0 (entP M args) [] m nc ns Post) (hM : okM M) (hl : (entL args).length ≤ M.2.2.1) : Met g.1 M.1 (wsM M) (rmM M nc ns) (Pc0 g args m) (QM g m.1 nc Post) nc ns (gA g) := by
  refine Met.ofW (cc := M.2.1) (maxL := M.2.2.1) (ret := M.2.2.2.1) hM.1.1 rfl ?_
  intro p e s mi args' below meth c s₁ B hml hv
  obtain ⟨rfl, hR, hSt⟩ := hv
  have hts := atoms_spec (ws := wsM M) B.pre
  have hx := B.exec
  have hb := B.bytes
  have hr := B.returns
  have hlocks := B.notSynchronized
  have C : Cx g M p (rmM M nc ns) s mi (args.map (cv g)).toArray meth c := ⟨hx, hb, hml, findClass_of_methodNamed B.named, fun w hw => hts w (List.mem_cons_of_mem _ hw), hSt, fun hn => ((name_of_methodNamed B.named B.method).1).trans hn, ⟨Nat.le_refl _, Nat.le_refl _⟩, by rw [hR.2]; exact Nat.le_add_right _ _, fun z => absurd z hM.1.2⟩
  rw [lg_entry_eq]
  have hl0 := lv_entry (args.map (cv g)) (n := M.2.2.1) (by rw [entL_len]; exact hl)
  refine h p e (rmM M nc ns) s mi (args.map (cv g)).toArray below meth c C s.heap [] 0 0 _ _ (by show 0 + nc ≤ nc; omega) (by show 0 + ns ≤ ns; omega) ⟨hR, by rw [hR.2]; exact Nat.le_refl _⟩ va_S.rf (lv_mono hl0 fun q hq => ?_) ?_
  · obtain ⟨v, h1, h2⟩ := facts_mem.mp hq
    unfold entP at h1
    by_cases hk : q.1 < (entL args).length
    · rw [List.getElem?_append_left hk] at h1
      have := entL_args (g := g) args 0 q.1 v h1
      rw [Nat.zero_add, h2] at this
      exact this
    · rw [List.getElem?_append_right (by omega), List.getElem?_replicate] at h1
      split at h1 <;> cases h1
  · intro v m' H' locs' pcE ls' hpost hret hR' hS'
    rw [Nat.zero_add, Nat.zero_add]
    rcases hret with ⟨hn, rfl, hd⟩ | ⟨x, hn, rfl, hd⟩ | ⟨x, hn, rfl, hx1, hd⟩
    · exact W.vret hx hb (hr.trans hn) (fun t ht hW => ⟨⟨none, m', rfl, hpost, hR'.2, by rw [ht]; exact hR'.1⟩, hS'.F ht⟩) hS'.2.2 hd
    · exact W.iret (v := Int32.ofInt x) hx hb (hr.trans hn) (fun t ht hW => ⟨⟨some (vI x), m', rfl, hpost, hR'.2, by rw [ht]; exact hR'.1⟩, hS'.F ht⟩) hS'.2.2 hd
    · exact W.zret (v := Int32.ofInt x) (ty := .boolean) hx hb (hr.trans hn) (by rcases hx1 with rfl | rfl <;> rfl) (fun t ht hW => ⟨⟨some (vI x), m', rfl, hpost, hR'.2, by rw [ht]; exact hR'.1⟩, hS'.F ht⟩) hS'.2.2 hd
section EV
variable {g : GC} {M : MD} {pc : Nat} {pl : List (Option PV)} {st : List PV} {m : Mem} {nc ns : Nat} {Post : Option PV → Mem → Prop}
theorem W_call {p : Program} {e : Env} {R : Room} {s : State} {mi : MethodId} {args : Array Value} {below : List Frame} {meth : Method} {c : Code} {H : Heap} {locs : List Loc} {cells slots nc2 ns2 : Nat} {Q : State → Prop} {ls : Array Slot} {st0 rest : List Value} {a : Array Value} {k : Nat} {Post2 : Option PV → Mem → Prop}
    (hr : va_Run p g.1 e R s mi args below meth c H locs cells slots nc2 ns2 (F0 mi pc ls st0) rest (QM g k nc2 Post2 a) (gA g)) (hS : va_S (gA g) s.heap H locs)
    (kk : ∀ (v : Option PV) (m' : Mem) (H1 : Heap) (locs1 : List Loc), Post2 v m' → m'.1 = k + nc2 → Rep g m' H1 → va_S (gA g) s.heap H1 locs1 → W p g.1 e R s mi args below meth c H1 locs1 (cells + nc2) (slots + ns2) Q (F0 mi (pc + 3) ls (v.toList.map (cv g) ++ rest))) :
    W p g.1 e R s mi args below meth c H locs cells slots Q (F0 mi pc ls st0) := by
  intro T hT X
  obtain ⟨v, st₀, t, T', L, h0, X', hL, e1, e2, ⟨⟨w, m', hv, hp, hm, hR⟩, hz, hk⟩, st⟩ := hr T hT X
  have hv2 : v = w.map (cv g) := by injection hv
  rw [h0] at hz hk
  have hS1 : va_S (gA g) s.heap T'.heap (locs ++ L) := ⟨Nat.le_trans hS.1 (by rw [e1]; exact hz), fun q h1 h2 => by rw [e1, hk q (Nat.lt_of_lt_of_le h1 hS.1) h2]; exact hS.2.1 q h1 h2, fun q hq => by
    rcases List.mem_append.mp hq with h | h
    · exact hS.2.2 q h
    · exact hL q h⟩
  obtain ⟨t2, a1, b1⟩ := kk w m' T'.heap (locs ++ L) hp hm (by rw [e1]; exact hR) hS1 T' rfl X'
  refine ⟨t2, st t2 ?_, b1⟩
  have ev : v.toList = w.toList.map (cv g) := by rw [hv2]; cases w <;> rfl
  rw [ev]
  exact a1
/-- words and room of a call -/
theorem GT_wsM {M2 : MD} (h : okM M2) : GoodIn GT (wsM M2) := fun w hw => by
  rcases List.mem_cons.mp hw with rfl | hw
  · have := GT_mem h.2.2.1.1 rfl
    exact ⟨this, good_of_word (GT_good this)⟩
  · exact GT_in w hw
theorem GT_one {w : Cond} (h : w ∈ lw_tbl) (hg : goodWord w = true) : w ∈ GT ∧ ((w.onTables && w.keeps) = true ∨ ∃ ty, w = .arrayClass ty) := ⟨GT_mem h hg, good_of_word hg⟩
theorem room_of {M2 : MD} {R : Room} (hM : okM M2) (hdep : M2.2.2.2.2 + 1 ≤ M.2.2.2.2) (hr : M.2.2.2.2 ≤ R.frames ∧ 40 * M.2.2.2.2 ≤ R.locals) : M2.2.2.2.2 + 1 ≤ R.frames ∧ 8 + (M2.2.2.1 + 11) + 40 * M2.2.2.2.2 ≤ R.locals := by
  have := hM.2.2.2
  omega
theorem Ev.call0 {M2 : MD} {args2 : List PV} {nc2 ns2 : Nat} {Post2 : Option PV → Mem → Prop} {st0 : List PV}
    (h2 : Ev g M2 0 (entP M2 args2) [] m nc2 ns2 Post2) (hM2 : okM M2) (hl2 : (entL args2).length ≤ M2.2.2.1)
    (hrow : Met g.1 M2.1 (wsM M2) (rmM M2 nc2 ns2) (Pc0 g args2 m) (QM g m.1 nc2 Post2) nc2 ns2 (gA g) → ∀ (p : Program) (e : Env) (R : Room) (s : State) (mi : MethodId) (args : Array Value) (below : List Frame) (meth : Method) (c : Code), Cx g M p R s mi args meth c →
      ∀ (H : Heap) (locs : List Loc) (cells slots : Nat) (ls : Array Slot), cells + nc2 ≤ R.cells → slots + ns2 ≤ R.slots → Rep g m H → ls.size = M.2.2.1 → va_Run p g.1 e R s mi args below meth c H locs cells slots nc2 ns2 (F0 mi pc ls (st0.map (cv g))) (st.map (cv g)) (QM g m.1 nc2 Post2 (args2.map (cv g)).toArray) (gA g))
    (kk : ∀ (v : Option PV) (m' : Mem), Post2 v m' → Ev g M (pc + 3) pl (v.toList ++ st) m' nc ns Post) : Ev g M pc pl st0 m (nc2 + nc) (ns2 + ns) Post := by
  intro p e R s mi args below meth c C H locs cells slots ls Q hcr hsr hR hS hl hk
  refine W_call (hrow (h2.met hM2 hl2) p e R s mi args below meth c C H locs cells slots ls (by omega) (by omega) hR.1 hl.1) hS fun v m' H1 locs1 hp hm hR1 hS1 => ?_
  have ee : v.toList.map (cv g) ++ st.map (cv g) = (v.toList ++ st).map (cv g) := by rw [List.map_append]
  rw [ee]
  refine W_size fun hz => kk v m' hp p e R s mi args below meth c C H1 locs1 (cells + nc2) (slots + ns2) ls Q (by omega) (by omega) ⟨hR1, by rw [hm]; have := hR.2; omega⟩ hS1 hl fun v' m'' H' locs' pcE ls' a1 a2 a3 a4 => ?_
  rw [Nat.add_assoc, Nat.add_assoc]
  exact hk v' m'' H' locs' pcE ls' a1 a2 ⟨a3.1, by rw [a3.2, hm]; omega⟩ a4
theorem pre_of {R : Room} {p : Program} {s : State} {mi : MethodId} {args : Array Value} {meth : Method} {c : Code} {H : Heap} {args2 : List PV} (C : Cx g M p R s mi args meth c) (hR : Rep g m H) : ∀ U : State, U.heap = H → s.WarmedH U.vm → Pc0 g args2 m (args2.map (cv g)).toArray U :=
  fun U hU hW => ⟨rfl, by rw [hU]; exact hR, C.2.2.2.2.2.1.warm hW⟩
theorem rcv_of {R : Room} {p : Program} {s : State} {mi : MethodId} {args : Array Value} {meth : Method} {c : Code} {H : Heap} {rcv ci : Nat} {q : vw_C} (C : Cx g M p R s mi args meth c) (hR : Rep g m H) (hq : vwCl[ci]? = some q) (hc : rcv < m.1) (hs : m.2.1 rcv = (0, ci)) :
    ∃ cell : Cell, H[g.2.2.2.1 + rcv]? = some cell ∧ cell.vm.isStatics = false ∧ s.vm.findClass q.1 = some cell.cls := va_recv C.2.2.2.2.2.1.1 hR.1 hq (hR.at hc hs)
def catS (st : List PV) : Nat := (st.map fun v => if isL (some v) then 2 else 1).sum
theorem catS_of {st : List PV} (h : catS st ≤ 8) : ((st.map (cv g)).map fun v => v.category).sum ≤ 8 := by
  refine Nat.le_trans (Nat.le_of_eq ?_) h
  unfold catS
  rw [List.map_map]
  congr 1
  apply List.map_congr_left
  intro v _
  rcases v with x | x | x | x
  · rfl
  · rfl
  · rfl
  · cases x <;> rfl
/-- invokevirtual -/
theorem Ev.callV {idx ci rcv n2 nc2 ns2 : Nat} {M2 : MD} {args2 : List PV} {q : vw_C} {Post2 : Option PV → Mem → Prop} (hd : decode M.2.1 pc = .ok (.invokevirtual idx, 3)) (hM2 : okM M2) (hw : Cond.methodLink M.1.cls idx M2.1 ∈ lw_tbl) (hi : Cond.instanceMethod M2.1 ∈ lw_tbl) (hsel : Cond.selects M2.1.cls M2.1 M2.1 ∈ lw_tbl)
    (hds : (parseMethodDescriptor M2.1.desc).map (fun d => d.parameters.length) = some n2) (hdep : M2.2.2.2.2 + 1 ≤ M.2.2.2.2) (hq : vwCl[ci]? = some q) (hqc : q.1 = M2.1.cls) (hc : rcv < m.1) (hs : m.2.1 rcv = (0, ci)) (hn : args2.length = n2) (hl2 : (entL (vR rcv :: args2)).length ≤ M2.2.2.1) (hcat : catS st ≤ 8)
    (h2 : Ev g M2 0 (entP M2 (vR rcv :: args2)) [] m nc2 ns2 Post2) (kk : ∀ (v : Option PV) (m' : Mem), Post2 v m' → Ev g M (pc + 3) pl (v.toList ++ st) m' nc ns Post) {st0 : List PV} (hst : st0 = args2.reverse ++ vR rcv :: st) : Ev g M pc pl st0 m (nc2 + nc) (ns2 + ns) Post := by
  subst hst
  refine Ev.call0 h2 hM2 hl2 (fun hMet p e R s mi args below meth c C H locs cells slots ls hcr hsr hR hls => ?_) kk
  have hts := C.2.2.2.2.1
  have hG : GoodIn GT (wsV M.1.cls idx M2.1.cls M2.1 (wsM M2)) := by
    intro w hw'
    simp only [wsV, List.mem_append, List.mem_cons, List.not_mem_nil, or_false] at hw'
    rcases hw' with (rfl | rfl | rfl | rfl) | hw'
    · exact GT_one hw rfl
    · exact GT_one hi rfl
    · exact GT_one hsel rfl
    · exact GT_one hM2.2.2.1.2 rfl
    · exact GT_wsM hM2 w (by simpa using hw')
  exact va_runV (As := args2.map (cv g)) (b := g.2.2.2.1 + rcv) (rest := st.map (cv g)) (Ts := GT) ⟨C.1, C.2.1, C.2.2.1, C.2.2.2.1, hts⟩ hMet (cwV n2 hts hG rfl rfl rfl ⟨rfl, hM2.2.1.1, hM2.2.1.2, hds⟩ (room_of hM2 hdep C.2.2.2.2.2.2.2.1)) ⟨Pc0_blind, by rw [← hqc]; exact rcv_of C hR hq hc hs, pre_of (args2 := vR rcv :: args2) C hR⟩ rfl (by simp [hn]) hls (by simp [cv, va_rf]) (lv_room (catS_of hcat)) hd ⟨hcr, hsr⟩
/-- invokestatic, of the own class -/
theorem Ev.callS {idx n2 nc2 ns2 : Nat} {M2 : MD} {args2 : List PV} {Post2 : Option PV → Mem → Prop} (hd : decode M.2.1 pc = .ok (.invokestatic idx, 3)) (hM2 : okM M2) (hw : Cond.methodLink M.1.cls idx M2.1 ∈ lw_tbl) (hi : Cond.static M2.1 ∈ lw_tbl)
    (hds : (parseMethodDescriptor M2.1.desc).map (fun d => d.parameters.length) = some n2) (hdep : M2.2.2.2.2 + 1 ≤ M.2.2.2.2) (hn : args2.length = n2) (hl2 : (entL args2).length ≤ M2.2.2.1) (hcat : catS st ≤ 8)
    (h2 : Ev g M2 0 (entP M2 args2) [] m nc2 ns2 Post2) (kk : ∀ (v : Option PV) (m' : Mem), Post2 v m' → Ev g M (pc + 3) pl (v.toList ++ st) m' nc ns Post) {st0 : List PV} (hst : st0 = args2.reverse ++ st) : Ev g M pc pl st0 m (nc2 + nc) (ns2 + ns) Post := by
  subst hst
  refine Ev.call0 h2 hM2 hl2 (fun hMet p e R s mi args below meth c C H locs cells slots ls hcr hsr hR hls => ?_) kk
  have hts := C.2.2.2.2.1
  exact va_runS (As := args2.map (cv g)) (rest := st.map (cv g)) (Ts := GT) ⟨C.1, C.2.1, C.2.2.1, C.2.2.2.1, hts⟩ hMet ⟨callB_of n2 hts (GT_wsM hM2) rfl rfl rfl (hts _ (GT_mem hM2.2.2.1.2 rfl)) (hts _ (GT_mem hw rfl)) ⟨hM2.2.1.1, hM2.2.1.2, hds⟩ (room_of hM2 hdep C.2.2.2.2.2.2.2.1), hts _ (GT_mem hi rfl)⟩ ⟨Pc0_blind, pre_of C hR⟩ rfl (by simp [hn]) hls (by simp) (lv_room (catS_of hcat)) hd ⟨hcr, hsr⟩
/-- invokestatic, of a nest mate -/
theorem Ev.callSN {idx n2 nc2 ns2 : Nat} {host : String} {M2 : MD} {args2 : List PV} {Post2 : Option PV → Mem → Prop} (hd : decode M.2.1 pc = .ok (.invokestatic idx, 3)) (hM2 : okM M2) (hw : (M.1.cls, idx, M2.1, host) ∈ nestL) (hi : Cond.static M2.1 ∈ lw_tbl)
    (hds : (parseMethodDescriptor M2.1.desc).map (fun d => d.parameters.length) = some n2) (hdep : M2.2.2.2.2 + 1 ≤ M.2.2.2.2) (hn : args2.length = n2) (hl2 : (entL args2).length ≤ M2.2.2.1) (hcat : catS st ≤ 8)
    (h2 : Ev g M2 0 (entP M2 args2) [] m nc2 ns2 Post2) (kk : ∀ (v : Option PV) (m' : Mem), Post2 v m' → Ev g M (pc + 3) pl (v.toList ++ st) m' nc ns Post) {st0 : List PV} (hst : st0 = args2.reverse ++ st) : Ev g M pc pl st0 m (nc2 + nc) (ns2 + ns) Post := by
  subst hst
  refine Ev.call0 h2 hM2 hl2 (fun hMet p e R s mi args below meth c C H locs cells slots ls hcr hsr hR hls => ?_) kk
  have hts := C.2.2.2.2.1
  exact va_runSN (host := host) (As := args2.map (cv g)) (rest := st.map (cv g)) (Ts := GT) ⟨C.1, C.2.1, C.2.2.1, C.2.2.2.1, hts⟩ hMet ⟨va_cnB n2 hts (GT_wsM hM2) rfl rfl rfl (C.2.2.2.2.2.1.2.1 _ hw) (hts _ (GT_mem hM2.2.2.1.2 rfl)) ⟨hM2.2.1.1, hM2.2.1.2, hds⟩ (room_of hM2 hdep C.2.2.2.2.2.2.2.1), hts _ (GT_mem hi rfl), trivial⟩ ⟨Pc0_blind, pre_of C hR⟩ rfl (by simp [hn]) hls (by simp) (lv_room (catS_of hcat)) hd ⟨hcr, hsr⟩
end EV
end
section
/-! WHAT IS MADE: objects, arrays; constructors' calls; arraycopy -/
def up1 {α : Type} (f : Nat → α) (c : Nat) (v : α) : Nat → α := fun c' => if c' = c then v else f c'
/-- one cell more -/
abbrev Mem.more (m : Mem) (k : Nat × Nat) : Mem := (m.1 + 1, up1 m.2.1 m.1 k, up1 m.2.2.1 m.1 (fun _ => 0), up1 m.2.2.2 m.1 (fun _ => none))
theorem up1_ne {α : Type} {f : Nat → α} {c c' : Nat} {v : α} (h : c' ≠ c) : up1 f c v c' = f c' := by simp [up1, h]
theorem up1_at {α : Type} {f : Nat → α} {c : Nat} {v : α} : up1 f c v c = v := by simp [up1]
theorem Rep.more {g : GC} {m : Mem} {H H1 : Heap} {k : Nat × Nat} (hR : Rep g m H) (hz : H1.size = H.size + 1) (ho : ∀ q, q < H.size → H1[q]? = H[q]?) (hat : va_at g.2.1 vwCl (H.size, ent g k (fun _ => 0) (fun _ => none)) H1) : Rep g (m.more k) H1 := by
  refine ⟨?_, by rw [hz, hR.2]; rfl⟩
  obtain ⟨n, sh, x, r⟩ := m
  have e := wl_push (g := g) (n := n) (sh := sh) (sh' := up1 sh n k) (x := x) (x' := up1 x n (fun _ => 0)) (r := r) (r' := up1 r n (fun _ => none)) (e := ent g k (fun _ => 0) (fun _ => none)) (by rw [up1_at, up1_at, up1_at]) (fun c hc => up1_ne (by omega)) (fun c hc => up1_ne (by omega)) (fun c hc => up1_ne (by omega))
  show va_P g.2.1 vwCl (wl g (n + 1, up1 sh n k, up1 x n (fun _ => 0), up1 r n (fun _ => none))) H1
  rw [← e]
  refine (hR.1.kept fun j q hq => ho q.1 (hR.1 j q hq).lt).app fun j q hq => ?_
  have hj : j < 1 := (List.getElem?_eq_some_iff.mp hq).1
  rw [show j = 0 by omega] at hq
  cases hq
  have := hR.2
  dsimp only at this ⊢
  rw [← this]
  exact hat
theorem vaS_more {g : GC} {H0 H H1 : Heap} {locs : List Loc} (hS : va_S (gA g) H0 H locs) (hz : H.size ≤ H1.size) (ho : ∀ q, q < H.size → H1[q]? = H[q]?) : va_S (gA g) H0 H1 locs :=
  ⟨Nat.le_trans hS.1 hz, fun x h1 h2 => (ho x (Nat.lt_of_lt_of_le h1 hS.1)).trans (hS.2.1 x h1 h2), hS.2.2⟩
section EV
variable {g : GC} {M : MD} {pc : Nat} {pl : List (Option PV)} {st : List PV} {m : Mem} {nc ns : Nat} {Post : Option PV → Mem → Prop}
def okT : FieldType → Bool
  | .int => true
  | .boolean => true
  | .long => true
  | .object _ => true
  | .array _ => true
  | _ => false
theorem okT_all : ∀ ci, ci < 9 → ∀ k, k < cNf ci → okT (cty ci k) = true := by decide +kernel
theorem fld_dflt (ci k : Nat) (h : k < cNf ci) (hci : ci < 9) : cv g (fld (cty ci k) 0 none) = defaultValue (cty ci k) := by
  have h1 := okT_all ci hci k h
  generalize cty ci k = t at h1
  cases t <;> first | rfl | (simp [okT] at h1)
theorem Ev.new {idx ci : Nat} {q : vw_C} (hd : decode M.2.1 pc = .ok (.new idx, 3)) (hq : vwCl[ci]? = some q) (hci : ci < 9) (hw1 : Cond.classLink M.1.cls idx q.1 ∈ lw_tbl) (hw2 : Cond.instantiable q.1 q.2.2 ∈ lw_tbl) (hw3 : Cond.initialized q.1 ∈ lw_tbl)
    (kk : Ev g M (pc + 3) pl (vR m.1 :: st) (m.more (0, ci)) nc ns Post) : Ev g M pc pl st m (nc + 1) (ns + q.2.2) Post := by
  intro p e R s mi args below meth c C H locs cells slots ls Q hcr hsr hR hS hl hk
  have ho := clOK hq
  obtain ⟨C1, T1, N1⟩ := q
  have hts := C.2.2.2.2.1
  have hKn := C.2.2.2.2.2.1.1.1 ci _ hq
  refine W.newcK C.1 C.2.1 C.2.2.2.1 (hts _ (GT_mem hw1 rfl)) (hts _ (GT_mem hw2 rfl)) (hts _ (GT_mem hw3 rfl)) rfl hd (by omega) (by dsimp only at hsr ⊢; omega) hKn.2.1 rfl fun H1 kC hkC e1 z1 o1 => ?_
  have hN : N1 = cNf ci := ho.2.2.2
  have hat : va_at g.2.1 vwCl (H.size, ent g (0, ci) (fun _ => 0) (fun _ => none)) H1 := by
    refine ⟨_, hq, (u_born (cty ci) hts ho.1 hKn hkC e1 ho.2.1).to fun j hj => ?_⟩
    have hj2 : j < cNf ci := by rw [← hN]; exact hj
    simp [vp_V, hj2, fld_dflt ci j hj2 hci]
  have hR1 := hR.1.more (k := (0, ci)) z1 o1 hat
  have e3 : (Value.ref H.size :: st.map (cv g)) = ((vR m.1 :: st).map (cv g)) := by rw [hR.1.2]; rfl
  show W p g.1 e R s mi args below meth c H1 locs (cells + 1) (slots + N1) Q (F0 mi (pc + 3) ls (Value.ref H.size :: st.map (cv g)))
  rw [e3]
  refine kk p e R s mi args below meth c C H1 locs (cells + 1) (slots + N1) ls Q (by omega) (by dsimp only at hsr ⊢; omega) ⟨hR1, by have := hR.2; show _ ≤ g.2.2.2.1 + (m.1 + 1); omega⟩ (vaS_more hS (by omega) o1) hl fun v m'' H' locs' pcE ls' a1 a2 a3 a4 => ?_
  rw [show cells + 1 + nc = cells + (nc + 1) by omega, show slots + N1 + ns = slots + (ns + N1) by omega]
  exact hk v m'' H' locs' pcE ls' a1 a2 ⟨a3.1, by rw [a3.2]; show m.1 + 1 + nc = _; omega⟩ a4
/-- the class of an array, by its name -/
theorem St.arr {s : State} (h : St g s) {j : Nat} {ty : FieldType} (hj : (tysG g)[j]? = some (g.2.2.1 (j + 1), ty)) : ArrOfT s (g.2.2.1 (j + 1)) ty ∧ va_RA s (g.2.2.1 (j + 1)) ty := h.1.2 j _ hj
/-- a new array of numbers -/
theorem Ev.newa0 {atype : ArrayType} {j : Nat} {n : Int} (hd : decode M.2.1 pc = .ok (.newarray atype, 2)) (hj : (tysG g)[j]? = some (g.2.2.1 (j + 1), newarray.typeOf atype)) (hw : Cond.arrayClass (newarray.typeOf atype) ∈ lw_tbl) (h0 : 0 ≤ n) (hn : n ≤ 65536) (hby : componentBytes (newarray.typeOf atype) ≤ 8)
    (hent : ∀ N : Nat, ent g (j + 1, N) (fun _ => 0) (fun _ => none) = .inl (g.2.2.1 (j + 1), (N, (ent g (j + 1, N) (fun _ => 0) (fun _ => none)).elim (fun z => z.2.2) (fun _ => .inl fun _ => 0)))) (hcell : ∀ N : Nat, vp_cell (g.2.2.1 (j + 1)) (N, (ent g (j + 1, N) (fun _ => 0) (fun _ => none)).elim (fun z => z.2.2) (fun _ => .inl fun _ => 0)) = arrV (g.2.2.1 (j + 1)) N (fun _ => defaultValue (newarray.typeOf atype)))
    (hra : ∀ (U : State) (cA : ClassId), va_RA U cA (newarray.typeOf atype) → U.vm.findClass ("[" ++ (newarray.typeOf atype).toString) = some cA)
    (kk : Ev g M (pc + 2) pl (vR m.1 :: st) (m.more (j + 1, n.toNat)) nc ns Post) : Ev g M pc pl (vI n :: st) m (nc + 1) (ns + n.toNat) Post := by
  intro p e R s mi args below meth c C H locs cells slots ls Q hcr hsr hR hS hl hk
  have hts := C.2.2.2.2.1
  have hA := C.2.2.2.2.2.1.arr hj
  refine va_newaK C.1 C.2.1 (hts _ (GT_mem hw rfl)) rfl hd rfl (N := n.toNat) (fun z => by have := (i32_neg ⟨by omega, by omega⟩).mp z; omega) (i32_nat h0 (by omega)) (Nat.le_trans (Nat.mul_le_mul (show n.toNat ≤ 65536 by omega) hby) (by decide)) (by omega) (by omega) rfl fun H1 cA e1 z1 o1 hAr hNm => ?_
  have hc : cA = g.2.2.1 (j + 1) := Option.some.inj (hNm.symm.trans (hra s _ hA.2))
  subst hc
  have hat : va_at g.2.1 vwCl (H.size, ent g (j + 1, n.toNat) (fun _ => 0) (fun _ => none)) H1 := by
    rw [hent]
    show H1[H.size]? = some (vp_cell _ _)
    rw [hcell]
    exact e1
  have hR1 := hR.1.more (k := (j + 1, n.toNat)) z1 o1 hat
  have e3 : (Value.ref H.size :: st.map (cv g)) = ((vR m.1 :: st).map (cv g)) := by rw [hR.1.2]; rfl
  show W p g.1 e R s mi args below meth c H1 locs (cells + 1) (slots + n.toNat) Q (F0 mi (pc + 2) ls (Value.ref H.size :: st.map (cv g)))
  rw [e3]
  refine kk p e R s mi args below meth c C H1 locs (cells + 1) (slots + n.toNat) ls Q (by omega) (by omega) ⟨hR1, by have := hR.2; show _ ≤ g.2.2.2.1 + (m.1 + 1); omega⟩ (vaS_more hS (by omega) o1) hl fun v m'' H' locs' pcE ls' a1 a2 a3 a4 => ?_
  rw [show cells + 1 + nc = cells + (nc + 1) by omega, show slots + n.toNat + ns = slots + (ns + n.toNat) by omega]
  exact hk v m'' H' locs' pcE ls' a1 a2 ⟨a3.1, by rw [a3.2]; show m.1 + 1 + nc = _; omega⟩ a4
theorem Ev.newi {n : Int} (hd : decode M.2.1 pc = .ok (.newarray .int, 2)) (h0 : 0 ≤ n) (hn : n ≤ 65536) (kk : Ev g M (pc + 2) pl (vR m.1 :: st) (m.more (1, n.toNat)) nc ns Post) : Ev g M pc pl (vI n :: st) m (nc + 1) (ns + n.toNat) Post :=
  Ev.newa0 (j := 0) hd rfl (by decide +kernel) h0 hn (by decide) (fun _ => rfl) (fun _ => rfl) (fun _ _ h => h) kk
theorem Ev.newz {n : Int} (hd : decode M.2.1 pc = .ok (.newarray .boolean, 2)) (h0 : 0 ≤ n) (hn : n ≤ 65536) (kk : Ev g M (pc + 2) pl (vR m.1 :: st) (m.more (2, n.toNat)) nc ns Post) : Ev g M pc pl (vI n :: st) m (nc + 1) (ns + n.toNat) Post :=
  Ev.newa0 (j := 1) hd rfl (by decide +kernel) h0 hn (by decide) (fun _ => rfl) (fun _ => rfl) (fun _ _ h => h) kk
theorem Ev.newl {n : Int} (hd : decode M.2.1 pc = .ok (.newarray .long, 2)) (h0 : 0 ≤ n) (hn : n ≤ 65536) (kk : Ev g M (pc + 2) pl (vR m.1 :: st) (m.more (3, n.toNat)) nc ns Post) : Ev g M pc pl (vI n :: st) m (nc + 1) (ns + n.toNat) Post :=
  Ev.newa0 (j := 2) hd rfl (by decide +kernel) h0 hn (by decide) (fun _ => rfl) (fun _ => rfl) (fun _ _ h => h) kk
/-- new Rule[n] -/
theorem Ev.newr {idx : Nat} {n : Int} (hd : decode M.2.1 pc = .ok (.anewarray idx, 3)) (hw : Cond.classLink M.1.cls idx RX3 ∈ lw_tbl) (h0 : 0 ≤ n) (hn : n ≤ 65536)
    (kk : Ev g M (pc + 3) pl (vR m.1 :: st) (m.more (4, n.toNat)) nc ns Post) : Ev g M pc pl (vI n :: st) m (nc + 1) (ns + n.toNat) Post := by
  intro p e R s mi args below meth c C H locs cells slots ls Q hcr hsr hR hS hl hk
  have hts := C.2.2.2.2.1
  have hA := C.2.2.2.2.2.1.arr (j := 3) rfl
  have hnn : (Int32.ofInt n).toNatClampNeg = n.toNat := i32_nat h0 (by omega)
  refine W.anew C.1 C.2.1 C.2.2.2.1 (hts _ (GT_mem hw rfl)) (va_AO.use C.2.2.2.2.2.1.2.2.1) rfl hd rfl (fun z => by have := (i32_neg ⟨by omega, by omega⟩).mp z; omega) (by rw [hnn]; omega) (by omega) (by rw [hnn]; omega) fun cA kA comp f1 f2 f3 f4 => ?_
  rw [hnn]
  have hc : cA = g.2.2.1 4 := by
    obtain ⟨_, _, _, _, _, h4⟩ := hA.2
    exact Option.some.inj (f1.symm.trans h4)
  subst hc
  generalize hH1 : H.push ({ cls := g.2.2.1 4, slots := Array.replicate n.toNat .null, vm := .none } : Cell) = H1
  have z1 : H1.size = H.size + 1 := by rw [← hH1, Array.size_push]
  have e1 : H1[H.size]? = some (arrV (g.2.2.1 4) n.toNat (fun _ => .null)) := by rw [← hH1, Array.getElem?_push_size, ← arrV_new]
  have o1 : ∀ q : Nat, q < H.size → H1[q]? = H[q]? := fun q hq => by rw [← hH1, Array.getElem?_push, if_neg (Nat.ne_of_lt hq)]
  have hR1 := hR.1.more (k := (4, n.toNat)) z1 o1 e1
  have e3 : (Value.ref H.size :: st.map (cv g)) = ((vR m.1 :: st).map (cv g)) := by rw [hR.1.2]; rfl
  show W p g.1 e R s mi args below meth c H1 locs (cells + 1) (slots + n.toNat) Q (F0 mi (pc + 3) ls (Value.ref H.size :: st.map (cv g)))
  rw [e3]
  refine kk p e R s mi args below meth c C H1 locs (cells + 1) (slots + n.toNat) ls Q (by omega) (by omega) ⟨hR1, by have := hR.2; show _ ≤ g.2.2.2.1 + (m.1 + 1); omega⟩ (vaS_more hS (by omega) o1) hl fun v m'' H' locs' pcE ls' a1 a2 a3 a4 => ?_
  rw [show cells + 1 + nc = cells + (nc + 1) by omega, show slots + n.toNat + ns = slots + (ns + n.toNat) by omega]
  exact hk v m'' H' locs' pcE ls' a1 a2 ⟨a3.1, by rw [a3.2]; show m.1 + 1 + nc = _; omega⟩ a4
/-- Object.<init> -/
theorem Ev.objI {idx c : Nat} (hd : decode M.2.1 pc = .ok (.invokespecial idx, 3)) (hw : Cond.methodLink M.1.cls idx Lib.objectInit ∈ lw_tbl) (hdep : 1 ≤ M.2.2.2.2) (hcat : catS st ≤ 8) (kk : Ev g M (pc + 3) pl st m nc ns Post) : Ev g M pc pl (vR c :: st) m nc ns Post := by
  refine Ev.stp (fun p e R s mi args below meth c9 C H locs cells slots ls Q hR hS hl kk => ?_) kk
  have hts := C.2.2.2.2.1
  have h1 := C.2.2.2.2.2.2.2.1
  have hr : 1 ≤ R.frames ∧ 40 ≤ R.locals := by omega
  have h2 := lv_room (m := mi) (pc := pc) (ls := ls) (rest := (vR c :: st).map (cv g)) (catS_of (g := g) hcat)
  exact W.objInit C.1 C.2.1 C.2.2.2.1 (hts _ (GT_mem hw rfl)) (hts _ (GT_mem (by decide +kernel) rfl)) (hts _ (GT_mem (by decide +kernel) rfl)) rfl (by rw [C.2.2.1]; exact hl.1) rfl hd hr.1 (by omega) kk
/-- constructors -/
theorem Ev.callI {idx rcv n2 nc2 ns2 : Nat} {M2 : MD} {args2 : List PV} {Post2 : Option PV → Mem → Prop} (hd : decode M.2.1 pc = .ok (.invokespecial idx, 3)) (hM2 : okM M2) (hret : M2.2.2.2.1 = none) (hini : M2.1.name = "<init>") (hw : Cond.methodLink M.1.cls idx M2.1 ∈ lw_tbl) (hi : Cond.instanceMethod M2.1 ∈ lw_tbl)
    (hds : (parseMethodDescriptor M2.1.desc).map (fun d => d.parameters.length) = some n2) (hdep : M2.2.2.2.2 + 1 ≤ M.2.2.2.2) (hn : args2.length = n2) (hl2 : (entL (vR rcv :: args2)).length ≤ M2.2.2.1) (hcat : catS st ≤ 8)
    (h2 : Ev g M2 0 (entP M2 (vR rcv :: args2)) [] m nc2 ns2 Post2) (kk : ∀ (v : Option PV) (m' : Mem), Post2 v m' → Ev g M (pc + 3) pl (v.toList ++ st) m' nc ns Post) {st0 : List PV} (hst : st0 = args2.reverse ++ vR rcv :: st) : Ev g M pc pl st0 m (nc2 + nc) (ns2 + ns) Post := by
  subst hst
  refine Ev.call0 h2 hM2 hl2 (fun hMet p e R s mi args below meth c C H locs cells slots ls hcr hsr hR hls => ?_) kk
  have hts := C.2.2.2.2.1
  exact va_runI (bytes := M2.2.1) (maxL := M2.2.2.1) (As := args2.map (cv g)) (b := g.2.2.2.1 + rcv) (rest := st.map (cv g)) (Ts := GT) ⟨C.1, C.2.1, C.2.2.1, C.2.2.2.1, hts⟩ hMet ⟨callB_of (ws' := GT) n2 hts (GT_wsM hM2) (by rw [← hret]) rfl rfl (hts _ (GT_mem hM2.2.2.1.2 rfl)) (hts _ (GT_mem hw rfl)) ⟨hM2.2.1.1, hM2.2.1.2, hds⟩ (room_of hM2 hdep C.2.2.2.2.2.2.2.1), hini, hts _ (GT_mem hi rfl)⟩ ⟨Pc0_blind, pre_of (args2 := vR rcv :: args2) C hR⟩ rfl (by simp [hn]) hls (by simp [cv, va_rf]) (lv_room (catS_of hcat)) hd ⟨hcr, hsr⟩
theorem Ev.callIN {idx rcv n2 nc2 ns2 : Nat} {host : String} {M2 : MD} {args2 : List PV} {Post2 : Option PV → Mem → Prop} (hd : decode M.2.1 pc = .ok (.invokespecial idx, 3)) (hM2 : okM M2) (hret : M2.2.2.2.1 = none) (hini : M2.1.name = "<init>") (hw : (M.1.cls, idx, M2.1, host) ∈ nestL) (hi : Cond.instanceMethod M2.1 ∈ lw_tbl)
    (hds : (parseMethodDescriptor M2.1.desc).map (fun d => d.parameters.length) = some n2) (hdep : M2.2.2.2.2 + 1 ≤ M.2.2.2.2) (hn : args2.length = n2) (hl2 : (entL (vR rcv :: args2)).length ≤ M2.2.2.1) (hcat : catS st ≤ 8)
    (h2 : Ev g M2 0 (entP M2 (vR rcv :: args2)) [] m nc2 ns2 Post2) (kk : ∀ (v : Option PV) (m' : Mem), Post2 v m' → Ev g M (pc + 3) pl (v.toList ++ st) m' nc ns Post) {st0 : List PV} (hst : st0 = args2.reverse ++ vR rcv :: st) : Ev g M pc pl st0 m (nc2 + nc) (ns2 + ns) Post := by
  subst hst
  refine Ev.call0 h2 hM2 hl2 (fun hMet p e R s mi args below meth c C H locs cells slots ls hcr hsr hR hls => ?_) kk
  have hts := C.2.2.2.2.1
  exact va_runIN (host := host) (bytes := M2.2.1) (maxL := M2.2.2.1) (As := args2.map (cv g)) (b := g.2.2.2.1 + rcv) (rest := st.map (cv g)) (Ts := GT) ⟨C.1, C.2.1, C.2.2.1, C.2.2.2.1, hts⟩ hMet ⟨va_cnB (ws' := GT) n2 hts (GT_wsM hM2) (by rw [← hret]) rfl rfl (C.2.2.2.2.2.1.2.1 _ hw) (hts _ (GT_mem hM2.2.2.1.2 rfl)) ⟨hM2.2.1.1, hM2.2.1.2, hds⟩ (room_of hM2 hdep C.2.2.2.2.2.2.2.1), hini, hts _ (GT_mem hi rfl)⟩ ⟨Pc0_blind, pre_of (args2 := vR rcv :: args2) C hR⟩ rfl (by simp [hn]) hls (by simp [cv, va_rf]) (lv_room (catS_of hcat)) hd ⟨hcr, hsr⟩
/-- System.arraycopy, of numbers -/
theorem Ev.copyi {idx a b na nb : Nat} {sp dp n : Int} (hd : decode M.2.1 pc = .ok (.invokestatic idx, 3)) (hw : Cond.methodLink M.1.cls idx arraycopyName ∈ lw_tbl) (hdep : 1 ≤ M.2.2.2.2) (hna : na ≤ 65536) (hnb : nb ≤ 65536) (ha : a < m.1) (hsa : m.2.1 a = (1, na)) (hb : b < m.1) (hsb : m.2.1 b = (1, nb)) (h1 : 0 ≤ sp) (h2 : 0 ≤ dp) (h3 : 0 ≤ n) (h4 : sp + n ≤ na) (h5 : dp + n ≤ nb)
    (kk : Ev g M (pc + 3) pl [] (m.1, m.2.1, cpy m.2.2.1 a b sp.toNat dp.toNat n.toNat, m.2.2.2) nc ns Post) : Ev g M pc pl [vI n, vI dp, vR b, vI sp, vR a] m nc ns Post := by
  intro p e R s mi args below meth c C H locs cells slots ls Q hcr hsr hR hS hl hk
  have hts := C.2.2.2.2.1
  have hfr := C.2.2.2.2.2.2.2.1
  have e1 : (Int32.ofInt sp).toNatClampNeg = sp.toNat := i32_nat h1 (by omega)
  have e2 : (Int32.ofInt dp).toNatClampNeg = dp.toNat := i32_nat h2 (by omega)
  have e3 : (Int32.ofInt n).toNatClampNeg = n.toNat := i32_nat h3 (by omega)
  have neg : ∀ z : Int, 0 ≤ z → z ≤ 65536 → ¬ Int32.ofInt z < 0 := fun z q1 q2 q => by have := (i32_neg ⟨by omega, by omega⟩).mp q; omega
  refine va_copyi (rest := []) (ty := .int) C.1 C.2.1 (by rw [C.2.2.1]; exact hl.1.symm) C.2.2.2.1 (hts _ (GT_mem hw rfl)) (hts _ (GT_mem (by decide +kernel) rfl)) (hts _ (GT_mem (by decide +kernel) rfl)) (hts _ (GT_mem (by decide +kernel) rfl)) C.2.2.2.2.2.1.1 hR.1.1 wl_D hS a b 0 0 (hR.1.at ha hsa) (hR.1.at hb hsb) tys_at.1 tys_at.1 rfl (neg _ h1 (by omega)) (neg _ h2 (by omega)) (neg _ h3 (by omega)) (by rw [e1, e3]; omega) (by rw [e2, e3]; omega) (fun _ _ => rfl) (by omega) (by show 0 + (nativeFrameWords "java/lang/System" "arraycopy" 5 + 11) ≤ _; rw [show nativeFrameWords "java/lang/System" "arraycopy" 5 = 7 from by decide +kernel]; omega) hd fun H1 locs1 hP1 _ hS1 => ?_
  obtain ⟨n0, sh, x, r⟩ := m
  rw [e1, e2, e3] at hP1
  rw [wl_set (sh := sh) (x := x) (x' := cpy x a b sp.toNat dp.toNat n.toNat) (r := r) (r' := r) hb (by
    rw [show sh b = (1, nb) from hsb, ent_i]
    congr 3
    congr 1
    funext k
    unfold cpy va_cpy
    by_cases hk : dp.toNat ≤ k ∧ k < dp.toNat + n.toNat
    · rw [if_pos ⟨rfl, hk⟩, if_pos hk]
    · rw [if_neg (fun z => hk z.2), if_neg hk]) (fun c' h => by funext k; simp [cpy, h]) (fun _ _ => rfl)] at hP1
  exact W_size fun hz => kk p e R s mi args below meth c C H1 locs1 cells slots ls Q hcr hsr ⟨Rep.of hP1 hS1 C.2.2.2.2.2.2.2.2.1 hz hR.2, hR.2⟩ hS1 hl hk
end EV
end
section
/-! new int[n][k] -/
abbrev Mem.grid (m : Mem) (n k : Nat) : Mem := (m.1 + 1 + n, fun c => if c < m.1 then m.2.1 c else if c = m.1 then (5, n) else (1, k), fun c => if c < m.1 then m.2.2.1 c else fun _ => 0, fun c => if c < m.1 then m.2.2.2 c else if c = m.1 then fun i => if i < n then some (m.1 + 1 + i) else none else fun _ => none)
section EV
variable {g : GC} {M : MD} {pc : Nat} {pl : List (Option PV)} {st : List PV} {m : Mem} {nc ns : Nat} {Post : Option PV → Mem → Prop}
theorem Ev.newm {idx : Nat} {n k : Int} (hd : decode M.2.1 pc = .ok (.multianewarray idx 2, 4)) (hw : Cond.classLink M.1.cls idx ("[" ++ (FieldType.array .int).toString) ∈ lw_tbl) (h0 : 0 ≤ n) (hn : n ≤ 65536) (h1 : 0 ≤ k) (hk : k ≤ 65536)
    (kk : Ev g M (pc + 4) pl (vR m.1 :: st) (m.grid n.toNat k.toNat) nc ns Post) : Ev g M pc pl (vI k :: vI n :: st) m (nc + (1 + n.toNat)) (ns + (n.toNat + n.toNat * k.toNat)) Post := by
  intro p e R s mi args below meth c C H locs cells slots ls Q hcr hsr hR hS hl hk9
  have hts := C.2.2.2.2.1
  have hA5 := C.2.2.2.2.2.1.arr (j := 4) rfl
  have hA1 := C.2.2.2.2.2.1.arr (j := 0) rfl
  have en : (Int32.ofInt n).toNatClampNeg = n.toNat := i32_nat h0 (by omega)
  have ek : (Int32.ofInt k).toNatClampNeg = k.toNat := i32_nat h1 (by omega)
  have neg : ∀ z : Int, 0 ≤ z → z ≤ 65536 → ¬ Int32.ofInt z < 0 := fun z q1 q2 q => by have := (i32_neg ⟨by omega, by omega⟩).mp q; omega
  intro T hT Xs
  obtain ⟨vm₁, cA, comp, -, fA, fC, hO, -, X', step⟩ := Xs.multianewarray2F C.1 C.2.2.2.1 (hts _ (GT_mem hw rfl)) (va_AOA.use C.2.2.2.2.2.1.2.2.2) (hts _ (GT_mem (by decide +kernel) rfl)) (g := F0 mi pc ls ((vI k :: vI n :: st).map (cv g))) rfl (by rw [C.2.1]; exact hd) rfl (neg n h0 hn) (neg k h1 hk) (by rw [en]; omega) (by rw [ek]; exact Nat.le_trans (Nat.mul_le_mul (show k.toNat ≤ 65536 by omega) (show componentBytes .int ≤ 8 by decide)) (by decide)) (by rw [ek]; omega) rfl rfl (by rw [en]; omega) (by rw [en, ek]; omega)
  rw [en, ek] at X' step
  have hcA : cA = g.2.2.1 5 := Option.some.inj (fA.symm.trans hA5.2)
  have hcC : comp = g.2.2.1 1 := Option.some.inj (fC.symm.trans hA1.2)
  subst hcA
  subst hcC
  generalize hF : Jvm.Free.Multi.fill (T.setVm vm₁) (g.2.2.1 5) (g.2.2.1 1) n.toNat k.toNat (defaultValue .int) n.toNat = F at X' step
  have hTh : (T.setVm vm₁).heap = H := hT
  obtain ⟨f1, f2, -, -⟩ := Jvm.Free.Multi.fill_facts (T.setVm vm₁) (g.2.2.1 5) (g.2.2.1 1) n.toNat k.toNat (defaultValue .int) n.toNat
  rw [hF, hTh] at f1 f2
  have hold : ∀ x : Nat, x < H.size → F.heap[x]? = H[x]? := fun x hx => by
    have := Jvm.Free.Multi.fill_old (T.setVm vm₁) (g.2.2.1 5) (g.2.2.1 1) n.toNat k.toNat (defaultValue .int) (a := x) (by rw [hTh]; exact hx) n.toNat
    rw [hF, hTh] at this
    exact this
  have hrow : ∀ j : Nat, j < n.toNat → F.heap[H.size + 1 + j]? = some (vp_cell (g.2.2.1 1) (k.toNat, .inl fun _ => 0)) := fun j hj => by
    have := Jvm.Free.Multi.fill_inner (T.setVm vm₁) (g.2.2.1 5) (g.2.2.1 1) n.toNat k.toNat (defaultValue .int) n.toNat j hj
    rw [hF, hTh] at this
    rw [this, vp_cell_i, ← arrV_new]
    rfl
  rw [vr_outer (g.2.2.1 5) n.toNat H.size n.toNat] at f2
  have hz : F.heap.size = H.size + 1 + n.toNat := by rw [f1]
  have hR1 : Rep g (m.grid n.toNat k.toNat) F.heap := by
    refine ⟨fun j q hq => ?_, by rw [hz, hR.1.2]; show _ = g.2.2.2.1 + (m.1 + 1 + n.toNat); omega⟩
    have hj : j < m.1 + 1 + n.toNat := by
      have := (List.getElem?_eq_some_iff.mp hq).1
      simpa [wl] using this
    rw [wl_at (m := m.grid n.toNat k.toNat) hj] at hq
    cases hq
    have hs := hR.1.2
    by_cases h2 : j < m.1
    · have := hR.1.1 j _ (wl_at h2)
      simp only [h2, if_true]
      exact this.kept (hold _ (by dsimp only; omega))
    · by_cases h3 : j = m.1
      · subst h3
        simp only [Nat.lt_irrefl, if_false, if_true]
        show F.heap[g.2.2.2.1 + m.1]? = some (vp_cell (g.2.2.1 5) _)
        rw [← hs, f2]
        show _ = some (vp_cell (g.2.2.1 5) (n.toNat, .inr (.inr (.inr (.inr fun i => (if i < n.toNat then some (m.1 + 1 + i) else none).map (g.2.2.2.1 + ·))))))
        rw [vp_cell_q]
        congr 2
        funext i
        by_cases hi : i < n.toNat
        · simp [hi, hs, Nat.add_assoc]
        · simp [hi]
      · simp only [h2, h3, if_false]
        have := hrow (j - (m.1 + 1)) (by omega)
        rw [show H.size + 1 + (j - (m.1 + 1)) = g.2.2.2.1 + j by omega] at this
        exact this
  have e3 : (Value.ref T.heap.size :: st.map (cv g)) = ((vR m.1 :: st).map (cv g)) := by rw [hT, hR.1.2]; rfl
  obtain ⟨t, a1, b1⟩ := kk p e R s mi args below meth c C F.heap locs (cells + 1 + n.toNat) (slots + n.toNat + n.toNat * k.toNat) ls Q (by omega) (by omega) ⟨hR1, by have := hR.2; show _ ≤ g.2.2.2.1 + (m.1 + 1 + n.toNat); omega⟩ (vaS_more hS (by omega) hold) hl (fun v m'' H' locs' pcE ls' a1 a2 a3 a4 => by
    rw [show cells + 1 + n.toNat + nc = cells + (nc + (1 + n.toNat)) by omega, show slots + n.toNat + n.toNat * k.toNat + ns = slots + (ns + (n.toNat + n.toNat * k.toNat)) by omega]
    exact hk9 v m'' H' locs' pcE ls' a1 a2 ⟨a3.1, by rw [a3.2]; show m.1 + 1 + n.toNat + nc = _; omega⟩ a4) F rfl X'
  refine ⟨t, step t ?_, b1⟩
  rw [← e3] at a1
  exact a1
end EV
end
section
/-! THE METHODS, and that the words say so -/
theorem tbl_i {w : Cond} (k : Nat) (h : tables_1[k]? = some w) : w ∈ lw_tbl := List.mem_append_right _ (List.mem_of_getElem? h)
theorem prv_i {w : Cond} (k : Nat) (h : (k2_sels lw_privs)[k]? = some w) : w ∈ lw_tbl := List.mem_append_left _ (List.mem_of_getElem? h)
/-- an instance method: it is among the words, it is chosen, how many it takes -/
def okV (M : MD) (n : Nat) : Prop := (Cond.instanceMethod M.1 ∈ lw_tbl ∧ Cond.selects M.1.cls M.1 M.1 ∈ lw_tbl) ∧ (parseMethodDescriptor M.1.desc).map (fun d => d.parameters.length) = some n
def okI (M : MD) (n : Nat) : Prop := (Cond.instanceMethod M.1 ∈ lw_tbl ∧ M.1.name = "<init>" ∧ M.2.2.2.1 = none) ∧ (parseMethodDescriptor M.1.desc).map (fun d => d.parameters.length) = some n
def okS (M : MD) (n : Nat) : Prop := Cond.static M.1 ∈ lw_tbl ∧ (parseMethodDescriptor M.1.desc).map (fun d => d.parameters.length) = some n
abbrev mX7_init : MD := (yX7_init, cX7_init, 3, none, 2)
theorem okX7_init : okM mX7_init := ⟨⟨by decide +kernel, by decide +kernel⟩, ⟨by decide +kernel, by decide +kernel⟩, ⟨tbl_i 18 (by decide +kernel), tbl_i 1 (by decide +kernel)⟩, by decide +kernel⟩
theorem oiX7_init : okI mX7_init 0 := ⟨⟨tbl_i 17 (by decide +kernel), by decide +kernel, rfl⟩, by decide +kernel⟩
abbrev mX7_unknown : MD := (yX7_unknown, cX7_unknown, 3, (some .int), 3)
theorem okX7_unknown : okM mX7_unknown := ⟨⟨by decide +kernel, by decide +kernel⟩, ⟨by decide +kernel, by decide +kernel⟩, ⟨tbl_i 261 (by decide +kernel), tbl_i 1 (by decide +kernel)⟩, by decide +kernel⟩
theorem ovX7_unknown : okV mX7_unknown 2 := ⟨⟨tbl_i 259 (by decide +kernel), tbl_i 260 (by decide +kernel)⟩, by decide +kernel⟩
abbrev mX7_hole : MD := (yX7_hole, cX7_hole, 4, (some .int), 3)
theorem okX7_hole : okM mX7_hole := ⟨⟨by decide +kernel, by decide +kernel⟩, ⟨by decide +kernel, by decide +kernel⟩, ⟨tbl_i 275 (by decide +kernel), tbl_i 1 (by decide +kernel)⟩, by decide +kernel⟩
theorem ovX7_hole : okV mX7_hole 2 := ⟨⟨tbl_i 273 (by decide +kernel), tbl_i 274 (by decide +kernel)⟩, by decide +kernel⟩
abbrev mX7_rule : MD := (yX7_rule, cX7_rule, 4, (some .int), 3)
theorem okX7_rule : okM mX7_rule := ⟨⟨by decide +kernel, by decide +kernel⟩, ⟨by decide +kernel, by decide +kernel⟩, ⟨tbl_i 292 (by decide +kernel), tbl_i 1 (by decide +kernel)⟩, by decide +kernel⟩
theorem ovX7_rule : okV mX7_rule 3 := ⟨⟨tbl_i 290 (by decide +kernel), tbl_i 291 (by decide +kernel)⟩, by decide +kernel⟩
abbrev mX7_mayBeSet : MD := (yX7_mayBeSet, cX7_mayBeSet, 3, (some .boolean), 0)
theorem okX7_mayBeSet : okM mX7_mayBeSet := ⟨⟨by decide +kernel, by decide +kernel⟩, ⟨by decide +kernel, by decide +kernel⟩, ⟨tbl_i 295 (by decide +kernel), tbl_i 1 (by decide +kernel)⟩, by decide +kernel⟩
theorem osX7_mayBeSet : okS mX7_mayBeSet 3 := ⟨tbl_i 294 (by decide +kernel), by decide +kernel⟩
abbrev mX7_part : MD := (yX7_part, cX7_part, 6, (some .int), 3)
theorem okX7_part : okM mX7_part := ⟨⟨by decide +kernel, by decide +kernel⟩, ⟨by decide +kernel, by decide +kernel⟩, ⟨tbl_i 303 (by decide +kernel), tbl_i 1 (by decide +kernel)⟩, by decide +kernel⟩
theorem ovX7_part : okV mX7_part 4 := ⟨⟨tbl_i 301 (by decide +kernel), tbl_i 302 (by decide +kernel)⟩, by decide +kernel⟩
abbrev mX7_mayBePart : MD := (yX7_mayBePart, cX7_mayBePart, 3, (some .boolean), 0)
theorem okX7_mayBePart : okM mX7_mayBePart := ⟨⟨by decide +kernel, by decide +kernel⟩, ⟨by decide +kernel, by decide +kernel⟩, ⟨tbl_i 314 (by decide +kernel), tbl_i 1 (by decide +kernel)⟩, by decide +kernel⟩
theorem osX7_mayBePart : okS mX7_mayBePart 3 := ⟨tbl_i 313 (by decide +kernel), by decide +kernel⟩
abbrev mX7_literal : MD := (yX7_literal, cX7_literal, 6, (some .int), 3)
theorem okX7_literal : okM mX7_literal := ⟨⟨by decide +kernel, by decide +kernel⟩, ⟨by decide +kernel, by decide +kernel⟩, ⟨tbl_i 326 (by decide +kernel), tbl_i 1 (by decide +kernel)⟩, by decide +kernel⟩
theorem ovX7_literal : okV mX7_literal 4 := ⟨⟨tbl_i 324 (by decide +kernel), tbl_i 325 (by decide +kernel)⟩, by decide +kernel⟩
abbrev mX7_stand : MD := (yX7_stand, cX7_stand, 4, (some .int), 3)
theorem okX7_stand : okM mX7_stand := ⟨⟨by decide +kernel, by decide +kernel⟩, ⟨by decide +kernel, by decide +kernel⟩, ⟨tbl_i 337 (by decide +kernel), tbl_i 1 (by decide +kernel)⟩, by decide +kernel⟩
theorem ovX7_stand : okV mX7_stand 2 := ⟨⟨tbl_i 335 (by decide +kernel), tbl_i 336 (by decide +kernel)⟩, by decide +kernel⟩
abbrev mX7_table : MD := (yX7_table, cX7_table, 4, (some .int), 3)
theorem okX7_table : okM mX7_table := ⟨⟨by decide +kernel, by decide +kernel⟩, ⟨by decide +kernel, by decide +kernel⟩, ⟨tbl_i 346 (by decide +kernel), tbl_i 1 (by decide +kernel)⟩, by decide +kernel⟩
theorem ovX7_table : okV mX7_table 3 := ⟨⟨tbl_i 344 (by decide +kernel), tbl_i 345 (by decide +kernel)⟩, by decide +kernel⟩
abbrev mX7_tear : MD := (yX7_tear, cX7_tear, 3, (some .int), 3)
theorem okX7_tear : okM mX7_tear := ⟨⟨by decide +kernel, by decide +kernel⟩, ⟨by decide +kernel, by decide +kernel⟩, ⟨tbl_i 357 (by decide +kernel), tbl_i 1 (by decide +kernel)⟩, by decide +kernel⟩
theorem ovX7_tear : okV mX7_tear 1 := ⟨⟨tbl_i 355 (by decide +kernel), tbl_i 356 (by decide +kernel)⟩, by decide +kernel⟩
abbrev mX7_cell : MD := (yX7_cell, cX7_cell, 4, (some .int), 3)
theorem okX7_cell : okM mX7_cell := ⟨⟨by decide +kernel, by decide +kernel⟩, ⟨by decide +kernel, by decide +kernel⟩, ⟨tbl_i 365 (by decide +kernel), tbl_i 1 (by decide +kernel)⟩, by decide +kernel⟩
theorem ovX7_cell : okV mX7_cell 3 := ⟨⟨tbl_i 363 (by decide +kernel), tbl_i 364 (by decide +kernel)⟩, by decide +kernel⟩
abbrev mX7_copy : MD := (yX7_copy, cX7_copy, 6, (some .int), 3)
theorem okX7_copy : okM mX7_copy := ⟨⟨by decide +kernel, by decide +kernel⟩, ⟨by decide +kernel, by decide +kernel⟩, ⟨tbl_i 373 (by decide +kernel), tbl_i 1 (by decide +kernel)⟩, by decide +kernel⟩
theorem ovX7_copy : okV mX7_copy 5 := ⟨⟨tbl_i 371 (by decide +kernel), tbl_i 372 (by decide +kernel)⟩, by decide +kernel⟩
abbrev mX7_get : MD := (yX7_get, cX7_get, 3, (some .int), 1)
theorem okX7_get : okM mX7_get := ⟨⟨by decide +kernel, by decide +kernel⟩, ⟨by decide +kernel, by decide +kernel⟩, ⟨tbl_i 377 (by decide +kernel), tbl_i 1 (by decide +kernel)⟩, by decide +kernel⟩
theorem ovX7_get : okV mX7_get 2 := ⟨⟨tbl_i 375 (by decide +kernel), tbl_i 376 (by decide +kernel)⟩, by decide +kernel⟩
abbrev mX7_about : MD := (yX7_about, cX7_about, 4, (some .int), 1)
theorem okX7_about : okM mX7_about := ⟨⟨by decide +kernel, by decide +kernel⟩, ⟨by decide +kernel, by decide +kernel⟩, ⟨tbl_i 381 (by decide +kernel), tbl_i 1 (by decide +kernel)⟩, by decide +kernel⟩
theorem ovX7_about : okV mX7_about 2 := ⟨⟨tbl_i 379 (by decide +kernel), tbl_i 380 (by decide +kernel)⟩, by decide +kernel⟩
abbrev mX7_narrow : MD := (yX7_narrow, cX7_narrow, 3, (some .int), 5)
theorem okX7_narrow : okM mX7_narrow := ⟨⟨by decide +kernel, by decide +kernel⟩, ⟨by decide +kernel, by decide +kernel⟩, ⟨tbl_i 385 (by decide +kernel), tbl_i 1 (by decide +kernel)⟩, by decide +kernel⟩
theorem ovX7_narrow : okV mX7_narrow 0 := ⟨⟨tbl_i 383 (by decide +kernel), tbl_i 384 (by decide +kernel)⟩, by decide +kernel⟩
abbrev mX7_takes : MD := (yX7_takes, cX7_takes, 2, (some .int), 5)
theorem okX7_takes : okM mX7_takes := ⟨⟨by decide +kernel, by decide +kernel⟩, ⟨by decide +kernel, by decide +kernel⟩, ⟨tbl_i 506 (by decide +kernel), tbl_i 1 (by decide +kernel)⟩, by decide +kernel⟩
theorem ovX7_takes : okV mX7_takes 1 := ⟨⟨tbl_i 504 (by decide +kernel), tbl_i 505 (by decide +kernel)⟩, by decide +kernel⟩
abbrev mX7_step : MD := (yX7_step, cX7_step, 5, (some .int), 2)
theorem okX7_step : okM mX7_step := ⟨⟨by decide +kernel, by decide +kernel⟩, ⟨by decide +kernel, by decide +kernel⟩, ⟨tbl_i 516 (by decide +kernel), tbl_i 1 (by decide +kernel)⟩, by decide +kernel⟩
theorem ovX7_step : okV mX7_step 3 := ⟨⟨tbl_i 514 (by decide +kernel), tbl_i 515 (by decide +kernel)⟩, by decide +kernel⟩
abbrev mX7_undo : MD := (yX7_undo, cX7_undo, 3, (some .int), 2)
theorem okX7_undo : okM mX7_undo := ⟨⟨by decide +kernel, by decide +kernel⟩, ⟨by decide +kernel, by decide +kernel⟩, ⟨tbl_i 520 (by decide +kernel), tbl_i 1 (by decide +kernel)⟩, by decide +kernel⟩
theorem ovX7_undo : okV mX7_undo 1 := ⟨⟨tbl_i 518 (by decide +kernel), tbl_i 519 (by decide +kernel)⟩, by decide +kernel⟩
abbrev mX7_range : MD := (yX7_range, cX7_range, 3, (some .int), 2)
theorem okX7_range : okM mX7_range := ⟨⟨by decide +kernel, by decide +kernel⟩, ⟨by decide +kernel, by decide +kernel⟩, ⟨tbl_i 524 (by decide +kernel), tbl_i 1 (by decide +kernel)⟩, by decide +kernel⟩
theorem ovX7_range : okV mX7_range 2 := ⟨⟨tbl_i 522 (by decide +kernel), tbl_i 523 (by decide +kernel)⟩, by decide +kernel⟩
abbrev mX7_why : MD := (yX7_why, cX7_why, 6, (some .int), 7)
theorem okX7_why : okM mX7_why := ⟨⟨by decide +kernel, by decide +kernel⟩, ⟨by decide +kernel, by decide +kernel⟩, ⟨tbl_i 530 (by decide +kernel), tbl_i 1 (by decide +kernel)⟩, by decide +kernel⟩
theorem ovX7_why : okV mX7_why 2 := ⟨⟨tbl_i 528 (by decide +kernel), tbl_i 529 (by decide +kernel)⟩, by decide +kernel⟩
abbrev mX7_isLacked : MD := (yX7_isLacked, cX7_isLacked, 4, (some .boolean), 6)
theorem okX7_isLacked : okM mX7_isLacked := ⟨⟨by decide +kernel, by decide +kernel⟩, ⟨by decide +kernel, by decide +kernel⟩, ⟨tbl_i 538 (by decide +kernel), tbl_i 1 (by decide +kernel)⟩, by decide +kernel⟩
theorem ovX7_isLacked : okV mX7_isLacked 3 := ⟨⟨tbl_i 537 (by decide +kernel), prv_i 17 (by decide +kernel)⟩, by decide +kernel⟩
abbrev mX7_narrowToldBySteps : MD := (yX7_narrowToldBySteps, cX7_narrowToldBySteps, 3, (some .boolean), 5)
theorem okX7_narrowToldBySteps : okM mX7_narrowToldBySteps := ⟨⟨by decide +kernel, by decide +kernel⟩, ⟨by decide +kernel, by decide +kernel⟩, ⟨tbl_i 542 (by decide +kernel), tbl_i 1 (by decide +kernel)⟩, by decide +kernel⟩
theorem ovX7_narrowToldBySteps : okV mX7_narrowToldBySteps 1 := ⟨⟨tbl_i 541 (by decide +kernel), prv_i 18 (by decide +kernel)⟩, by decide +kernel⟩
abbrev mX7_keepReasons : MD := (yX7_keepReasons, cX7_keepReasons, 3, (some .int), 0)
theorem okX7_keepReasons : okM mX7_keepReasons := ⟨⟨by decide +kernel, by decide +kernel⟩, ⟨by decide +kernel, by decide +kernel⟩, ⟨tbl_i 550 (by decide +kernel), tbl_i 1 (by decide +kernel)⟩, by decide +kernel⟩
theorem ovX7_keepReasons : okV mX7_keepReasons 1 := ⟨⟨tbl_i 549 (by decide +kernel), prv_i 20 (by decide +kernel)⟩, by decide +kernel⟩
abbrev mX7_reason : MD := (yX7_reason, cX7_reason, 2, (some .int), 0)
theorem okX7_reason : okM mX7_reason := ⟨⟨by decide +kernel, by decide +kernel⟩, ⟨by decide +kernel, by decide +kernel⟩, ⟨tbl_i 554 (by decide +kernel), tbl_i 1 (by decide +kernel)⟩, by decide +kernel⟩
theorem ovX7_reason : okV mX7_reason 1 := ⟨⟨tbl_i 552 (by decide +kernel), tbl_i 553 (by decide +kernel)⟩, by decide +kernel⟩
abbrev mX7_solve : MD := (yX7_solve, cX7_solve, 2, (some .int), 6)
theorem okX7_solve : okM mX7_solve := ⟨⟨by decide +kernel, by decide +kernel⟩, ⟨by decide +kernel, by decide +kernel⟩, ⟨tbl_i 558 (by decide +kernel), tbl_i 1 (by decide +kernel)⟩, by decide +kernel⟩
theorem ovX7_solve : okV mX7_solve 0 := ⟨⟨tbl_i 556 (by decide +kernel), tbl_i 557 (by decide +kernel)⟩, by decide +kernel⟩
abbrev mX7_next : MD := (yX7_next, cX7_next, 3, (some .int), 7)
theorem okX7_next : okM mX7_next := ⟨⟨by decide +kernel, by decide +kernel⟩, ⟨by decide +kernel, by decide +kernel⟩, ⟨tbl_i 603 (by decide +kernel), tbl_i 1 (by decide +kernel)⟩, by decide +kernel⟩
theorem ovX7_next : okV mX7_next 0 := ⟨⟨tbl_i 601 (by decide +kernel), tbl_i 602 (by decide +kernel)⟩, by decide +kernel⟩
abbrev mX7_findsAnswerAbove : MD := (yX7_findsAnswerAbove, cX7_findsAnswerAbove, 3, (some .boolean), 6)
theorem okX7_findsAnswerAbove : okM mX7_findsAnswerAbove := ⟨⟨by decide +kernel, by decide +kernel⟩, ⟨by decide +kernel, by decide +kernel⟩, ⟨tbl_i 607 (by decide +kernel), tbl_i 1 (by decide +kernel)⟩, by decide +kernel⟩
theorem ovX7_findsAnswerAbove : okV mX7_findsAnswerAbove 1 := ⟨⟨tbl_i 606 (by decide +kernel), prv_i 28 (by decide +kernel)⟩, by decide +kernel⟩
abbrev mX7_answer : MD := (yX7_answer, cX7_answer, 2, (some .int), 1)
theorem okX7_answer : okM mX7_answer := ⟨⟨by decide +kernel, by decide +kernel⟩, ⟨by decide +kernel, by decide +kernel⟩, ⟨tbl_i 611 (by decide +kernel), tbl_i 1 (by decide +kernel)⟩, by decide +kernel⟩
theorem ovX7_answer : okV mX7_answer 1 := ⟨⟨tbl_i 609 (by decide +kernel), tbl_i 610 (by decide +kernel)⟩, by decide +kernel⟩
abbrev mX7_count : MD := (yX7_count, cX7_count, 3, (some .int), 6)
theorem okX7_count : okM mX7_count := ⟨⟨by decide +kernel, by decide +kernel⟩, ⟨by decide +kernel, by decide +kernel⟩, ⟨tbl_i 615 (by decide +kernel), tbl_i 1 (by decide +kernel)⟩, by decide +kernel⟩
theorem ovX7_count : okV mX7_count 1 := ⟨⟨tbl_i 613 (by decide +kernel), tbl_i 614 (by decide +kernel)⟩, by decide +kernel⟩
abbrev mX7_best : MD := (yX7_best, cX7_best, 6, (some .int), 7)
theorem okX7_best : okM mX7_best := ⟨⟨by decide +kernel, by decide +kernel⟩, ⟨by decide +kernel, by decide +kernel⟩, ⟨tbl_i 619 (by decide +kernel), tbl_i 1 (by decide +kernel)⟩, by decide +kernel⟩
theorem ovX7_best : okV mX7_best 2 := ⟨⟨tbl_i 617 (by decide +kernel), tbl_i 618 (by decide +kernel)⟩, by decide +kernel⟩
abbrev mX7_has : MD := (yX7_has, cX7_has, 8, (some .int), 7)
theorem okX7_has : okM mX7_has := ⟨⟨by decide +kernel, by decide +kernel⟩, ⟨by decide +kernel, by decide +kernel⟩, ⟨tbl_i 627 (by decide +kernel), tbl_i 1 (by decide +kernel)⟩, by decide +kernel⟩
theorem ovX7_has : okV mX7_has 3 := ⟨⟨tbl_i 625 (by decide +kernel), tbl_i 626 (by decide +kernel)⟩, by decide +kernel⟩
abbrev mX7_core : MD := (yX7_core, cX7_core, 4, (some .int), 7)
theorem okX7_core : okM mX7_core := ⟨⟨by decide +kernel, by decide +kernel⟩, ⟨by decide +kernel, by decide +kernel⟩, ⟨tbl_i 631 (by decide +kernel), tbl_i 1 (by decide +kernel)⟩, by decide +kernel⟩
theorem ovX7_core : okV mX7_core 0 := ⟨⟨tbl_i 629 (by decide +kernel), tbl_i 630 (by decide +kernel)⟩, by decide +kernel⟩
abbrev mX7_hasAnswerBySteps : MD := (yX7_hasAnswerBySteps, cX7_hasAnswerBySteps, 2, (some .boolean), 6)
theorem okX7_hasAnswerBySteps : okM mX7_hasAnswerBySteps := ⟨⟨by decide +kernel, by decide +kernel⟩, ⟨by decide +kernel, by decide +kernel⟩, ⟨tbl_i 635 (by decide +kernel), tbl_i 1 (by decide +kernel)⟩, by decide +kernel⟩
theorem ovX7_hasAnswerBySteps : okV mX7_hasAnswerBySteps 1 := ⟨⟨tbl_i 634 (by decide +kernel), prv_i 30 (by decide +kernel)⟩, by decide +kernel⟩
abbrev mX7_narrowAside : MD := (yX7_narrowAside, cX7_narrowAside, 1, (some .int), 5)
theorem okX7_narrowAside : okM mX7_narrowAside := ⟨⟨by decide +kernel, by decide +kernel⟩, ⟨by decide +kernel, by decide +kernel⟩, ⟨tbl_i 562 (by decide +kernel), tbl_i 1 (by decide +kernel)⟩, by decide +kernel⟩
theorem ovX7_narrowAside : okV mX7_narrowAside 0 := ⟨⟨tbl_i 561 (by decide +kernel), prv_i 21 (by decide +kernel)⟩, by decide +kernel⟩
abbrev mX7_countWays : MD := (yX7_countWays, cX7_countWays, 5, (some .int), 1)
theorem okX7_countWays : okM mX7_countWays := ⟨⟨by decide +kernel, by decide +kernel⟩, ⟨by decide +kernel, by decide +kernel⟩, ⟨tbl_i 566 (by decide +kernel), tbl_i 1 (by decide +kernel)⟩, by decide +kernel⟩
theorem ovX7_countWays : okV mX7_countWays 2 := ⟨⟨tbl_i 565 (by decide +kernel), prv_i 22 (by decide +kernel)⟩, by decide +kernel⟩
abbrev mX7_findsAnswerWith : MD := (yX7_findsAnswerWith, cX7_findsAnswerWith, 3, (some .boolean), 6)
theorem okX7_findsAnswerWith : okM mX7_findsAnswerWith := ⟨⟨by decide +kernel, by decide +kernel⟩, ⟨by decide +kernel, by decide +kernel⟩, ⟨tbl_i 623 (by decide +kernel), tbl_i 1 (by decide +kernel)⟩, by decide +kernel⟩
theorem ovX7_findsAnswerWith : okV mX7_findsAnswerWith 2 := ⟨⟨tbl_i 622 (by decide +kernel), prv_i 29 (by decide +kernel)⟩, by decide +kernel⟩
abbrev mX7_findsAnswer : MD := (yX7_findsAnswer, cX7_findsAnswer, 2, (some .boolean), 5)
theorem okX7_findsAnswer : okM mX7_findsAnswer := ⟨⟨by decide +kernel, by decide +kernel⟩, ⟨by decide +kernel, by decide +kernel⟩, ⟨tbl_i 570 (by decide +kernel), tbl_i 1 (by decide +kernel)⟩, by decide +kernel⟩
theorem ovX7_findsAnswer : okV mX7_findsAnswer 1 := ⟨⟨tbl_i 569 (by decide +kernel), prv_i 23 (by decide +kernel)⟩, by decide +kernel⟩
abbrev mX7_keepAnswer : MD := (yX7_keepAnswer, cX7_keepAnswer, 1, none, 2)
theorem okX7_keepAnswer : okM mX7_keepAnswer := ⟨⟨by decide +kernel, by decide +kernel⟩, ⟨by decide +kernel, by decide +kernel⟩, ⟨tbl_i 599 (by decide +kernel), tbl_i 1 (by decide +kernel)⟩, by decide +kernel⟩
theorem ovX7_keepAnswer : okV mX7_keepAnswer 0 := ⟨⟨tbl_i 598 (by decide +kernel), prv_i 27 (by decide +kernel)⟩, by decide +kernel⟩
abbrev mX7_line : MD := (yX7_line, cX7_line, 2, (some .int), 1)
theorem okX7_line : okM mX7_line := ⟨⟨by decide +kernel, by decide +kernel⟩, ⟨by decide +kernel, by decide +kernel⟩, ⟨tbl_i 639 (by decide +kernel), tbl_i 1 (by decide +kernel)⟩, by decide +kernel⟩
theorem ovX7_line : okV mX7_line 1 := ⟨⟨tbl_i 637 (by decide +kernel), tbl_i 638 (by decide +kernel)⟩, by decide +kernel⟩
abbrev mX7_says : MD := (yX7_says, cX7_says, 5, (some .int), 2)
theorem okX7_says : okM mX7_says := ⟨⟨by decide +kernel, by decide +kernel⟩, ⟨by decide +kernel, by decide +kernel⟩, ⟨tbl_i 643 (by decide +kernel), tbl_i 1 (by decide +kernel)⟩, by decide +kernel⟩
theorem ovX7_says : okV mX7_says 4 := ⟨⟨tbl_i 641 (by decide +kernel), tbl_i 642 (by decide +kernel)⟩, by decide +kernel⟩
abbrev mX7_forge : MD := (yX7_forge, cX7_forge, 5, (some .int), 2)
theorem okX7_forge : okM mX7_forge := ⟨⟨by decide +kernel, by decide +kernel⟩, ⟨by decide +kernel, by decide +kernel⟩, ⟨tbl_i 651 (by decide +kernel), tbl_i 1 (by decide +kernel)⟩, by decide +kernel⟩
theorem ovX7_forge : okV mX7_forge 4 := ⟨⟨tbl_i 649 (by decide +kernel), tbl_i 650 (by decide +kernel)⟩, by decide +kernel⟩
abbrev mX7_check : MD := (yX7_check, cX7_check, 3, (some .int), 6)
theorem okX7_check : okM mX7_check := ⟨⟨by decide +kernel, by decide +kernel⟩, ⟨by decide +kernel, by decide +kernel⟩, ⟨tbl_i 655 (by decide +kernel), tbl_i 1 (by decide +kernel)⟩, by decide +kernel⟩
theorem ovX7_check : okV mX7_check 0 := ⟨⟨tbl_i 653 (by decide +kernel), tbl_i 654 (by decide +kernel)⟩, by decide +kernel⟩
abbrev mX7_refutes : MD := (yX7_refutes, cX7_refutes, 4, (some .int), 7)
theorem okX7_refutes : okM mX7_refutes := ⟨⟨by decide +kernel, by decide +kernel⟩, ⟨by decide +kernel, by decide +kernel⟩, ⟨tbl_i 671 (by decide +kernel), tbl_i 1 (by decide +kernel)⟩, by decide +kernel⟩
theorem ovX7_refutes : okV mX7_refutes 0 := ⟨⟨tbl_i 669 (by decide +kernel), tbl_i 670 (by decide +kernel)⟩, by decide +kernel⟩
abbrev mX7_isRightByRule : MD := (yX7_isRightByRule, cX7_isRightByRule, 6, (some .int), 5)
theorem okX7_isRightByRule : okM mX7_isRightByRule := ⟨⟨by decide +kernel, by decide +kernel⟩, ⟨by decide +kernel, by decide +kernel⟩, ⟨tbl_i 667 (by decide +kernel), tbl_i 1 (by decide +kernel)⟩, by decide +kernel⟩
theorem ovX7_isRightByRule : okV mX7_isRightByRule 2 := ⟨⟨tbl_i 666 (by decide +kernel), prv_i 34 (by decide +kernel)⟩, by decide +kernel⟩
abbrev mX7_isRightByLines : MD := (yX7_isRightByLines, cX7_isRightByLines, 2, (some .int), 5)
theorem okX7_isRightByLines : okM mX7_isRightByLines := ⟨⟨by decide +kernel, by decide +kernel⟩, ⟨by decide +kernel, by decide +kernel⟩, ⟨tbl_i 659 (by decide +kernel), tbl_i 1 (by decide +kernel)⟩, by decide +kernel⟩
theorem ovX7_isRightByLines : okV mX7_isRightByLines 1 := ⟨⟨tbl_i 658 (by decide +kernel), prv_i 32 (by decide +kernel)⟩, by decide +kernel⟩
abbrev mX7_cutToldByFalse : MD := (yX7_cutToldByFalse, cX7_cutToldByFalse, 3, (some .boolean), 2)
theorem okX7_cutToldByFalse : okM mX7_cutToldByFalse := ⟨⟨by decide +kernel, by decide +kernel⟩, ⟨by decide +kernel, by decide +kernel⟩, ⟨tbl_i 663 (by decide +kernel), tbl_i 1 (by decide +kernel)⟩, by decide +kernel⟩
theorem ovX7_cutToldByFalse : okV mX7_cutToldByFalse 1 := ⟨⟨tbl_i 662 (by decide +kernel), prv_i 33 (by decide +kernel)⟩, by decide +kernel⟩
abbrev mX7_total : MD := (yX7_total, cX7_total, 2, (some .int), 2)
theorem okX7_total : okM mX7_total := ⟨⟨by decide +kernel, by decide +kernel⟩, ⟨by decide +kernel, by decide +kernel⟩, ⟨tbl_i 676 (by decide +kernel), tbl_i 1 (by decide +kernel)⟩, by decide +kernel⟩
theorem ovX7_total : okV mX7_total 1 := ⟨⟨tbl_i 674 (by decide +kernel), tbl_i 675 (by decide +kernel)⟩, by decide +kernel⟩
abbrev mX7_isUnknown : MD := (yX7_isUnknown, cX7_isUnknown, 2, (some .boolean), 0)
theorem okX7_isUnknown : okM mX7_isUnknown := ⟨⟨by decide +kernel, by decide +kernel⟩, ⟨by decide +kernel, by decide +kernel⟩, ⟨tbl_i 279 (by decide +kernel), tbl_i 1 (by decide +kernel)⟩, by decide +kernel⟩
theorem ovX7_isUnknown : okV mX7_isUnknown 1 := ⟨⟨tbl_i 278 (by decide +kernel), prv_i 1 (by decide +kernel)⟩, by decide +kernel⟩
abbrev mX7_isRule : MD := (yX7_isRule, cX7_isRule, 2, (some .boolean), 0)
theorem okX7_isRule : okM mX7_isRule := ⟨⟨by decide +kernel, by decide +kernel⟩, ⟨by decide +kernel, by decide +kernel⟩, ⟨tbl_i 307 (by decide +kernel), tbl_i 1 (by decide +kernel)⟩, by decide +kernel⟩
theorem ovX7_isRule : okV mX7_isRule 1 := ⟨⟨tbl_i 306 (by decide +kernel), prv_i 2 (by decide +kernel)⟩, by decide +kernel⟩
abbrev mX7_isLine : MD := (yX7_isLine, cX7_isLine, 2, (some .boolean), 0)
theorem okX7_isLine : okM mX7_isLine := ⟨⟨by decide +kernel, by decide +kernel⟩, ⟨by decide +kernel, by decide +kernel⟩, ⟨tbl_i 647 (by decide +kernel), tbl_i 1 (by decide +kernel)⟩, by decide +kernel⟩
theorem ovX7_isLine : okV mX7_isLine 1 := ⟨⟨tbl_i 646 (by decide +kernel), prv_i 31 (by decide +kernel)⟩, by decide +kernel⟩
abbrev mX7_stands : MD := (yX7_stands, cX7_stands, 2, (some .boolean), 0)
theorem okX7_stands : okM mX7_stands := ⟨⟨by decide +kernel, by decide +kernel⟩, ⟨by decide +kernel, by decide +kernel⟩, ⟨tbl_i 341 (by decide +kernel), tbl_i 1 (by decide +kernel)⟩, by decide +kernel⟩
theorem ovX7_stands : okV mX7_stands 1 := ⟨⟨tbl_i 340 (by decide +kernel), prv_i 4 (by decide +kernel)⟩, by decide +kernel⟩
abbrev mX7_isTable : MD := (yX7_isTable, cX7_isTable, 1, (some .boolean), 0)
theorem okX7_isTable : okM mX7_isTable := ⟨⟨by decide +kernel, by decide +kernel⟩, ⟨by decide +kernel, by decide +kernel⟩, ⟨tbl_i 349 (by decide +kernel), tbl_i 1 (by decide +kernel)⟩, by decide +kernel⟩
theorem osX7_isTable : okS mX7_isTable 1 := ⟨tbl_i 348 (by decide +kernel), by decide +kernel⟩
abbrev mX7_isNumber : MD := (yX7_isNumber, cX7_isNumber, 1, (some .boolean), 0)
theorem okX7_isNumber : okM mX7_isNumber := ⟨⟨by decide +kernel, by decide +kernel⟩, ⟨by decide +kernel, by decide +kernel⟩, ⟨tbl_i 282 (by decide +kernel), tbl_i 1 (by decide +kernel)⟩, by decide +kernel⟩
theorem osX7_isNumber : okS mX7_isNumber 1 := ⟨tbl_i 281 (by decide +kernel), by decide +kernel⟩
abbrev mX7_isLiteral : MD := (yX7_isLiteral, cX7_isLiteral, 2, (some .boolean), 1)
theorem okX7_isLiteral : okM mX7_isLiteral := ⟨⟨by decide +kernel, by decide +kernel⟩, ⟨by decide +kernel, by decide +kernel⟩, ⟨tbl_i 329 (by decide +kernel), tbl_i 1 (by decide +kernel)⟩, by decide +kernel⟩
theorem osX7_isLiteral : okS mX7_isLiteral 2 := ⟨tbl_i 328 (by decide +kernel), by decide +kernel⟩
abbrev mX7_numbersSo : MD := (yX7_numbersSo, cX7_numbersSo, 2, (some .int), 0)
theorem okX7_numbersSo : okM mX7_numbersSo := ⟨⟨by decide +kernel, by decide +kernel⟩, ⟨by decide +kernel, by decide +kernel⟩, ⟨tbl_i 332 (by decide +kernel), tbl_i 1 (by decide +kernel)⟩, by decide +kernel⟩
theorem osX7_numbersSo : okS mX7_numbersSo 2 := ⟨tbl_i 331 (by decide +kernel), by decide +kernel⟩
abbrev mX7_found : MD := (yX7_found, cX7_found, 2, (some .int), 0)
theorem okX7_found : okM mX7_found := ⟨⟨by decide +kernel, by decide +kernel⟩, ⟨by decide +kernel, by decide +kernel⟩, ⟨tbl_i 311 (by decide +kernel), tbl_i 1 (by decide +kernel)⟩, by decide +kernel⟩
theorem ovX7_found : okV mX7_found 1 := ⟨⟨tbl_i 310 (by decide +kernel), prv_i 3 (by decide +kernel)⟩, by decide +kernel⟩
abbrev mX7_letRangesBeAsTold : MD := (yX7_letRangesBeAsTold, cX7_letRangesBeAsTold, 1, none, 2)
theorem okX7_letRangesBeAsTold : okM mX7_letRangesBeAsTold := ⟨⟨by decide +kernel, by decide +kernel⟩, ⟨by decide +kernel, by decide +kernel⟩, ⟨tbl_i 265 (by decide +kernel), tbl_i 1 (by decide +kernel)⟩, by decide +kernel⟩
theorem ovX7_letRangesBeAsTold : okV mX7_letRangesBeAsTold 0 := ⟨⟨tbl_i 264 (by decide +kernel), prv_i 0 (by decide +kernel)⟩, by decide +kernel⟩
abbrev mX7_bring : MD := (yX7_bring, cX7_bring, 2, none, 1)
theorem okX7_bring : okM mX7_bring := ⟨⟨by decide +kernel, by decide +kernel⟩, ⟨by decide +kernel, by decide +kernel⟩, ⟨tbl_i 268 (by decide +kernel), tbl_i 1 (by decide +kernel)⟩, by decide +kernel⟩
theorem osX7_bring : okS mX7_bring 2 := ⟨tbl_i 267 (by decide +kernel), by decide +kernel⟩
abbrev mX7_noneIsEmpty : MD := (yX7_noneIsEmpty, cX7_noneIsEmpty, 3, (some .boolean), 0)
theorem okX7_noneIsEmpty : okM mX7_noneIsEmpty := ⟨⟨by decide +kernel, by decide +kernel⟩, ⟨by decide +kernel, by decide +kernel⟩, ⟨tbl_i 546 (by decide +kernel), tbl_i 1 (by decide +kernel)⟩, by decide +kernel⟩
theorem ovX7_noneIsEmpty : okV mX7_noneIsEmpty 1 := ⟨⟨tbl_i 545 (by decide +kernel), prv_i 19 (by decide +kernel)⟩, by decide +kernel⟩
abbrev mX7_least : MD := (yX7_least, cX7_least, 1, (some .int), 1)
theorem okX7_least : okM mX7_least := ⟨⟨by decide +kernel, by decide +kernel⟩, ⟨by decide +kernel, by decide +kernel⟩, ⟨tbl_i 476 (by decide +kernel), tbl_i 1 (by decide +kernel)⟩, by decide +kernel⟩
theorem osX7_least : okS mX7_least 1 := ⟨tbl_i 475 (by decide +kernel), by decide +kernel⟩
abbrev mX7_greatest : MD := (yX7_greatest, cX7_greatest, 1, (some .int), 1)
theorem okX7_greatest : okM mX7_greatest := ⟨⟨by decide +kernel, by decide +kernel⟩, ⟨by decide +kernel, by decide +kernel⟩, ⟨tbl_i 483 (by decide +kernel), tbl_i 1 (by decide +kernel)⟩, by decide +kernel⟩
theorem osX7_greatest : okS mX7_greatest 1 := ⟨tbl_i 482 (by decide +kernel), by decide +kernel⟩
abbrev mX7_isOne : MD := (yX7_isOne, cX7_isOne, 1, (some .boolean), 0)
theorem okX7_isOne : okM mX7_isOne := ⟨⟨by decide +kernel, by decide +kernel⟩, ⟨by decide +kernel, by decide +kernel⟩, ⟨tbl_i 444 (by decide +kernel), tbl_i 1 (by decide +kernel)⟩, by decide +kernel⟩
theorem osX7_isOne : okS mX7_isOne 1 := ⟨tbl_i 443 (by decide +kernel), by decide +kernel⟩
abbrev mX8_init : MD := (yX8_init, cX8_init, 1, none, 1)
theorem okX8_init : okM mX8_init := ⟨⟨by decide +kernel, by decide +kernel⟩, ⟨by decide +kernel, by decide +kernel⟩, ⟨tbl_i 686 (by decide +kernel), tbl_i 9 (by decide +kernel)⟩, by decide +kernel⟩
theorem oiX8_init : okI mX8_init 0 := ⟨⟨tbl_i 685 (by decide +kernel), by decide +kernel, rfl⟩, by decide +kernel⟩
abbrev mX8_in : MD := (yX8_in, cX8_in, 6, (some .boolean), 0)
theorem okX8_in : okM mX8_in := ⟨⟨by decide +kernel, by decide +kernel⟩, ⟨by decide +kernel, by decide +kernel⟩, ⟨tbl_i 799 (by decide +kernel), tbl_i 9 (by decide +kernel)⟩, by decide +kernel⟩
theorem osX8_in : okS mX8_in 3 := ⟨tbl_i 798 (by decide +kernel), by decide +kernel⟩
abbrev mX8_noUnknown : MD := (yX8_noUnknown, cX8_noUnknown, 2, (some .boolean), 1)
theorem okX8_noUnknown : okM mX8_noUnknown := ⟨⟨by decide +kernel, by decide +kernel⟩, ⟨by decide +kernel, by decide +kernel⟩, ⟨tbl_i 815 (by decide +kernel), tbl_i 9 (by decide +kernel)⟩, by decide +kernel⟩
theorem ovX8_noUnknown : okV mX8_noUnknown 1 := ⟨⟨tbl_i 814 (by decide +kernel), prv_i 36 (by decide +kernel)⟩, by decide +kernel⟩
abbrev mX8_noRule : MD := (yX8_noRule, cX8_noRule, 2, (some .boolean), 1)
theorem okX8_noRule : okM mX8_noRule := ⟨⟨by decide +kernel, by decide +kernel⟩, ⟨by decide +kernel, by decide +kernel⟩, ⟨tbl_i 835 (by decide +kernel), tbl_i 9 (by decide +kernel)⟩, by decide +kernel⟩
theorem ovX8_noRule : okV mX8_noRule 1 := ⟨⟨tbl_i 834 (by decide +kernel), prv_i 37 (by decide +kernel)⟩, by decide +kernel⟩
abbrev mX8_finds : MD := (yX8_finds, cX8_finds, 2, (some .int), 0)
theorem okX8_finds : okM mX8_finds := ⟨⟨by decide +kernel, by decide +kernel⟩, ⟨by decide +kernel, by decide +kernel⟩, ⟨tbl_i 839 (by decide +kernel), tbl_i 9 (by decide +kernel)⟩, by decide +kernel⟩
theorem ovX8_finds : okV mX8_finds 1 := ⟨⟨tbl_i 838 (by decide +kernel), prv_i 38 (by decide +kernel)⟩, by decide +kernel⟩
abbrev mX8_bits : MD := (yX8_bits, cX8_bits, 2, (some .int), 0)
theorem okX8_bits : okM mX8_bits := ⟨⟨by decide +kernel, by decide +kernel⟩, ⟨by decide +kernel, by decide +kernel⟩, ⟨tbl_i 802 (by decide +kernel), tbl_i 9 (by decide +kernel)⟩, by decide +kernel⟩
theorem osX8_bits : okS mX8_bits 2 := ⟨tbl_i 801 (by decide +kernel), by decide +kernel⟩
abbrev mX8_many : MD := (yX8_many, cX8_many, 3, (some .int), 0)
theorem okX8_many : okM mX8_many := ⟨⟨by decide +kernel, by decide +kernel⟩, ⟨by decide +kernel, by decide +kernel⟩, ⟨tbl_i 818 (by decide +kernel), tbl_i 9 (by decide +kernel)⟩, by decide +kernel⟩
theorem osX8_many : okS mX8_many 1 := ⟨tbl_i 817 (by decide +kernel), by decide +kernel⟩
abbrev mX8_least : MD := (yX8_least, cX8_least, 2, (some .int), 0)
theorem okX8_least : okM mX8_least := ⟨⟨by decide +kernel, by decide +kernel⟩, ⟨by decide +kernel, by decide +kernel⟩, ⟨tbl_i 925 (by decide +kernel), tbl_i 9 (by decide +kernel)⟩, by decide +kernel⟩
theorem osX8_least : okS mX8_least 1 := ⟨tbl_i 924 (by decide +kernel), by decide +kernel⟩
abbrev mX8_greatest : MD := (yX8_greatest, cX8_greatest, 2, (some .int), 0)
theorem okX8_greatest : okM mX8_greatest := ⟨⟨by decide +kernel, by decide +kernel⟩, ⟨by decide +kernel, by decide +kernel⟩, ⟨tbl_i 922 (by decide +kernel), tbl_i 9 (by decide +kernel)⟩, by decide +kernel⟩
theorem osX8_greatest : okS mX8_greatest 1 := ⟨tbl_i 921 (by decide +kernel), by decide +kernel⟩
abbrev mX8_asTold : MD := (yX8_asTold, cX8_asTold, 2, none, 0)
theorem okX8_asTold : okM mX8_asTold := ⟨⟨by decide +kernel, by decide +kernel⟩, ⟨by decide +kernel, by decide +kernel⟩, ⟨tbl_i 807 (by decide +kernel), tbl_i 9 (by decide +kernel)⟩, by decide +kernel⟩
theorem ovX8_asTold : okV mX8_asTold 0 := ⟨⟨tbl_i 806 (by decide +kernel), prv_i 35 (by decide +kernel)⟩, by decide +kernel⟩
abbrev mX8_unknown : MD := (yX8_unknown, cX8_unknown, 3, (some .int), 1)
theorem okX8_unknown : okM mX8_unknown := ⟨⟨by decide +kernel, by decide +kernel⟩, ⟨by decide +kernel, by decide +kernel⟩, ⟨tbl_i 795 (by decide +kernel), tbl_i 9 (by decide +kernel)⟩, by decide +kernel⟩
theorem ovX8_unknown : okV mX8_unknown 2 := ⟨⟨tbl_i 793 (by decide +kernel), tbl_i 794 (by decide +kernel)⟩, by decide +kernel⟩
abbrev mX8_hole : MD := (yX8_hole, cX8_hole, 3, (some .int), 2)
theorem okX8_hole : okM mX8_hole := ⟨⟨by decide +kernel, by decide +kernel⟩, ⟨by decide +kernel, by decide +kernel⟩, ⟨tbl_i 811 (by decide +kernel), tbl_i 9 (by decide +kernel)⟩, by decide +kernel⟩
theorem ovX8_hole : okV mX8_hole 2 := ⟨⟨tbl_i 809 (by decide +kernel), tbl_i 810 (by decide +kernel)⟩, by decide +kernel⟩
abbrev mX8_rule : MD := (yX8_rule, cX8_rule, 4, (some .int), 1)
theorem okX8_rule : okM mX8_rule := ⟨⟨by decide +kernel, by decide +kernel⟩, ⟨by decide +kernel, by decide +kernel⟩, ⟨tbl_i 822 (by decide +kernel), tbl_i 9 (by decide +kernel)⟩, by decide +kernel⟩
theorem ovX8_rule : okV mX8_rule 3 := ⟨⟨tbl_i 820 (by decide +kernel), tbl_i 821 (by decide +kernel)⟩, by decide +kernel⟩
abbrev mX8_part : MD := (yX8_part, cX8_part, 7, (some .int), 2)
theorem okX8_part : okM mX8_part := ⟨⟨by decide +kernel, by decide +kernel⟩, ⟨by decide +kernel, by decide +kernel⟩, ⟨tbl_i 831 (by decide +kernel), tbl_i 9 (by decide +kernel)⟩, by decide +kernel⟩
theorem ovX8_part : okV mX8_part 4 := ⟨⟨tbl_i 829 (by decide +kernel), tbl_i 830 (by decide +kernel)⟩, by decide +kernel⟩
abbrev mX8_added : MD := (yX8_added, cX8_added, 6, (some .int), 1)
theorem okX8_added : okM mX8_added := ⟨⟨by decide +kernel, by decide +kernel⟩, ⟨by decide +kernel, by decide +kernel⟩, ⟨tbl_i 846 (by decide +kernel), tbl_i 9 (by decide +kernel)⟩, by decide +kernel⟩
theorem ovX8_added : okV mX8_added 4 := ⟨⟨tbl_i 845 (by decide +kernel), prv_i 39 (by decide +kernel)⟩, by decide +kernel⟩
abbrev mX8_literal : MD := (yX8_literal, cX8_literal, 5, (some .int), 2)
theorem okX8_literal : okM mX8_literal := ⟨⟨by decide +kernel, by decide +kernel⟩, ⟨by decide +kernel, by decide +kernel⟩, ⟨tbl_i 850 (by decide +kernel), tbl_i 9 (by decide +kernel)⟩, by decide +kernel⟩
theorem ovX8_literal : okV mX8_literal 4 := ⟨⟨tbl_i 848 (by decide +kernel), tbl_i 849 (by decide +kernel)⟩, by decide +kernel⟩
abbrev mX8_stand : MD := (yX8_stand, cX8_stand, 4, (some .int), 2)
theorem okX8_stand : okM mX8_stand := ⟨⟨by decide +kernel, by decide +kernel⟩, ⟨by decide +kernel, by decide +kernel⟩, ⟨tbl_i 855 (by decide +kernel), tbl_i 9 (by decide +kernel)⟩, by decide +kernel⟩
theorem ovX8_stand : okV mX8_stand 2 := ⟨⟨tbl_i 853 (by decide +kernel), tbl_i 854 (by decide +kernel)⟩, by decide +kernel⟩
abbrev mX8_table : MD := (yX8_table, cX8_table, 5, (some .int), 1)
theorem okX8_table : okM mX8_table := ⟨⟨by decide +kernel, by decide +kernel⟩, ⟨by decide +kernel, by decide +kernel⟩, ⟨tbl_i 859 (by decide +kernel), tbl_i 9 (by decide +kernel)⟩, by decide +kernel⟩
theorem ovX8_table : okV mX8_table 3 := ⟨⟨tbl_i 857 (by decide +kernel), tbl_i 858 (by decide +kernel)⟩, by decide +kernel⟩
abbrev mX8_tear : MD := (yX8_tear, cX8_tear, 3, (some .int), 1)
theorem okX8_tear : okM mX8_tear := ⟨⟨by decide +kernel, by decide +kernel⟩, ⟨by decide +kernel, by decide +kernel⟩, ⟨tbl_i 863 (by decide +kernel), tbl_i 9 (by decide +kernel)⟩, by decide +kernel⟩
theorem ovX8_tear : okV mX8_tear 1 := ⟨⟨tbl_i 861 (by decide +kernel), tbl_i 862 (by decide +kernel)⟩, by decide +kernel⟩
abbrev mX8_cell : MD := (yX8_cell, cX8_cell, 4, (some .int), 1)
theorem okX8_cell : okM mX8_cell := ⟨⟨by decide +kernel, by decide +kernel⟩, ⟨by decide +kernel, by decide +kernel⟩, ⟨tbl_i 867 (by decide +kernel), tbl_i 9 (by decide +kernel)⟩, by decide +kernel⟩
theorem ovX8_cell : okV mX8_cell 3 := ⟨⟨tbl_i 865 (by decide +kernel), tbl_i 866 (by decide +kernel)⟩, by decide +kernel⟩
abbrev mX8_copy : MD := (yX8_copy, cX8_copy, 7, (some .int), 1)
theorem okX8_copy : okM mX8_copy := ⟨⟨by decide +kernel, by decide +kernel⟩, ⟨by decide +kernel, by decide +kernel⟩, ⟨tbl_i 871 (by decide +kernel), tbl_i 9 (by decide +kernel)⟩, by decide +kernel⟩
theorem ovX8_copy : okV mX8_copy 5 := ⟨⟨tbl_i 869 (by decide +kernel), tbl_i 870 (by decide +kernel)⟩, by decide +kernel⟩
abbrev mX8_get : MD := (yX8_get, cX8_get, 3, (some .int), 1)
theorem okX8_get : okM mX8_get := ⟨⟨by decide +kernel, by decide +kernel⟩, ⟨by decide +kernel, by decide +kernel⟩, ⟨tbl_i 875 (by decide +kernel), tbl_i 9 (by decide +kernel)⟩, by decide +kernel⟩
theorem ovX8_get : okV mX8_get 2 := ⟨⟨tbl_i 873 (by decide +kernel), tbl_i 874 (by decide +kernel)⟩, by decide +kernel⟩
abbrev mX8_about : MD := (yX8_about, cX8_about, 4, (some .int), 2)
theorem okX8_about : okM mX8_about := ⟨⟨by decide +kernel, by decide +kernel⟩, ⟨by decide +kernel, by decide +kernel⟩, ⟨tbl_i 879 (by decide +kernel), tbl_i 9 (by decide +kernel)⟩, by decide +kernel⟩
theorem ovX8_about : okV mX8_about 2 := ⟨⟨tbl_i 877 (by decide +kernel), tbl_i 878 (by decide +kernel)⟩, by decide +kernel⟩
abbrev mX8_asideOf : MD := (yX8_asideOf, cX8_asideOf, 3, (some .int), 0)
theorem okX8_asideOf : okM mX8_asideOf := ⟨⟨by decide +kernel, by decide +kernel⟩, ⟨by decide +kernel, by decide +kernel⟩, ⟨tbl_i 907 (by decide +kernel), tbl_i 9 (by decide +kernel)⟩, by decide +kernel⟩
theorem ovX8_asideOf : okV mX8_asideOf 2 := ⟨⟨tbl_i 906 (by decide +kernel), prv_i 45 (by decide +kernel)⟩, by decide +kernel⟩
abbrev mX8_end : MD := (yX8_end, cX8_end, 6, (some .int), 1)
theorem okX8_end : okM mX8_end := ⟨⟨by decide +kernel, by decide +kernel⟩, ⟨by decide +kernel, by decide +kernel⟩, ⟨tbl_i 919 (by decide +kernel), tbl_i 9 (by decide +kernel)⟩, by decide +kernel⟩
theorem ovX8_end : okV mX8_end 3 := ⟨⟨tbl_i 918 (by decide +kernel), prv_i 48 (by decide +kernel)⟩, by decide +kernel⟩
abbrev mX8_goesBySum : MD := (yX8_goesBySum, cX8_goesBySum, 9, (some .boolean), 2)
theorem okX8_goesBySum : okM mX8_goesBySum := ⟨⟨by decide +kernel, by decide +kernel⟩, ⟨by decide +kernel, by decide +kernel⟩, ⟨tbl_i 915 (by decide +kernel), tbl_i 9 (by decide +kernel)⟩, by decide +kernel⟩
theorem ovX8_goesBySum : okV mX8_goesBySum 3 := ⟨⟨tbl_i 914 (by decide +kernel), prv_i 47 (by decide +kernel)⟩, by decide +kernel⟩
abbrev mX8_goesByUnlike : MD := (yX8_goesByUnlike, cX8_goesByUnlike, 7, (some .boolean), 1)
theorem okX8_goesByUnlike : okM mX8_goesByUnlike := ⟨⟨by decide +kernel, by decide +kernel⟩, ⟨by decide +kernel, by decide +kernel⟩, ⟨tbl_i 929 (by decide +kernel), tbl_i 9 (by decide +kernel)⟩, by decide +kernel⟩
theorem ovX8_goesByUnlike : okV mX8_goesByUnlike 3 := ⟨⟨tbl_i 928 (by decide +kernel), prv_i 49 (by decide +kernel)⟩, by decide +kernel⟩
abbrev mX8_goesByTable : MD := (yX8_goesByTable, cX8_goesByTable, 10, (some .boolean), 1)
theorem okX8_goesByTable : okM mX8_goesByTable := ⟨⟨by decide +kernel, by decide +kernel⟩, ⟨by decide +kernel, by decide +kernel⟩, ⟨tbl_i 933 (by decide +kernel), tbl_i 9 (by decide +kernel)⟩, by decide +kernel⟩
theorem ovX8_goesByTable : okV mX8_goesByTable 3 := ⟨⟨tbl_i 932 (by decide +kernel), prv_i 50 (by decide +kernel)⟩, by decide +kernel⟩
abbrev mX8_mustRun : MD := (yX8_mustRun, cX8_mustRun, 5, (some .boolean), 1)
theorem okX8_mustRun : okM mX8_mustRun := ⟨⟨by decide +kernel, by decide +kernel⟩, ⟨by decide +kernel, by decide +kernel⟩, ⟨tbl_i 941 (by decide +kernel), tbl_i 9 (by decide +kernel)⟩, by decide +kernel⟩
theorem ovX8_mustRun : okV mX8_mustRun 3 := ⟨⟨tbl_i 940 (by decide +kernel), prv_i 52 (by decide +kernel)⟩, by decide +kernel⟩
abbrev mX8_goesByLoad : MD := (yX8_goesByLoad, cX8_goesByLoad, 7, (some .boolean), 2)
theorem okX8_goesByLoad : okM mX8_goesByLoad := ⟨⟨by decide +kernel, by decide +kernel⟩, ⟨by decide +kernel, by decide +kernel⟩, ⟨tbl_i 937 (by decide +kernel), tbl_i 9 (by decide +kernel)⟩, by decide +kernel⟩
theorem ovX8_goesByLoad : okV mX8_goesByLoad 3 := ⟨⟨tbl_i 936 (by decide +kernel), prv_i 51 (by decide +kernel)⟩, by decide +kernel⟩
abbrev mX8_goesByRing : MD := (yX8_goesByRing, cX8_goesByRing, 6, (some .boolean), 2)
theorem okX8_goesByRing : okM mX8_goesByRing := ⟨⟨by decide +kernel, by decide +kernel⟩, ⟨by decide +kernel, by decide +kernel⟩, ⟨tbl_i 945 (by decide +kernel), tbl_i 9 (by decide +kernel)⟩, by decide +kernel⟩
theorem ovX8_goesByRing : okV mX8_goesByRing 3 := ⟨⟨tbl_i 944 (by decide +kernel), prv_i 53 (by decide +kernel)⟩, by decide +kernel⟩
abbrev mX8_goesByClause : MD := (yX8_goesByClause, cX8_goesByClause, 6, (some .boolean), 0)
theorem okX8_goesByClause : okM mX8_goesByClause := ⟨⟨by decide +kernel, by decide +kernel⟩, ⟨by decide +kernel, by decide +kernel⟩, ⟨tbl_i 949 (by decide +kernel), tbl_i 9 (by decide +kernel)⟩, by decide +kernel⟩
theorem ovX8_goesByClause : okV mX8_goesByClause 3 := ⟨⟨tbl_i 948 (by decide +kernel), prv_i 54 (by decide +kernel)⟩, by decide +kernel⟩
abbrev mX8_goes : MD := (yX8_goes, cX8_goes, 4, (some .boolean), 3)
theorem okX8_goes : okM mX8_goes := ⟨⟨by decide +kernel, by decide +kernel⟩, ⟨by decide +kernel, by decide +kernel⟩, ⟨tbl_i 911 (by decide +kernel), tbl_i 9 (by decide +kernel)⟩, by decide +kernel⟩
theorem ovX8_goes : okV mX8_goes 3 := ⟨⟨tbl_i 910 (by decide +kernel), prv_i 46 (by decide +kernel)⟩, by decide +kernel⟩
abbrev mX8_left : MD := (yX8_left, cX8_left, 6, (some .int), 4)
theorem okX8_left : okM mX8_left := ⟨⟨by decide +kernel, by decide +kernel⟩, ⟨by decide +kernel, by decide +kernel⟩, ⟨tbl_i 903 (by decide +kernel), tbl_i 9 (by decide +kernel)⟩, by decide +kernel⟩
theorem ovX8_left : okV mX8_left 2 := ⟨⟨tbl_i 902 (by decide +kernel), prv_i 44 (by decide +kernel)⟩, by decide +kernel⟩
abbrev mX8_fitsBare : MD := (yX8_fitsBare, cX8_fitsBare, 2, (some .boolean), 0)
theorem okX8_fitsBare : okM mX8_fitsBare := ⟨⟨by decide +kernel, by decide +kernel⟩, ⟨by decide +kernel, by decide +kernel⟩, ⟨tbl_i 899 (by decide +kernel), tbl_i 9 (by decide +kernel)⟩, by decide +kernel⟩
theorem ovX8_fitsBare : okV mX8_fitsBare 1 := ⟨⟨tbl_i 898 (by decide +kernel), prv_i 43 (by decide +kernel)⟩, by decide +kernel⟩
abbrev mX8_hasNone : MD := (yX8_hasNone, cX8_hasNone, 2, (some .boolean), 0)
theorem okX8_hasNone : okM mX8_hasNone := ⟨⟨by decide +kernel, by decide +kernel⟩, ⟨by decide +kernel, by decide +kernel⟩, ⟨tbl_i 895 (by decide +kernel), tbl_i 9 (by decide +kernel)⟩, by decide +kernel⟩
theorem ovX8_hasNone : okV mX8_hasNone 0 := ⟨⟨tbl_i 894 (by decide +kernel), prv_i 42 (by decide +kernel)⟩, by decide +kernel⟩
abbrev mX8_narrowAside : MD := (yX8_narrowAside, cX8_narrowAside, 6, none, 5)
theorem okX8_narrowAside : okM mX8_narrowAside := ⟨⟨by decide +kernel, by decide +kernel⟩, ⟨by decide +kernel, by decide +kernel⟩, ⟨tbl_i 891 (by decide +kernel), tbl_i 9 (by decide +kernel)⟩, by decide +kernel⟩
theorem ovX8_narrowAside : okV mX8_narrowAside 0 := ⟨⟨tbl_i 890 (by decide +kernel), prv_i 41 (by decide +kernel)⟩, by decide +kernel⟩
abbrev mX8_asideAs : MD := (yX8_asideAs, cX8_asideAs, 3, none, 0)
theorem okX8_asideAs : okM mX8_asideAs := ⟨⟨by decide +kernel, by decide +kernel⟩, ⟨by decide +kernel, by decide +kernel⟩, ⟨tbl_i 887 (by decide +kernel), tbl_i 9 (by decide +kernel)⟩, by decide +kernel⟩
theorem ovX8_asideAs : okV mX8_asideAs 1 := ⟨⟨tbl_i 886 (by decide +kernel), prv_i 40 (by decide +kernel)⟩, by decide +kernel⟩
abbrev mX8_narrow : MD := (yX8_narrow, cX8_narrow, 3, (some .int), 6)
theorem okX8_narrow : okM mX8_narrow := ⟨⟨by decide +kernel, by decide +kernel⟩, ⟨by decide +kernel, by decide +kernel⟩, ⟨tbl_i 883 (by decide +kernel), tbl_i 9 (by decide +kernel)⟩, by decide +kernel⟩
theorem ovX8_narrow : okV mX8_narrow 0 := ⟨⟨tbl_i 881 (by decide +kernel), tbl_i 882 (by decide +kernel)⟩, by decide +kernel⟩
abbrev mX8_takes : MD := (yX8_takes, cX8_takes, 6, (some .int), 5)
theorem okX8_takes : okM mX8_takes := ⟨⟨by decide +kernel, by decide +kernel⟩, ⟨by decide +kernel, by decide +kernel⟩, ⟨tbl_i 953 (by decide +kernel), tbl_i 9 (by decide +kernel)⟩, by decide +kernel⟩
theorem ovX8_takes : okV mX8_takes 1 := ⟨⟨tbl_i 951 (by decide +kernel), tbl_i 952 (by decide +kernel)⟩, by decide +kernel⟩
abbrev mX8_step : MD := (yX8_step, cX8_step, 6, (some .int), 2)
theorem okX8_step : okM mX8_step := ⟨⟨by decide +kernel, by decide +kernel⟩, ⟨by decide +kernel, by decide +kernel⟩, ⟨tbl_i 957 (by decide +kernel), tbl_i 9 (by decide +kernel)⟩, by decide +kernel⟩
theorem ovX8_step : okV mX8_step 3 := ⟨⟨tbl_i 955 (by decide +kernel), tbl_i 956 (by decide +kernel)⟩, by decide +kernel⟩
abbrev mX8_undo : MD := (yX8_undo, cX8_undo, 4, (some .int), 1)
theorem okX8_undo : okM mX8_undo := ⟨⟨by decide +kernel, by decide +kernel⟩, ⟨by decide +kernel, by decide +kernel⟩, ⟨tbl_i 961 (by decide +kernel), tbl_i 9 (by decide +kernel)⟩, by decide +kernel⟩
theorem ovX8_undo : okV mX8_undo 1 := ⟨⟨tbl_i 959 (by decide +kernel), tbl_i 960 (by decide +kernel)⟩, by decide +kernel⟩
abbrev mX8_range : MD := (yX8_range, cX8_range, 3, (some .int), 2)
theorem okX8_range : okM mX8_range := ⟨⟨by decide +kernel, by decide +kernel⟩, ⟨by decide +kernel, by decide +kernel⟩, ⟨tbl_i 965 (by decide +kernel), tbl_i 9 (by decide +kernel)⟩, by decide +kernel⟩
theorem ovX8_range : okV mX8_range 2 := ⟨⟨tbl_i 963 (by decide +kernel), tbl_i 964 (by decide +kernel)⟩, by decide +kernel⟩
abbrev mX8_asideCut : MD := (yX8_asideCut, cX8_asideCut, 3, none, 1)
theorem okX8_asideCut : okM mX8_asideCut := ⟨⟨by decide +kernel, by decide +kernel⟩, ⟨by decide +kernel, by decide +kernel⟩, ⟨tbl_i 977 (by decide +kernel), tbl_i 9 (by decide +kernel)⟩, by decide +kernel⟩
theorem ovX8_asideCut : okV mX8_asideCut 1 := ⟨⟨tbl_i 976 (by decide +kernel), prv_i 56 (by decide +kernel)⟩, by decide +kernel⟩
abbrev mX8_isLacked : MD := (yX8_isLacked, cX8_isLacked, 4, (some .boolean), 6)
theorem okX8_isLacked : okM mX8_isLacked := ⟨⟨by decide +kernel, by decide +kernel⟩, ⟨by decide +kernel, by decide +kernel⟩, ⟨tbl_i 973 (by decide +kernel), tbl_i 9 (by decide +kernel)⟩, by decide +kernel⟩
theorem ovX8_isLacked : okV mX8_isLacked 3 := ⟨⟨tbl_i 972 (by decide +kernel), prv_i 55 (by decide +kernel)⟩, by decide +kernel⟩
abbrev mX8_reasoned : MD := (yX8_reasoned, cX8_reasoned, 3, (some .int), 0)
theorem okX8_reasoned : okM mX8_reasoned := ⟨⟨by decide +kernel, by decide +kernel⟩, ⟨by decide +kernel, by decide +kernel⟩, ⟨tbl_i 981 (by decide +kernel), tbl_i 9 (by decide +kernel)⟩, by decide +kernel⟩
theorem ovX8_reasoned : okV mX8_reasoned 1 := ⟨⟨tbl_i 980 (by decide +kernel), prv_i 57 (by decide +kernel)⟩, by decide +kernel⟩
abbrev mX8_why : MD := (yX8_why, cX8_why, 5, (some .int), 7)
theorem okX8_why : okM mX8_why := ⟨⟨by decide +kernel, by decide +kernel⟩, ⟨by decide +kernel, by decide +kernel⟩, ⟨tbl_i 969 (by decide +kernel), tbl_i 9 (by decide +kernel)⟩, by decide +kernel⟩
theorem ovX8_why : okV mX8_why 2 := ⟨⟨tbl_i 967 (by decide +kernel), tbl_i 968 (by decide +kernel)⟩, by decide +kernel⟩
abbrev mX8_reason : MD := (yX8_reason, cX8_reason, 2, (some .int), 1)
theorem okX8_reason : okM mX8_reason := ⟨⟨by decide +kernel, by decide +kernel⟩, ⟨by decide +kernel, by decide +kernel⟩, ⟨tbl_i 985 (by decide +kernel), tbl_i 9 (by decide +kernel)⟩, by decide +kernel⟩
theorem ovX8_reason : okV mX8_reason 1 := ⟨⟨tbl_i 983 (by decide +kernel), tbl_i 984 (by decide +kernel)⟩, by decide +kernel⟩
abbrev mX8_fitsLoad : MD := (yX8_fitsLoad, cX8_fitsLoad, 6, (some .boolean), 0)
theorem okX8_fitsLoad : okM mX8_fitsLoad := ⟨⟨by decide +kernel, by decide +kernel⟩, ⟨by decide +kernel, by decide +kernel⟩, ⟨tbl_i 1026 (by decide +kernel), tbl_i 9 (by decide +kernel)⟩, by decide +kernel⟩
theorem ovX8_fitsLoad : okV mX8_fitsLoad 1 := ⟨⟨tbl_i 1025 (by decide +kernel), prv_i 66 (by decide +kernel)⟩, by decide +kernel⟩
abbrev mX8_fitsTable : MD := (yX8_fitsTable, cX8_fitsTable, 7, (some .boolean), 0)
theorem okX8_fitsTable : okM mX8_fitsTable := ⟨⟨by decide +kernel, by decide +kernel⟩, ⟨by decide +kernel, by decide +kernel⟩, ⟨tbl_i 1022 (by decide +kernel), tbl_i 9 (by decide +kernel)⟩, by decide +kernel⟩
theorem ovX8_fitsTable : okV mX8_fitsTable 1 := ⟨⟨tbl_i 1021 (by decide +kernel), prv_i 65 (by decide +kernel)⟩, by decide +kernel⟩
abbrev mX8_fitsRing : MD := (yX8_fitsRing, cX8_fitsRing, 5, (some .boolean), 1)
theorem okX8_fitsRing : okM mX8_fitsRing := ⟨⟨by decide +kernel, by decide +kernel⟩, ⟨by decide +kernel, by decide +kernel⟩, ⟨tbl_i 1030 (by decide +kernel), tbl_i 9 (by decide +kernel)⟩, by decide +kernel⟩
theorem ovX8_fitsRing : okV mX8_fitsRing 1 := ⟨⟨tbl_i 1029 (by decide +kernel), prv_i 67 (by decide +kernel)⟩, by decide +kernel⟩
abbrev mX8_fitsSum : MD := (yX8_fitsSum, cX8_fitsSum, 4, (some .boolean), 0)
theorem okX8_fitsSum : okM mX8_fitsSum := ⟨⟨by decide +kernel, by decide +kernel⟩, ⟨by decide +kernel, by decide +kernel⟩, ⟨tbl_i 1014 (by decide +kernel), tbl_i 9 (by decide +kernel)⟩, by decide +kernel⟩
theorem ovX8_fitsSum : okV mX8_fitsSum 1 := ⟨⟨tbl_i 1013 (by decide +kernel), prv_i 63 (by decide +kernel)⟩, by decide +kernel⟩
abbrev mX8_fitsUnlike : MD := (yX8_fitsUnlike, cX8_fitsUnlike, 4, (some .boolean), 0)
theorem okX8_fitsUnlike : okM mX8_fitsUnlike := ⟨⟨by decide +kernel, by decide +kernel⟩, ⟨by decide +kernel, by decide +kernel⟩, ⟨tbl_i 1018 (by decide +kernel), tbl_i 9 (by decide +kernel)⟩, by decide +kernel⟩
theorem ovX8_fitsUnlike : okV mX8_fitsUnlike 1 := ⟨⟨tbl_i 1017 (by decide +kernel), prv_i 64 (by decide +kernel)⟩, by decide +kernel⟩
abbrev mX8_fitsClause : MD := (yX8_fitsClause, cX8_fitsClause, 3, (some .boolean), 0)
theorem okX8_fitsClause : okM mX8_fitsClause := ⟨⟨by decide +kernel, by decide +kernel⟩, ⟨by decide +kernel, by decide +kernel⟩, ⟨tbl_i 1034 (by decide +kernel), tbl_i 9 (by decide +kernel)⟩, by decide +kernel⟩
theorem ovX8_fitsClause : okV mX8_fitsClause 1 := ⟨⟨tbl_i 1033 (by decide +kernel), prv_i 68 (by decide +kernel)⟩, by decide +kernel⟩
abbrev mX8_fits : MD := (yX8_fits, cX8_fits, 2, (some .boolean), 2)
theorem okX8_fits : okM mX8_fits := ⟨⟨by decide +kernel, by decide +kernel⟩, ⟨by decide +kernel, by decide +kernel⟩, ⟨tbl_i 1010 (by decide +kernel), tbl_i 9 (by decide +kernel)⟩, by decide +kernel⟩
theorem ovX8_fits : okV mX8_fits 1 := ⟨⟨tbl_i 1009 (by decide +kernel), prv_i 62 (by decide +kernel)⟩, by decide +kernel⟩
abbrev mX8_fitsAll : MD := (yX8_fitsAll, cX8_fitsAll, 2, (some .boolean), 3)
theorem okX8_fitsAll : okM mX8_fitsAll := ⟨⟨by decide +kernel, by decide +kernel⟩, ⟨by decide +kernel, by decide +kernel⟩, ⟨tbl_i 1006 (by decide +kernel), tbl_i 9 (by decide +kernel)⟩, by decide +kernel⟩
theorem ovX8_fitsAll : okV mX8_fitsAll 0 := ⟨⟨tbl_i 1005 (by decide +kernel), prv_i 61 (by decide +kernel)⟩, by decide +kernel⟩
abbrev mX8_isFar : MD := (yX8_isFar, cX8_isFar, 4, (some .boolean), 1)
theorem okX8_isFar : okM mX8_isFar := ⟨⟨by decide +kernel, by decide +kernel⟩, ⟨by decide +kernel, by decide +kernel⟩, ⟨tbl_i 997 (by decide +kernel), tbl_i 9 (by decide +kernel)⟩, by decide +kernel⟩
theorem ovX8_isFar : okV mX8_isFar 0 := ⟨⟨tbl_i 996 (by decide +kernel), prv_i 59 (by decide +kernel)⟩, by decide +kernel⟩
abbrev mX8_first : MD := (yX8_first, cX8_first, 2, none, 1)
theorem okX8_first : okM mX8_first := ⟨⟨by decide +kernel, by decide +kernel⟩, ⟨by decide +kernel, by decide +kernel⟩, ⟨tbl_i 1002 (by decide +kernel), tbl_i 9 (by decide +kernel)⟩, by decide +kernel⟩
theorem ovX8_first : okV mX8_first 0 := ⟨⟨tbl_i 1001 (by decide +kernel), prv_i 60 (by decide +kernel)⟩, by decide +kernel⟩
abbrev mX8_goesOn : MD := (yX8_goesOn, cX8_goesOn, 3, (some .boolean), 1)
theorem okX8_goesOn : okM mX8_goesOn := ⟨⟨by decide +kernel, by decide +kernel⟩, ⟨by decide +kernel, by decide +kernel⟩, ⟨tbl_i 1042 (by decide +kernel), tbl_i 9 (by decide +kernel)⟩, by decide +kernel⟩
theorem ovX8_goesOn : okV mX8_goesOn 0 := ⟨⟨tbl_i 1041 (by decide +kernel), prv_i 70 (by decide +kernel)⟩, by decide +kernel⟩
abbrev mX8_begun : MD := (yX8_begun, cX8_begun, 1, (some .int), 6)
theorem okX8_begun : okM mX8_begun := ⟨⟨by decide +kernel, by decide +kernel⟩, ⟨by decide +kernel, by decide +kernel⟩, ⟨tbl_i 993 (by decide +kernel), tbl_i 9 (by decide +kernel)⟩, by decide +kernel⟩
theorem ovX8_begun : okV mX8_begun 0 := ⟨⟨tbl_i 992 (by decide +kernel), prv_i 58 (by decide +kernel)⟩, by decide +kernel⟩
abbrev mX8_keep : MD := (yX8_keep, cX8_keep, 2, none, 0)
theorem okX8_keep : okM mX8_keep := ⟨⟨by decide +kernel, by decide +kernel⟩, ⟨by decide +kernel, by decide +kernel⟩, ⟨tbl_i 1038 (by decide +kernel), tbl_i 9 (by decide +kernel)⟩, by decide +kernel⟩
theorem ovX8_keep : okV mX8_keep 0 := ⟨⟨tbl_i 1037 (by decide +kernel), prv_i 69 (by decide +kernel)⟩, by decide +kernel⟩
abbrev mX8_solve : MD := (yX8_solve, cX8_solve, 2, (some .int), 7)
theorem okX8_solve : okM mX8_solve := ⟨⟨by decide +kernel, by decide +kernel⟩, ⟨by decide +kernel, by decide +kernel⟩, ⟨tbl_i 989 (by decide +kernel), tbl_i 9 (by decide +kernel)⟩, by decide +kernel⟩
theorem ovX8_solve : okV mX8_solve 0 := ⟨⟨tbl_i 987 (by decide +kernel), tbl_i 988 (by decide +kernel)⟩, by decide +kernel⟩
abbrev mX8_isAbove : MD := (yX8_isAbove, cX8_isAbove, 2, (some .boolean), 0)
theorem okX8_isAbove : okM mX8_isAbove := ⟨⟨by decide +kernel, by decide +kernel⟩, ⟨by decide +kernel, by decide +kernel⟩, ⟨tbl_i 1050 (by decide +kernel), tbl_i 9 (by decide +kernel)⟩, by decide +kernel⟩
theorem ovX8_isAbove : okV mX8_isAbove 0 := ⟨⟨tbl_i 1049 (by decide +kernel), prv_i 71 (by decide +kernel)⟩, by decide +kernel⟩
abbrev mX8_next : MD := (yX8_next, cX8_next, 2, (some .int), 7)
theorem okX8_next : okM mX8_next := ⟨⟨by decide +kernel, by decide +kernel⟩, ⟨by decide +kernel, by decide +kernel⟩, ⟨tbl_i 1046 (by decide +kernel), tbl_i 9 (by decide +kernel)⟩, by decide +kernel⟩
theorem ovX8_next : okV mX8_next 0 := ⟨⟨tbl_i 1044 (by decide +kernel), tbl_i 1045 (by decide +kernel)⟩, by decide +kernel⟩
abbrev mX8_answer : MD := (yX8_answer, cX8_answer, 2, (some .int), 2)
theorem okX8_answer : okM mX8_answer := ⟨⟨by decide +kernel, by decide +kernel⟩, ⟨by decide +kernel, by decide +kernel⟩, ⟨tbl_i 1054 (by decide +kernel), tbl_i 9 (by decide +kernel)⟩, by decide +kernel⟩
theorem ovX8_answer : okV mX8_answer 1 := ⟨⟨tbl_i 1052 (by decide +kernel), tbl_i 1053 (by decide +kernel)⟩, by decide +kernel⟩
abbrev mX8_count : MD := (yX8_count, cX8_count, 4, (some .int), 7)
theorem okX8_count : okM mX8_count := ⟨⟨by decide +kernel, by decide +kernel⟩, ⟨by decide +kernel, by decide +kernel⟩, ⟨tbl_i 1058 (by decide +kernel), tbl_i 9 (by decide +kernel)⟩, by decide +kernel⟩
theorem ovX8_count : okV mX8_count 1 := ⟨⟨tbl_i 1056 (by decide +kernel), tbl_i 1057 (by decide +kernel)⟩, by decide +kernel⟩
abbrev mX8_best : MD := (yX8_best, cX8_best, 5, (some .int), 7)
theorem okX8_best : okM mX8_best := ⟨⟨by decide +kernel, by decide +kernel⟩, ⟨by decide +kernel, by decide +kernel⟩, ⟨tbl_i 1062 (by decide +kernel), tbl_i 9 (by decide +kernel)⟩, by decide +kernel⟩
theorem ovX8_best : okV mX8_best 2 := ⟨⟨tbl_i 1060 (by decide +kernel), tbl_i 1061 (by decide +kernel)⟩, by decide +kernel⟩
abbrev mX8_has : MD := (yX8_has, cX8_has, 9, (some .int), 7)
theorem okX8_has : okM mX8_has := ⟨⟨by decide +kernel, by decide +kernel⟩, ⟨by decide +kernel, by decide +kernel⟩, ⟨tbl_i 1066 (by decide +kernel), tbl_i 9 (by decide +kernel)⟩, by decide +kernel⟩
theorem ovX8_has : okV mX8_has 3 := ⟨⟨tbl_i 1064 (by decide +kernel), tbl_i 1065 (by decide +kernel)⟩, by decide +kernel⟩
abbrev mX8_hasAnswer : MD := (yX8_hasAnswer, cX8_hasAnswer, 3, (some .boolean), 6)
theorem okX8_hasAnswer : okM mX8_hasAnswer := ⟨⟨by decide +kernel, by decide +kernel⟩, ⟨by decide +kernel, by decide +kernel⟩, ⟨tbl_i 1074 (by decide +kernel), tbl_i 9 (by decide +kernel)⟩, by decide +kernel⟩
theorem ovX8_hasAnswer : okV mX8_hasAnswer 1 := ⟨⟨tbl_i 1073 (by decide +kernel), prv_i 72 (by decide +kernel)⟩, by decide +kernel⟩
abbrev mX8_core : MD := (yX8_core, cX8_core, 3, (some .int), 7)
theorem okX8_core : okM mX8_core := ⟨⟨by decide +kernel, by decide +kernel⟩, ⟨by decide +kernel, by decide +kernel⟩, ⟨tbl_i 1070 (by decide +kernel), tbl_i 9 (by decide +kernel)⟩, by decide +kernel⟩
theorem ovX8_core : okV mX8_core 0 := ⟨⟨tbl_i 1068 (by decide +kernel), tbl_i 1069 (by decide +kernel)⟩, by decide +kernel⟩
abbrev mX8_noLine : MD := (yX8_noLine, cX8_noLine, 2, (some .boolean), 1)
theorem okX8_noLine : okM mX8_noLine := ⟨⟨by decide +kernel, by decide +kernel⟩, ⟨by decide +kernel, by decide +kernel⟩, ⟨tbl_i 1086 (by decide +kernel), tbl_i 9 (by decide +kernel)⟩, by decide +kernel⟩
theorem ovX8_noLine : okV mX8_noLine 1 := ⟨⟨tbl_i 1085 (by decide +kernel), prv_i 73 (by decide +kernel)⟩, by decide +kernel⟩
abbrev mX8_line : MD := (yX8_line, cX8_line, 2, (some .int), 2)
theorem okX8_line : okM mX8_line := ⟨⟨by decide +kernel, by decide +kernel⟩, ⟨by decide +kernel, by decide +kernel⟩, ⟨tbl_i 1078 (by decide +kernel), tbl_i 9 (by decide +kernel)⟩, by decide +kernel⟩
theorem ovX8_line : okV mX8_line 1 := ⟨⟨tbl_i 1076 (by decide +kernel), tbl_i 1077 (by decide +kernel)⟩, by decide +kernel⟩
abbrev mX8_says : MD := (yX8_says, cX8_says, 5, (some .int), 2)
theorem okX8_says : okM mX8_says := ⟨⟨by decide +kernel, by decide +kernel⟩, ⟨by decide +kernel, by decide +kernel⟩, ⟨tbl_i 1082 (by decide +kernel), tbl_i 9 (by decide +kernel)⟩, by decide +kernel⟩
theorem ovX8_says : okV mX8_says 4 := ⟨⟨tbl_i 1080 (by decide +kernel), tbl_i 1081 (by decide +kernel)⟩, by decide +kernel⟩
abbrev mX8_forge : MD := (yX8_forge, cX8_forge, 5, (some .int), 2)
theorem okX8_forge : okM mX8_forge := ⟨⟨by decide +kernel, by decide +kernel⟩, ⟨by decide +kernel, by decide +kernel⟩, ⟨tbl_i 1090 (by decide +kernel), tbl_i 9 (by decide +kernel)⟩, by decide +kernel⟩
theorem ovX8_forge : okV mX8_forge 4 := ⟨⟨tbl_i 1088 (by decide +kernel), tbl_i 1089 (by decide +kernel)⟩, by decide +kernel⟩
abbrev mX8_byRule : MD := (yX8_byRule, cX8_byRule, 6, (some .int), 3)
theorem okX8_byRule : okM mX8_byRule := ⟨⟨by decide +kernel, by decide +kernel⟩, ⟨by decide +kernel, by decide +kernel⟩, ⟨tbl_i 1110 (by decide +kernel), tbl_i 9 (by decide +kernel)⟩, by decide +kernel⟩
theorem ovX8_byRule : okV mX8_byRule 1 := ⟨⟨tbl_i 1109 (by decide +kernel), prv_i 77 (by decide +kernel)⟩, by decide +kernel⟩
abbrev mX8_takesByLine : MD := (yX8_takesByLine, cX8_takesByLine, 9, (some .boolean), 0)
theorem okX8_takesByLine : okM mX8_takesByLine := ⟨⟨by decide +kernel, by decide +kernel⟩, ⟨by decide +kernel, by decide +kernel⟩, ⟨tbl_i 1106 (by decide +kernel), tbl_i 9 (by decide +kernel)⟩, by decide +kernel⟩
theorem ovX8_takesByLine : okV mX8_takesByLine 1 := ⟨⟨tbl_i 1105 (by decide +kernel), prv_i 76 (by decide +kernel)⟩, by decide +kernel⟩
abbrev mX8_byLines : MD := (yX8_byLines, cX8_byLines, 5, (some .int), 1)
theorem okX8_byLines : okM mX8_byLines := ⟨⟨by decide +kernel, by decide +kernel⟩, ⟨by decide +kernel, by decide +kernel⟩, ⟨tbl_i 1102 (by decide +kernel), tbl_i 9 (by decide +kernel)⟩, by decide +kernel⟩
theorem ovX8_byLines : okV mX8_byLines 1 := ⟨⟨tbl_i 1101 (by decide +kernel), prv_i 75 (by decide +kernel)⟩, by decide +kernel⟩
abbrev mX8_firstWrong : MD := (yX8_firstWrong, cX8_firstWrong, 3, (some .int), 4)
theorem okX8_firstWrong : okM mX8_firstWrong := ⟨⟨by decide +kernel, by decide +kernel⟩, ⟨by decide +kernel, by decide +kernel⟩, ⟨tbl_i 1098 (by decide +kernel), tbl_i 9 (by decide +kernel)⟩, by decide +kernel⟩
theorem ovX8_firstWrong : okV mX8_firstWrong 0 := ⟨⟨tbl_i 1097 (by decide +kernel), prv_i 74 (by decide +kernel)⟩, by decide +kernel⟩
abbrev mX8_check : MD := (yX8_check, cX8_check, 1, (some .int), 5)
theorem okX8_check : okM mX8_check := ⟨⟨by decide +kernel, by decide +kernel⟩, ⟨by decide +kernel, by decide +kernel⟩, ⟨tbl_i 1094 (by decide +kernel), tbl_i 9 (by decide +kernel)⟩, by decide +kernel⟩
theorem ovX8_check : okV mX8_check 0 := ⟨⟨tbl_i 1092 (by decide +kernel), tbl_i 1093 (by decide +kernel)⟩, by decide +kernel⟩
abbrev mX8_refutes : MD := (yX8_refutes, cX8_refutes, 4, (some .int), 5)
theorem okX8_refutes : okM mX8_refutes := ⟨⟨by decide +kernel, by decide +kernel⟩, ⟨by decide +kernel, by decide +kernel⟩, ⟨tbl_i 1114 (by decide +kernel), tbl_i 9 (by decide +kernel)⟩, by decide +kernel⟩
theorem ovX8_refutes : okV mX8_refutes 0 := ⟨⟨tbl_i 1112 (by decide +kernel), tbl_i 1113 (by decide +kernel)⟩, by decide +kernel⟩
abbrev mX8_total : MD := (yX8_total, cX8_total, 4, (some .int), 0)
theorem okX8_total : okM mX8_total := ⟨⟨by decide +kernel, by decide +kernel⟩, ⟨by decide +kernel, by decide +kernel⟩, ⟨tbl_i 1118 (by decide +kernel), tbl_i 9 (by decide +kernel)⟩, by decide +kernel⟩
theorem ovX8_total : okV mX8_total 1 := ⟨⟨tbl_i 1116 (by decide +kernel), tbl_i 1117 (by decide +kernel)⟩, by decide +kernel⟩
abbrev mX0_init : MD := (yX0_init, cX0_init, 2, none, 1)
theorem okX0_init : okM mX0_init := ⟨⟨by decide +kernel, by decide +kernel⟩, ⟨by decide +kernel, by decide +kernel⟩, ⟨tbl_i 128 (by decide +kernel), tbl_i 5 (by decide +kernel)⟩, by decide +kernel⟩
theorem oiX0_init : okI mX0_init 1 := ⟨⟨tbl_i 127 (by decide +kernel), by decide +kernel, rfl⟩, by decide +kernel⟩
abbrev mX0_fits : MD := (yX0_fits, cX0_fits, 3, (some .boolean), 2)
theorem okX0_fits : okM mX0_fits := ⟨⟨by decide +kernel, by decide +kernel⟩, ⟨by decide +kernel, by decide +kernel⟩, ⟨tbl_i 397 (by decide +kernel), tbl_i 5 (by decide +kernel)⟩, by decide +kernel⟩
theorem ovX0_fits : okV mX0_fits 2 := ⟨⟨tbl_i 395 (by decide +kernel), tbl_i 396 (by decide +kernel)⟩, by decide +kernel⟩
abbrev mX0_fitsSum : MD := (yX0_fitsSum, cX0_fitsSum, 4, (some .boolean), 0)
theorem okX0_fitsSum : okM mX0_fitsSum := ⟨⟨by decide +kernel, by decide +kernel⟩, ⟨by decide +kernel, by decide +kernel⟩, ⟨tbl_i 400 (by decide +kernel), tbl_i 5 (by decide +kernel)⟩, by decide +kernel⟩
theorem osX0_fitsSum : okS mX0_fitsSum 2 := ⟨tbl_i 399 (by decide +kernel), by decide +kernel⟩
abbrev mX0_fitsUnlike : MD := (yX0_fitsUnlike, cX0_fitsUnlike, 5, (some .boolean), 0)
theorem okX0_fitsUnlike : okM mX0_fitsUnlike := ⟨⟨by decide +kernel, by decide +kernel⟩, ⟨by decide +kernel, by decide +kernel⟩, ⟨tbl_i 403 (by decide +kernel), tbl_i 5 (by decide +kernel)⟩, by decide +kernel⟩
theorem osX0_fitsUnlike : okS mX0_fitsUnlike 2 := ⟨tbl_i 402 (by decide +kernel), by decide +kernel⟩
abbrev mX0_fitsTable : MD := (yX0_fitsTable, cX0_fitsTable, 7, (some .boolean), 1)
theorem okX0_fitsTable : okM mX0_fitsTable := ⟨⟨by decide +kernel, by decide +kernel⟩, ⟨by decide +kernel, by decide +kernel⟩, ⟨tbl_i 407 (by decide +kernel), tbl_i 5 (by decide +kernel)⟩, by decide +kernel⟩
theorem ovX0_fitsTable : okV mX0_fitsTable 2 := ⟨⟨tbl_i 406 (by decide +kernel), prv_i 6 (by decide +kernel)⟩, by decide +kernel⟩
abbrev mX0_fitsLoad : MD := (yX0_fitsLoad, cX0_fitsLoad, 7, (some .boolean), 0)
theorem okX0_fitsLoad : okM mX0_fitsLoad := ⟨⟨by decide +kernel, by decide +kernel⟩, ⟨by decide +kernel, by decide +kernel⟩, ⟨tbl_i 414 (by decide +kernel), tbl_i 5 (by decide +kernel)⟩, by decide +kernel⟩
theorem osX0_fitsLoad : okS mX0_fitsLoad 2 := ⟨tbl_i 413 (by decide +kernel), by decide +kernel⟩
abbrev mX0_fitsRing : MD := (yX0_fitsRing, cX0_fitsRing, 4, (some .boolean), 0)
theorem okX0_fitsRing : okM mX0_fitsRing := ⟨⟨by decide +kernel, by decide +kernel⟩, ⟨by decide +kernel, by decide +kernel⟩, ⟨tbl_i 417 (by decide +kernel), tbl_i 5 (by decide +kernel)⟩, by decide +kernel⟩
theorem osX0_fitsRing : okS mX0_fitsRing 2 := ⟨tbl_i 416 (by decide +kernel), by decide +kernel⟩
abbrev mX0_fitsClause : MD := (yX0_fitsClause, cX0_fitsClause, 3, (some .boolean), 0)
theorem okX0_fitsClause : okM mX0_fitsClause := ⟨⟨by decide +kernel, by decide +kernel⟩, ⟨by decide +kernel, by decide +kernel⟩, ⟨tbl_i 420 (by decide +kernel), tbl_i 5 (by decide +kernel)⟩, by decide +kernel⟩
theorem osX0_fitsClause : okS mX0_fitsClause 2 := ⟨tbl_i 419 (by decide +kernel), by decide +kernel⟩
abbrev mX1_init : MD := (yX1_init, cX1_init, 2, none, 1)
theorem okX1_init : okM mX1_init := ⟨⟨by decide +kernel, by decide +kernel⟩, ⟨by decide +kernel, by decide +kernel⟩, ⟨tbl_i 140 (by decide +kernel), tbl_i 7 (by decide +kernel)⟩, by decide +kernel⟩
theorem oiX1_init : okI mX1_init 1 := ⟨⟨tbl_i 139 (by decide +kernel), by decide +kernel, rfl⟩, by decide +kernel⟩
abbrev mX1_look : MD := (yX1_look, cX1_look, 3, none, 3)
theorem okX1_look : okM mX1_look := ⟨⟨by decide +kernel, by decide +kernel⟩, ⟨by decide +kernel, by decide +kernel⟩, ⟨tbl_i 424 (by decide +kernel), tbl_i 7 (by decide +kernel)⟩, by decide +kernel⟩
theorem ovX1_look : okV mX1_look 2 := ⟨⟨tbl_i 422 (by decide +kernel), tbl_i 423 (by decide +kernel)⟩, by decide +kernel⟩
abbrev mX1_lookAtSum : MD := (yX1_lookAtSum, cX1_lookAtSum, 14, none, 2)
theorem okX1_lookAtSum : okM mX1_lookAtSum := ⟨⟨by decide +kernel, by decide +kernel⟩, ⟨by decide +kernel, by decide +kernel⟩, ⟨tbl_i 428 (by decide +kernel), tbl_i 7 (by decide +kernel)⟩, by decide +kernel⟩
theorem ovX1_lookAtSum : okV mX1_lookAtSum 2 := ⟨⟨tbl_i 427 (by decide +kernel), prv_i 7 (by decide +kernel)⟩, by decide +kernel⟩
abbrev mX1_lowest : MD := (yX1_lowest, cX1_lowest, 2, (some .int), 1)
theorem okX1_lowest : okM mX1_lowest := ⟨⟨by decide +kernel, by decide +kernel⟩, ⟨by decide +kernel, by decide +kernel⟩, ⟨tbl_i 431 (by decide +kernel), tbl_i 7 (by decide +kernel)⟩, by decide +kernel⟩
theorem osX1_lowest : okS mX1_lowest 2 := ⟨tbl_i 430 (by decide +kernel), by decide +kernel⟩
abbrev mX1_highest : MD := (yX1_highest, cX1_highest, 2, (some .int), 1)
theorem okX1_highest : okM mX1_highest := ⟨⟨by decide +kernel, by decide +kernel⟩, ⟨by decide +kernel, by decide +kernel⟩, ⟨tbl_i 441 (by decide +kernel), tbl_i 7 (by decide +kernel)⟩, by decide +kernel⟩
theorem osX1_highest : okS mX1_highest 2 := ⟨tbl_i 440 (by decide +kernel), by decide +kernel⟩
abbrev mX1_sumTakes : MD := (yX1_sumTakes, cX1_sumTakes, 4, (some .boolean), 0)
theorem okX1_sumTakes : okM mX1_sumTakes := ⟨⟨by decide +kernel, by decide +kernel⟩, ⟨by decide +kernel, by decide +kernel⟩, ⟨tbl_i 447 (by decide +kernel), tbl_i 7 (by decide +kernel)⟩, by decide +kernel⟩
theorem osX1_sumTakes : okS mX1_sumTakes 4 := ⟨tbl_i 446 (by decide +kernel), by decide +kernel⟩
abbrev mX1_lookAtUnlike : MD := (yX1_lookAtUnlike, cX1_lookAtUnlike, 6, none, 1)
theorem okX1_lookAtUnlike : okM mX1_lookAtUnlike := ⟨⟨by decide +kernel, by decide +kernel⟩, ⟨by decide +kernel, by decide +kernel⟩, ⟨tbl_i 451 (by decide +kernel), tbl_i 7 (by decide +kernel)⟩, by decide +kernel⟩
theorem ovX1_lookAtUnlike : okV mX1_lookAtUnlike 2 := ⟨⟨tbl_i 450 (by decide +kernel), prv_i 8 (by decide +kernel)⟩, by decide +kernel⟩
abbrev mX1_takeAll : MD := (yX1_takeAll, cX1_takeAll, 4, none, 0)
theorem okX1_takeAll : okM mX1_takeAll := ⟨⟨by decide +kernel, by decide +kernel⟩, ⟨by decide +kernel, by decide +kernel⟩, ⟨tbl_i 456 (by decide +kernel), tbl_i 7 (by decide +kernel)⟩, by decide +kernel⟩
theorem ovX1_takeAll : okV mX1_takeAll 2 := ⟨⟨tbl_i 455 (by decide +kernel), prv_i 9 (by decide +kernel)⟩, by decide +kernel⟩
abbrev mX1_takeFromOthers : MD := (yX1_takeFromOthers, cX1_takeFromOthers, 5, none, 0)
theorem okX1_takeFromOthers : okM mX1_takeFromOthers := ⟨⟨by decide +kernel, by decide +kernel⟩, ⟨by decide +kernel, by decide +kernel⟩, ⟨tbl_i 460 (by decide +kernel), tbl_i 7 (by decide +kernel)⟩, by decide +kernel⟩
theorem ovX1_takeFromOthers : okV mX1_takeFromOthers 3 := ⟨⟨tbl_i 459 (by decide +kernel), prv_i 10 (by decide +kernel)⟩, by decide +kernel⟩
abbrev mX1_lookAtTable : MD := (yX1_lookAtTable, cX1_lookAtTable, 8, none, 1)
theorem okX1_lookAtTable : okM mX1_lookAtTable := ⟨⟨by decide +kernel, by decide +kernel⟩, ⟨by decide +kernel, by decide +kernel⟩, ⟨tbl_i 464 (by decide +kernel), tbl_i 7 (by decide +kernel)⟩, by decide +kernel⟩
theorem ovX1_lookAtTable : okV mX1_lookAtTable 2 := ⟨⟨tbl_i 463 (by decide +kernel), prv_i 11 (by decide +kernel)⟩, by decide +kernel⟩
abbrev mX1_giveBack : MD := (yX1_giveBack, cX1_giveBack, 5, none, 0)
theorem okX1_giveBack : okM mX1_giveBack := ⟨⟨by decide +kernel, by decide +kernel⟩, ⟨by decide +kernel, by decide +kernel⟩, ⟨tbl_i 469 (by decide +kernel), tbl_i 7 (by decide +kernel)⟩, by decide +kernel⟩
theorem ovX1_giveBack : okV mX1_giveBack 3 := ⟨⟨tbl_i 468 (by decide +kernel), prv_i 12 (by decide +kernel)⟩, by decide +kernel⟩
abbrev mX1_lookAtLoad : MD := (yX1_lookAtLoad, cX1_lookAtLoad, 9, none, 2)
theorem okX1_lookAtLoad : okM mX1_lookAtLoad := ⟨⟨by decide +kernel, by decide +kernel⟩, ⟨by decide +kernel, by decide +kernel⟩, ⟨tbl_i 473 (by decide +kernel), tbl_i 7 (by decide +kernel)⟩, by decide +kernel⟩
theorem ovX1_lookAtLoad : okV mX1_lookAtLoad 2 := ⟨⟨tbl_i 472 (by decide +kernel), prv_i 13 (by decide +kernel)⟩, by decide +kernel⟩
abbrev mX1_loadTakes : MD := (yX1_loadTakes, cX1_loadTakes, 9, (some .boolean), 1)
theorem okX1_loadTakes : okM mX1_loadTakes := ⟨⟨by decide +kernel, by decide +kernel⟩, ⟨by decide +kernel, by decide +kernel⟩, ⟨tbl_i 491 (by decide +kernel), tbl_i 7 (by decide +kernel)⟩, by decide +kernel⟩
theorem ovX1_loadTakes : okV mX1_loadTakes 5 := ⟨⟨tbl_i 490 (by decide +kernel), prv_i 14 (by decide +kernel)⟩, by decide +kernel⟩
abbrev mX1_lookAtRing : MD := (yX1_lookAtRing, cX1_lookAtRing, 7, none, 2)
theorem okX1_lookAtRing : okM mX1_lookAtRing := ⟨⟨by decide +kernel, by decide +kernel⟩, ⟨by decide +kernel, by decide +kernel⟩, ⟨tbl_i 495 (by decide +kernel), tbl_i 7 (by decide +kernel)⟩, by decide +kernel⟩
theorem ovX1_lookAtRing : okV mX1_lookAtRing 2 := ⟨⟨tbl_i 494 (by decide +kernel), prv_i 15 (by decide +kernel)⟩, by decide +kernel⟩
abbrev mX1_closesTooSoon : MD := (yX1_closesTooSoon, cX1_closesTooSoon, 7, (some .boolean), 1)
theorem okX1_closesTooSoon : okM mX1_closesTooSoon := ⟨⟨by decide +kernel, by decide +kernel⟩, ⟨by decide +kernel, by decide +kernel⟩, ⟨tbl_i 498 (by decide +kernel), tbl_i 7 (by decide +kernel)⟩, by decide +kernel⟩
theorem osX1_closesTooSoon : okS mX1_closesTooSoon 4 := ⟨tbl_i 497 (by decide +kernel), by decide +kernel⟩
abbrev mX1_lookAtClause : MD := (yX1_lookAtClause, cX1_lookAtClause, 6, none, 0)
theorem okX1_lookAtClause : okM mX1_lookAtClause := ⟨⟨by decide +kernel, by decide +kernel⟩, ⟨by decide +kernel, by decide +kernel⟩, ⟨tbl_i 502 (by decide +kernel), tbl_i 7 (by decide +kernel)⟩, by decide +kernel⟩
theorem ovX1_lookAtClause : okV mX1_lookAtClause 2 := ⟨⟨tbl_i 501 (by decide +kernel), prv_i 16 (by decide +kernel)⟩, by decide +kernel⟩
abbrev mX2_init : MD := (yX2_init, cX2_init, 3, none, 1)
theorem okX2_init : okM mX2_init := ⟨⟨by decide +kernel, by decide +kernel⟩, ⟨by decide +kernel, by decide +kernel⟩, ⟨tbl_i 161 (by decide +kernel), tbl_i 6 (by decide +kernel)⟩, by decide +kernel⟩
theorem oiX2_init : okI mX2_init 2 := ⟨⟨tbl_i 160 (by decide +kernel), by decide +kernel, rfl⟩, by decide +kernel⟩
abbrev mX2_countTaken : MD := (yX2_countTaken, cX2_countTaken, 5, (some .int), 4)
theorem okX2_countTaken : okM mX2_countTaken := ⟨⟨by decide +kernel, by decide +kernel⟩, ⟨by decide +kernel, by decide +kernel⟩, ⟨tbl_i 510 (by decide +kernel), tbl_i 6 (by decide +kernel)⟩, by decide +kernel⟩
theorem ovX2_countTaken : okV mX2_countTaken 2 := ⟨⟨tbl_i 508 (by decide +kernel), tbl_i 509 (by decide +kernel)⟩, by decide +kernel⟩
abbrev mX2_run : MD := (yX2_run, cX2_run, 13, (some .boolean), 4)
theorem okX2_run : okM mX2_run := ⟨⟨by decide +kernel, by decide +kernel⟩, ⟨by decide +kernel, by decide +kernel⟩, ⟨tbl_i 389 (by decide +kernel), tbl_i 6 (by decide +kernel)⟩, by decide +kernel⟩
theorem ovX2_run : okV mX2_run 3 := ⟨⟨tbl_i 387 (by decide +kernel), tbl_i 388 (by decide +kernel)⟩, by decide +kernel⟩
abbrev mX2_emptyRulesFit : MD := (yX2_emptyRulesFit, cX2_emptyRulesFit, 6, (some .boolean), 3)
theorem okX2_emptyRulesFit : okM mX2_emptyRulesFit := ⟨⟨by decide +kernel, by decide +kernel⟩, ⟨by decide +kernel, by decide +kernel⟩, ⟨tbl_i 393 (by decide +kernel), tbl_i 6 (by decide +kernel)⟩, by decide +kernel⟩
theorem ovX2_emptyRulesFit : okV mX2_emptyRulesFit 3 := ⟨⟨tbl_i 392 (by decide +kernel), prv_i 5 (by decide +kernel)⟩, by decide +kernel⟩
abbrev mX3_init : MD := (yX3_init, cX3_init, 1, none, 1)
theorem okX3_init : okM mX3_init := ⟨⟨by decide +kernel, by decide +kernel⟩, ⟨by decide +kernel, by decide +kernel⟩, ⟨tbl_i 53 (by decide +kernel), tbl_i 3 (by decide +kernel)⟩, by decide +kernel⟩
theorem oiX3_init : okI mX3_init 0 := ⟨⟨tbl_i 52 (by decide +kernel), by decide +kernel, rfl⟩, by decide +kernel⟩
abbrev mX3_begin : MD := (yX3_begin, cX3_begin, 4, none, 0)
theorem okX3_begin : okM mX3_begin := ⟨⟨by decide +kernel, by decide +kernel⟩, ⟨by decide +kernel, by decide +kernel⟩, ⟨tbl_i 299 (by decide +kernel), tbl_i 3 (by decide +kernel)⟩, by decide +kernel⟩
theorem ovX3_begin : okV mX3_begin 3 := ⟨⟨tbl_i 297 (by decide +kernel), tbl_i 298 (by decide +kernel)⟩, by decide +kernel⟩
abbrev mX3_join : MD := (yX3_join, cX3_join, 4, none, 0)
theorem okX3_join : okM mX3_join := ⟨⟨by decide +kernel, by decide +kernel⟩, ⟨by decide +kernel, by decide +kernel⟩, ⟨tbl_i 322 (by decide +kernel), tbl_i 3 (by decide +kernel)⟩, by decide +kernel⟩
theorem ovX3_join : okV mX3_join 3 := ⟨⟨tbl_i 320 (by decide +kernel), tbl_i 321 (by decide +kernel)⟩, by decide +kernel⟩
abbrev mX3_isOf : MD := (yX3_isOf, cX3_isOf, 2, (some .boolean), 0)
theorem okX3_isOf : okM mX3_isOf := ⟨⟨by decide +kernel, by decide +kernel⟩, ⟨by decide +kernel, by decide +kernel⟩, ⟨tbl_i 318 (by decide +kernel), tbl_i 3 (by decide +kernel)⟩, by decide +kernel⟩
theorem ovX3_isOf : okV mX3_isOf 1 := ⟨⟨tbl_i 316 (by decide +kernel), tbl_i 317 (by decide +kernel)⟩, by decide +kernel⟩
abbrev mX4_init : MD := (yX4_init, cX4_init, 2, none, 1)
theorem okX4_init : okM mX4_init := ⟨⟨by decide +kernel, by decide +kernel⟩, ⟨by decide +kernel, by decide +kernel⟩, ⟨tbl_i 174 (by decide +kernel), tbl_i 8 (by decide +kernel)⟩, by decide +kernel⟩
theorem oiX4_init : okI mX4_init 1 := ⟨⟨tbl_i 173 (by decide +kernel), by decide +kernel, rfl⟩, by decide +kernel⟩
abbrev mX4_find : MD := (yX4_find, cX4_find, 12, (some .int), 4)
theorem okX4_find : okM mX4_find := ⟨⟨by decide +kernel, by decide +kernel⟩, ⟨by decide +kernel, by decide +kernel⟩, ⟨tbl_i 574 (by decide +kernel), tbl_i 8 (by decide +kernel)⟩, by decide +kernel⟩
theorem ovX4_find : okV mX4_find 5 := ⟨⟨tbl_i 572 (by decide +kernel), tbl_i 573 (by decide +kernel)⟩, by decide +kernel⟩
abbrev mX4_arrange : MD := (yX4_arrange, cX4_arrange, 8, (some .int), 2)
theorem okX4_arrange : okM mX4_arrange := ⟨⟨by decide +kernel, by decide +kernel⟩, ⟨by decide +kernel, by decide +kernel⟩, ⟨tbl_i 578 (by decide +kernel), tbl_i 8 (by decide +kernel)⟩, by decide +kernel⟩
theorem ovX4_arrange : okV mX4_arrange 4 := ⟨⟨tbl_i 577 (by decide +kernel), prv_i 24 (by decide +kernel)⟩, by decide +kernel⟩
abbrev mX4_lastStage : MD := (yX4_lastStage, cX4_lastStage, 4, (some .int), 1)
theorem okX4_lastStage : okM mX4_lastStage := ⟨⟨by decide +kernel, by decide +kernel⟩, ⟨by decide +kernel, by decide +kernel⟩, ⟨tbl_i 584 (by decide +kernel), tbl_i 8 (by decide +kernel)⟩, by decide +kernel⟩
theorem ovX4_lastStage : okV mX4_lastStage 1 := ⟨⟨tbl_i 583 (by decide +kernel), prv_i 25 (by decide +kernel)⟩, by decide +kernel⟩
abbrev mX4_allFit : MD := (yX4_allFit, cX4_allFit, 7, (some .boolean), 3)
theorem okX4_allFit : okM mX4_allFit := ⟨⟨by decide +kernel, by decide +kernel⟩, ⟨by decide +kernel, by decide +kernel⟩, ⟨tbl_i 589 (by decide +kernel), tbl_i 8 (by decide +kernel)⟩, by decide +kernel⟩
theorem ovX4_allFit : okV mX4_allFit 2 := ⟨⟨tbl_i 588 (by decide +kernel), prv_i 26 (by decide +kernel)⟩, by decide +kernel⟩
abbrev mX5_init : MD := (yX5_init, cX5_init, 1, none, 1)
theorem okX5_init : okM mX5_init := ⟨⟨by decide +kernel, by decide +kernel⟩, ⟨by decide +kernel, by decide +kernel⟩, ⟨tbl_i 28 (by decide +kernel), tbl_i 2 (by decide +kernel)⟩, by decide +kernel⟩
theorem oiX5_init : okI mX5_init 0 := ⟨⟨tbl_i 27 (by decide +kernel), by decide +kernel, rfl⟩, by decide +kernel⟩
abbrev mX5_all : MD := (yX5_all, cX5_all, 1, (some .int), 0)
theorem okX5_all : okM mX5_all := ⟨⟨by decide +kernel, by decide +kernel⟩, ⟨by decide +kernel, by decide +kernel⟩, ⟨tbl_i 534 (by decide +kernel), tbl_i 2 (by decide +kernel)⟩, by decide +kernel⟩
theorem ovX5_all : okV mX5_all 0 := ⟨⟨tbl_i 532 (by decide +kernel), tbl_i 533 (by decide +kernel)⟩, by decide +kernel⟩
abbrev mX6_init : MD := (yX6_init, cX6_init, 2, none, 1)
theorem okX6_init : okM mX6_init := ⟨⟨by decide +kernel, by decide +kernel⟩, ⟨by decide +kernel, by decide +kernel⟩, ⟨tbl_i 110 (by decide +kernel), tbl_i 4 (by decide +kernel)⟩, by decide +kernel⟩
theorem oiX6_init : okI mX6_init 0 := ⟨⟨tbl_i 109 (by decide +kernel), by decide +kernel, rfl⟩, by decide +kernel⟩
abbrev mX6_lay : MD := (yX6_lay, cX6_lay, 4, none, 0)
theorem okX6_lay : okM mX6_lay := ⟨⟨by decide +kernel, by decide +kernel⟩, ⟨by decide +kernel, by decide +kernel⟩, ⟨tbl_i 353 (by decide +kernel), tbl_i 4 (by decide +kernel)⟩, by decide +kernel⟩
theorem ovX6_lay : okV mX6_lay 2 := ⟨⟨tbl_i 351 (by decide +kernel), tbl_i 352 (by decide +kernel)⟩, by decide +kernel⟩
abbrev mX6_isMissing : MD := (yX6_isMissing, cX6_isMissing, 2, (some .boolean), 0)
theorem okX6_isMissing : okM mX6_isMissing := ⟨⟨by decide +kernel, by decide +kernel⟩, ⟨by decide +kernel, by decide +kernel⟩, ⟨tbl_i 361 (by decide +kernel), tbl_i 4 (by decide +kernel)⟩, by decide +kernel⟩
theorem ovX6_isMissing : okV mX6_isMissing 1 := ⟨⟨tbl_i 359 (by decide +kernel), tbl_i 360 (by decide +kernel)⟩, by decide +kernel⟩
abbrev mX6_hasCells : MD := (yX6_hasCells, cX6_hasCells, 4, (some .boolean), 0)
theorem okX6_hasCells : okM mX6_hasCells := ⟨⟨by decide +kernel, by decide +kernel⟩, ⟨by decide +kernel, by decide +kernel⟩, ⟨tbl_i 369 (by decide +kernel), tbl_i 4 (by decide +kernel)⟩, by decide +kernel⟩
theorem ovX6_hasCells : okV mX6_hasCells 3 := ⟨⟨tbl_i 367 (by decide +kernel), tbl_i 368 (by decide +kernel)⟩, by decide +kernel⟩
abbrev mX6_countLaid : MD := (yX6_countLaid, cX6_countLaid, 3, (some .int), 1)
theorem okX6_countLaid : okM mX6_countLaid := ⟨⟨by decide +kernel, by decide +kernel⟩, ⟨by decide +kernel, by decide +kernel⟩, ⟨tbl_i 680 (by decide +kernel), tbl_i 4 (by decide +kernel)⟩, by decide +kernel⟩
theorem ovX6_countLaid : okV mX6_countLaid 0 := ⟨⟨tbl_i 678 (by decide +kernel), tbl_i 679 (by decide +kernel)⟩, by decide +kernel⟩
abbrev mX6_countRows : MD := (yX6_countRows, cX6_countRows, 3, (some .int), 0)
theorem okX6_countRows : okM mX6_countRows := ⟨⟨by decide +kernel, by decide +kernel⟩, ⟨by decide +kernel, by decide +kernel⟩, ⟨tbl_i 411 (by decide +kernel), tbl_i 4 (by decide +kernel)⟩, by decide +kernel⟩
theorem ovX6_countRows : okV mX6_countRows 2 := ⟨⟨tbl_i 409 (by decide +kernel), tbl_i 410 (by decide +kernel)⟩, by decide +kernel⟩
abbrev mJ6_bitCount_0f7a4 : MD := (yJ6_bitCount_0f7a4, cJ6_bitCount_0f7a4, 1, (some .int), 0)
theorem okJ6_bitCount_0f7a4 : okM mJ6_bitCount_0f7a4 := ⟨⟨by decide +kernel, by decide +kernel⟩, ⟨by decide +kernel, by decide +kernel⟩, ⟨tbl_i 285 (by decide +kernel), tbl_i 11 (by decide +kernel)⟩, by decide +kernel⟩
theorem osJ6_bitCount_0f7a4 : okS mJ6_bitCount_0f7a4 1 := ⟨tbl_i 284 (by decide +kernel), by decide +kernel⟩
abbrev mJ6_numberOfLeadingZeros_0f7a4 : MD := (yJ6_numberOfLeadingZeros_0f7a4, cJ6_numberOfLeadingZeros_0f7a4, 2, (some .int), 0)
theorem okJ6_numberOfLeadingZeros_0f7a4 : okM mJ6_numberOfLeadingZeros_0f7a4 := ⟨⟨by decide +kernel, by decide +kernel⟩, ⟨by decide +kernel, by decide +kernel⟩, ⟨tbl_i 438 (by decide +kernel), tbl_i 11 (by decide +kernel)⟩, by decide +kernel⟩
theorem osJ6_numberOfLeadingZeros_0f7a4 : okS mJ6_numberOfLeadingZeros_0f7a4 1 := ⟨tbl_i 437 (by decide +kernel), by decide +kernel⟩
abbrev mJ6_numberOfTrailingZeros_0f7a4 : MD := (yJ6_numberOfTrailingZeros_0f7a4, cJ6_numberOfTrailingZeros_0f7a4, 2, (some .int), 0)
theorem okJ6_numberOfTrailingZeros_0f7a4 : okM mJ6_numberOfTrailingZeros_0f7a4 := ⟨⟨by decide +kernel, by decide +kernel⟩, ⟨by decide +kernel, by decide +kernel⟩, ⟨tbl_i 434 (by decide +kernel), tbl_i 11 (by decide +kernel)⟩, by decide +kernel⟩
theorem osJ6_numberOfTrailingZeros_0f7a4 : okS mJ6_numberOfTrailingZeros_0f7a4 1 := ⟨tbl_i 433 (by decide +kernel), by decide +kernel⟩
abbrev mJ13_numberOfTrailingZeros_95d88 : MD := (yJ13_numberOfTrailingZeros_95d88, cJ13_numberOfTrailingZeros_95d88, 3, (some .int), 1)
theorem okJ13_numberOfTrailingZeros_95d88 : okM mJ13_numberOfTrailingZeros_95d88 := ⟨⟨by decide +kernel, by decide +kernel⟩, ⟨by decide +kernel, by decide +kernel⟩, ⟨tbl_i 592 (by decide +kernel), tbl_i 13 (by decide +kernel)⟩, by decide +kernel⟩
theorem osJ13_numberOfTrailingZeros_95d88 : okS mJ13_numberOfTrailingZeros_95d88 1 := ⟨tbl_i 591 (by decide +kernel), by decide +kernel⟩
abbrev mL_law : MD := (yL_law, cL_law, 4, some .boolean, 8)
end
