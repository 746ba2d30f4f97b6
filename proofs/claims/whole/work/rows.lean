section
-- ===== PART A: goes FIRST, ahead of the names: the tables' words, and 'selects' of the private methods out of them =====
/-- a private method of a class that the tables say can be made, by its rows of tables_1 -/
def lw_okq (q : MethodName × Nat) : Prop := (q.1.cls ≠ "java/lang/invoke/MethodHandle" ∧ q.1.cls ≠ "java/lang/invoke/VarHandle") ∧ Cond.instantiable q.1.cls q.2 ∈ tables_1 ∧ Cond.privateMethod q.1 ∈ tables_1 ∧ Cond.instanceMethod q.1 ∈ tables_1
theorem lw_p0 : lw_okq (⟨"SliceWhy", "reasonsNow", "()LSliceWhy$Reasons;"⟩, 12) := ⟨⟨by decide +kernel, by decide +kernel⟩, List.mem_of_getElem? (i := 9) (by decide +kernel), List.mem_of_getElem? (i := 233) (by decide +kernel), List.mem_of_getElem? (i := 234) (by decide +kernel)⟩
theorem lw_p1 : lw_okq (⟨"SliceWhy$Reasons", "takeNexts", "(LSliceWhy$Program;)V"⟩, 10) := ⟨⟨by decide +kernel, by decide +kernel⟩, List.mem_of_getElem? (i := 64) (by decide +kernel), List.mem_of_getElem? (i := 241) (by decide +kernel), List.mem_of_getElem? (i := 242) (by decide +kernel)⟩
theorem lw_p2 : lw_okq (⟨"SliceWhy$Program", "bitOf", "(I)I"⟩, 8) := ⟨⟨by decide +kernel, by decide +kernel⟩, List.mem_of_getElem? (i := 17) (by decide +kernel), List.mem_of_getElem? (i := 249) (by decide +kernel), List.mem_of_getElem? (i := 250) (by decide +kernel)⟩
theorem lw_p3 : lw_okq (⟨"SliceWhy$Reasons", "forgetHanging", "()V"⟩, 10) := ⟨⟨by decide +kernel, by decide +kernel⟩, List.mem_of_getElem? (i := 64) (by decide +kernel), List.mem_of_getElem? (i := 263) (by decide +kernel), List.mem_of_getElem? (i := 264) (by decide +kernel)⟩
theorem lw_p4 : lw_okq (⟨"SliceWhy$Reasons", "findFollowers", "()V"⟩, 10) := ⟨⟨by decide +kernel, by decide +kernel⟩, List.mem_of_getElem? (i := 64) (by decide +kernel), List.mem_of_getElem? (i := 267) (by decide +kernel), List.mem_of_getElem? (i := 268) (by decide +kernel)⟩
theorem lw_p5 : lw_okq (⟨"SliceWhy$Reasons", "endReachedWithout", "(I)I"⟩, 10) := ⟨⟨by decide +kernel, by decide +kernel⟩, List.mem_of_getElem? (i := 64) (by decide +kernel), List.mem_of_getElem? (i := 271) (by decide +kernel), List.mem_of_getElem? (i := 272) (by decide +kernel)⟩
theorem lw_p6 : lw_okq (⟨"SliceWhy$Reasons", "findHangingByData", "(LSliceWhy$Program;I)V"⟩, 10) := ⟨⟨by decide +kernel, by decide +kernel⟩, List.mem_of_getElem? (i := 64) (by decide +kernel), List.mem_of_getElem? (i := 279) (by decide +kernel), List.mem_of_getElem? (i := 280) (by decide +kernel)⟩
theorem lw_p7 : lw_okq (⟨"SliceWhy$Reasons", "settersOf", "(LSliceWhy$Program;I)I"⟩, 10) := ⟨⟨by decide +kernel, by decide +kernel⟩, List.mem_of_getElem? (i := 64) (by decide +kernel), List.mem_of_getElem? (i := 293) (by decide +kernel), List.mem_of_getElem? (i := 294) (by decide +kernel)⟩
theorem lw_p8 : lw_okq (⟨"SliceWhy$Reasons", "reachedFrom", "(II)I"⟩, 10) := ⟨⟨by decide +kernel, by decide +kernel⟩, List.mem_of_getElem? (i := 64) (by decide +kernel), List.mem_of_getElem? (i := 297) (by decide +kernel), List.mem_of_getElem? (i := 298) (by decide +kernel)⟩
theorem lw_p9 : lw_okq (⟨"SliceWhy$Reasons", "findHangingByNames", "(LSliceWhy$Program;I)V"⟩, 10) := ⟨⟨by decide +kernel, by decide +kernel⟩, List.mem_of_getElem? (i := 64) (by decide +kernel), List.mem_of_getElem? (i := 310) (by decide +kernel), List.mem_of_getElem? (i := 311) (by decide +kernel)⟩
theorem lw_p10 : lw_okq (⟨"SliceWhy$Reasons", "findHangingByControl", "(I)V"⟩, 10) := ⟨⟨by decide +kernel, by decide +kernel⟩, List.mem_of_getElem? (i := 64) (by decide +kernel), List.mem_of_getElem? (i := 318) (by decide +kernel), List.mem_of_getElem? (i := 319) (by decide +kernel)⟩
theorem lw_p11 : lw_okq (⟨"SliceWhy$Reasons", "closeHanging", "()V"⟩, 10) := ⟨⟨by decide +kernel, by decide +kernel⟩, List.mem_of_getElem? (i := 64) (by decide +kernel), List.mem_of_getElem? (i := 322) (by decide +kernel), List.mem_of_getElem? (i := 323) (by decide +kernel)⟩
theorem lw_p12 : lw_okq (⟨"SliceWhy$Reasons", "withAllBehind", "(I[I)I"⟩, 10) := ⟨⟨by decide +kernel, by decide +kernel⟩, List.mem_of_getElem? (i := 64) (by decide +kernel), List.mem_of_getElem? (i := 326) (by decide +kernel), List.mem_of_getElem? (i := 327) (by decide +kernel)⟩
theorem lw_p13 : lw_okq (⟨"SliceWhy$Machine", "begin", "(LSliceWhy$Program;[I)V"⟩, 9) := ⟨⟨by decide +kernel, by decide +kernel⟩, List.mem_of_getElem? (i := 104) (by decide +kernel), List.mem_of_getElem? (i := 338) (by decide +kernel), List.mem_of_getElem? (i := 339) (by decide +kernel)⟩
theorem lw_p14 : lw_okq (⟨"SliceWhy$Machine", "step", "(LSliceWhy$Program;[II)I"⟩, 9) := ⟨⟨by decide +kernel, by decide +kernel⟩, List.mem_of_getElem? (i := 104) (by decide +kernel), List.mem_of_getElem? (i := 356) (by decide +kernel), List.mem_of_getElem? (i := 357) (by decide +kernel)⟩
theorem lw_p15 : lw_okq (⟨"SliceWhy$Machine", "failsAt", "(LSliceWhy$Program;I)Z"⟩, 9) := ⟨⟨by decide +kernel, by decide +kernel⟩, List.mem_of_getElem? (i := 104) (by decide +kernel), List.mem_of_getElem? (i := 360) (by decide +kernel), List.mem_of_getElem? (i := 361) (by decide +kernel)⟩
def lw_privs_1 : List (MethodName × Nat) := [(⟨"SliceWhy", "reasonsNow", "()LSliceWhy$Reasons;"⟩, 12), (⟨"SliceWhy$Reasons", "takeNexts", "(LSliceWhy$Program;)V"⟩, 10), (⟨"SliceWhy$Program", "bitOf", "(I)I"⟩, 8), (⟨"SliceWhy$Reasons", "forgetHanging", "()V"⟩, 10), (⟨"SliceWhy$Reasons", "findFollowers", "()V"⟩, 10), (⟨"SliceWhy$Reasons", "endReachedWithout", "(I)I"⟩, 10), (⟨"SliceWhy$Reasons", "findHangingByData", "(LSliceWhy$Program;I)V"⟩, 10), (⟨"SliceWhy$Reasons", "settersOf", "(LSliceWhy$Program;I)I"⟩, 10), (⟨"SliceWhy$Reasons", "reachedFrom", "(II)I"⟩, 10), (⟨"SliceWhy$Reasons", "findHangingByNames", "(LSliceWhy$Program;I)V"⟩, 10), (⟨"SliceWhy$Reasons", "findHangingByControl", "(I)V"⟩, 10), (⟨"SliceWhy$Reasons", "closeHanging", "()V"⟩, 10), (⟨"SliceWhy$Reasons", "withAllBehind", "(I[I)I"⟩, 10), (⟨"SliceWhy$Machine", "begin", "(LSliceWhy$Program;[I)V"⟩, 9), (⟨"SliceWhy$Machine", "step", "(LSliceWhy$Program;[II)I"⟩, 9), (⟨"SliceWhy$Machine", "failsAt", "(LSliceWhy$Program;I)Z"⟩, 9)]
theorem lw_r1 : ∀ q ∈ lw_privs_1, lw_okq q := List.forall_mem_cons.mpr ⟨lw_p0, List.forall_mem_cons.mpr ⟨lw_p1, List.forall_mem_cons.mpr ⟨lw_p2, List.forall_mem_cons.mpr ⟨lw_p3, List.forall_mem_cons.mpr ⟨lw_p4, List.forall_mem_cons.mpr ⟨lw_p5, List.forall_mem_cons.mpr ⟨lw_p6, List.forall_mem_cons.mpr ⟨lw_p7, List.forall_mem_cons.mpr ⟨lw_p8, List.forall_mem_cons.mpr ⟨lw_p9, List.forall_mem_cons.mpr ⟨lw_p10, List.forall_mem_cons.mpr ⟨lw_p11, List.forall_mem_cons.mpr ⟨lw_p12, List.forall_mem_cons.mpr ⟨lw_p13, List.forall_mem_cons.mpr ⟨lw_p14, List.forall_mem_cons.mpr ⟨lw_p15, fun _ h => absurd h List.not_mem_nil⟩⟩⟩⟩⟩⟩⟩⟩⟩⟩⟩⟩⟩⟩⟩⟩
theorem lw_p16 : lw_okq (⟨"SliceWhy$Machine", "itemOf", "(II)I"⟩, 9) := ⟨⟨by decide +kernel, by decide +kernel⟩, List.mem_of_getElem? (i := 104) (by decide +kernel), List.mem_of_getElem? (i := 366) (by decide +kernel), List.mem_of_getElem? (i := 367) (by decide +kernel)⟩
theorem lw_p17 : lw_okq (⟨"SliceWhy$Machine", "valueOf", "(III[I)I"⟩, 9) := ⟨⟨by decide +kernel, by decide +kernel⟩, List.mem_of_getElem? (i := 104) (by decide +kernel), List.mem_of_getElem? (i := 370) (by decide +kernel), List.mem_of_getElem? (i := 371) (by decide +kernel)⟩
theorem lw_p18 : lw_okq (⟨"SliceWhy$Reasons", "whoseSetHolds", "(I[I)I"⟩, 10) := ⟨⟨by decide +kernel, by decide +kernel⟩, List.mem_of_getElem? (i := 64) (by decide +kernel), List.mem_of_getElem? (i := 398) (by decide +kernel), List.mem_of_getElem? (i := 399) (by decide +kernel)⟩
theorem lw_p19 : lw_okq (⟨"SliceWhy$Reasons", "measureWays", "(II)I"⟩, 10) := ⟨⟨by decide +kernel, by decide +kernel⟩, List.mem_of_getElem? (i := 64) (by decide +kernel), List.mem_of_getElem? (i := 444) (by decide +kernel), List.mem_of_getElem? (i := 445) (by decide +kernel)⟩
theorem lw_p20 : lw_okq (⟨"SliceWhy$Reasons", "allThatHangOn", "(I)I"⟩, 10) := ⟨⟨by decide +kernel, by decide +kernel⟩, List.mem_of_getElem? (i := 64) (by decide +kernel), List.mem_of_getElem? (i := 448) (by decide +kernel), List.mem_of_getElem? (i := 449) (by decide +kernel)⟩
theorem lw_p21 : lw_okq (⟨"SliceWhy", "wholeIsSpentInATest", "(I)Z"⟩, 12) := ⟨⟨by decide +kernel, by decide +kernel⟩, List.mem_of_getElem? (i := 9) (by decide +kernel), List.mem_of_getElem? (i := 482) (by decide +kernel), List.mem_of_getElem? (i := 483) (by decide +kernel)⟩
theorem lw_p22 : lw_okq (⟨"SliceWhy", "withoutNeedless", "(II)I"⟩, 12) := ⟨⟨by decide +kernel, by decide +kernel⟩, List.mem_of_getElem? (i := 9) (by decide +kernel), List.mem_of_getElem? (i := 486) (by decide +kernel), List.mem_of_getElem? (i := 487) (by decide +kernel)⟩
theorem lw_p23 : lw_okq (⟨"SliceWhy", "testsAgree", "(II)Z"⟩, 12) := ⟨⟨by decide +kernel, by decide +kernel⟩, List.mem_of_getElem? (i := 9) (by decide +kernel), List.mem_of_getElem? (i := 490) (by decide +kernel), List.mem_of_getElem? (i := 491) (by decide +kernel)⟩
theorem lw_p24 : lw_okq (⟨"SliceWhyModel", "write", "(IIIII)V"⟩, 35) := ⟨⟨by decide +kernel, by decide +kernel⟩, List.mem_of_getElem? (i := 498) (by decide +kernel), List.mem_of_getElem? (i := 626) (by decide +kernel), List.mem_of_getElem? (i := 627) (by decide +kernel)⟩
theorem lw_p25 : lw_okq (⟨"SliceWhyModel", "isPlace", "(I)Z"⟩, 35) := ⟨⟨by decide +kernel, by decide +kernel⟩, List.mem_of_getElem? (i := 498) (by decide +kernel), List.mem_of_getElem? (i := 634) (by decide +kernel), List.mem_of_getElem? (i := 635) (by decide +kernel)⟩
theorem lw_p26 : lw_okq (⟨"SliceWhyModel", "followers", "(I)I"⟩, 35) := ⟨⟨by decide +kernel, by decide +kernel⟩, List.mem_of_getElem? (i := 498) (by decide +kernel), List.mem_of_getElem? (i := 659) (by decide +kernel), List.mem_of_getElem? (i := 660) (by decide +kernel)⟩
theorem lw_p27 : lw_okq (⟨"SliceWhyModel", "reach", "(IIZ)I"⟩, 35) := ⟨⟨by decide +kernel, by decide +kernel⟩, List.mem_of_getElem? (i := 498) (by decide +kernel), List.mem_of_getElem? (i := 663) (by decide +kernel), List.mem_of_getElem? (i := 664) (by decide +kernel)⟩
theorem lw_p28 : lw_okq (⟨"SliceWhyModel", "nexts", "(IZ)I"⟩, 35) := ⟨⟨by decide +kernel, by decide +kernel⟩, List.mem_of_getElem? (i := 498) (by decide +kernel), List.mem_of_getElem? (i := 667) (by decide +kernel), List.mem_of_getElem? (i := 668) (by decide +kernel)⟩
theorem lw_p29 : lw_okq (⟨"SliceWhyModel", "place", "(I)I"⟩, 35) := ⟨⟨by decide +kernel, by decide +kernel⟩, List.mem_of_getElem? (i := 498) (by decide +kernel), List.mem_of_getElem? (i := 671) (by decide +kernel), List.mem_of_getElem? (i := 672) (by decide +kernel)⟩
theorem lw_p30 : lw_okq (⟨"SliceWhyModel", "canFail", "(I)Z"⟩, 35) := ⟨⟨by decide +kernel, by decide +kernel⟩, List.mem_of_getElem? (i := 498) (by decide +kernel), List.mem_of_getElem? (i := 676) (by decide +kernel), List.mem_of_getElem? (i := 677) (by decide +kernel)⟩
theorem lw_p31 : lw_okq (⟨"SliceWhyModel", "look", "()V"⟩, 35) := ⟨⟨by decide +kernel, by decide +kernel⟩, List.mem_of_getElem? (i := 498) (by decide +kernel), List.mem_of_getElem? (i := 684) (by decide +kernel), List.mem_of_getElem? (i := 685) (by decide +kernel)⟩
def lw_privs_2 : List (MethodName × Nat) := [(⟨"SliceWhy$Machine", "itemOf", "(II)I"⟩, 9), (⟨"SliceWhy$Machine", "valueOf", "(III[I)I"⟩, 9), (⟨"SliceWhy$Reasons", "whoseSetHolds", "(I[I)I"⟩, 10), (⟨"SliceWhy$Reasons", "measureWays", "(II)I"⟩, 10), (⟨"SliceWhy$Reasons", "allThatHangOn", "(I)I"⟩, 10), (⟨"SliceWhy", "wholeIsSpentInATest", "(I)Z"⟩, 12), (⟨"SliceWhy", "withoutNeedless", "(II)I"⟩, 12), (⟨"SliceWhy", "testsAgree", "(II)Z"⟩, 12), (⟨"SliceWhyModel", "write", "(IIIII)V"⟩, 35), (⟨"SliceWhyModel", "isPlace", "(I)Z"⟩, 35), (⟨"SliceWhyModel", "followers", "(I)I"⟩, 35), (⟨"SliceWhyModel", "reach", "(IIZ)I"⟩, 35), (⟨"SliceWhyModel", "nexts", "(IZ)I"⟩, 35), (⟨"SliceWhyModel", "place", "(I)I"⟩, 35), (⟨"SliceWhyModel", "canFail", "(I)Z"⟩, 35), (⟨"SliceWhyModel", "look", "()V"⟩, 35)]
theorem lw_r2 : ∀ q ∈ lw_privs_2, lw_okq q := List.forall_mem_cons.mpr ⟨lw_p16, List.forall_mem_cons.mpr ⟨lw_p17, List.forall_mem_cons.mpr ⟨lw_p18, List.forall_mem_cons.mpr ⟨lw_p19, List.forall_mem_cons.mpr ⟨lw_p20, List.forall_mem_cons.mpr ⟨lw_p21, List.forall_mem_cons.mpr ⟨lw_p22, List.forall_mem_cons.mpr ⟨lw_p23, List.forall_mem_cons.mpr ⟨lw_p24, List.forall_mem_cons.mpr ⟨lw_p25, List.forall_mem_cons.mpr ⟨lw_p26, List.forall_mem_cons.mpr ⟨lw_p27, List.forall_mem_cons.mpr ⟨lw_p28, List.forall_mem_cons.mpr ⟨lw_p29, List.forall_mem_cons.mpr ⟨lw_p30, List.forall_mem_cons.mpr ⟨lw_p31, fun _ h => absurd h List.not_mem_nil⟩⟩⟩⟩⟩⟩⟩⟩⟩⟩⟩⟩⟩⟩⟩⟩
theorem lw_p32 : lw_okq (⟨"SliceWhyModel", "hangs", "(IIZ)I"⟩, 35) := ⟨⟨by decide +kernel, by decide +kernel⟩, List.mem_of_getElem? (i := 498) (by decide +kernel), List.mem_of_getElem? (i := 688) (by decide +kernel), List.mem_of_getElem? (i := 689) (by decide +kernel)⟩
theorem lw_p33 : lw_okq (⟨"SliceWhyModel", "reads", "(IZ)I"⟩, 35) := ⟨⟨by decide +kernel, by decide +kernel⟩, List.mem_of_getElem? (i := 498) (by decide +kernel), List.mem_of_getElem? (i := 692) (by decide +kernel), List.mem_of_getElem? (i := 693) (by decide +kernel)⟩
theorem lw_p34 : lw_okq (⟨"SliceWhyModel", "settersOf", "(II)I"⟩, 35) := ⟨⟨by decide +kernel, by decide +kernel⟩, List.mem_of_getElem? (i := 498) (by decide +kernel), List.mem_of_getElem? (i := 696) (by decide +kernel), List.mem_of_getElem? (i := 697) (by decide +kernel)⟩
theorem lw_p35 : lw_okq (⟨"SliceWhyModel", "sources", "(II)I"⟩, 35) := ⟨⟨by decide +kernel, by decide +kernel⟩, List.mem_of_getElem? (i := 498) (by decide +kernel), List.mem_of_getElem? (i := 700) (by decide +kernel), List.mem_of_getElem? (i := 701) (by decide +kernel)⟩
theorem lw_p36 : lw_okq (⟨"SliceWhyModel", "setsIt", "(II)Z"⟩, 35) := ⟨⟨by decide +kernel, by decide +kernel⟩, List.mem_of_getElem? (i := 498) (by decide +kernel), List.mem_of_getElem? (i := 704) (by decide +kernel), List.mem_of_getElem? (i := 705) (by decide +kernel)⟩
theorem lw_p37 : lw_okq (⟨"SliceWhyModel", "sets", "(I)I"⟩, 35) := ⟨⟨by decide +kernel, by decide +kernel⟩, List.mem_of_getElem? (i := 498) (by decide +kernel), List.mem_of_getElem? (i := 708) (by decide +kernel), List.mem_of_getElem? (i := 709) (by decide +kernel)⟩
theorem lw_p38 : lw_okq (⟨"SliceWhyModel", "controls", "(I)I"⟩, 35) := ⟨⟨by decide +kernel, by decide +kernel⟩, List.mem_of_getElem? (i := 498) (by decide +kernel), List.mem_of_getElem? (i := 713) (by decide +kernel), List.mem_of_getElem? (i := 714) (by decide +kernel)⟩
theorem lw_p39 : lw_okq (⟨"SliceWhyModel", "back", "(IZ)I"⟩, 35) := ⟨⟨by decide +kernel, by decide +kernel⟩, List.mem_of_getElem? (i := 498) (by decide +kernel), List.mem_of_getElem? (i := 717) (by decide +kernel), List.mem_of_getElem? (i := 718) (by decide +kernel)⟩
theorem lw_p40 : lw_okq (⟨"SliceWhyModel", "on", "(IZ)I"⟩, 35) := ⟨⟨by decide +kernel, by decide +kernel⟩, List.mem_of_getElem? (i := 498) (by decide +kernel), List.mem_of_getElem? (i := 721) (by decide +kernel), List.mem_of_getElem? (i := 722) (by decide +kernel)⟩
theorem lw_p41 : lw_okq (⟨"SliceWhyModel", "forward", "(IZ)I"⟩, 35) := ⟨⟨by decide +kernel, by decide +kernel⟩, List.mem_of_getElem? (i := 498) (by decide +kernel), List.mem_of_getElem? (i := 725) (by decide +kernel), List.mem_of_getElem? (i := 726) (by decide +kernel)⟩
theorem lw_p42 : lw_okq (⟨"SliceWhyModel", "go", "(II[II)I"⟩, 35) := ⟨⟨by decide +kernel, by decide +kernel⟩, List.mem_of_getElem? (i := 498) (by decide +kernel), List.mem_of_getElem? (i := 754) (by decide +kernel), List.mem_of_getElem? (i := 755) (by decide +kernel)⟩
theorem lw_p43 : lw_okq (⟨"SliceWhyModel", "begin", "([II)V"⟩, 35) := ⟨⟨by decide +kernel, by decide +kernel⟩, List.mem_of_getElem? (i := 498) (by decide +kernel), List.mem_of_getElem? (i := 758) (by decide +kernel), List.mem_of_getElem? (i := 759) (by decide +kernel)⟩
theorem lw_p44 : lw_okq (⟨"SliceWhyModel", "does", "(I[II)Z"⟩, 35) := ⟨⟨by decide +kernel, by decide +kernel⟩, List.mem_of_getElem? (i := 498) (by decide +kernel), List.mem_of_getElem? (i := 766) (by decide +kernel), List.mem_of_getElem? (i := 767) (by decide +kernel)⟩
theorem lw_p45 : lw_okq (⟨"SliceWhyModel", "whole", "(I[II)I"⟩, 35) := ⟨⟨by decide +kernel, by decide +kernel⟩, List.mem_of_getElem? (i := 498) (by decide +kernel), List.mem_of_getElem? (i := 789) (by decide +kernel), List.mem_of_getElem? (i := 790) (by decide +kernel)⟩
theorem lw_p46 : lw_okq (⟨"SliceWhyModel", "isSame", "()Z"⟩, 35) := ⟨⟨by decide +kernel, by decide +kernel⟩, List.mem_of_getElem? (i := 498) (by decide +kernel), List.mem_of_getElem? (i := 793) (by decide +kernel), List.mem_of_getElem? (i := 794) (by decide +kernel)⟩
theorem lw_p47 : lw_okq (⟨"SliceWhyModel", "agrees", "(II)Z"⟩, 35) := ⟨⟨by decide +kernel, by decide +kernel⟩, List.mem_of_getElem? (i := 498) (by decide +kernel), List.mem_of_getElem? (i := 809) (by decide +kernel), List.mem_of_getElem? (i := 810) (by decide +kernel)⟩
def lw_privs_3 : List (MethodName × Nat) := [(⟨"SliceWhyModel", "hangs", "(IIZ)I"⟩, 35), (⟨"SliceWhyModel", "reads", "(IZ)I"⟩, 35), (⟨"SliceWhyModel", "settersOf", "(II)I"⟩, 35), (⟨"SliceWhyModel", "sources", "(II)I"⟩, 35), (⟨"SliceWhyModel", "setsIt", "(II)Z"⟩, 35), (⟨"SliceWhyModel", "sets", "(I)I"⟩, 35), (⟨"SliceWhyModel", "controls", "(I)I"⟩, 35), (⟨"SliceWhyModel", "back", "(IZ)I"⟩, 35), (⟨"SliceWhyModel", "on", "(IZ)I"⟩, 35), (⟨"SliceWhyModel", "forward", "(IZ)I"⟩, 35), (⟨"SliceWhyModel", "go", "(II[II)I"⟩, 35), (⟨"SliceWhyModel", "begin", "([II)V"⟩, 35), (⟨"SliceWhyModel", "does", "(I[II)Z"⟩, 35), (⟨"SliceWhyModel", "whole", "(I[II)I"⟩, 35), (⟨"SliceWhyModel", "isSame", "()Z"⟩, 35), (⟨"SliceWhyModel", "agrees", "(II)Z"⟩, 35)]
theorem lw_r3 : ∀ q ∈ lw_privs_3, lw_okq q := List.forall_mem_cons.mpr ⟨lw_p32, List.forall_mem_cons.mpr ⟨lw_p33, List.forall_mem_cons.mpr ⟨lw_p34, List.forall_mem_cons.mpr ⟨lw_p35, List.forall_mem_cons.mpr ⟨lw_p36, List.forall_mem_cons.mpr ⟨lw_p37, List.forall_mem_cons.mpr ⟨lw_p38, List.forall_mem_cons.mpr ⟨lw_p39, List.forall_mem_cons.mpr ⟨lw_p40, List.forall_mem_cons.mpr ⟨lw_p41, List.forall_mem_cons.mpr ⟨lw_p42, List.forall_mem_cons.mpr ⟨lw_p43, List.forall_mem_cons.mpr ⟨lw_p44, List.forall_mem_cons.mpr ⟨lw_p45, List.forall_mem_cons.mpr ⟨lw_p46, List.forall_mem_cons.mpr ⟨lw_p47, fun _ h => absurd h List.not_mem_nil⟩⟩⟩⟩⟩⟩⟩⟩⟩⟩⟩⟩⟩⟩⟩⟩
def lw_privs : List (MethodName × Nat) := lw_privs_1 ++ (lw_privs_2 ++ (lw_privs_3))
def lw_tbl : List Cond := k2_sels lw_privs ++ tables_1
theorem lw_privs_ok : ∀ q ∈ lw_privs, lw_okq q := by
  show ∀ q ∈ lw_privs_1 ++ (lw_privs_2 ++ (lw_privs_3)), lw_okq q
  exact List.forall_mem_append.mpr ⟨lw_r1, List.forall_mem_append.mpr ⟨lw_r2, lw_r3⟩⟩
-- ===== end of PART A; then your names; then what follows =====
end
section
/-! ===== BEGIN printed: names, fields, word lists, decode rows ===== -/
def RX0 : String := "SliceWhy$Machine"
def TX0 : u_T := fun k => match k with
  | 0 => ("SliceWhy$Machine", "registers", "[I", true)
  | 1 => ("SliceWhy$Machine", "items", "[I", true)
  | 2 => ("SliceWhy$Machine", "globals", "[I", true)
  | 3 => ("SliceWhy$Machine", "rowOf", "[I", true)
  | 4 => ("SliceWhy$Machine", "told", "[I", true)
  | 5 => ("SliceWhy$Machine", "toldCount", "I", false)
  | 6 => ("SliceWhy$Machine", "toldNow", "I", false)
  | 7 => ("SliceWhy$Machine", "steps", "I", false)
  | _ => ("SliceWhy$Machine", "failedAt", "I", false)
def tyX0 : Nat → FieldType := fun k => match k with
  | 0 => .array .int
  | 1 => .array .int
  | 2 => .array .int
  | 3 => .array .int
  | 4 => .array .int
  | 5 => .int
  | 6 => .int
  | 7 => .int
  | _ => .int
theorem nmX0 : ∀ a, a < 9 → ∀ b, b < 9 → a ≠ b → (TX0 a).2.1 ≠ (TX0 b).2.1 := by decide +kernel
theorem tyX0_ok : ∀ k, k < 9 → parseFieldDescriptor (TX0 k).2.2.1 = some (tyX0 k) := by decide +kernel
abbrev cX0_init : ByteArray := prog_2_method_1_code
def yX0_init : MethodName := ⟨RX0, "<init>", "()V"⟩
abbrev cX0_perform : ByteArray := prog_2_method_2_code
def yX0_perform : MethodName := ⟨RX0, "perform", "(LSliceWhy$Program;[III)I"⟩
abbrev cX0_begin : ByteArray := prog_2_method_3_code
def yX0_begin : MethodName := ⟨RX0, "begin", "(LSliceWhy$Program;[I)V"⟩
abbrev cX0_chosenRow : ByteArray := prog_2_method_4_code
def yX0_chosenRow : MethodName := ⟨RX0, "chosenRow", "(II)I"⟩
abbrev cX0_firstFrom : ByteArray := prog_2_method_5_code
def yX0_firstFrom : MethodName := ⟨RX0, "firstFrom", "(III)I"⟩
abbrev cX0_step : ByteArray := prog_2_method_6_code
def yX0_step : MethodName := ⟨RX0, "step", "(LSliceWhy$Program;[II)I"⟩
abbrev cX0_failsAt : ByteArray := prog_2_method_7_code
def yX0_failsAt : MethodName := ⟨RX0, "failsAt", "(LSliceWhy$Program;I)Z"⟩
abbrev cX0_itemOf : ByteArray := prog_2_method_8_code
def yX0_itemOf : MethodName := ⟨RX0, "itemOf", "(II)I"⟩
abbrev cX0_valueOf : ByteArray := prog_2_method_9_code
def yX0_valueOf : MethodName := ⟨RX0, "valueOf", "(III[I)I"⟩
abbrev cX0_toldLike : ByteArray := prog_2_method_10_code
def yX0_toldLike : MethodName := ⟨RX0, "toldLike", "(LSliceWhy$Machine;)Z"⟩
def RX1 : String := "SliceWhy$Program"
def TX1 : u_T := fun k => match k with
  | 0 => ("SliceWhy$Program", "kinds", "[I", true)
  | 1 => ("SliceWhy$Program", "as", "[I", true)
  | 2 => ("SliceWhy$Program", "bs", "[I", true)
  | 3 => ("SliceWhy$Program", "cs", "[I", true)
  | 4 => ("SliceWhy$Program", "starts", "[I", true)
  | 5 => ("SliceWhy$Program", "failing", "[Z", true)
  | 6 => ("SliceWhy$Program", "mayBe", "[I", true)
  | _ => ("SliceWhy$Program", "size", "I", false)
def tyX1 : Nat → FieldType := fun k => match k with
  | 0 => .array .int
  | 1 => .array .int
  | 2 => .array .int
  | 3 => .array .int
  | 4 => .array .int
  | 5 => .array .boolean
  | 6 => .array .int
  | _ => .int
theorem nmX1 : ∀ a, a < 8 → ∀ b, b < 8 → a ≠ b → (TX1 a).2.1 ≠ (TX1 b).2.1 := by decide +kernel
theorem tyX1_ok : ∀ k, k < 8 → parseFieldDescriptor (TX1 k).2.2.1 = some (tyX1 k) := by decide +kernel
abbrev cX1_init : ByteArray := prog_3_method_1_code
def yX1_init : MethodName := ⟨RX1, "<init>", "()V"⟩
abbrev cX1_allows : ByteArray := prog_3_method_2_code
def yX1_allows : MethodName := ⟨RX1, "allows", "(IIII)Z"⟩
abbrev cX1_isBelow : ByteArray := prog_3_method_3_code
def yX1_isBelow : MethodName := ⟨RX1, "isBelow", "(II)Z"⟩
abbrev cX1_has : ByteArray := prog_3_method_4_code
def yX1_has : MethodName := ⟨RX1, "has", "(I)Z"⟩
abbrev cX1_all : ByteArray := prog_3_method_5_code
def yX1_all : MethodName := ⟨RX1, "all", "()I"⟩
abbrev cX1_write : ByteArray := prog_3_method_6_code
def yX1_write : MethodName := ⟨RX1, "write", "(IIIII)V"⟩
abbrev cX1_isOfFailingGlobal : ByteArray := prog_3_method_7_code
def yX1_isOfFailingGlobal : MethodName := ⟨RX1, "isOfFailingGlobal", "(I)Z"⟩
abbrev cX1_bitOf : ByteArray := prog_3_method_8_code
def yX1_bitOf : MethodName := ⟨RX1, "bitOf", "(I)I"⟩
abbrev cX1_nextsOf : ByteArray := prog_3_method_9_code
def yX1_nextsOf : MethodName := ⟨RX1, "nextsOf", "(I)I"⟩
abbrev cX1_widerNextsOf : ByteArray := prog_3_method_10_code
def yX1_widerNextsOf : MethodName := ⟨RX1, "widerNextsOf", "(I)I"⟩
abbrev cX1_registerBit : ByteArray := prog_3_method_11_code
def yX1_registerBit : MethodName := ⟨RX1, "registerBit", "(I)I"⟩
abbrev cX1_globalBit : ByteArray := prog_3_method_12_code
def yX1_globalBit : MethodName := ⟨RX1, "globalBit", "(I)I"⟩
abbrev cX1_setBy : ByteArray := prog_3_method_13_code
def yX1_setBy : MethodName := ⟨RX1, "setBy", "(I)I"⟩
abbrev cX1_readBy : ByteArray := prog_3_method_14_code
def yX1_readBy : MethodName := ⟨RX1, "readBy", "(I)I"⟩
abbrev cX1_thinlyReadBy : ByteArray := prog_3_method_15_code
def yX1_thinlyReadBy : MethodName := ⟨RX1, "thinlyReadBy", "(I)I"⟩
abbrev cX1_mayShareRow : ByteArray := prog_3_method_16_code
def yX1_mayShareRow : MethodName := ⟨RX1, "mayShareRow", "(II)Z"⟩
def RX2 : String := "SliceWhy$Reasons"
def TX2 : u_T := fun k => match k with
  | 0 => ("SliceWhy$Reasons", "size", "I", false)
  | 1 => ("SliceWhy$Reasons", "nexts", "[I", true)
  | 2 => ("SliceWhy$Reasons", "widerNexts", "[I", true)
  | 3 => ("SliceWhy$Reasons", "followers", "[I", true)
  | 4 => ("SliceWhy$Reasons", "hangs", "[[I", true)
  | 5 => ("SliceWhy$Reasons", "hangsAtAll", "[I", true)
  | 6 => ("SliceWhy$Reasons", "hangsThin", "[I", true)
  | 7 => ("SliceWhy$Reasons", "back", "[I", true)
  | 8 => ("SliceWhy$Reasons", "thin", "[I", true)
  | _ => ("SliceWhy$Reasons", "away", "[I", true)
def tyX2 : Nat → FieldType := fun k => match k with
  | 0 => .int
  | 1 => .array .int
  | 2 => .array .int
  | 3 => .array .int
  | 4 => .array (.array .int)
  | 5 => .array .int
  | 6 => .array .int
  | 7 => .array .int
  | 8 => .array .int
  | _ => .array .int
theorem nmX2 : ∀ a, a < 10 → ∀ b, b < 10 → a ≠ b → (TX2 a).2.1 ≠ (TX2 b).2.1 := by decide +kernel
theorem tyX2_ok : ∀ k, k < 10 → parseFieldDescriptor (TX2 k).2.2.1 = some (tyX2 k) := by decide +kernel
abbrev cX2_init : ByteArray := prog_4_method_1_code
def yX2_init : MethodName := ⟨RX2, "<init>", "()V"⟩
abbrev cX2_backOf : ByteArray := prog_4_method_2_code
def yX2_backOf : MethodName := ⟨RX2, "backOf", "(I)I"⟩
abbrev cX2_thinOf : ByteArray := prog_4_method_3_code
def yX2_thinOf : MethodName := ⟨RX2, "thinOf", "(I)I"⟩
abbrev cX2_forwardOf : ByteArray := prog_4_method_4_code
def yX2_forwardOf : MethodName := ⟨RX2, "forwardOf", "(I)I"⟩
abbrev cX2_thinlyOf : ByteArray := prog_4_method_5_code
def yX2_thinlyOf : MethodName := ⟨RX2, "thinlyOf", "(I)I"⟩
abbrev cX2_followersOf : ByteArray := prog_4_method_6_code
def yX2_followersOf : MethodName := ⟨RX2, "followersOf", "(I)I"⟩
abbrev cX2_howManyCauses : ByteArray := prog_4_method_7_code
def yX2_howManyCauses : MethodName := ⟨RX2, "howManyCauses", "(I)I"⟩
abbrev cX2_kthCause : ByteArray := prog_4_method_8_code
def yX2_kthCause : MethodName := ⟨RX2, "kthCause", "(IIZ)I"⟩
abbrev cX2_shortestWay : ByteArray := prog_4_method_9_code
def yX2_shortestWay : MethodName := ⟨RX2, "shortestWay", "(II[I)I"⟩
abbrev cX2_measureWays : ByteArray := prog_4_method_10_code
def yX2_measureWays : MethodName := ⟨RX2, "measureWays", "(II)I"⟩
abbrev cX2_allThatHangOn : ByteArray := prog_4_method_11_code
def yX2_allThatHangOn : MethodName := ⟨RX2, "allThatHangOn", "(I)I"⟩
abbrev cX2_leastOf : ByteArray := prog_4_method_12_code
def yX2_leastOf : MethodName := ⟨RX2, "leastOf", "(I)I"⟩
abbrev cX2_whoseSetHolds : ByteArray := prog_4_method_13_code
def yX2_whoseSetHolds : MethodName := ⟨RX2, "whoseSetHolds", "(I[I)I"⟩
abbrev cX2_findAll : ByteArray := prog_4_method_14_code
def yX2_findAll : MethodName := ⟨RX2, "findAll", "(LSliceWhy$Program;)V"⟩
abbrev cX2_closeHanging : ByteArray := prog_4_method_15_code
def yX2_closeHanging : MethodName := ⟨RX2, "closeHanging", "()V"⟩
abbrev cX2_takeNexts : ByteArray := prog_4_method_16_code
def yX2_takeNexts : MethodName := ⟨RX2, "takeNexts", "(LSliceWhy$Program;)V"⟩
abbrev cX2_forgetHanging : ByteArray := prog_4_method_17_code
def yX2_forgetHanging : MethodName := ⟨RX2, "forgetHanging", "()V"⟩
abbrev cX2_findFollowers : ByteArray := prog_4_method_18_code
def yX2_findFollowers : MethodName := ⟨RX2, "findFollowers", "()V"⟩
abbrev cX2_endReachedWithout : ByteArray := prog_4_method_19_code
def yX2_endReachedWithout : MethodName := ⟨RX2, "endReachedWithout", "(I)I"⟩
abbrev cX2_findHangingByData : ByteArray := prog_4_method_20_code
def yX2_findHangingByData : MethodName := ⟨RX2, "findHangingByData", "(LSliceWhy$Program;I)V"⟩
abbrev cX2_settersOf : ByteArray := prog_4_method_21_code
def yX2_settersOf : MethodName := ⟨RX2, "settersOf", "(LSliceWhy$Program;I)I"⟩
abbrev cX2_findHangingByNames : ByteArray := prog_4_method_22_code
def yX2_findHangingByNames : MethodName := ⟨RX2, "findHangingByNames", "(LSliceWhy$Program;I)V"⟩
abbrev cX2_findHangingByControl : ByteArray := prog_4_method_23_code
def yX2_findHangingByControl : MethodName := ⟨RX2, "findHangingByControl", "(I)V"⟩
abbrev cX2_reachedFrom : ByteArray := prog_4_method_24_code
def yX2_reachedFrom : MethodName := ⟨RX2, "reachedFrom", "(II)I"⟩
abbrev cX2_withAllBehind : ByteArray := prog_4_method_25_code
def yX2_withAllBehind : MethodName := ⟨RX2, "withAllBehind", "(I[I)I"⟩
def RX3 : String := "SliceWhy"
def TX3 : u_T := fun k => match k with
  | 0 => ("SliceWhy", "program", "LSliceWhy$Program;", true)
  | 1 => ("SliceWhy", "reasons", "LSliceWhy$Reasons;", true)
  | 2 => ("SliceWhy", "reasonsAreOld", "Z", false)
  | 3 => ("SliceWhy", "inputs", "[I", true)
  | 4 => ("SliceWhy", "tests", "[[I", true)
  | 5 => ("SliceWhy", "testCount", "I", false)
  | 6 => ("SliceWhy", "latest", "LSliceWhy$Machine;", true)
  | 7 => ("SliceWhy", "runCount", "I", false)
  | 8 => ("SliceWhy", "wholes", "[LSliceWhy$Machine;", true)
  | 9 => ("SliceWhy", "part", "LSliceWhy$Machine;", true)
  | 10 => ("SliceWhy", "wayPlaces", "[I", true)
  | _ => ("SliceWhy", "wayLength", "I", false)
def tyX3 : Nat → FieldType := fun k => match k with
  | 0 => .object "SliceWhy$Program"
  | 1 => .object "SliceWhy$Reasons"
  | 2 => .boolean
  | 3 => .array .int
  | 4 => .array (.array .int)
  | 5 => .int
  | 6 => .object "SliceWhy$Machine"
  | 7 => .int
  | 8 => .array (.object "SliceWhy$Machine")
  | 9 => .object "SliceWhy$Machine"
  | 10 => .array .int
  | _ => .int
theorem nmX3 : ∀ a, a < 12 → ∀ b, b < 12 → a ≠ b → (TX3 a).2.1 ≠ (TX3 b).2.1 := by decide +kernel
theorem tyX3_ok : ∀ k, k < 12 → parseFieldDescriptor (TX3 k).2.2.1 = some (tyX3 k) := by decide +kernel
abbrev cX3_init : ByteArray := prog_1_method_1_code
def yX3_init : MethodName := ⟨RX3, "<init>", "()V"⟩
abbrev cX3_line : ByteArray := prog_1_method_2_code
def yX3_line : MethodName := ⟨RX3, "line", "(IIII)I"⟩
abbrev cX3_change : ByteArray := prog_1_method_3_code
def yX3_change : MethodName := ⟨RX3, "change", "(IIIII)I"⟩
abbrev cX3_drop : ByteArray := prog_1_method_4_code
def yX3_drop : MethodName := ⟨RX3, "drop", "()I"⟩
abbrev cX3_start : ByteArray := prog_1_method_5_code
def yX3_start : MethodName := ⟨RX3, "start", "(IIZ)I"⟩
abbrev cX3_points : ByteArray := prog_1_method_6_code
def yX3_points : MethodName := ⟨RX3, "points", "(II)I"⟩
abbrev cX3_input : ByteArray := prog_1_method_7_code
def yX3_input : MethodName := ⟨RX3, "input", "(II)I"⟩
abbrev cX3_run : ByteArray := prog_1_method_8_code
def yX3_run : MethodName := ⟨RX3, "run", "(II)I"⟩
abbrev cX3_seen : ByteArray := prog_1_method_9_code
def yX3_seen : MethodName := ⟨RX3, "seen", "()I"⟩
abbrev cX3_saw : ByteArray := prog_1_method_10_code
def yX3_saw : MethodName := ⟨RX3, "saw", "(I)I"⟩
abbrev cX3_left : ByteArray := prog_1_method_11_code
def yX3_left : MethodName := ⟨RX3, "left", "(I)I"⟩
abbrev cX3_slice : ByteArray := prog_1_method_12_code
def yX3_slice : MethodName := ⟨RX3, "slice", "(II)I"⟩
abbrev cX3_follows : ByteArray := prog_1_method_13_code
def yX3_follows : MethodName := ⟨RX3, "follows", "(I)I"⟩
abbrev cX3_causes : ByteArray := prog_1_method_14_code
def yX3_causes : MethodName := ⟨RX3, "causes", "(I)I"⟩
abbrev cX3_cause : ByteArray := prog_1_method_15_code
def yX3_cause : MethodName := ⟨RX3, "cause", "(III)I"⟩
abbrev cX3_chop : ByteArray := prog_1_method_16_code
def yX3_chop : MethodName := ⟨RX3, "chop", "(II)I"⟩
abbrev cX3_way : ByteArray := prog_1_method_17_code
def yX3_way : MethodName := ⟨RX3, "way", "(II)I"⟩
abbrev cX3_on : ByteArray := prog_1_method_18_code
def yX3_on : MethodName := ⟨RX3, "on", "(I)I"⟩
abbrev cX3_same : ByteArray := prog_1_method_19_code
def yX3_same : MethodName := ⟨RX3, "same", "(I)I"⟩
abbrev cX3_test : ByteArray := prog_1_method_20_code
def yX3_test : MethodName := ⟨RX3, "test", "()I"⟩
abbrev cX3_untest : ByteArray := prog_1_method_21_code
def yX3_untest : MethodName := ⟨RX3, "untest", "()I"⟩
abbrev cX3_least : ByteArray := prog_1_method_22_code
def yX3_least : MethodName := ⟨RX3, "least", "(I)I"⟩
abbrev cX3_count : ByteArray := prog_1_method_23_code
def yX3_count : MethodName := ⟨RX3, "count", "(I)I"⟩
abbrev cX3_reasonsNow : ByteArray := prog_1_method_24_code
def yX3_reasonsNow : MethodName := ⟨RX3, "reasonsNow", "()LSliceWhy$Reasons;"⟩
abbrev cX3_wholeIsSpentInATest : ByteArray := prog_1_method_25_code
def yX3_wholeIsSpentInATest : MethodName := ⟨RX3, "wholeIsSpentInATest", "(I)Z"⟩
abbrev cX3_withoutNeedless : ByteArray := prog_1_method_26_code
def yX3_withoutNeedless : MethodName := ⟨RX3, "withoutNeedless", "(II)I"⟩
abbrev cX3_testsAgree : ByteArray := prog_1_method_27_code
def yX3_testsAgree : MethodName := ⟨RX3, "testsAgree", "(II)Z"⟩
abbrev cX3_holds : ByteArray := prog_1_method_28_code
def yX3_holds : MethodName := ⟨RX3, "holds", "(II)Z"⟩
def RX4 : String := "SliceWhyModel"
def TX4 : u_T := fun k => match k with
  | 0 => ("SliceWhyModel", "places", "I", false)
  | 1 => ("SliceWhyModel", "kinds", "[I", true)
  | 2 => ("SliceWhyModel", "as", "[I", true)
  | 3 => ("SliceWhyModel", "bs", "[I", true)
  | 4 => ("SliceWhyModel", "cs", "[I", true)
  | 5 => ("SliceWhyModel", "inputs", "[I", true)
  | 6 => ("SliceWhyModel", "starts", "[I", true)
  | 7 => ("SliceWhyModel", "failing", "[Z", true)
  | 8 => ("SliceWhyModel", "maybe", "[I", true)
  | 9 => ("SliceWhyModel", "tests", "I", false)
  | 10 => ("SliceWhyModel", "tested", "[I", true)
  | 11 => ("SliceWhyModel", "runs", "I", false)
  | 12 => ("SliceWhyModel", "seen", "I", false)
  | 13 => ("SliceWhyModel", "saw", "[I", true)
  | 14 => ("SliceWhyModel", "steps", "I", false)
  | 15 => ("SliceWhyModel", "failedAt", "I", false)
  | 16 => ("SliceWhyModel", "registers", "[I", true)
  | 17 => ("SliceWhyModel", "onWay", "I", false)
  | 18 => ("SliceWhyModel", "wayAt", "[I", true)
  | 19 => ("SliceWhyModel", "behind", "[I", true)
  | 20 => ("SliceWhyModel", "fat", "[I", true)
  | 21 => ("SliceWhyModel", "slim", "[I", true)
  | 22 => ("SliceWhyModel", "isLooked", "Z", false)
  | 23 => ("SliceWhyModel", "far", "[I", true)
  | 24 => ("SliceWhyModel", "\x72", "[I", true)
  | 25 => ("SliceWhyModel", "items", "[I", true)
  | 26 => ("SliceWhyModel", "globals", "[I", true)
  | 27 => ("SliceWhyModel", "rowOf", "[I", true)
  | 28 => ("SliceWhyModel", "done", "I", false)
  | 29 => ("SliceWhyModel", "wrongAt", "I", false)
  | 30 => ("SliceWhyModel", "looks", "I", false)
  | 31 => ("SliceWhyModel", "looked", "[I", true)
  | 32 => ("SliceWhyModel", "tells", "I", false)
  | 33 => ("SliceWhyModel", "dueMany", "I", false)
  | _ => ("SliceWhyModel", "due", "[I", true)
def tyX4 : Nat → FieldType := fun k => match k with
  | 0 => .int
  | 1 => .array .int
  | 2 => .array .int
  | 3 => .array .int
  | 4 => .array .int
  | 5 => .array .int
  | 6 => .array .int
  | 7 => .array .boolean
  | 8 => .array .int
  | 9 => .int
  | 10 => .array .int
  | 11 => .int
  | 12 => .int
  | 13 => .array .int
  | 14 => .int
  | 15 => .int
  | 16 => .array .int
  | 17 => .int
  | 18 => .array .int
  | 19 => .array .int
  | 20 => .array .int
  | 21 => .array .int
  | 22 => .boolean
  | 23 => .array .int
  | 24 => .array .int
  | 25 => .array .int
  | 26 => .array .int
  | 27 => .array .int
  | 28 => .int
  | 29 => .int
  | 30 => .int
  | 31 => .array .int
  | 32 => .int
  | 33 => .int
  | _ => .array .int
theorem nmX4 : ∀ a, a < 35 → ∀ b, b < 35 → a ≠ b → (TX4 a).2.1 ≠ (TX4 b).2.1 := by decide +kernel
theorem tyX4_ok : ∀ k, k < 35 → parseFieldDescriptor (TX4 k).2.2.1 = some (tyX4 k) := by decide +kernel
abbrev cX4_init : ByteArray := prog_6_method_1_code
def yX4_init : MethodName := ⟨RX4, "<init>", "()V"⟩
abbrev cX4_in : ByteArray := prog_6_method_2_code
def yX4_in : MethodName := ⟨RX4, "in", "(JJJ)Z"⟩
abbrev cX4_isPlace : ByteArray := prog_6_method_3_code
def yX4_isPlace : MethodName := ⟨RX4, "isPlace", "(I)Z"⟩
abbrev cX4_isRegister : ByteArray := prog_6_method_4_code
def yX4_isRegister : MethodName := ⟨RX4, "isRegister", "(I)Z"⟩
abbrev cX4_fits : ByteArray := prog_6_method_5_code
def yX4_fits : MethodName := ⟨RX4, "fits", "(IIII)Z"⟩
abbrev cX4_write : ByteArray := prog_6_method_6_code
def yX4_write : MethodName := ⟨RX4, "write", "(IIIII)V"⟩
abbrev cX4_line : ByteArray := prog_6_method_7_code
def yX4_line : MethodName := ⟨RX4, "line", "(IIII)I"⟩
abbrev cX4_change : ByteArray := prog_6_method_8_code
def yX4_change : MethodName := ⟨RX4, "change", "(IIIII)I"⟩
abbrev cX4_drop : ByteArray := prog_6_method_9_code
def yX4_drop : MethodName := ⟨RX4, "drop", "()I"⟩
abbrev cX4_start : ByteArray := prog_6_method_10_code
def yX4_start : MethodName := ⟨RX4, "start", "(IIZ)I"⟩
abbrev cX4_points : ByteArray := prog_6_method_11_code
def yX4_points : MethodName := ⟨RX4, "points", "(II)I"⟩
abbrev cX4_input : ByteArray := prog_6_method_12_code
def yX4_input : MethodName := ⟨RX4, "input", "(II)I"⟩
abbrev cX4_place : ByteArray := prog_6_method_13_code
def yX4_place : MethodName := ⟨RX4, "place", "(I)I"⟩
abbrev cX4_canFail : ByteArray := prog_6_method_14_code
def yX4_canFail : MethodName := ⟨RX4, "canFail", "(I)Z"⟩
abbrev cX4_nexts : ByteArray := prog_6_method_15_code
def yX4_nexts : MethodName := ⟨RX4, "nexts", "(IZ)I"⟩
abbrev cX4_reach : ByteArray := prog_6_method_16_code
def yX4_reach : MethodName := ⟨RX4, "reach", "(IIZ)I"⟩
abbrev cX4_followers : ByteArray := prog_6_method_17_code
def yX4_followers : MethodName := ⟨RX4, "followers", "(I)I"⟩
abbrev cX4_follows : ByteArray := prog_6_method_18_code
def yX4_follows : MethodName := ⟨RX4, "follows", "(I)I"⟩
abbrev cX4_sets : ByteArray := prog_6_method_19_code
def yX4_sets : MethodName := ⟨RX4, "sets", "(I)I"⟩
abbrev cX4_reads : ByteArray := prog_6_method_20_code
def yX4_reads : MethodName := ⟨RX4, "reads", "(IZ)I"⟩
abbrev cX4_sources : ByteArray := prog_6_method_21_code
def yX4_sources : MethodName := ⟨RX4, "sources", "(II)I"⟩
abbrev cX4_setsIt : ByteArray := prog_6_method_22_code
def yX4_setsIt : MethodName := ⟨RX4, "setsIt", "(II)Z"⟩
abbrev cX4_settersOf : ByteArray := prog_6_method_23_code
def yX4_settersOf : MethodName := ⟨RX4, "settersOf", "(II)I"⟩
abbrev cX4_hangs : ByteArray := prog_6_method_24_code
def yX4_hangs : MethodName := ⟨RX4, "hangs", "(IIZ)I"⟩
abbrev cX4_controls : ByteArray := prog_6_method_25_code
def yX4_controls : MethodName := ⟨RX4, "controls", "(I)I"⟩
abbrev cX4_look : ByteArray := prog_6_method_26_code
def yX4_look : MethodName := ⟨RX4, "look", "()V"⟩
abbrev cX4_on : ByteArray := prog_6_method_27_code
def yX4_on : MethodName := ⟨RX4, "on", "(IZ)I"⟩
abbrev cX4_back : ByteArray := prog_6_method_28_code
def yX4_back : MethodName := ⟨RX4, "back", "(IZ)I"⟩
abbrev cX4_forward : ByteArray := prog_6_method_29_code
def yX4_forward : MethodName := ⟨RX4, "forward", "(IZ)I"⟩
abbrev cX4_slice : ByteArray := prog_6_method_30_code
def yX4_slice : MethodName := ⟨RX4, "slice", "(II)I"⟩
abbrev cX4_causes : ByteArray := prog_6_method_31_code
def yX4_causes : MethodName := ⟨RX4, "causes", "(I)I"⟩
abbrev cX4_cause : ByteArray := prog_6_method_32_code
def yX4_cause : MethodName := ⟨RX4, "cause", "(III)I"⟩
abbrev cX4_chop : ByteArray := prog_6_method_33_code
def yX4_chop : MethodName := ⟨RX4, "chop", "(II)I"⟩
abbrev cX4_way : ByteArray := prog_6_method_34_code
def yX4_way : MethodName := ⟨RX4, "way", "(II)I"⟩
abbrev cX4_on_ : ByteArray := prog_6_method_35_code
def yX4_on_ : MethodName := ⟨RX4, "on", "(I)I"⟩
abbrev cX4_many : ByteArray := prog_6_method_36_code
def yX4_many : MethodName := ⟨RX4, "many", "(I)I"⟩
abbrev cX4_begin : ByteArray := prog_6_method_37_code
def yX4_begin : MethodName := ⟨RX4, "begin", "([II)V"⟩
abbrev cX4_does : ByteArray := prog_6_method_38_code
def yX4_does : MethodName := ⟨RX4, "does", "(I[II)Z"⟩
abbrev cX4_go : ByteArray := prog_6_method_39_code
def yX4_go : MethodName := ⟨RX4, "go", "(II[II)I"⟩
abbrev cX4_run : ByteArray := prog_6_method_40_code
def yX4_run : MethodName := ⟨RX4, "run", "(II)I"⟩
abbrev cX4_seen : ByteArray := prog_6_method_41_code
def yX4_seen : MethodName := ⟨RX4, "seen", "()I"⟩
abbrev cX4_saw : ByteArray := prog_6_method_42_code
def yX4_saw : MethodName := ⟨RX4, "saw", "(I)I"⟩
abbrev cX4_left : ByteArray := prog_6_method_43_code
def yX4_left : MethodName := ⟨RX4, "left", "(I)I"⟩
abbrev cX4_whole : ByteArray := prog_6_method_44_code
def yX4_whole : MethodName := ⟨RX4, "whole", "(I[II)I"⟩
abbrev cX4_isSame : ByteArray := prog_6_method_45_code
def yX4_isSame : MethodName := ⟨RX4, "isSame", "()Z"⟩
abbrev cX4_same : ByteArray := prog_6_method_46_code
def yX4_same : MethodName := ⟨RX4, "same", "(I)I"⟩
abbrev cX4_test : ByteArray := prog_6_method_47_code
def yX4_test : MethodName := ⟨RX4, "test", "()I"⟩
abbrev cX4_untest : ByteArray := prog_6_method_48_code
def yX4_untest : MethodName := ⟨RX4, "untest", "()I"⟩
abbrev cX4_agrees : ByteArray := prog_6_method_49_code
def yX4_agrees : MethodName := ⟨RX4, "agrees", "(II)Z"⟩
abbrev cX4_least : ByteArray := prog_6_method_50_code
def yX4_least : MethodName := ⟨RX4, "least", "(I)I"⟩
abbrev cX4_count : ByteArray := prog_6_method_51_code
def yX4_count : MethodName := ⟨RX4, "count", "(I)I"⟩
def RJ6 : String := "java/lang/Integer"
def TJ6 : u_T := fun k => match k with
  | _ => ("", "", "", false)
def tyJ6 : Nat → FieldType := fun k => match k with
  | _ => .int
theorem nmJ6 : ∀ a, a < 0 → ∀ b, b < 0 → a ≠ b → (TJ6 a).2.1 ≠ (TJ6 b).2.1 := by decide +kernel
theorem tyJ6_ok : ∀ k, k < 0 → parseFieldDescriptor (TJ6 k).2.2.1 = some (tyJ6 k) := by decide +kernel
abbrev cJ6_bitCount_0f7a4 : ByteArray := prog_7_method_49_code
def yJ6_bitCount_0f7a4 : MethodName := ⟨RJ6, "bitCount", "(I)I"⟩
def RJ10 : String := "java/lang/System"
def TJ10 : u_T := fun k => match k with
  | _ => ("", "", "", false)
def tyJ10 : Nat → FieldType := fun k => match k with
  | _ => .int
theorem nmJ10 : ∀ a, a < 0 → ∀ b, b < 0 → a ≠ b → (TJ10 a).2.1 ≠ (TJ10 b).2.1 := by decide +kernel
theorem tyJ10_ok : ∀ k, k < 0 → parseFieldDescriptor (TJ10 k).2.2.1 = some (tyJ10 k) := by decide +kernel
def RL : String := "SliceWhyLaw"
abbrev cL_law : ByteArray := code
def yL_law : MethodName := ⟨RL, "law", "([I)Z"⟩
abbrev vwCl : List vw_C := [(RX0, TX0, 9), (RX1, TX1, 8), (RX2, TX2, 10), (RX3, TX3, 12), (RX4, TX4, 35)]
end
section
theorem dJ6_bitCount_0f7a4_0 : decode cJ6_bitCount_0f7a4 0 = .ok (.iload_n 0, 1) := by decide +kernel
theorem dJ6_bitCount_0f7a4_1 : decode cJ6_bitCount_0f7a4 1 = .ok (.iload_n 0, 1) := by decide +kernel
theorem dJ6_bitCount_0f7a4_2 : decode cJ6_bitCount_0f7a4 2 = .ok (.iconst 1, 1) := by decide +kernel
theorem dJ6_bitCount_0f7a4_3 : decode cJ6_bitCount_0f7a4 3 = .ok (.iushr, 1) := by decide +kernel
theorem dJ6_bitCount_0f7a4_4 : decode cJ6_bitCount_0f7a4 4 = .ok (.ldc_w 265, 3) := by decide +kernel
theorem dJ6_bitCount_0f7a4_7 : decode cJ6_bitCount_0f7a4 7 = .ok (.iand, 1) := by decide +kernel
theorem dJ6_bitCount_0f7a4_8 : decode cJ6_bitCount_0f7a4 8 = .ok (.isub, 1) := by decide +kernel
theorem dJ6_bitCount_0f7a4_9 : decode cJ6_bitCount_0f7a4 9 = .ok (.istore_n 0, 1) := by decide +kernel
theorem dJ6_bitCount_0f7a4_10 : decode cJ6_bitCount_0f7a4 10 = .ok (.iload_n 0, 1) := by decide +kernel
theorem dJ6_bitCount_0f7a4_11 : decode cJ6_bitCount_0f7a4 11 = .ok (.ldc_w 266, 3) := by decide +kernel
theorem dJ6_bitCount_0f7a4_14 : decode cJ6_bitCount_0f7a4 14 = .ok (.iand, 1) := by decide +kernel
theorem dJ6_bitCount_0f7a4_15 : decode cJ6_bitCount_0f7a4 15 = .ok (.iload_n 0, 1) := by decide +kernel
theorem dJ6_bitCount_0f7a4_16 : decode cJ6_bitCount_0f7a4 16 = .ok (.iconst 2, 1) := by decide +kernel
theorem dJ6_bitCount_0f7a4_17 : decode cJ6_bitCount_0f7a4 17 = .ok (.iushr, 1) := by decide +kernel
theorem dJ6_bitCount_0f7a4_18 : decode cJ6_bitCount_0f7a4 18 = .ok (.ldc_w 266, 3) := by decide +kernel
theorem dJ6_bitCount_0f7a4_21 : decode cJ6_bitCount_0f7a4 21 = .ok (.iand, 1) := by decide +kernel
theorem dJ6_bitCount_0f7a4_22 : decode cJ6_bitCount_0f7a4 22 = .ok (.iadd, 1) := by decide +kernel
theorem dJ6_bitCount_0f7a4_23 : decode cJ6_bitCount_0f7a4 23 = .ok (.istore_n 0, 1) := by decide +kernel
theorem dJ6_bitCount_0f7a4_24 : decode cJ6_bitCount_0f7a4 24 = .ok (.iload_n 0, 1) := by decide +kernel
theorem dJ6_bitCount_0f7a4_25 : decode cJ6_bitCount_0f7a4 25 = .ok (.iload_n 0, 1) := by decide +kernel
theorem dJ6_bitCount_0f7a4_26 : decode cJ6_bitCount_0f7a4 26 = .ok (.iconst 4, 1) := by decide +kernel
theorem dJ6_bitCount_0f7a4_27 : decode cJ6_bitCount_0f7a4 27 = .ok (.iushr, 1) := by decide +kernel
theorem dJ6_bitCount_0f7a4_28 : decode cJ6_bitCount_0f7a4 28 = .ok (.iadd, 1) := by decide +kernel
theorem dJ6_bitCount_0f7a4_29 : decode cJ6_bitCount_0f7a4 29 = .ok (.ldc_w 267, 3) := by decide +kernel
theorem dJ6_bitCount_0f7a4_32 : decode cJ6_bitCount_0f7a4 32 = .ok (.iand, 1) := by decide +kernel
theorem dJ6_bitCount_0f7a4_33 : decode cJ6_bitCount_0f7a4 33 = .ok (.istore_n 0, 1) := by decide +kernel
theorem dJ6_bitCount_0f7a4_34 : decode cJ6_bitCount_0f7a4 34 = .ok (.iload_n 0, 1) := by decide +kernel
theorem dJ6_bitCount_0f7a4_35 : decode cJ6_bitCount_0f7a4 35 = .ok (.iload_n 0, 1) := by decide +kernel
theorem dJ6_bitCount_0f7a4_36 : decode cJ6_bitCount_0f7a4 36 = .ok (.bipush 8, 2) := by decide +kernel
theorem dJ6_bitCount_0f7a4_38 : decode cJ6_bitCount_0f7a4 38 = .ok (.iushr, 1) := by decide +kernel
theorem dJ6_bitCount_0f7a4_39 : decode cJ6_bitCount_0f7a4 39 = .ok (.iadd, 1) := by decide +kernel
theorem dJ6_bitCount_0f7a4_40 : decode cJ6_bitCount_0f7a4 40 = .ok (.istore_n 0, 1) := by decide +kernel
theorem dJ6_bitCount_0f7a4_41 : decode cJ6_bitCount_0f7a4 41 = .ok (.iload_n 0, 1) := by decide +kernel
theorem dJ6_bitCount_0f7a4_42 : decode cJ6_bitCount_0f7a4 42 = .ok (.iload_n 0, 1) := by decide +kernel
theorem dJ6_bitCount_0f7a4_43 : decode cJ6_bitCount_0f7a4 43 = .ok (.bipush 16, 2) := by decide +kernel
theorem dJ6_bitCount_0f7a4_45 : decode cJ6_bitCount_0f7a4 45 = .ok (.iushr, 1) := by decide +kernel
theorem dJ6_bitCount_0f7a4_46 : decode cJ6_bitCount_0f7a4 46 = .ok (.iadd, 1) := by decide +kernel
theorem dJ6_bitCount_0f7a4_47 : decode cJ6_bitCount_0f7a4 47 = .ok (.istore_n 0, 1) := by decide +kernel
theorem dJ6_bitCount_0f7a4_48 : decode cJ6_bitCount_0f7a4 48 = .ok (.iload_n 0, 1) := by decide +kernel
theorem dJ6_bitCount_0f7a4_49 : decode cJ6_bitCount_0f7a4 49 = .ok (.bipush 63, 2) := by decide +kernel
theorem dJ6_bitCount_0f7a4_51 : decode cJ6_bitCount_0f7a4 51 = .ok (.iand, 1) := by decide +kernel
theorem dJ6_bitCount_0f7a4_52 : decode cJ6_bitCount_0f7a4 52 = .ok (.ireturn, 1) := by decide +kernel
end
section
theorem dL_law_0 : decode cL_law 0 = .ok (.new 7, 3) := by decide +kernel
theorem dL_law_3 : decode cL_law 3 = .ok (.dup, 1) := by decide +kernel
theorem dL_law_4 : decode cL_law 4 = .ok (.invokespecial 9, 3) := by decide +kernel
theorem dL_law_7 : decode cL_law 7 = .ok (.astore_n 1, 1) := by decide +kernel
theorem dL_law_8 : decode cL_law 8 = .ok (.new 10, 3) := by decide +kernel
theorem dL_law_11 : decode cL_law 11 = .ok (.dup, 1) := by decide +kernel
theorem dL_law_12 : decode cL_law 12 = .ok (.invokespecial 12, 3) := by decide +kernel
theorem dL_law_15 : decode cL_law 15 = .ok (.astore_n 2, 1) := by decide +kernel
theorem dL_law_16 : decode cL_law 16 = .ok (.iconst 0, 1) := by decide +kernel
theorem dL_law_17 : decode cL_law 17 = .ok (.istore_n 3, 1) := by decide +kernel
theorem dL_law_18 : decode cL_law 18 = .ok (.iload_n 3, 1) := by decide +kernel
theorem dL_law_19 : decode cL_law 19 = .ok (.aload_n 0, 1) := by decide +kernel
theorem dL_law_20 : decode cL_law 20 = .ok (.arraylength, 1) := by decide +kernel
theorem dL_law_21 : decode cL_law 21 = .ok (.bipush 6, 2) := by decide +kernel
theorem dL_law_23 : decode cL_law 23 = .ok (.isub, 1) := by decide +kernel
theorem dL_law_24 : decode cL_law 24 = .ok (.if_icmp .gt 770, 3) := by decide +kernel
theorem dL_law_27 : decode cL_law 27 = .ok (.aload_n 0, 1) := by decide +kernel
theorem dL_law_28 : decode cL_law 28 = .ok (.iload_n 3, 1) := by decide +kernel
theorem dL_law_29 : decode cL_law 29 = .ok (.iaload, 1) := by decide +kernel
theorem dL_law_30 : decode cL_law 30 = .ok (.bipush 31, 2) := by decide +kernel
theorem dL_law_32 : decode cL_law 32 = .ok (.iand, 1) := by decide +kernel
theorem dL_law_33 : decode cL_law 33 = .ok (.tableswitch 755 0 21 #[103, 156, 219, 232, 291, 324, 357, 390, 403, 426, 449, 482, 505, 528, 571, 604, 637, 660, 683, 696, 709, 732], 103) := by decide +kernel
theorem dL_law_136 : decode cL_law 136 = .ok (.aload_n 1, 1) := by decide +kernel
theorem dL_law_137 : decode cL_law 137 = .ok (.aload_n 0, 1) := by decide +kernel
theorem dL_law_138 : decode cL_law 138 = .ok (.iload_n 3, 1) := by decide +kernel
theorem dL_law_139 : decode cL_law 139 = .ok (.iconst 1, 1) := by decide +kernel
theorem dL_law_140 : decode cL_law 140 = .ok (.iadd, 1) := by decide +kernel
theorem dL_law_141 : decode cL_law 141 = .ok (.iaload, 1) := by decide +kernel
theorem dL_law_142 : decode cL_law 142 = .ok (.aload_n 0, 1) := by decide +kernel
theorem dL_law_143 : decode cL_law 143 = .ok (.iload_n 3, 1) := by decide +kernel
theorem dL_law_144 : decode cL_law 144 = .ok (.iconst 2, 1) := by decide +kernel
theorem dL_law_145 : decode cL_law 145 = .ok (.iadd, 1) := by decide +kernel
theorem dL_law_146 : decode cL_law 146 = .ok (.iaload, 1) := by decide +kernel
theorem dL_law_147 : decode cL_law 147 = .ok (.aload_n 0, 1) := by decide +kernel
theorem dL_law_148 : decode cL_law 148 = .ok (.iload_n 3, 1) := by decide +kernel
theorem dL_law_149 : decode cL_law 149 = .ok (.iconst 3, 1) := by decide +kernel
theorem dL_law_150 : decode cL_law 150 = .ok (.iadd, 1) := by decide +kernel
theorem dL_law_151 : decode cL_law 151 = .ok (.iaload, 1) := by decide +kernel
theorem dL_law_152 : decode cL_law 152 = .ok (.aload_n 0, 1) := by decide +kernel
theorem dL_law_153 : decode cL_law 153 = .ok (.iload_n 3, 1) := by decide +kernel
theorem dL_law_154 : decode cL_law 154 = .ok (.iconst 4, 1) := by decide +kernel
theorem dL_law_155 : decode cL_law 155 = .ok (.iadd, 1) := by decide +kernel
theorem dL_law_156 : decode cL_law 156 = .ok (.iaload, 1) := by decide +kernel
theorem dL_law_157 : decode cL_law 157 = .ok (.invokevirtual 13, 3) := by decide +kernel
theorem dL_law_160 : decode cL_law 160 = .ok (.aload_n 2, 1) := by decide +kernel
theorem dL_law_161 : decode cL_law 161 = .ok (.aload_n 0, 1) := by decide +kernel
theorem dL_law_162 : decode cL_law 162 = .ok (.iload_n 3, 1) := by decide +kernel
theorem dL_law_163 : decode cL_law 163 = .ok (.iconst 1, 1) := by decide +kernel
theorem dL_law_164 : decode cL_law 164 = .ok (.iadd, 1) := by decide +kernel
theorem dL_law_165 : decode cL_law 165 = .ok (.iaload, 1) := by decide +kernel
theorem dL_law_166 : decode cL_law 166 = .ok (.aload_n 0, 1) := by decide +kernel
theorem dL_law_167 : decode cL_law 167 = .ok (.iload_n 3, 1) := by decide +kernel
theorem dL_law_168 : decode cL_law 168 = .ok (.iconst 2, 1) := by decide +kernel
theorem dL_law_169 : decode cL_law 169 = .ok (.iadd, 1) := by decide +kernel
theorem dL_law_170 : decode cL_law 170 = .ok (.iaload, 1) := by decide +kernel
theorem dL_law_171 : decode cL_law 171 = .ok (.aload_n 0, 1) := by decide +kernel
theorem dL_law_172 : decode cL_law 172 = .ok (.iload_n 3, 1) := by decide +kernel
theorem dL_law_173 : decode cL_law 173 = .ok (.iconst 3, 1) := by decide +kernel
theorem dL_law_174 : decode cL_law 174 = .ok (.iadd, 1) := by decide +kernel
theorem dL_law_175 : decode cL_law 175 = .ok (.iaload, 1) := by decide +kernel
theorem dL_law_176 : decode cL_law 176 = .ok (.aload_n 0, 1) := by decide +kernel
theorem dL_law_177 : decode cL_law 177 = .ok (.iload_n 3, 1) := by decide +kernel
theorem dL_law_178 : decode cL_law 178 = .ok (.iconst 4, 1) := by decide +kernel
theorem dL_law_179 : decode cL_law 179 = .ok (.iadd, 1) := by decide +kernel
theorem dL_law_180 : decode cL_law 180 = .ok (.iaload, 1) := by decide +kernel
theorem dL_law_181 : decode cL_law 181 = .ok (.invokevirtual 17, 3) := by decide +kernel
theorem dL_law_184 : decode cL_law 184 = .ok (.if_icmp .eq 604, 3) := by decide +kernel
theorem dL_law_187 : decode cL_law 187 = .ok (.iconst 0, 1) := by decide +kernel
theorem dL_law_188 : decode cL_law 188 = .ok (.ireturn, 1) := by decide +kernel
theorem dL_law_189 : decode cL_law 189 = .ok (.aload_n 1, 1) := by decide +kernel
theorem dL_law_190 : decode cL_law 190 = .ok (.aload_n 0, 1) := by decide +kernel
theorem dL_law_191 : decode cL_law 191 = .ok (.iload_n 3, 1) := by decide +kernel
theorem dL_law_192 : decode cL_law 192 = .ok (.iconst 1, 1) := by decide +kernel
theorem dL_law_193 : decode cL_law 193 = .ok (.iadd, 1) := by decide +kernel
theorem dL_law_194 : decode cL_law 194 = .ok (.iaload, 1) := by decide +kernel
theorem dL_law_195 : decode cL_law 195 = .ok (.aload_n 0, 1) := by decide +kernel
theorem dL_law_196 : decode cL_law 196 = .ok (.iload_n 3, 1) := by decide +kernel
theorem dL_law_197 : decode cL_law 197 = .ok (.iconst 2, 1) := by decide +kernel
theorem dL_law_198 : decode cL_law 198 = .ok (.iadd, 1) := by decide +kernel
theorem dL_law_199 : decode cL_law 199 = .ok (.iaload, 1) := by decide +kernel
theorem dL_law_200 : decode cL_law 200 = .ok (.aload_n 0, 1) := by decide +kernel
theorem dL_law_201 : decode cL_law 201 = .ok (.iload_n 3, 1) := by decide +kernel
theorem dL_law_202 : decode cL_law 202 = .ok (.iconst 3, 1) := by decide +kernel
theorem dL_law_203 : decode cL_law 203 = .ok (.iadd, 1) := by decide +kernel
theorem dL_law_204 : decode cL_law 204 = .ok (.iaload, 1) := by decide +kernel
theorem dL_law_205 : decode cL_law 205 = .ok (.aload_n 0, 1) := by decide +kernel
theorem dL_law_206 : decode cL_law 206 = .ok (.iload_n 3, 1) := by decide +kernel
theorem dL_law_207 : decode cL_law 207 = .ok (.iconst 4, 1) := by decide +kernel
theorem dL_law_208 : decode cL_law 208 = .ok (.iadd, 1) := by decide +kernel
theorem dL_law_209 : decode cL_law 209 = .ok (.iaload, 1) := by decide +kernel
theorem dL_law_210 : decode cL_law 210 = .ok (.aload_n 0, 1) := by decide +kernel
theorem dL_law_211 : decode cL_law 211 = .ok (.iload_n 3, 1) := by decide +kernel
theorem dL_law_212 : decode cL_law 212 = .ok (.iconst 5, 1) := by decide +kernel
theorem dL_law_213 : decode cL_law 213 = .ok (.iadd, 1) := by decide +kernel
theorem dL_law_214 : decode cL_law 214 = .ok (.iaload, 1) := by decide +kernel
theorem dL_law_215 : decode cL_law 215 = .ok (.invokevirtual 18, 3) := by decide +kernel
theorem dL_law_218 : decode cL_law 218 = .ok (.aload_n 2, 1) := by decide +kernel
theorem dL_law_219 : decode cL_law 219 = .ok (.aload_n 0, 1) := by decide +kernel
theorem dL_law_220 : decode cL_law 220 = .ok (.iload_n 3, 1) := by decide +kernel
theorem dL_law_221 : decode cL_law 221 = .ok (.iconst 1, 1) := by decide +kernel
theorem dL_law_222 : decode cL_law 222 = .ok (.iadd, 1) := by decide +kernel
theorem dL_law_223 : decode cL_law 223 = .ok (.iaload, 1) := by decide +kernel
theorem dL_law_224 : decode cL_law 224 = .ok (.aload_n 0, 1) := by decide +kernel
theorem dL_law_225 : decode cL_law 225 = .ok (.iload_n 3, 1) := by decide +kernel
theorem dL_law_226 : decode cL_law 226 = .ok (.iconst 2, 1) := by decide +kernel
theorem dL_law_227 : decode cL_law 227 = .ok (.iadd, 1) := by decide +kernel
theorem dL_law_228 : decode cL_law 228 = .ok (.iaload, 1) := by decide +kernel
theorem dL_law_229 : decode cL_law 229 = .ok (.aload_n 0, 1) := by decide +kernel
theorem dL_law_230 : decode cL_law 230 = .ok (.iload_n 3, 1) := by decide +kernel
theorem dL_law_231 : decode cL_law 231 = .ok (.iconst 3, 1) := by decide +kernel
theorem dL_law_232 : decode cL_law 232 = .ok (.iadd, 1) := by decide +kernel
theorem dL_law_233 : decode cL_law 233 = .ok (.iaload, 1) := by decide +kernel
theorem dL_law_234 : decode cL_law 234 = .ok (.aload_n 0, 1) := by decide +kernel
theorem dL_law_235 : decode cL_law 235 = .ok (.iload_n 3, 1) := by decide +kernel
theorem dL_law_236 : decode cL_law 236 = .ok (.iconst 4, 1) := by decide +kernel
theorem dL_law_237 : decode cL_law 237 = .ok (.iadd, 1) := by decide +kernel
theorem dL_law_238 : decode cL_law 238 = .ok (.iaload, 1) := by decide +kernel
theorem dL_law_239 : decode cL_law 239 = .ok (.aload_n 0, 1) := by decide +kernel
theorem dL_law_240 : decode cL_law 240 = .ok (.iload_n 3, 1) := by decide +kernel
theorem dL_law_241 : decode cL_law 241 = .ok (.iconst 5, 1) := by decide +kernel
theorem dL_law_242 : decode cL_law 242 = .ok (.iadd, 1) := by decide +kernel
theorem dL_law_243 : decode cL_law 243 = .ok (.iaload, 1) := by decide +kernel
theorem dL_law_244 : decode cL_law 244 = .ok (.invokevirtual 22, 3) := by decide +kernel
theorem dL_law_247 : decode cL_law 247 = .ok (.if_icmp .eq 541, 3) := by decide +kernel
theorem dL_law_250 : decode cL_law 250 = .ok (.iconst 0, 1) := by decide +kernel
theorem dL_law_251 : decode cL_law 251 = .ok (.ireturn, 1) := by decide +kernel
theorem dL_law_252 : decode cL_law 252 = .ok (.aload_n 1, 1) := by decide +kernel
theorem dL_law_253 : decode cL_law 253 = .ok (.invokevirtual 23, 3) := by decide +kernel
theorem dL_law_256 : decode cL_law 256 = .ok (.aload_n 2, 1) := by decide +kernel
theorem dL_law_257 : decode cL_law 257 = .ok (.invokevirtual 27, 3) := by decide +kernel
theorem dL_law_260 : decode cL_law 260 = .ok (.if_icmp .eq 528, 3) := by decide +kernel
theorem dL_law_263 : decode cL_law 263 = .ok (.iconst 0, 1) := by decide +kernel
theorem dL_law_264 : decode cL_law 264 = .ok (.ireturn, 1) := by decide +kernel
theorem dL_law_265 : decode cL_law 265 = .ok (.aload_n 1, 1) := by decide +kernel
theorem dL_law_266 : decode cL_law 266 = .ok (.aload_n 0, 1) := by decide +kernel
theorem dL_law_267 : decode cL_law 267 = .ok (.iload_n 3, 1) := by decide +kernel
theorem dL_law_268 : decode cL_law 268 = .ok (.iconst 1, 1) := by decide +kernel
theorem dL_law_269 : decode cL_law 269 = .ok (.iadd, 1) := by decide +kernel
theorem dL_law_270 : decode cL_law 270 = .ok (.iaload, 1) := by decide +kernel
theorem dL_law_271 : decode cL_law 271 = .ok (.aload_n 0, 1) := by decide +kernel
theorem dL_law_272 : decode cL_law 272 = .ok (.iload_n 3, 1) := by decide +kernel
theorem dL_law_273 : decode cL_law 273 = .ok (.iconst 2, 1) := by decide +kernel
theorem dL_law_274 : decode cL_law 274 = .ok (.iadd, 1) := by decide +kernel
theorem dL_law_275 : decode cL_law 275 = .ok (.iaload, 1) := by decide +kernel
theorem dL_law_276 : decode cL_law 276 = .ok (.aload_n 0, 1) := by decide +kernel
theorem dL_law_277 : decode cL_law 277 = .ok (.iload_n 3, 1) := by decide +kernel
theorem dL_law_278 : decode cL_law 278 = .ok (.iconst 3, 1) := by decide +kernel
theorem dL_law_279 : decode cL_law 279 = .ok (.iadd, 1) := by decide +kernel
theorem dL_law_280 : decode cL_law 280 = .ok (.iaload, 1) := by decide +kernel
theorem dL_law_281 : decode cL_law 281 = .ok (.ifCond .eq 7, 3) := by decide +kernel
theorem dL_law_284 : decode cL_law 284 = .ok (.iconst 1, 1) := by decide +kernel
theorem dL_law_285 : decode cL_law 285 = .ok (.goto 4, 3) := by decide +kernel
theorem dL_law_288 : decode cL_law 288 = .ok (.iconst 0, 1) := by decide +kernel
theorem dL_law_289 : decode cL_law 289 = .ok (.invokevirtual 28, 3) := by decide +kernel
theorem dL_law_292 : decode cL_law 292 = .ok (.aload_n 2, 1) := by decide +kernel
theorem dL_law_293 : decode cL_law 293 = .ok (.aload_n 0, 1) := by decide +kernel
theorem dL_law_294 : decode cL_law 294 = .ok (.iload_n 3, 1) := by decide +kernel
theorem dL_law_295 : decode cL_law 295 = .ok (.iconst 1, 1) := by decide +kernel
theorem dL_law_296 : decode cL_law 296 = .ok (.iadd, 1) := by decide +kernel
theorem dL_law_297 : decode cL_law 297 = .ok (.iaload, 1) := by decide +kernel
theorem dL_law_298 : decode cL_law 298 = .ok (.aload_n 0, 1) := by decide +kernel
theorem dL_law_299 : decode cL_law 299 = .ok (.iload_n 3, 1) := by decide +kernel
theorem dL_law_300 : decode cL_law 300 = .ok (.iconst 2, 1) := by decide +kernel
theorem dL_law_301 : decode cL_law 301 = .ok (.iadd, 1) := by decide +kernel
theorem dL_law_302 : decode cL_law 302 = .ok (.iaload, 1) := by decide +kernel
theorem dL_law_303 : decode cL_law 303 = .ok (.aload_n 0, 1) := by decide +kernel
theorem dL_law_304 : decode cL_law 304 = .ok (.iload_n 3, 1) := by decide +kernel
theorem dL_law_305 : decode cL_law 305 = .ok (.iconst 3, 1) := by decide +kernel
theorem dL_law_306 : decode cL_law 306 = .ok (.iadd, 1) := by decide +kernel
theorem dL_law_307 : decode cL_law 307 = .ok (.iaload, 1) := by decide +kernel
theorem dL_law_308 : decode cL_law 308 = .ok (.ifCond .eq 7, 3) := by decide +kernel
theorem dL_law_311 : decode cL_law 311 = .ok (.iconst 1, 1) := by decide +kernel
theorem dL_law_312 : decode cL_law 312 = .ok (.goto 4, 3) := by decide +kernel
theorem dL_law_315 : decode cL_law 315 = .ok (.iconst 0, 1) := by decide +kernel
theorem dL_law_316 : decode cL_law 316 = .ok (.invokevirtual 32, 3) := by decide +kernel
theorem dL_law_319 : decode cL_law 319 = .ok (.if_icmp .eq 469, 3) := by decide +kernel
theorem dL_law_322 : decode cL_law 322 = .ok (.iconst 0, 1) := by decide +kernel
theorem dL_law_323 : decode cL_law 323 = .ok (.ireturn, 1) := by decide +kernel
theorem dL_law_324 : decode cL_law 324 = .ok (.aload_n 1, 1) := by decide +kernel
theorem dL_law_325 : decode cL_law 325 = .ok (.aload_n 0, 1) := by decide +kernel
theorem dL_law_326 : decode cL_law 326 = .ok (.iload_n 3, 1) := by decide +kernel
theorem dL_law_327 : decode cL_law 327 = .ok (.iconst 1, 1) := by decide +kernel
theorem dL_law_328 : decode cL_law 328 = .ok (.iadd, 1) := by decide +kernel
theorem dL_law_329 : decode cL_law 329 = .ok (.iaload, 1) := by decide +kernel
theorem dL_law_330 : decode cL_law 330 = .ok (.aload_n 0, 1) := by decide +kernel
theorem dL_law_331 : decode cL_law 331 = .ok (.iload_n 3, 1) := by decide +kernel
theorem dL_law_332 : decode cL_law 332 = .ok (.iconst 2, 1) := by decide +kernel
theorem dL_law_333 : decode cL_law 333 = .ok (.iadd, 1) := by decide +kernel
theorem dL_law_334 : decode cL_law 334 = .ok (.iaload, 1) := by decide +kernel
theorem dL_law_335 : decode cL_law 335 = .ok (.invokevirtual 33, 3) := by decide +kernel
theorem dL_law_338 : decode cL_law 338 = .ok (.aload_n 2, 1) := by decide +kernel
theorem dL_law_339 : decode cL_law 339 = .ok (.aload_n 0, 1) := by decide +kernel
theorem dL_law_340 : decode cL_law 340 = .ok (.iload_n 3, 1) := by decide +kernel
theorem dL_law_341 : decode cL_law 341 = .ok (.iconst 1, 1) := by decide +kernel
theorem dL_law_342 : decode cL_law 342 = .ok (.iadd, 1) := by decide +kernel
theorem dL_law_343 : decode cL_law 343 = .ok (.iaload, 1) := by decide +kernel
theorem dL_law_344 : decode cL_law 344 = .ok (.aload_n 0, 1) := by decide +kernel
theorem dL_law_345 : decode cL_law 345 = .ok (.iload_n 3, 1) := by decide +kernel
theorem dL_law_346 : decode cL_law 346 = .ok (.iconst 2, 1) := by decide +kernel
theorem dL_law_347 : decode cL_law 347 = .ok (.iadd, 1) := by decide +kernel
theorem dL_law_348 : decode cL_law 348 = .ok (.iaload, 1) := by decide +kernel
theorem dL_law_349 : decode cL_law 349 = .ok (.invokevirtual 37, 3) := by decide +kernel
theorem dL_law_352 : decode cL_law 352 = .ok (.if_icmp .eq 436, 3) := by decide +kernel
theorem dL_law_355 : decode cL_law 355 = .ok (.iconst 0, 1) := by decide +kernel
theorem dL_law_356 : decode cL_law 356 = .ok (.ireturn, 1) := by decide +kernel
theorem dL_law_357 : decode cL_law 357 = .ok (.aload_n 1, 1) := by decide +kernel
theorem dL_law_358 : decode cL_law 358 = .ok (.aload_n 0, 1) := by decide +kernel
theorem dL_law_359 : decode cL_law 359 = .ok (.iload_n 3, 1) := by decide +kernel
theorem dL_law_360 : decode cL_law 360 = .ok (.iconst 1, 1) := by decide +kernel
theorem dL_law_361 : decode cL_law 361 = .ok (.iadd, 1) := by decide +kernel
theorem dL_law_362 : decode cL_law 362 = .ok (.iaload, 1) := by decide +kernel
theorem dL_law_363 : decode cL_law 363 = .ok (.aload_n 0, 1) := by decide +kernel
theorem dL_law_364 : decode cL_law 364 = .ok (.iload_n 3, 1) := by decide +kernel
theorem dL_law_365 : decode cL_law 365 = .ok (.iconst 2, 1) := by decide +kernel
theorem dL_law_366 : decode cL_law 366 = .ok (.iadd, 1) := by decide +kernel
theorem dL_law_367 : decode cL_law 367 = .ok (.iaload, 1) := by decide +kernel
theorem dL_law_368 : decode cL_law 368 = .ok (.invokevirtual 38, 3) := by decide +kernel
theorem dL_law_371 : decode cL_law 371 = .ok (.aload_n 2, 1) := by decide +kernel
theorem dL_law_372 : decode cL_law 372 = .ok (.aload_n 0, 1) := by decide +kernel
theorem dL_law_373 : decode cL_law 373 = .ok (.iload_n 3, 1) := by decide +kernel
theorem dL_law_374 : decode cL_law 374 = .ok (.iconst 1, 1) := by decide +kernel
theorem dL_law_375 : decode cL_law 375 = .ok (.iadd, 1) := by decide +kernel
theorem dL_law_376 : decode cL_law 376 = .ok (.iaload, 1) := by decide +kernel
theorem dL_law_377 : decode cL_law 377 = .ok (.aload_n 0, 1) := by decide +kernel
theorem dL_law_378 : decode cL_law 378 = .ok (.iload_n 3, 1) := by decide +kernel
theorem dL_law_379 : decode cL_law 379 = .ok (.iconst 2, 1) := by decide +kernel
theorem dL_law_380 : decode cL_law 380 = .ok (.iadd, 1) := by decide +kernel
theorem dL_law_381 : decode cL_law 381 = .ok (.iaload, 1) := by decide +kernel
theorem dL_law_382 : decode cL_law 382 = .ok (.invokevirtual 41, 3) := by decide +kernel
theorem dL_law_385 : decode cL_law 385 = .ok (.if_icmp .eq 403, 3) := by decide +kernel
theorem dL_law_388 : decode cL_law 388 = .ok (.iconst 0, 1) := by decide +kernel
theorem dL_law_389 : decode cL_law 389 = .ok (.ireturn, 1) := by decide +kernel
theorem dL_law_390 : decode cL_law 390 = .ok (.aload_n 1, 1) := by decide +kernel
theorem dL_law_391 : decode cL_law 391 = .ok (.aload_n 0, 1) := by decide +kernel
theorem dL_law_392 : decode cL_law 392 = .ok (.iload_n 3, 1) := by decide +kernel
theorem dL_law_393 : decode cL_law 393 = .ok (.iconst 1, 1) := by decide +kernel
theorem dL_law_394 : decode cL_law 394 = .ok (.iadd, 1) := by decide +kernel
theorem dL_law_395 : decode cL_law 395 = .ok (.iaload, 1) := by decide +kernel
theorem dL_law_396 : decode cL_law 396 = .ok (.aload_n 0, 1) := by decide +kernel
theorem dL_law_397 : decode cL_law 397 = .ok (.iload_n 3, 1) := by decide +kernel
theorem dL_law_398 : decode cL_law 398 = .ok (.iconst 2, 1) := by decide +kernel
theorem dL_law_399 : decode cL_law 399 = .ok (.iadd, 1) := by decide +kernel
theorem dL_law_400 : decode cL_law 400 = .ok (.iaload, 1) := by decide +kernel
theorem dL_law_401 : decode cL_law 401 = .ok (.invokevirtual 42, 3) := by decide +kernel
theorem dL_law_404 : decode cL_law 404 = .ok (.aload_n 2, 1) := by decide +kernel
theorem dL_law_405 : decode cL_law 405 = .ok (.aload_n 0, 1) := by decide +kernel
theorem dL_law_406 : decode cL_law 406 = .ok (.iload_n 3, 1) := by decide +kernel
theorem dL_law_407 : decode cL_law 407 = .ok (.iconst 1, 1) := by decide +kernel
theorem dL_law_408 : decode cL_law 408 = .ok (.iadd, 1) := by decide +kernel
theorem dL_law_409 : decode cL_law 409 = .ok (.iaload, 1) := by decide +kernel
theorem dL_law_410 : decode cL_law 410 = .ok (.aload_n 0, 1) := by decide +kernel
theorem dL_law_411 : decode cL_law 411 = .ok (.iload_n 3, 1) := by decide +kernel
theorem dL_law_412 : decode cL_law 412 = .ok (.iconst 2, 1) := by decide +kernel
theorem dL_law_413 : decode cL_law 413 = .ok (.iadd, 1) := by decide +kernel
theorem dL_law_414 : decode cL_law 414 = .ok (.iaload, 1) := by decide +kernel
theorem dL_law_415 : decode cL_law 415 = .ok (.invokevirtual 45, 3) := by decide +kernel
theorem dL_law_418 : decode cL_law 418 = .ok (.if_icmp .eq 370, 3) := by decide +kernel
theorem dL_law_421 : decode cL_law 421 = .ok (.iconst 0, 1) := by decide +kernel
theorem dL_law_422 : decode cL_law 422 = .ok (.ireturn, 1) := by decide +kernel
theorem dL_law_423 : decode cL_law 423 = .ok (.aload_n 1, 1) := by decide +kernel
theorem dL_law_424 : decode cL_law 424 = .ok (.invokevirtual 46, 3) := by decide +kernel
theorem dL_law_427 : decode cL_law 427 = .ok (.aload_n 2, 1) := by decide +kernel
theorem dL_law_428 : decode cL_law 428 = .ok (.invokevirtual 49, 3) := by decide +kernel
theorem dL_law_431 : decode cL_law 431 = .ok (.if_icmp .eq 357, 3) := by decide +kernel
theorem dL_law_434 : decode cL_law 434 = .ok (.iconst 0, 1) := by decide +kernel
theorem dL_law_435 : decode cL_law 435 = .ok (.ireturn, 1) := by decide +kernel
theorem dL_law_436 : decode cL_law 436 = .ok (.aload_n 1, 1) := by decide +kernel
theorem dL_law_437 : decode cL_law 437 = .ok (.aload_n 0, 1) := by decide +kernel
theorem dL_law_438 : decode cL_law 438 = .ok (.iload_n 3, 1) := by decide +kernel
theorem dL_law_439 : decode cL_law 439 = .ok (.iconst 1, 1) := by decide +kernel
theorem dL_law_440 : decode cL_law 440 = .ok (.iadd, 1) := by decide +kernel
theorem dL_law_441 : decode cL_law 441 = .ok (.iaload, 1) := by decide +kernel
theorem dL_law_442 : decode cL_law 442 = .ok (.invokevirtual 50, 3) := by decide +kernel
theorem dL_law_445 : decode cL_law 445 = .ok (.aload_n 2, 1) := by decide +kernel
theorem dL_law_446 : decode cL_law 446 = .ok (.aload_n 0, 1) := by decide +kernel
theorem dL_law_447 : decode cL_law 447 = .ok (.iload_n 3, 1) := by decide +kernel
theorem dL_law_448 : decode cL_law 448 = .ok (.iconst 1, 1) := by decide +kernel
theorem dL_law_449 : decode cL_law 449 = .ok (.iadd, 1) := by decide +kernel
theorem dL_law_450 : decode cL_law 450 = .ok (.iaload, 1) := by decide +kernel
theorem dL_law_451 : decode cL_law 451 = .ok (.invokevirtual 54, 3) := by decide +kernel
theorem dL_law_454 : decode cL_law 454 = .ok (.if_icmp .eq 334, 3) := by decide +kernel
theorem dL_law_457 : decode cL_law 457 = .ok (.iconst 0, 1) := by decide +kernel
theorem dL_law_458 : decode cL_law 458 = .ok (.ireturn, 1) := by decide +kernel
theorem dL_law_459 : decode cL_law 459 = .ok (.aload_n 1, 1) := by decide +kernel
theorem dL_law_460 : decode cL_law 460 = .ok (.aload_n 0, 1) := by decide +kernel
theorem dL_law_461 : decode cL_law 461 = .ok (.iload_n 3, 1) := by decide +kernel
theorem dL_law_462 : decode cL_law 462 = .ok (.iconst 1, 1) := by decide +kernel
theorem dL_law_463 : decode cL_law 463 = .ok (.iadd, 1) := by decide +kernel
theorem dL_law_464 : decode cL_law 464 = .ok (.iaload, 1) := by decide +kernel
theorem dL_law_465 : decode cL_law 465 = .ok (.invokevirtual 55, 3) := by decide +kernel
theorem dL_law_468 : decode cL_law 468 = .ok (.aload_n 2, 1) := by decide +kernel
theorem dL_law_469 : decode cL_law 469 = .ok (.aload_n 0, 1) := by decide +kernel
theorem dL_law_470 : decode cL_law 470 = .ok (.iload_n 3, 1) := by decide +kernel
theorem dL_law_471 : decode cL_law 471 = .ok (.iconst 1, 1) := by decide +kernel
theorem dL_law_472 : decode cL_law 472 = .ok (.iadd, 1) := by decide +kernel
theorem dL_law_473 : decode cL_law 473 = .ok (.iaload, 1) := by decide +kernel
theorem dL_law_474 : decode cL_law 474 = .ok (.invokevirtual 58, 3) := by decide +kernel
theorem dL_law_477 : decode cL_law 477 = .ok (.if_icmp .eq 311, 3) := by decide +kernel
theorem dL_law_480 : decode cL_law 480 = .ok (.iconst 0, 1) := by decide +kernel
theorem dL_law_481 : decode cL_law 481 = .ok (.ireturn, 1) := by decide +kernel
theorem dL_law_482 : decode cL_law 482 = .ok (.aload_n 1, 1) := by decide +kernel
theorem dL_law_483 : decode cL_law 483 = .ok (.aload_n 0, 1) := by decide +kernel
theorem dL_law_484 : decode cL_law 484 = .ok (.iload_n 3, 1) := by decide +kernel
theorem dL_law_485 : decode cL_law 485 = .ok (.iconst 1, 1) := by decide +kernel
theorem dL_law_486 : decode cL_law 486 = .ok (.iadd, 1) := by decide +kernel
theorem dL_law_487 : decode cL_law 487 = .ok (.iaload, 1) := by decide +kernel
theorem dL_law_488 : decode cL_law 488 = .ok (.aload_n 0, 1) := by decide +kernel
theorem dL_law_489 : decode cL_law 489 = .ok (.iload_n 3, 1) := by decide +kernel
theorem dL_law_490 : decode cL_law 490 = .ok (.iconst 2, 1) := by decide +kernel
theorem dL_law_491 : decode cL_law 491 = .ok (.iadd, 1) := by decide +kernel
theorem dL_law_492 : decode cL_law 492 = .ok (.iaload, 1) := by decide +kernel
theorem dL_law_493 : decode cL_law 493 = .ok (.invokevirtual 59, 3) := by decide +kernel
theorem dL_law_496 : decode cL_law 496 = .ok (.aload_n 2, 1) := by decide +kernel
theorem dL_law_497 : decode cL_law 497 = .ok (.aload_n 0, 1) := by decide +kernel
theorem dL_law_498 : decode cL_law 498 = .ok (.iload_n 3, 1) := by decide +kernel
theorem dL_law_499 : decode cL_law 499 = .ok (.iconst 1, 1) := by decide +kernel
theorem dL_law_500 : decode cL_law 500 = .ok (.iadd, 1) := by decide +kernel
theorem dL_law_501 : decode cL_law 501 = .ok (.iaload, 1) := by decide +kernel
theorem dL_law_502 : decode cL_law 502 = .ok (.aload_n 0, 1) := by decide +kernel
theorem dL_law_503 : decode cL_law 503 = .ok (.iload_n 3, 1) := by decide +kernel
theorem dL_law_504 : decode cL_law 504 = .ok (.iconst 2, 1) := by decide +kernel
theorem dL_law_505 : decode cL_law 505 = .ok (.iadd, 1) := by decide +kernel
theorem dL_law_506 : decode cL_law 506 = .ok (.iaload, 1) := by decide +kernel
theorem dL_law_507 : decode cL_law 507 = .ok (.invokevirtual 62, 3) := by decide +kernel
theorem dL_law_510 : decode cL_law 510 = .ok (.if_icmp .eq 278, 3) := by decide +kernel
theorem dL_law_513 : decode cL_law 513 = .ok (.iconst 0, 1) := by decide +kernel
theorem dL_law_514 : decode cL_law 514 = .ok (.ireturn, 1) := by decide +kernel
theorem dL_law_515 : decode cL_law 515 = .ok (.aload_n 1, 1) := by decide +kernel
theorem dL_law_516 : decode cL_law 516 = .ok (.aload_n 0, 1) := by decide +kernel
theorem dL_law_517 : decode cL_law 517 = .ok (.iload_n 3, 1) := by decide +kernel
theorem dL_law_518 : decode cL_law 518 = .ok (.iconst 1, 1) := by decide +kernel
theorem dL_law_519 : decode cL_law 519 = .ok (.iadd, 1) := by decide +kernel
theorem dL_law_520 : decode cL_law 520 = .ok (.iaload, 1) := by decide +kernel
theorem dL_law_521 : decode cL_law 521 = .ok (.invokevirtual 63, 3) := by decide +kernel
theorem dL_law_524 : decode cL_law 524 = .ok (.aload_n 2, 1) := by decide +kernel
theorem dL_law_525 : decode cL_law 525 = .ok (.aload_n 0, 1) := by decide +kernel
theorem dL_law_526 : decode cL_law 526 = .ok (.iload_n 3, 1) := by decide +kernel
theorem dL_law_527 : decode cL_law 527 = .ok (.iconst 1, 1) := by decide +kernel
theorem dL_law_528 : decode cL_law 528 = .ok (.iadd, 1) := by decide +kernel
theorem dL_law_529 : decode cL_law 529 = .ok (.iaload, 1) := by decide +kernel
theorem dL_law_530 : decode cL_law 530 = .ok (.invokevirtual 66, 3) := by decide +kernel
theorem dL_law_533 : decode cL_law 533 = .ok (.if_icmp .eq 255, 3) := by decide +kernel
theorem dL_law_536 : decode cL_law 536 = .ok (.iconst 0, 1) := by decide +kernel
theorem dL_law_537 : decode cL_law 537 = .ok (.ireturn, 1) := by decide +kernel
theorem dL_law_538 : decode cL_law 538 = .ok (.aload_n 1, 1) := by decide +kernel
theorem dL_law_539 : decode cL_law 539 = .ok (.aload_n 0, 1) := by decide +kernel
theorem dL_law_540 : decode cL_law 540 = .ok (.iload_n 3, 1) := by decide +kernel
theorem dL_law_541 : decode cL_law 541 = .ok (.iconst 1, 1) := by decide +kernel
theorem dL_law_542 : decode cL_law 542 = .ok (.iadd, 1) := by decide +kernel
theorem dL_law_543 : decode cL_law 543 = .ok (.iaload, 1) := by decide +kernel
theorem dL_law_544 : decode cL_law 544 = .ok (.invokevirtual 67, 3) := by decide +kernel
theorem dL_law_547 : decode cL_law 547 = .ok (.aload_n 2, 1) := by decide +kernel
theorem dL_law_548 : decode cL_law 548 = .ok (.aload_n 0, 1) := by decide +kernel
theorem dL_law_549 : decode cL_law 549 = .ok (.iload_n 3, 1) := by decide +kernel
theorem dL_law_550 : decode cL_law 550 = .ok (.iconst 1, 1) := by decide +kernel
theorem dL_law_551 : decode cL_law 551 = .ok (.iadd, 1) := by decide +kernel
theorem dL_law_552 : decode cL_law 552 = .ok (.iaload, 1) := by decide +kernel
theorem dL_law_553 : decode cL_law 553 = .ok (.invokevirtual 70, 3) := by decide +kernel
theorem dL_law_556 : decode cL_law 556 = .ok (.if_icmp .eq 232, 3) := by decide +kernel
theorem dL_law_559 : decode cL_law 559 = .ok (.iconst 0, 1) := by decide +kernel
theorem dL_law_560 : decode cL_law 560 = .ok (.ireturn, 1) := by decide +kernel
theorem dL_law_561 : decode cL_law 561 = .ok (.aload_n 1, 1) := by decide +kernel
theorem dL_law_562 : decode cL_law 562 = .ok (.aload_n 0, 1) := by decide +kernel
theorem dL_law_563 : decode cL_law 563 = .ok (.iload_n 3, 1) := by decide +kernel
theorem dL_law_564 : decode cL_law 564 = .ok (.iconst 1, 1) := by decide +kernel
theorem dL_law_565 : decode cL_law 565 = .ok (.iadd, 1) := by decide +kernel
theorem dL_law_566 : decode cL_law 566 = .ok (.iaload, 1) := by decide +kernel
theorem dL_law_567 : decode cL_law 567 = .ok (.aload_n 0, 1) := by decide +kernel
theorem dL_law_568 : decode cL_law 568 = .ok (.iload_n 3, 1) := by decide +kernel
theorem dL_law_569 : decode cL_law 569 = .ok (.iconst 2, 1) := by decide +kernel
theorem dL_law_570 : decode cL_law 570 = .ok (.iadd, 1) := by decide +kernel
theorem dL_law_571 : decode cL_law 571 = .ok (.iaload, 1) := by decide +kernel
theorem dL_law_572 : decode cL_law 572 = .ok (.aload_n 0, 1) := by decide +kernel
theorem dL_law_573 : decode cL_law 573 = .ok (.iload_n 3, 1) := by decide +kernel
theorem dL_law_574 : decode cL_law 574 = .ok (.iconst 3, 1) := by decide +kernel
theorem dL_law_575 : decode cL_law 575 = .ok (.iadd, 1) := by decide +kernel
theorem dL_law_576 : decode cL_law 576 = .ok (.iaload, 1) := by decide +kernel
theorem dL_law_577 : decode cL_law 577 = .ok (.invokevirtual 71, 3) := by decide +kernel
theorem dL_law_580 : decode cL_law 580 = .ok (.aload_n 2, 1) := by decide +kernel
theorem dL_law_581 : decode cL_law 581 = .ok (.aload_n 0, 1) := by decide +kernel
theorem dL_law_582 : decode cL_law 582 = .ok (.iload_n 3, 1) := by decide +kernel
theorem dL_law_583 : decode cL_law 583 = .ok (.iconst 1, 1) := by decide +kernel
theorem dL_law_584 : decode cL_law 584 = .ok (.iadd, 1) := by decide +kernel
theorem dL_law_585 : decode cL_law 585 = .ok (.iaload, 1) := by decide +kernel
theorem dL_law_586 : decode cL_law 586 = .ok (.aload_n 0, 1) := by decide +kernel
theorem dL_law_587 : decode cL_law 587 = .ok (.iload_n 3, 1) := by decide +kernel
theorem dL_law_588 : decode cL_law 588 = .ok (.iconst 2, 1) := by decide +kernel
theorem dL_law_589 : decode cL_law 589 = .ok (.iadd, 1) := by decide +kernel
theorem dL_law_590 : decode cL_law 590 = .ok (.iaload, 1) := by decide +kernel
theorem dL_law_591 : decode cL_law 591 = .ok (.aload_n 0, 1) := by decide +kernel
theorem dL_law_592 : decode cL_law 592 = .ok (.iload_n 3, 1) := by decide +kernel
theorem dL_law_593 : decode cL_law 593 = .ok (.iconst 3, 1) := by decide +kernel
theorem dL_law_594 : decode cL_law 594 = .ok (.iadd, 1) := by decide +kernel
theorem dL_law_595 : decode cL_law 595 = .ok (.iaload, 1) := by decide +kernel
theorem dL_law_596 : decode cL_law 596 = .ok (.invokevirtual 75, 3) := by decide +kernel
theorem dL_law_599 : decode cL_law 599 = .ok (.if_icmp .eq 189, 3) := by decide +kernel
theorem dL_law_602 : decode cL_law 602 = .ok (.iconst 0, 1) := by decide +kernel
theorem dL_law_603 : decode cL_law 603 = .ok (.ireturn, 1) := by decide +kernel
theorem dL_law_604 : decode cL_law 604 = .ok (.aload_n 1, 1) := by decide +kernel
theorem dL_law_605 : decode cL_law 605 = .ok (.aload_n 0, 1) := by decide +kernel
theorem dL_law_606 : decode cL_law 606 = .ok (.iload_n 3, 1) := by decide +kernel
theorem dL_law_607 : decode cL_law 607 = .ok (.iconst 1, 1) := by decide +kernel
theorem dL_law_608 : decode cL_law 608 = .ok (.iadd, 1) := by decide +kernel
theorem dL_law_609 : decode cL_law 609 = .ok (.iaload, 1) := by decide +kernel
theorem dL_law_610 : decode cL_law 610 = .ok (.aload_n 0, 1) := by decide +kernel
theorem dL_law_611 : decode cL_law 611 = .ok (.iload_n 3, 1) := by decide +kernel
theorem dL_law_612 : decode cL_law 612 = .ok (.iconst 2, 1) := by decide +kernel
theorem dL_law_613 : decode cL_law 613 = .ok (.iadd, 1) := by decide +kernel
theorem dL_law_614 : decode cL_law 614 = .ok (.iaload, 1) := by decide +kernel
theorem dL_law_615 : decode cL_law 615 = .ok (.invokevirtual 76, 3) := by decide +kernel
theorem dL_law_618 : decode cL_law 618 = .ok (.aload_n 2, 1) := by decide +kernel
theorem dL_law_619 : decode cL_law 619 = .ok (.aload_n 0, 1) := by decide +kernel
theorem dL_law_620 : decode cL_law 620 = .ok (.iload_n 3, 1) := by decide +kernel
theorem dL_law_621 : decode cL_law 621 = .ok (.iconst 1, 1) := by decide +kernel
theorem dL_law_622 : decode cL_law 622 = .ok (.iadd, 1) := by decide +kernel
theorem dL_law_623 : decode cL_law 623 = .ok (.iaload, 1) := by decide +kernel
theorem dL_law_624 : decode cL_law 624 = .ok (.aload_n 0, 1) := by decide +kernel
theorem dL_law_625 : decode cL_law 625 = .ok (.iload_n 3, 1) := by decide +kernel
theorem dL_law_626 : decode cL_law 626 = .ok (.iconst 2, 1) := by decide +kernel
theorem dL_law_627 : decode cL_law 627 = .ok (.iadd, 1) := by decide +kernel
theorem dL_law_628 : decode cL_law 628 = .ok (.iaload, 1) := by decide +kernel
theorem dL_law_629 : decode cL_law 629 = .ok (.invokevirtual 79, 3) := by decide +kernel
theorem dL_law_632 : decode cL_law 632 = .ok (.if_icmp .eq 156, 3) := by decide +kernel
theorem dL_law_635 : decode cL_law 635 = .ok (.iconst 0, 1) := by decide +kernel
theorem dL_law_636 : decode cL_law 636 = .ok (.ireturn, 1) := by decide +kernel
theorem dL_law_637 : decode cL_law 637 = .ok (.aload_n 1, 1) := by decide +kernel
theorem dL_law_638 : decode cL_law 638 = .ok (.aload_n 0, 1) := by decide +kernel
theorem dL_law_639 : decode cL_law 639 = .ok (.iload_n 3, 1) := by decide +kernel
theorem dL_law_640 : decode cL_law 640 = .ok (.iconst 1, 1) := by decide +kernel
theorem dL_law_641 : decode cL_law 641 = .ok (.iadd, 1) := by decide +kernel
theorem dL_law_642 : decode cL_law 642 = .ok (.iaload, 1) := by decide +kernel
theorem dL_law_643 : decode cL_law 643 = .ok (.aload_n 0, 1) := by decide +kernel
theorem dL_law_644 : decode cL_law 644 = .ok (.iload_n 3, 1) := by decide +kernel
theorem dL_law_645 : decode cL_law 645 = .ok (.iconst 2, 1) := by decide +kernel
theorem dL_law_646 : decode cL_law 646 = .ok (.iadd, 1) := by decide +kernel
theorem dL_law_647 : decode cL_law 647 = .ok (.iaload, 1) := by decide +kernel
theorem dL_law_648 : decode cL_law 648 = .ok (.invokevirtual 80, 3) := by decide +kernel
theorem dL_law_651 : decode cL_law 651 = .ok (.aload_n 2, 1) := by decide +kernel
theorem dL_law_652 : decode cL_law 652 = .ok (.aload_n 0, 1) := by decide +kernel
theorem dL_law_653 : decode cL_law 653 = .ok (.iload_n 3, 1) := by decide +kernel
theorem dL_law_654 : decode cL_law 654 = .ok (.iconst 1, 1) := by decide +kernel
theorem dL_law_655 : decode cL_law 655 = .ok (.iadd, 1) := by decide +kernel
theorem dL_law_656 : decode cL_law 656 = .ok (.iaload, 1) := by decide +kernel
theorem dL_law_657 : decode cL_law 657 = .ok (.aload_n 0, 1) := by decide +kernel
theorem dL_law_658 : decode cL_law 658 = .ok (.iload_n 3, 1) := by decide +kernel
theorem dL_law_659 : decode cL_law 659 = .ok (.iconst 2, 1) := by decide +kernel
theorem dL_law_660 : decode cL_law 660 = .ok (.iadd, 1) := by decide +kernel
theorem dL_law_661 : decode cL_law 661 = .ok (.iaload, 1) := by decide +kernel
theorem dL_law_662 : decode cL_law 662 = .ok (.invokevirtual 83, 3) := by decide +kernel
theorem dL_law_665 : decode cL_law 665 = .ok (.if_icmp .eq 123, 3) := by decide +kernel
theorem dL_law_668 : decode cL_law 668 = .ok (.iconst 0, 1) := by decide +kernel
theorem dL_law_669 : decode cL_law 669 = .ok (.ireturn, 1) := by decide +kernel
theorem dL_law_670 : decode cL_law 670 = .ok (.aload_n 1, 1) := by decide +kernel
theorem dL_law_671 : decode cL_law 671 = .ok (.aload_n 0, 1) := by decide +kernel
theorem dL_law_672 : decode cL_law 672 = .ok (.iload_n 3, 1) := by decide +kernel
theorem dL_law_673 : decode cL_law 673 = .ok (.iconst 1, 1) := by decide +kernel
theorem dL_law_674 : decode cL_law 674 = .ok (.iadd, 1) := by decide +kernel
theorem dL_law_675 : decode cL_law 675 = .ok (.iaload, 1) := by decide +kernel
theorem dL_law_676 : decode cL_law 676 = .ok (.invokevirtual 84, 3) := by decide +kernel
theorem dL_law_679 : decode cL_law 679 = .ok (.aload_n 2, 1) := by decide +kernel
theorem dL_law_680 : decode cL_law 680 = .ok (.aload_n 0, 1) := by decide +kernel
theorem dL_law_681 : decode cL_law 681 = .ok (.iload_n 3, 1) := by decide +kernel
theorem dL_law_682 : decode cL_law 682 = .ok (.iconst 1, 1) := by decide +kernel
theorem dL_law_683 : decode cL_law 683 = .ok (.iadd, 1) := by decide +kernel
theorem dL_law_684 : decode cL_law 684 = .ok (.iaload, 1) := by decide +kernel
theorem dL_law_685 : decode cL_law 685 = .ok (.invokevirtual 87, 3) := by decide +kernel
theorem dL_law_688 : decode cL_law 688 = .ok (.if_icmp .eq 100, 3) := by decide +kernel
theorem dL_law_691 : decode cL_law 691 = .ok (.iconst 0, 1) := by decide +kernel
theorem dL_law_692 : decode cL_law 692 = .ok (.ireturn, 1) := by decide +kernel
theorem dL_law_693 : decode cL_law 693 = .ok (.aload_n 1, 1) := by decide +kernel
theorem dL_law_694 : decode cL_law 694 = .ok (.aload_n 0, 1) := by decide +kernel
theorem dL_law_695 : decode cL_law 695 = .ok (.iload_n 3, 1) := by decide +kernel
theorem dL_law_696 : decode cL_law 696 = .ok (.iconst 1, 1) := by decide +kernel
theorem dL_law_697 : decode cL_law 697 = .ok (.iadd, 1) := by decide +kernel
theorem dL_law_698 : decode cL_law 698 = .ok (.iaload, 1) := by decide +kernel
theorem dL_law_699 : decode cL_law 699 = .ok (.invokevirtual 88, 3) := by decide +kernel
theorem dL_law_702 : decode cL_law 702 = .ok (.aload_n 2, 1) := by decide +kernel
theorem dL_law_703 : decode cL_law 703 = .ok (.aload_n 0, 1) := by decide +kernel
theorem dL_law_704 : decode cL_law 704 = .ok (.iload_n 3, 1) := by decide +kernel
theorem dL_law_705 : decode cL_law 705 = .ok (.iconst 1, 1) := by decide +kernel
theorem dL_law_706 : decode cL_law 706 = .ok (.iadd, 1) := by decide +kernel
theorem dL_law_707 : decode cL_law 707 = .ok (.iaload, 1) := by decide +kernel
theorem dL_law_708 : decode cL_law 708 = .ok (.invokevirtual 91, 3) := by decide +kernel
theorem dL_law_711 : decode cL_law 711 = .ok (.if_icmp .eq 77, 3) := by decide +kernel
theorem dL_law_714 : decode cL_law 714 = .ok (.iconst 0, 1) := by decide +kernel
theorem dL_law_715 : decode cL_law 715 = .ok (.ireturn, 1) := by decide +kernel
theorem dL_law_716 : decode cL_law 716 = .ok (.aload_n 1, 1) := by decide +kernel
theorem dL_law_717 : decode cL_law 717 = .ok (.invokevirtual 92, 3) := by decide +kernel
theorem dL_law_720 : decode cL_law 720 = .ok (.aload_n 2, 1) := by decide +kernel
theorem dL_law_721 : decode cL_law 721 = .ok (.invokevirtual 95, 3) := by decide +kernel
theorem dL_law_724 : decode cL_law 724 = .ok (.if_icmp .eq 64, 3) := by decide +kernel
theorem dL_law_727 : decode cL_law 727 = .ok (.iconst 0, 1) := by decide +kernel
theorem dL_law_728 : decode cL_law 728 = .ok (.ireturn, 1) := by decide +kernel
theorem dL_law_729 : decode cL_law 729 = .ok (.aload_n 1, 1) := by decide +kernel
theorem dL_law_730 : decode cL_law 730 = .ok (.invokevirtual 96, 3) := by decide +kernel
theorem dL_law_733 : decode cL_law 733 = .ok (.aload_n 2, 1) := by decide +kernel
theorem dL_law_734 : decode cL_law 734 = .ok (.invokevirtual 99, 3) := by decide +kernel
theorem dL_law_737 : decode cL_law 737 = .ok (.if_icmp .eq 51, 3) := by decide +kernel
theorem dL_law_740 : decode cL_law 740 = .ok (.iconst 0, 1) := by decide +kernel
theorem dL_law_741 : decode cL_law 741 = .ok (.ireturn, 1) := by decide +kernel
theorem dL_law_742 : decode cL_law 742 = .ok (.aload_n 1, 1) := by decide +kernel
theorem dL_law_743 : decode cL_law 743 = .ok (.aload_n 0, 1) := by decide +kernel
theorem dL_law_744 : decode cL_law 744 = .ok (.iload_n 3, 1) := by decide +kernel
theorem dL_law_745 : decode cL_law 745 = .ok (.iconst 1, 1) := by decide +kernel
theorem dL_law_746 : decode cL_law 746 = .ok (.iadd, 1) := by decide +kernel
theorem dL_law_747 : decode cL_law 747 = .ok (.iaload, 1) := by decide +kernel
theorem dL_law_748 : decode cL_law 748 = .ok (.invokevirtual 100, 3) := by decide +kernel
theorem dL_law_751 : decode cL_law 751 = .ok (.aload_n 2, 1) := by decide +kernel
theorem dL_law_752 : decode cL_law 752 = .ok (.aload_n 0, 1) := by decide +kernel
theorem dL_law_753 : decode cL_law 753 = .ok (.iload_n 3, 1) := by decide +kernel
theorem dL_law_754 : decode cL_law 754 = .ok (.iconst 1, 1) := by decide +kernel
theorem dL_law_755 : decode cL_law 755 = .ok (.iadd, 1) := by decide +kernel
theorem dL_law_756 : decode cL_law 756 = .ok (.iaload, 1) := by decide +kernel
theorem dL_law_757 : decode cL_law 757 = .ok (.invokevirtual 103, 3) := by decide +kernel
theorem dL_law_760 : decode cL_law 760 = .ok (.if_icmp .eq 28, 3) := by decide +kernel
theorem dL_law_763 : decode cL_law 763 = .ok (.iconst 0, 1) := by decide +kernel
theorem dL_law_764 : decode cL_law 764 = .ok (.ireturn, 1) := by decide +kernel
theorem dL_law_765 : decode cL_law 765 = .ok (.aload_n 1, 1) := by decide +kernel
theorem dL_law_766 : decode cL_law 766 = .ok (.aload_n 0, 1) := by decide +kernel
theorem dL_law_767 : decode cL_law 767 = .ok (.iload_n 3, 1) := by decide +kernel
theorem dL_law_768 : decode cL_law 768 = .ok (.iconst 1, 1) := by decide +kernel
theorem dL_law_769 : decode cL_law 769 = .ok (.iadd, 1) := by decide +kernel
theorem dL_law_770 : decode cL_law 770 = .ok (.iaload, 1) := by decide +kernel
theorem dL_law_771 : decode cL_law 771 = .ok (.invokevirtual 104, 3) := by decide +kernel
theorem dL_law_774 : decode cL_law 774 = .ok (.aload_n 2, 1) := by decide +kernel
theorem dL_law_775 : decode cL_law 775 = .ok (.aload_n 0, 1) := by decide +kernel
theorem dL_law_776 : decode cL_law 776 = .ok (.iload_n 3, 1) := by decide +kernel
theorem dL_law_777 : decode cL_law 777 = .ok (.iconst 1, 1) := by decide +kernel
theorem dL_law_778 : decode cL_law 778 = .ok (.iadd, 1) := by decide +kernel
theorem dL_law_779 : decode cL_law 779 = .ok (.iaload, 1) := by decide +kernel
theorem dL_law_780 : decode cL_law 780 = .ok (.invokevirtual 107, 3) := by decide +kernel
theorem dL_law_783 : decode cL_law 783 = .ok (.if_icmp .eq 5, 3) := by decide +kernel
theorem dL_law_786 : decode cL_law 786 = .ok (.iconst 0, 1) := by decide +kernel
theorem dL_law_787 : decode cL_law 787 = .ok (.ireturn, 1) := by decide +kernel
theorem dL_law_788 : decode cL_law 788 = .ok (.iinc 3 6, 3) := by decide +kernel
theorem dL_law_791 : decode cL_law 791 = .ok (.goto (-773), 3) := by decide +kernel
theorem dL_law_794 : decode cL_law 794 = .ok (.iconst 1, 1) := by decide +kernel
theorem dL_law_795 : decode cL_law 795 = .ok (.ireturn, 1) := by decide +kernel
end
section
theorem dX0_init_0 : decode cX0_init 0 = .ok (.aload_n 0, 1) := by decide +kernel
theorem dX0_init_1 : decode cX0_init 1 = .ok (.invokespecial 3, 3) := by decide +kernel
theorem dX0_init_4 : decode cX0_init 4 = .ok (.aload_n 0, 1) := by decide +kernel
theorem dX0_init_5 : decode cX0_init 5 = .ok (.bipush 8, 2) := by decide +kernel
theorem dX0_init_7 : decode cX0_init 7 = .ok (.newarray .int, 2) := by decide +kernel
theorem dX0_init_9 : decode cX0_init 9 = .ok (.putfield 9, 3) := by decide +kernel
theorem dX0_init_12 : decode cX0_init 12 = .ok (.aload_n 0, 1) := by decide +kernel
theorem dX0_init_13 : decode cX0_init 13 = .ok (.bipush 32, 2) := by decide +kernel
theorem dX0_init_15 : decode cX0_init 15 = .ok (.newarray .int, 2) := by decide +kernel
theorem dX0_init_17 : decode cX0_init 17 = .ok (.putfield 15, 3) := by decide +kernel
theorem dX0_init_20 : decode cX0_init 20 = .ok (.aload_n 0, 1) := by decide +kernel
theorem dX0_init_21 : decode cX0_init 21 = .ok (.iconst 4, 1) := by decide +kernel
theorem dX0_init_22 : decode cX0_init 22 = .ok (.newarray .int, 2) := by decide +kernel
theorem dX0_init_24 : decode cX0_init 24 = .ok (.putfield 18, 3) := by decide +kernel
theorem dX0_init_27 : decode cX0_init 27 = .ok (.aload_n 0, 1) := by decide +kernel
theorem dX0_init_28 : decode cX0_init 28 = .ok (.iconst 4, 1) := by decide +kernel
theorem dX0_init_29 : decode cX0_init 29 = .ok (.newarray .int, 2) := by decide +kernel
theorem dX0_init_31 : decode cX0_init 31 = .ok (.putfield 21, 3) := by decide +kernel
theorem dX0_init_34 : decode cX0_init 34 = .ok (.aload_n 0, 1) := by decide +kernel
theorem dX0_init_35 : decode cX0_init 35 = .ok (.bipush 100, 2) := by decide +kernel
theorem dX0_init_37 : decode cX0_init 37 = .ok (.newarray .int, 2) := by decide +kernel
theorem dX0_init_39 : decode cX0_init 39 = .ok (.putfield 24, 3) := by decide +kernel
theorem dX0_init_42 : decode cX0_init 42 = .ok (.aload_n 0, 1) := by decide +kernel
theorem dX0_init_43 : decode cX0_init 43 = .ok (.bipush (-4), 2) := by decide +kernel
theorem dX0_init_45 : decode cX0_init 45 = .ok (.putfield 27, 3) := by decide +kernel
theorem dX0_init_48 : decode cX0_init 48 = .ok (.return_, 1) := by decide +kernel
theorem dX0_perform_0 : decode cX0_perform 0 = .ok (.aload_n 0, 1) := by decide +kernel
theorem dX0_perform_1 : decode cX0_perform 1 = .ok (.aload_n 1, 1) := by decide +kernel
theorem dX0_perform_2 : decode cX0_perform 2 = .ok (.aload_n 2, 1) := by decide +kernel
theorem dX0_perform_3 : decode cX0_perform 3 = .ok (.invokevirtual 31, 3) := by decide +kernel
theorem dX0_perform_6 : decode cX0_perform 6 = .ok (.iconst 0, 1) := by decide +kernel
theorem dX0_perform_7 : decode cX0_perform 7 = .ok (.iload_n 3, 1) := by decide +kernel
theorem dX0_perform_8 : decode cX0_perform 8 = .ok (.aload_n 1, 1) := by decide +kernel
theorem dX0_perform_9 : decode cX0_perform 9 = .ok (.getfield 35, 3) := by decide +kernel
theorem dX0_perform_12 : decode cX0_perform 12 = .ok (.invokestatic 40, 3) := by decide +kernel
theorem dX0_perform_15 : decode cX0_perform 15 = .ok (.istore 5, 2) := by decide +kernel
theorem dX0_perform_17 : decode cX0_perform 17 = .ok (.iload 5, 2) := by decide +kernel
theorem dX0_perform_19 : decode cX0_perform 19 = .ok (.aload_n 1, 1) := by decide +kernel
theorem dX0_perform_20 : decode cX0_perform 20 = .ok (.getfield 35, 3) := by decide +kernel
theorem dX0_perform_23 : decode cX0_perform 23 = .ok (.if_icmp .ge 97, 3) := by decide +kernel
theorem dX0_perform_26 : decode cX0_perform 26 = .ok (.aload_n 0, 1) := by decide +kernel
theorem dX0_perform_27 : decode cX0_perform 27 = .ok (.getfield 44, 3) := by decide +kernel
theorem dX0_perform_30 : decode cX0_perform 30 = .ok (.bipush 100, 2) := by decide +kernel
theorem dX0_perform_32 : decode cX0_perform 32 = .ok (.if_icmp .ge 88, 3) := by decide +kernel
theorem dX0_perform_35 : decode cX0_perform 35 = .ok (.aload_n 0, 1) := by decide +kernel
theorem dX0_perform_36 : decode cX0_perform 36 = .ok (.dup, 1) := by decide +kernel
theorem dX0_perform_37 : decode cX0_perform 37 = .ok (.getfield 44, 3) := by decide +kernel
theorem dX0_perform_40 : decode cX0_perform 40 = .ok (.iconst 1, 1) := by decide +kernel
theorem dX0_perform_41 : decode cX0_perform 41 = .ok (.iadd, 1) := by decide +kernel
theorem dX0_perform_42 : decode cX0_perform 42 = .ok (.putfield 44, 3) := by decide +kernel
theorem dX0_perform_45 : decode cX0_perform 45 = .ok (.aload_n 0, 1) := by decide +kernel
theorem dX0_perform_46 : decode cX0_perform 46 = .ok (.aload_n 1, 1) := by decide +kernel
theorem dX0_perform_47 : decode cX0_perform 47 = .ok (.aload_n 2, 1) := by decide +kernel
theorem dX0_perform_48 : decode cX0_perform 48 = .ok (.iload 5, 2) := by decide +kernel
theorem dX0_perform_50 : decode cX0_perform 50 = .ok (.invokevirtual 47, 3) := by decide +kernel
theorem dX0_perform_53 : decode cX0_perform 53 = .ok (.istore 6, 2) := by decide +kernel
theorem dX0_perform_55 : decode cX0_perform 55 = .ok (.iload 5, 2) := by decide +kernel
theorem dX0_perform_57 : decode cX0_perform 57 = .ok (.iload 4, 2) := by decide +kernel
theorem dX0_perform_59 : decode cX0_perform 59 = .ok (.if_icmp .ne 35, 3) := by decide +kernel
theorem dX0_perform_62 : decode cX0_perform 62 = .ok (.aload_n 0, 1) := by decide +kernel
theorem dX0_perform_63 : decode cX0_perform 63 = .ok (.getfield 51, 3) := by decide +kernel
theorem dX0_perform_66 : decode cX0_perform 66 = .ok (.bipush 100, 2) := by decide +kernel
theorem dX0_perform_68 : decode cX0_perform 68 = .ok (.if_icmp .ge 26, 3) := by decide +kernel
theorem dX0_perform_71 : decode cX0_perform 71 = .ok (.aload_n 0, 1) := by decide +kernel
theorem dX0_perform_72 : decode cX0_perform 72 = .ok (.getfield 24, 3) := by decide +kernel
theorem dX0_perform_75 : decode cX0_perform 75 = .ok (.aload_n 0, 1) := by decide +kernel
theorem dX0_perform_76 : decode cX0_perform 76 = .ok (.getfield 51, 3) := by decide +kernel
theorem dX0_perform_79 : decode cX0_perform 79 = .ok (.aload_n 0, 1) := by decide +kernel
theorem dX0_perform_80 : decode cX0_perform 80 = .ok (.getfield 54, 3) := by decide +kernel
theorem dX0_perform_83 : decode cX0_perform 83 = .ok (.iastore, 1) := by decide +kernel
theorem dX0_perform_84 : decode cX0_perform 84 = .ok (.aload_n 0, 1) := by decide +kernel
theorem dX0_perform_85 : decode cX0_perform 85 = .ok (.dup, 1) := by decide +kernel
theorem dX0_perform_86 : decode cX0_perform 86 = .ok (.getfield 51, 3) := by decide +kernel
theorem dX0_perform_89 : decode cX0_perform 89 = .ok (.iconst 1, 1) := by decide +kernel
theorem dX0_perform_90 : decode cX0_perform 90 = .ok (.iadd, 1) := by decide +kernel
theorem dX0_perform_91 : decode cX0_perform 91 = .ok (.putfield 51, 3) := by decide +kernel
theorem dX0_perform_94 : decode cX0_perform 94 = .ok (.aload_n 0, 1) := by decide +kernel
theorem dX0_perform_95 : decode cX0_perform 95 = .ok (.getfield 27, 3) := by decide +kernel
theorem dX0_perform_98 : decode cX0_perform 98 = .ok (.bipush (-4), 2) := by decide +kernel
theorem dX0_perform_100 : decode cX0_perform 100 = .ok (.if_icmp .eq 5, 3) := by decide +kernel
theorem dX0_perform_103 : decode cX0_perform 103 = .ok (.iconst 1, 1) := by decide +kernel
theorem dX0_perform_104 : decode cX0_perform 104 = .ok (.ireturn, 1) := by decide +kernel
theorem dX0_perform_105 : decode cX0_perform 105 = .ok (.iload 6, 2) := by decide +kernel
theorem dX0_perform_107 : decode cX0_perform 107 = .ok (.iload_n 3, 1) := by decide +kernel
theorem dX0_perform_108 : decode cX0_perform 108 = .ok (.aload_n 1, 1) := by decide +kernel
theorem dX0_perform_109 : decode cX0_perform 109 = .ok (.getfield 35, 3) := by decide +kernel
theorem dX0_perform_112 : decode cX0_perform 112 = .ok (.invokestatic 40, 3) := by decide +kernel
theorem dX0_perform_115 : decode cX0_perform 115 = .ok (.istore 5, 2) := by decide +kernel
theorem dX0_perform_117 : decode cX0_perform 117 = .ok (.goto (-100), 3) := by decide +kernel
theorem dX0_perform_120 : decode cX0_perform 120 = .ok (.iload 5, 2) := by decide +kernel
theorem dX0_perform_122 : decode cX0_perform 122 = .ok (.aload_n 1, 1) := by decide +kernel
theorem dX0_perform_123 : decode cX0_perform 123 = .ok (.getfield 35, 3) := by decide +kernel
theorem dX0_perform_126 : decode cX0_perform 126 = .ok (.if_icmp .ge 7, 3) := by decide +kernel
theorem dX0_perform_129 : decode cX0_perform 129 = .ok (.iconst 2, 1) := by decide +kernel
theorem dX0_perform_130 : decode cX0_perform 130 = .ok (.goto 4, 3) := by decide +kernel
theorem dX0_perform_133 : decode cX0_perform 133 = .ok (.iconst 0, 1) := by decide +kernel
theorem dX0_perform_134 : decode cX0_perform 134 = .ok (.ireturn, 1) := by decide +kernel
theorem dX0_begin_0 : decode cX0_begin 0 = .ok (.iconst 0, 1) := by decide +kernel
theorem dX0_begin_1 : decode cX0_begin 1 = .ok (.istore_n 3, 1) := by decide +kernel
theorem dX0_begin_2 : decode cX0_begin 2 = .ok (.iload_n 3, 1) := by decide +kernel
theorem dX0_begin_3 : decode cX0_begin 3 = .ok (.bipush 8, 2) := by decide +kernel
theorem dX0_begin_5 : decode cX0_begin 5 = .ok (.if_icmp .ge 16, 3) := by decide +kernel
theorem dX0_begin_8 : decode cX0_begin 8 = .ok (.aload_n 0, 1) := by decide +kernel
theorem dX0_begin_9 : decode cX0_begin 9 = .ok (.getfield 9, 3) := by decide +kernel
theorem dX0_begin_12 : decode cX0_begin 12 = .ok (.iload_n 3, 1) := by decide +kernel
theorem dX0_begin_13 : decode cX0_begin 13 = .ok (.iconst 0, 1) := by decide +kernel
theorem dX0_begin_14 : decode cX0_begin 14 = .ok (.iastore, 1) := by decide +kernel
theorem dX0_begin_15 : decode cX0_begin 15 = .ok (.iinc 3 1, 3) := by decide +kernel
theorem dX0_begin_18 : decode cX0_begin 18 = .ok (.goto (-16), 3) := by decide +kernel
theorem dX0_begin_21 : decode cX0_begin 21 = .ok (.iconst 0, 1) := by decide +kernel
theorem dX0_begin_22 : decode cX0_begin 22 = .ok (.istore_n 3, 1) := by decide +kernel
theorem dX0_begin_23 : decode cX0_begin 23 = .ok (.iload_n 3, 1) := by decide +kernel
theorem dX0_begin_24 : decode cX0_begin 24 = .ok (.bipush 32, 2) := by decide +kernel
theorem dX0_begin_26 : decode cX0_begin 26 = .ok (.if_icmp .ge 16, 3) := by decide +kernel
theorem dX0_begin_29 : decode cX0_begin 29 = .ok (.aload_n 0, 1) := by decide +kernel
theorem dX0_begin_30 : decode cX0_begin 30 = .ok (.getfield 15, 3) := by decide +kernel
theorem dX0_begin_33 : decode cX0_begin 33 = .ok (.iload_n 3, 1) := by decide +kernel
theorem dX0_begin_34 : decode cX0_begin 34 = .ok (.iconst 0, 1) := by decide +kernel
theorem dX0_begin_35 : decode cX0_begin 35 = .ok (.iastore, 1) := by decide +kernel
theorem dX0_begin_36 : decode cX0_begin 36 = .ok (.iinc 3 1, 3) := by decide +kernel
theorem dX0_begin_39 : decode cX0_begin 39 = .ok (.goto (-16), 3) := by decide +kernel
theorem dX0_begin_42 : decode cX0_begin 42 = .ok (.iconst 0, 1) := by decide +kernel
theorem dX0_begin_43 : decode cX0_begin 43 = .ok (.istore_n 3, 1) := by decide +kernel
theorem dX0_begin_44 : decode cX0_begin 44 = .ok (.iload_n 3, 1) := by decide +kernel
theorem dX0_begin_45 : decode cX0_begin 45 = .ok (.iconst 4, 1) := by decide +kernel
theorem dX0_begin_46 : decode cX0_begin 46 = .ok (.if_icmp .ge 21, 3) := by decide +kernel
theorem dX0_begin_49 : decode cX0_begin 49 = .ok (.aload_n 0, 1) := by decide +kernel
theorem dX0_begin_50 : decode cX0_begin 50 = .ok (.getfield 18, 3) := by decide +kernel
theorem dX0_begin_53 : decode cX0_begin 53 = .ok (.iload_n 3, 1) := by decide +kernel
theorem dX0_begin_54 : decode cX0_begin 54 = .ok (.aload_n 1, 1) := by decide +kernel
theorem dX0_begin_55 : decode cX0_begin 55 = .ok (.getfield 57, 3) := by decide +kernel
theorem dX0_begin_58 : decode cX0_begin 58 = .ok (.iload_n 3, 1) := by decide +kernel
theorem dX0_begin_59 : decode cX0_begin 59 = .ok (.iaload, 1) := by decide +kernel
theorem dX0_begin_60 : decode cX0_begin 60 = .ok (.iastore, 1) := by decide +kernel
theorem dX0_begin_61 : decode cX0_begin 61 = .ok (.iinc 3 1, 3) := by decide +kernel
theorem dX0_begin_64 : decode cX0_begin 64 = .ok (.goto (-20), 3) := by decide +kernel
theorem dX0_begin_67 : decode cX0_begin 67 = .ok (.iconst 0, 1) := by decide +kernel
theorem dX0_begin_68 : decode cX0_begin 68 = .ok (.istore_n 3, 1) := by decide +kernel
theorem dX0_begin_69 : decode cX0_begin 69 = .ok (.iload_n 3, 1) := by decide +kernel
theorem dX0_begin_70 : decode cX0_begin 70 = .ok (.iconst 4, 1) := by decide +kernel
theorem dX0_begin_71 : decode cX0_begin 71 = .ok (.if_icmp .ge 30, 3) := by decide +kernel
theorem dX0_begin_74 : decode cX0_begin 74 = .ok (.aload_n 0, 1) := by decide +kernel
theorem dX0_begin_75 : decode cX0_begin 75 = .ok (.getfield 21, 3) := by decide +kernel
theorem dX0_begin_78 : decode cX0_begin 78 = .ok (.iload_n 3, 1) := by decide +kernel
theorem dX0_begin_79 : decode cX0_begin 79 = .ok (.aload_n 1, 1) := by decide +kernel
theorem dX0_begin_80 : decode cX0_begin 80 = .ok (.getfield 60, 3) := by decide +kernel
theorem dX0_begin_83 : decode cX0_begin 83 = .ok (.iload_n 3, 1) := by decide +kernel
theorem dX0_begin_84 : decode cX0_begin 84 = .ok (.iaload, 1) := by decide +kernel
theorem dX0_begin_85 : decode cX0_begin 85 = .ok (.aload_n 2, 1) := by decide +kernel
theorem dX0_begin_86 : decode cX0_begin 86 = .ok (.iconst 3, 1) := by decide +kernel
theorem dX0_begin_87 : decode cX0_begin 87 = .ok (.iaload, 1) := by decide +kernel
theorem dX0_begin_88 : decode cX0_begin 88 = .ok (.ldc 65, 2) := by decide +kernel
theorem dX0_begin_90 : decode cX0_begin 90 = .ok (.iand, 1) := by decide +kernel
theorem dX0_begin_91 : decode cX0_begin 91 = .ok (.invokestatic 66, 3) := by decide +kernel
theorem dX0_begin_94 : decode cX0_begin 94 = .ok (.iastore, 1) := by decide +kernel
theorem dX0_begin_95 : decode cX0_begin 95 = .ok (.iinc 3 1, 3) := by decide +kernel
theorem dX0_begin_98 : decode cX0_begin 98 = .ok (.goto (-29), 3) := by decide +kernel
theorem dX0_begin_101 : decode cX0_begin 101 = .ok (.aload_n 0, 1) := by decide +kernel
theorem dX0_begin_102 : decode cX0_begin 102 = .ok (.iconst 0, 1) := by decide +kernel
theorem dX0_begin_103 : decode cX0_begin 103 = .ok (.putfield 51, 3) := by decide +kernel
theorem dX0_begin_106 : decode cX0_begin 106 = .ok (.aload_n 0, 1) := by decide +kernel
theorem dX0_begin_107 : decode cX0_begin 107 = .ok (.iconst 0, 1) := by decide +kernel
theorem dX0_begin_108 : decode cX0_begin 108 = .ok (.putfield 44, 3) := by decide +kernel
theorem dX0_begin_111 : decode cX0_begin 111 = .ok (.aload_n 0, 1) := by decide +kernel
theorem dX0_begin_112 : decode cX0_begin 112 = .ok (.bipush (-4), 2) := by decide +kernel
theorem dX0_begin_114 : decode cX0_begin 114 = .ok (.putfield 27, 3) := by decide +kernel
theorem dX0_begin_117 : decode cX0_begin 117 = .ok (.return_, 1) := by decide +kernel
theorem dX0_chosenRow_0 : decode cX0_chosenRow 0 = .ok (.iload_n 0, 1) := by decide +kernel
theorem dX0_chosenRow_1 : decode cX0_chosenRow 1 = .ok (.invokestatic 70, 3) := by decide +kernel
theorem dX0_chosenRow_4 : decode cX0_chosenRow 4 = .ok (.istore_n 2, 1) := by decide +kernel
theorem dX0_chosenRow_5 : decode cX0_chosenRow 5 = .ok (.iload_n 2, 1) := by decide +kernel
theorem dX0_chosenRow_6 : decode cX0_chosenRow 6 = .ok (.ifCond .ne 7, 3) := by decide +kernel
theorem dX0_chosenRow_9 : decode cX0_chosenRow 9 = .ok (.iconst 0, 1) := by decide +kernel
theorem dX0_chosenRow_10 : decode cX0_chosenRow 10 = .ok (.goto 6, 3) := by decide +kernel
theorem dX0_chosenRow_13 : decode cX0_chosenRow 13 = .ok (.iload_n 1, 1) := by decide +kernel
theorem dX0_chosenRow_14 : decode cX0_chosenRow 14 = .ok (.iload_n 2, 1) := by decide +kernel
theorem dX0_chosenRow_15 : decode cX0_chosenRow 15 = .ok (.irem, 1) := by decide +kernel
theorem dX0_chosenRow_16 : decode cX0_chosenRow 16 = .ok (.istore_n 3, 1) := by decide +kernel
theorem dX0_chosenRow_17 : decode cX0_chosenRow 17 = .ok (.iconst 0, 1) := by decide +kernel
theorem dX0_chosenRow_18 : decode cX0_chosenRow 18 = .ok (.istore 4, 2) := by decide +kernel
theorem dX0_chosenRow_20 : decode cX0_chosenRow 20 = .ok (.iload 4, 2) := by decide +kernel
theorem dX0_chosenRow_22 : decode cX0_chosenRow 22 = .ok (.iconst 4, 1) := by decide +kernel
theorem dX0_chosenRow_23 : decode cX0_chosenRow 23 = .ok (.if_icmp .ge 28, 3) := by decide +kernel
theorem dX0_chosenRow_26 : decode cX0_chosenRow 26 = .ok (.iload_n 0, 1) := by decide +kernel
theorem dX0_chosenRow_27 : decode cX0_chosenRow 27 = .ok (.iload 4, 2) := by decide +kernel
theorem dX0_chosenRow_29 : decode cX0_chosenRow 29 = .ok (.invokestatic 74, 3) := by decide +kernel
theorem dX0_chosenRow_32 : decode cX0_chosenRow 32 = .ok (.ifCond .eq 13, 3) := by decide +kernel
theorem dX0_chosenRow_35 : decode cX0_chosenRow 35 = .ok (.iload_n 3, 1) := by decide +kernel
theorem dX0_chosenRow_36 : decode cX0_chosenRow 36 = .ok (.ifCond .ne 6, 3) := by decide +kernel
theorem dX0_chosenRow_39 : decode cX0_chosenRow 39 = .ok (.iload 4, 2) := by decide +kernel
theorem dX0_chosenRow_41 : decode cX0_chosenRow 41 = .ok (.ireturn, 1) := by decide +kernel
theorem dX0_chosenRow_42 : decode cX0_chosenRow 42 = .ok (.iinc 3 (-1), 3) := by decide +kernel
theorem dX0_chosenRow_45 : decode cX0_chosenRow 45 = .ok (.iinc 4 1, 3) := by decide +kernel
theorem dX0_chosenRow_48 : decode cX0_chosenRow 48 = .ok (.goto (-28), 3) := by decide +kernel
theorem dX0_chosenRow_51 : decode cX0_chosenRow 51 = .ok (.iconst 0, 1) := by decide +kernel
theorem dX0_chosenRow_52 : decode cX0_chosenRow 52 = .ok (.ireturn, 1) := by decide +kernel
theorem dX0_firstFrom_0 : decode cX0_firstFrom 0 = .ok (.iload_n 0, 1) := by decide +kernel
theorem dX0_firstFrom_1 : decode cX0_firstFrom 1 = .ok (.istore_n 3, 1) := by decide +kernel
theorem dX0_firstFrom_2 : decode cX0_firstFrom 2 = .ok (.iload_n 3, 1) := by decide +kernel
theorem dX0_firstFrom_3 : decode cX0_firstFrom 3 = .ok (.iload_n 2, 1) := by decide +kernel
theorem dX0_firstFrom_4 : decode cX0_firstFrom 4 = .ok (.if_icmp .ge 17, 3) := by decide +kernel
theorem dX0_firstFrom_7 : decode cX0_firstFrom 7 = .ok (.iload_n 1, 1) := by decide +kernel
theorem dX0_firstFrom_8 : decode cX0_firstFrom 8 = .ok (.iload_n 3, 1) := by decide +kernel
theorem dX0_firstFrom_9 : decode cX0_firstFrom 9 = .ok (.invokestatic 74, 3) := by decide +kernel
theorem dX0_firstFrom_12 : decode cX0_firstFrom 12 = .ok (.ifCond .ne 9, 3) := by decide +kernel
theorem dX0_firstFrom_15 : decode cX0_firstFrom 15 = .ok (.iinc 3 1, 3) := by decide +kernel
theorem dX0_firstFrom_18 : decode cX0_firstFrom 18 = .ok (.goto (-16), 3) := by decide +kernel
theorem dX0_firstFrom_21 : decode cX0_firstFrom 21 = .ok (.iload_n 3, 1) := by decide +kernel
theorem dX0_firstFrom_22 : decode cX0_firstFrom 22 = .ok (.ireturn, 1) := by decide +kernel
theorem dX0_step_0 : decode cX0_step 0 = .ok (.aload_n 1, 1) := by decide +kernel
theorem dX0_step_1 : decode cX0_step 1 = .ok (.getfield 78, 3) := by decide +kernel
theorem dX0_step_4 : decode cX0_step 4 = .ok (.iload_n 3, 1) := by decide +kernel
theorem dX0_step_5 : decode cX0_step 5 = .ok (.iaload, 1) := by decide +kernel
theorem dX0_step_6 : decode cX0_step 6 = .ok (.istore 4, 2) := by decide +kernel
theorem dX0_step_8 : decode cX0_step 8 = .ok (.aload_n 1, 1) := by decide +kernel
theorem dX0_step_9 : decode cX0_step 9 = .ok (.getfield 81, 3) := by decide +kernel
theorem dX0_step_12 : decode cX0_step 12 = .ok (.iload_n 3, 1) := by decide +kernel
theorem dX0_step_13 : decode cX0_step 13 = .ok (.iaload, 1) := by decide +kernel
theorem dX0_step_14 : decode cX0_step 14 = .ok (.istore 5, 2) := by decide +kernel
theorem dX0_step_16 : decode cX0_step 16 = .ok (.aload_n 0, 1) := by decide +kernel
theorem dX0_step_17 : decode cX0_step 17 = .ok (.aload_n 1, 1) := by decide +kernel
theorem dX0_step_18 : decode cX0_step 18 = .ok (.iload_n 3, 1) := by decide +kernel
theorem dX0_step_19 : decode cX0_step 19 = .ok (.invokevirtual 84, 3) := by decide +kernel
theorem dX0_step_22 : decode cX0_step 22 = .ok (.ifCond .eq 17, 3) := by decide +kernel
theorem dX0_step_25 : decode cX0_step 25 = .ok (.aload_n 0, 1) := by decide +kernel
theorem dX0_step_26 : decode cX0_step 26 = .ok (.iload_n 3, 1) := by decide +kernel
theorem dX0_step_27 : decode cX0_step 27 = .ok (.putfield 27, 3) := by decide +kernel
theorem dX0_step_30 : decode cX0_step 30 = .ok (.aload_n 0, 1) := by decide +kernel
theorem dX0_step_31 : decode cX0_step 31 = .ok (.ldc 88, 2) := by decide +kernel
theorem dX0_step_33 : decode cX0_step 33 = .ok (.putfield 54, 3) := by decide +kernel
theorem dX0_step_36 : decode cX0_step 36 = .ok (.bipush 24, 2) := by decide +kernel
theorem dX0_step_38 : decode cX0_step 38 = .ok (.ireturn, 1) := by decide +kernel
theorem dX0_step_39 : decode cX0_step 39 = .ok (.aload_n 0, 1) := by decide +kernel
theorem dX0_step_40 : decode cX0_step 40 = .ok (.iconst 0, 1) := by decide +kernel
theorem dX0_step_41 : decode cX0_step 41 = .ok (.putfield 54, 3) := by decide +kernel
theorem dX0_step_44 : decode cX0_step 44 = .ok (.aload_n 1, 1) := by decide +kernel
theorem dX0_step_45 : decode cX0_step 45 = .ok (.getfield 89, 3) := by decide +kernel
theorem dX0_step_48 : decode cX0_step 48 = .ok (.iload_n 3, 1) := by decide +kernel
theorem dX0_step_49 : decode cX0_step 49 = .ok (.iaload, 1) := by decide +kernel
theorem dX0_step_50 : decode cX0_step 50 = .ok (.tableswitch 178 0 13 #[70, 178, 178, 178, 178, 178, 178, 74, 178, 178, 110, 136, 172, 175], 70) := by decide +kernel
theorem dX0_step_120 : decode cX0_step 120 = .ok (.iload_n 3, 1) := by decide +kernel
theorem dX0_step_121 : decode cX0_step 121 = .ok (.iconst 1, 1) := by decide +kernel
theorem dX0_step_122 : decode cX0_step 122 = .ok (.iadd, 1) := by decide +kernel
theorem dX0_step_123 : decode cX0_step 123 = .ok (.ireturn, 1) := by decide +kernel
theorem dX0_step_124 : decode cX0_step 124 = .ok (.aload_n 0, 1) := by decide +kernel
theorem dX0_step_125 : decode cX0_step 125 = .ok (.aload_n 0, 1) := by decide +kernel
theorem dX0_step_126 : decode cX0_step 126 = .ok (.getfield 9, 3) := by decide +kernel
theorem dX0_step_129 : decode cX0_step 129 = .ok (.iload 4, 2) := by decide +kernel
theorem dX0_step_131 : decode cX0_step 131 = .ok (.iaload, 1) := by decide +kernel
theorem dX0_step_132 : decode cX0_step 132 = .ok (.putfield 54, 3) := by decide +kernel
theorem dX0_step_135 : decode cX0_step 135 = .ok (.aload_n 0, 1) := by decide +kernel
theorem dX0_step_136 : decode cX0_step 136 = .ok (.getfield 15, 3) := by decide +kernel
theorem dX0_step_139 : decode cX0_step 139 = .ok (.aload_n 0, 1) := by decide +kernel
theorem dX0_step_140 : decode cX0_step 140 = .ok (.iload 5, 2) := by decide +kernel
theorem dX0_step_142 : decode cX0_step 142 = .ok (.aload_n 1, 1) := by decide +kernel
theorem dX0_step_143 : decode cX0_step 143 = .ok (.getfield 92, 3) := by decide +kernel
theorem dX0_step_146 : decode cX0_step 146 = .ok (.iload_n 3, 1) := by decide +kernel
theorem dX0_step_147 : decode cX0_step 147 = .ok (.iaload, 1) := by decide +kernel
theorem dX0_step_148 : decode cX0_step 148 = .ok (.invokevirtual 95, 3) := by decide +kernel
theorem dX0_step_151 : decode cX0_step 151 = .ok (.aload_n 0, 1) := by decide +kernel
theorem dX0_step_152 : decode cX0_step 152 = .ok (.getfield 54, 3) := by decide +kernel
theorem dX0_step_155 : decode cX0_step 155 = .ok (.iastore, 1) := by decide +kernel
theorem dX0_step_156 : decode cX0_step 156 = .ok (.iload_n 3, 1) := by decide +kernel
theorem dX0_step_157 : decode cX0_step 157 = .ok (.iconst 1, 1) := by decide +kernel
theorem dX0_step_158 : decode cX0_step 158 = .ok (.iadd, 1) := by decide +kernel
theorem dX0_step_159 : decode cX0_step 159 = .ok (.ireturn, 1) := by decide +kernel
theorem dX0_step_160 : decode cX0_step 160 = .ok (.aload_n 0, 1) := by decide +kernel
theorem dX0_step_161 : decode cX0_step 161 = .ok (.aload_n 0, 1) := by decide +kernel
theorem dX0_step_162 : decode cX0_step 162 = .ok (.getfield 9, 3) := by decide +kernel
theorem dX0_step_165 : decode cX0_step 165 = .ok (.iload 4, 2) := by decide +kernel
theorem dX0_step_167 : decode cX0_step 167 = .ok (.iaload, 1) := by decide +kernel
theorem dX0_step_168 : decode cX0_step 168 = .ok (.putfield 54, 3) := by decide +kernel
theorem dX0_step_171 : decode cX0_step 171 = .ok (.aload_n 0, 1) := by decide +kernel
theorem dX0_step_172 : decode cX0_step 172 = .ok (.getfield 18, 3) := by decide +kernel
theorem dX0_step_175 : decode cX0_step 175 = .ok (.iload 5, 2) := by decide +kernel
theorem dX0_step_177 : decode cX0_step 177 = .ok (.aload_n 0, 1) := by decide +kernel
theorem dX0_step_178 : decode cX0_step 178 = .ok (.getfield 54, 3) := by decide +kernel
theorem dX0_step_181 : decode cX0_step 181 = .ok (.iastore, 1) := by decide +kernel
theorem dX0_step_182 : decode cX0_step 182 = .ok (.iload_n 3, 1) := by decide +kernel
theorem dX0_step_183 : decode cX0_step 183 = .ok (.iconst 1, 1) := by decide +kernel
theorem dX0_step_184 : decode cX0_step 184 = .ok (.iadd, 1) := by decide +kernel
theorem dX0_step_185 : decode cX0_step 185 = .ok (.ireturn, 1) := by decide +kernel
theorem dX0_step_186 : decode cX0_step 186 = .ok (.aload_n 0, 1) := by decide +kernel
theorem dX0_step_187 : decode cX0_step 187 = .ok (.aload_n 0, 1) := by decide +kernel
theorem dX0_step_188 : decode cX0_step 188 = .ok (.getfield 9, 3) := by decide +kernel
theorem dX0_step_191 : decode cX0_step 191 = .ok (.iload 4, 2) := by decide +kernel
theorem dX0_step_193 : decode cX0_step 193 = .ok (.iaload, 1) := by decide +kernel
theorem dX0_step_194 : decode cX0_step 194 = .ok (.ifCond .ne 7, 3) := by decide +kernel
theorem dX0_step_197 : decode cX0_step 197 = .ok (.iconst 1, 1) := by decide +kernel
theorem dX0_step_198 : decode cX0_step 198 = .ok (.goto 4, 3) := by decide +kernel
theorem dX0_step_201 : decode cX0_step 201 = .ok (.iconst 0, 1) := by decide +kernel
theorem dX0_step_202 : decode cX0_step 202 = .ok (.putfield 54, 3) := by decide +kernel
theorem dX0_step_205 : decode cX0_step 205 = .ok (.aload_n 0, 1) := by decide +kernel
theorem dX0_step_206 : decode cX0_step 206 = .ok (.getfield 54, 3) := by decide +kernel
theorem dX0_step_209 : decode cX0_step 209 = .ok (.iconst 1, 1) := by decide +kernel
theorem dX0_step_210 : decode cX0_step 210 = .ok (.if_icmp .ne 8, 3) := by decide +kernel
theorem dX0_step_213 : decode cX0_step 213 = .ok (.iload 5, 2) := by decide +kernel
theorem dX0_step_215 : decode cX0_step 215 = .ok (.goto 6, 3) := by decide +kernel
theorem dX0_step_218 : decode cX0_step 218 = .ok (.iload_n 3, 1) := by decide +kernel
theorem dX0_step_219 : decode cX0_step 219 = .ok (.iconst 1, 1) := by decide +kernel
theorem dX0_step_220 : decode cX0_step 220 = .ok (.iadd, 1) := by decide +kernel
theorem dX0_step_221 : decode cX0_step 221 = .ok (.ireturn, 1) := by decide +kernel
theorem dX0_step_222 : decode cX0_step 222 = .ok (.iload 5, 2) := by decide +kernel
theorem dX0_step_224 : decode cX0_step 224 = .ok (.ireturn, 1) := by decide +kernel
theorem dX0_step_225 : decode cX0_step 225 = .ok (.bipush 24, 2) := by decide +kernel
theorem dX0_step_227 : decode cX0_step 227 = .ok (.ireturn, 1) := by decide +kernel
theorem dX0_step_228 : decode cX0_step 228 = .ok (.aload_n 0, 1) := by decide +kernel
theorem dX0_step_229 : decode cX0_step 229 = .ok (.aload_n 0, 1) := by decide +kernel
theorem dX0_step_230 : decode cX0_step 230 = .ok (.aload_n 1, 1) := by decide +kernel
theorem dX0_step_231 : decode cX0_step 231 = .ok (.getfield 89, 3) := by decide +kernel
theorem dX0_step_234 : decode cX0_step 234 = .ok (.iload_n 3, 1) := by decide +kernel
theorem dX0_step_235 : decode cX0_step 235 = .ok (.iaload, 1) := by decide +kernel
theorem dX0_step_236 : decode cX0_step 236 = .ok (.iload 5, 2) := by decide +kernel
theorem dX0_step_238 : decode cX0_step 238 = .ok (.aload_n 1, 1) := by decide +kernel
theorem dX0_step_239 : decode cX0_step 239 = .ok (.getfield 92, 3) := by decide +kernel
theorem dX0_step_242 : decode cX0_step 242 = .ok (.iload_n 3, 1) := by decide +kernel
theorem dX0_step_243 : decode cX0_step 243 = .ok (.iaload, 1) := by decide +kernel
theorem dX0_step_244 : decode cX0_step 244 = .ok (.aload_n 2, 1) := by decide +kernel
theorem dX0_step_245 : decode cX0_step 245 = .ok (.invokevirtual 98, 3) := by decide +kernel
theorem dX0_step_248 : decode cX0_step 248 = .ok (.putfield 54, 3) := by decide +kernel
theorem dX0_step_251 : decode cX0_step 251 = .ok (.aload_n 0, 1) := by decide +kernel
theorem dX0_step_252 : decode cX0_step 252 = .ok (.getfield 9, 3) := by decide +kernel
theorem dX0_step_255 : decode cX0_step 255 = .ok (.iload 4, 2) := by decide +kernel
theorem dX0_step_257 : decode cX0_step 257 = .ok (.aload_n 0, 1) := by decide +kernel
theorem dX0_step_258 : decode cX0_step 258 = .ok (.getfield 54, 3) := by decide +kernel
theorem dX0_step_261 : decode cX0_step 261 = .ok (.iastore, 1) := by decide +kernel
theorem dX0_step_262 : decode cX0_step 262 = .ok (.iload_n 3, 1) := by decide +kernel
theorem dX0_step_263 : decode cX0_step 263 = .ok (.iconst 1, 1) := by decide +kernel
theorem dX0_step_264 : decode cX0_step 264 = .ok (.iadd, 1) := by decide +kernel
theorem dX0_step_265 : decode cX0_step 265 = .ok (.ireturn, 1) := by decide +kernel
theorem dX0_failsAt_0 : decode cX0_failsAt 0 = .ok (.aload_n 1, 1) := by decide +kernel
theorem dX0_failsAt_1 : decode cX0_failsAt 1 = .ok (.getfield 89, 3) := by decide +kernel
theorem dX0_failsAt_4 : decode cX0_failsAt 4 = .ok (.iload_n 2, 1) := by decide +kernel
theorem dX0_failsAt_5 : decode cX0_failsAt 5 = .ok (.iaload, 1) := by decide +kernel
theorem dX0_failsAt_6 : decode cX0_failsAt 6 = .ok (.bipush 6, 2) := by decide +kernel
theorem dX0_failsAt_8 : decode cX0_failsAt 8 = .ok (.if_icmp .ne 17, 3) := by decide +kernel
theorem dX0_failsAt_11 : decode cX0_failsAt 11 = .ok (.aload_n 0, 1) := by decide +kernel
theorem dX0_failsAt_12 : decode cX0_failsAt 12 = .ok (.getfield 9, 3) := by decide +kernel
theorem dX0_failsAt_15 : decode cX0_failsAt 15 = .ok (.aload_n 1, 1) := by decide +kernel
theorem dX0_failsAt_16 : decode cX0_failsAt 16 = .ok (.getfield 92, 3) := by decide +kernel
theorem dX0_failsAt_19 : decode cX0_failsAt 19 = .ok (.iload_n 2, 1) := by decide +kernel
theorem dX0_failsAt_20 : decode cX0_failsAt 20 = .ok (.iaload, 1) := by decide +kernel
theorem dX0_failsAt_21 : decode cX0_failsAt 21 = .ok (.iaload, 1) := by decide +kernel
theorem dX0_failsAt_22 : decode cX0_failsAt 22 = .ok (.ifCond .eq 11, 3) := by decide +kernel
theorem dX0_failsAt_25 : decode cX0_failsAt 25 = .ok (.aload_n 1, 1) := by decide +kernel
theorem dX0_failsAt_26 : decode cX0_failsAt 26 = .ok (.iload_n 2, 1) := by decide +kernel
theorem dX0_failsAt_27 : decode cX0_failsAt 27 = .ok (.invokevirtual 102, 3) := by decide +kernel
theorem dX0_failsAt_30 : decode cX0_failsAt 30 = .ok (.ifCond .eq 7, 3) := by decide +kernel
theorem dX0_failsAt_33 : decode cX0_failsAt 33 = .ok (.iconst 1, 1) := by decide +kernel
theorem dX0_failsAt_34 : decode cX0_failsAt 34 = .ok (.goto 4, 3) := by decide +kernel
theorem dX0_failsAt_37 : decode cX0_failsAt 37 = .ok (.iconst 0, 1) := by decide +kernel
theorem dX0_failsAt_38 : decode cX0_failsAt 38 = .ok (.ireturn, 1) := by decide +kernel
theorem dX0_itemOf_0 : decode cX0_itemOf 0 = .ok (.aload_n 0, 1) := by decide +kernel
theorem dX0_itemOf_1 : decode cX0_itemOf 1 = .ok (.getfield 21, 3) := by decide +kernel
theorem dX0_itemOf_4 : decode cX0_itemOf 4 = .ok (.iload_n 2, 1) := by decide +kernel
theorem dX0_itemOf_5 : decode cX0_itemOf 5 = .ok (.iaload, 1) := by decide +kernel
theorem dX0_itemOf_6 : decode cX0_itemOf 6 = .ok (.bipush 8, 2) := by decide +kernel
theorem dX0_itemOf_8 : decode cX0_itemOf 8 = .ok (.imul, 1) := by decide +kernel
theorem dX0_itemOf_9 : decode cX0_itemOf 9 = .ok (.aload_n 0, 1) := by decide +kernel
theorem dX0_itemOf_10 : decode cX0_itemOf 10 = .ok (.getfield 9, 3) := by decide +kernel
theorem dX0_itemOf_13 : decode cX0_itemOf 13 = .ok (.iload_n 1, 1) := by decide +kernel
theorem dX0_itemOf_14 : decode cX0_itemOf 14 = .ok (.iaload, 1) := by decide +kernel
theorem dX0_itemOf_15 : decode cX0_itemOf 15 = .ok (.bipush 7, 2) := by decide +kernel
theorem dX0_itemOf_17 : decode cX0_itemOf 17 = .ok (.iand, 1) := by decide +kernel
theorem dX0_itemOf_18 : decode cX0_itemOf 18 = .ok (.iadd, 1) := by decide +kernel
theorem dX0_itemOf_19 : decode cX0_itemOf 19 = .ok (.ireturn, 1) := by decide +kernel
theorem dX0_valueOf_0 : decode cX0_valueOf 0 = .ok (.iload_n 1, 1) := by decide +kernel
theorem dX0_valueOf_1 : decode cX0_valueOf 1 = .ok (.tableswitch 153 1 9 #[51, 53, 58, 72, 93, 107, 153, 134, 146], 51) := by decide +kernel
theorem dX0_valueOf_52 : decode cX0_valueOf 52 = .ok (.iload_n 2, 1) := by decide +kernel
theorem dX0_valueOf_53 : decode cX0_valueOf 53 = .ok (.ireturn, 1) := by decide +kernel
theorem dX0_valueOf_54 : decode cX0_valueOf 54 = .ok (.aload 4, 2) := by decide +kernel
theorem dX0_valueOf_56 : decode cX0_valueOf 56 = .ok (.iload_n 2, 1) := by decide +kernel
theorem dX0_valueOf_57 : decode cX0_valueOf 57 = .ok (.iaload, 1) := by decide +kernel
theorem dX0_valueOf_58 : decode cX0_valueOf 58 = .ok (.ireturn, 1) := by decide +kernel
theorem dX0_valueOf_59 : decode cX0_valueOf 59 = .ok (.aload_n 0, 1) := by decide +kernel
theorem dX0_valueOf_60 : decode cX0_valueOf 60 = .ok (.getfield 9, 3) := by decide +kernel
theorem dX0_valueOf_63 : decode cX0_valueOf 63 = .ok (.iload_n 2, 1) := by decide +kernel
theorem dX0_valueOf_64 : decode cX0_valueOf 64 = .ok (.iaload, 1) := by decide +kernel
theorem dX0_valueOf_65 : decode cX0_valueOf 65 = .ok (.aload_n 0, 1) := by decide +kernel
theorem dX0_valueOf_66 : decode cX0_valueOf 66 = .ok (.getfield 9, 3) := by decide +kernel
theorem dX0_valueOf_69 : decode cX0_valueOf 69 = .ok (.iload_n 3, 1) := by decide +kernel
theorem dX0_valueOf_70 : decode cX0_valueOf 70 = .ok (.iaload, 1) := by decide +kernel
theorem dX0_valueOf_71 : decode cX0_valueOf 71 = .ok (.iadd, 1) := by decide +kernel
theorem dX0_valueOf_72 : decode cX0_valueOf 72 = .ok (.ireturn, 1) := by decide +kernel
theorem dX0_valueOf_73 : decode cX0_valueOf 73 = .ok (.aload_n 0, 1) := by decide +kernel
theorem dX0_valueOf_74 : decode cX0_valueOf 74 = .ok (.getfield 9, 3) := by decide +kernel
theorem dX0_valueOf_77 : decode cX0_valueOf 77 = .ok (.iload_n 2, 1) := by decide +kernel
theorem dX0_valueOf_78 : decode cX0_valueOf 78 = .ok (.iaload, 1) := by decide +kernel
theorem dX0_valueOf_79 : decode cX0_valueOf 79 = .ok (.aload_n 0, 1) := by decide +kernel
theorem dX0_valueOf_80 : decode cX0_valueOf 80 = .ok (.getfield 9, 3) := by decide +kernel
theorem dX0_valueOf_83 : decode cX0_valueOf 83 = .ok (.iload_n 3, 1) := by decide +kernel
theorem dX0_valueOf_84 : decode cX0_valueOf 84 = .ok (.iaload, 1) := by decide +kernel
theorem dX0_valueOf_85 : decode cX0_valueOf 85 = .ok (.if_icmp .ge 7, 3) := by decide +kernel
theorem dX0_valueOf_88 : decode cX0_valueOf 88 = .ok (.iconst 1, 1) := by decide +kernel
theorem dX0_valueOf_89 : decode cX0_valueOf 89 = .ok (.goto 4, 3) := by decide +kernel
theorem dX0_valueOf_92 : decode cX0_valueOf 92 = .ok (.iconst 0, 1) := by decide +kernel
theorem dX0_valueOf_93 : decode cX0_valueOf 93 = .ok (.ireturn, 1) := by decide +kernel
theorem dX0_valueOf_94 : decode cX0_valueOf 94 = .ok (.aload_n 0, 1) := by decide +kernel
theorem dX0_valueOf_95 : decode cX0_valueOf 95 = .ok (.getfield 9, 3) := by decide +kernel
theorem dX0_valueOf_98 : decode cX0_valueOf 98 = .ok (.iload_n 2, 1) := by decide +kernel
theorem dX0_valueOf_99 : decode cX0_valueOf 99 = .ok (.iaload, 1) := by decide +kernel
theorem dX0_valueOf_100 : decode cX0_valueOf 100 = .ok (.aload_n 0, 1) := by decide +kernel
theorem dX0_valueOf_101 : decode cX0_valueOf 101 = .ok (.getfield 9, 3) := by decide +kernel
theorem dX0_valueOf_104 : decode cX0_valueOf 104 = .ok (.iload_n 3, 1) := by decide +kernel
theorem dX0_valueOf_105 : decode cX0_valueOf 105 = .ok (.iaload, 1) := by decide +kernel
theorem dX0_valueOf_106 : decode cX0_valueOf 106 = .ok (.imul, 1) := by decide +kernel
theorem dX0_valueOf_107 : decode cX0_valueOf 107 = .ok (.ireturn, 1) := by decide +kernel
theorem dX0_valueOf_108 : decode cX0_valueOf 108 = .ok (.aload_n 0, 1) := by decide +kernel
theorem dX0_valueOf_109 : decode cX0_valueOf 109 = .ok (.getfield 9, 3) := by decide +kernel
theorem dX0_valueOf_112 : decode cX0_valueOf 112 = .ok (.iload_n 3, 1) := by decide +kernel
theorem dX0_valueOf_113 : decode cX0_valueOf 113 = .ok (.iaload, 1) := by decide +kernel
theorem dX0_valueOf_114 : decode cX0_valueOf 114 = .ok (.istore 5, 2) := by decide +kernel
theorem dX0_valueOf_116 : decode cX0_valueOf 116 = .ok (.iload 5, 2) := by decide +kernel
theorem dX0_valueOf_118 : decode cX0_valueOf 118 = .ok (.ifCond .ne 7, 3) := by decide +kernel
theorem dX0_valueOf_121 : decode cX0_valueOf 121 = .ok (.iconst 0, 1) := by decide +kernel
theorem dX0_valueOf_122 : decode cX0_valueOf 122 = .ok (.goto 12, 3) := by decide +kernel
theorem dX0_valueOf_125 : decode cX0_valueOf 125 = .ok (.aload_n 0, 1) := by decide +kernel
theorem dX0_valueOf_126 : decode cX0_valueOf 126 = .ok (.getfield 9, 3) := by decide +kernel
theorem dX0_valueOf_129 : decode cX0_valueOf 129 = .ok (.iload_n 2, 1) := by decide +kernel
theorem dX0_valueOf_130 : decode cX0_valueOf 130 = .ok (.iaload, 1) := by decide +kernel
theorem dX0_valueOf_131 : decode cX0_valueOf 131 = .ok (.iload 5, 2) := by decide +kernel
theorem dX0_valueOf_133 : decode cX0_valueOf 133 = .ok (.idiv, 1) := by decide +kernel
theorem dX0_valueOf_134 : decode cX0_valueOf 134 = .ok (.ireturn, 1) := by decide +kernel
theorem dX0_valueOf_135 : decode cX0_valueOf 135 = .ok (.aload_n 0, 1) := by decide +kernel
theorem dX0_valueOf_136 : decode cX0_valueOf 136 = .ok (.getfield 15, 3) := by decide +kernel
theorem dX0_valueOf_139 : decode cX0_valueOf 139 = .ok (.aload_n 0, 1) := by decide +kernel
theorem dX0_valueOf_140 : decode cX0_valueOf 140 = .ok (.iload_n 2, 1) := by decide +kernel
theorem dX0_valueOf_141 : decode cX0_valueOf 141 = .ok (.iload_n 3, 1) := by decide +kernel
theorem dX0_valueOf_142 : decode cX0_valueOf 142 = .ok (.invokevirtual 95, 3) := by decide +kernel
theorem dX0_valueOf_145 : decode cX0_valueOf 145 = .ok (.iaload, 1) := by decide +kernel
theorem dX0_valueOf_146 : decode cX0_valueOf 146 = .ok (.ireturn, 1) := by decide +kernel
theorem dX0_valueOf_147 : decode cX0_valueOf 147 = .ok (.aload_n 0, 1) := by decide +kernel
theorem dX0_valueOf_148 : decode cX0_valueOf 148 = .ok (.getfield 18, 3) := by decide +kernel
theorem dX0_valueOf_151 : decode cX0_valueOf 151 = .ok (.iload_n 2, 1) := by decide +kernel
theorem dX0_valueOf_152 : decode cX0_valueOf 152 = .ok (.iaload, 1) := by decide +kernel
theorem dX0_valueOf_153 : decode cX0_valueOf 153 = .ok (.ireturn, 1) := by decide +kernel
theorem dX0_valueOf_154 : decode cX0_valueOf 154 = .ok (.iconst 0, 1) := by decide +kernel
theorem dX0_valueOf_155 : decode cX0_valueOf 155 = .ok (.ireturn, 1) := by decide +kernel
theorem dX0_toldLike_0 : decode cX0_toldLike 0 = .ok (.aload_n 0, 1) := by decide +kernel
theorem dX0_toldLike_1 : decode cX0_toldLike 1 = .ok (.getfield 51, 3) := by decide +kernel
theorem dX0_toldLike_4 : decode cX0_toldLike 4 = .ok (.aload_n 1, 1) := by decide +kernel
theorem dX0_toldLike_5 : decode cX0_toldLike 5 = .ok (.getfield 51, 3) := by decide +kernel
theorem dX0_toldLike_8 : decode cX0_toldLike 8 = .ok (.if_icmp .eq 5, 3) := by decide +kernel
theorem dX0_toldLike_11 : decode cX0_toldLike 11 = .ok (.iconst 0, 1) := by decide +kernel
theorem dX0_toldLike_12 : decode cX0_toldLike 12 = .ok (.ireturn, 1) := by decide +kernel
theorem dX0_toldLike_13 : decode cX0_toldLike 13 = .ok (.iconst 0, 1) := by decide +kernel
theorem dX0_toldLike_14 : decode cX0_toldLike 14 = .ok (.istore_n 2, 1) := by decide +kernel
theorem dX0_toldLike_15 : decode cX0_toldLike 15 = .ok (.iload_n 2, 1) := by decide +kernel
theorem dX0_toldLike_16 : decode cX0_toldLike 16 = .ok (.aload_n 0, 1) := by decide +kernel
theorem dX0_toldLike_17 : decode cX0_toldLike 17 = .ok (.getfield 51, 3) := by decide +kernel
theorem dX0_toldLike_20 : decode cX0_toldLike 20 = .ok (.if_icmp .ge 26, 3) := by decide +kernel
theorem dX0_toldLike_23 : decode cX0_toldLike 23 = .ok (.aload_n 0, 1) := by decide +kernel
theorem dX0_toldLike_24 : decode cX0_toldLike 24 = .ok (.getfield 24, 3) := by decide +kernel
theorem dX0_toldLike_27 : decode cX0_toldLike 27 = .ok (.iload_n 2, 1) := by decide +kernel
theorem dX0_toldLike_28 : decode cX0_toldLike 28 = .ok (.iaload, 1) := by decide +kernel
theorem dX0_toldLike_29 : decode cX0_toldLike 29 = .ok (.aload_n 1, 1) := by decide +kernel
theorem dX0_toldLike_30 : decode cX0_toldLike 30 = .ok (.getfield 24, 3) := by decide +kernel
theorem dX0_toldLike_33 : decode cX0_toldLike 33 = .ok (.iload_n 2, 1) := by decide +kernel
theorem dX0_toldLike_34 : decode cX0_toldLike 34 = .ok (.iaload, 1) := by decide +kernel
theorem dX0_toldLike_35 : decode cX0_toldLike 35 = .ok (.if_icmp .eq 5, 3) := by decide +kernel
theorem dX0_toldLike_38 : decode cX0_toldLike 38 = .ok (.iconst 0, 1) := by decide +kernel
theorem dX0_toldLike_39 : decode cX0_toldLike 39 = .ok (.ireturn, 1) := by decide +kernel
theorem dX0_toldLike_40 : decode cX0_toldLike 40 = .ok (.iinc 2 1, 3) := by decide +kernel
theorem dX0_toldLike_43 : decode cX0_toldLike 43 = .ok (.goto (-28), 3) := by decide +kernel
theorem dX0_toldLike_46 : decode cX0_toldLike 46 = .ok (.iconst 1, 1) := by decide +kernel
theorem dX0_toldLike_47 : decode cX0_toldLike 47 = .ok (.ireturn, 1) := by decide +kernel
end
section
theorem dX1_init_0 : decode cX1_init 0 = .ok (.aload_n 0, 1) := by decide +kernel
theorem dX1_init_1 : decode cX1_init 1 = .ok (.invokespecial 3, 3) := by decide +kernel
theorem dX1_init_4 : decode cX1_init 4 = .ok (.aload_n 0, 1) := by decide +kernel
theorem dX1_init_5 : decode cX1_init 5 = .ok (.bipush 24, 2) := by decide +kernel
theorem dX1_init_7 : decode cX1_init 7 = .ok (.newarray .int, 2) := by decide +kernel
theorem dX1_init_9 : decode cX1_init 9 = .ok (.putfield 9, 3) := by decide +kernel
theorem dX1_init_12 : decode cX1_init 12 = .ok (.aload_n 0, 1) := by decide +kernel
theorem dX1_init_13 : decode cX1_init 13 = .ok (.bipush 24, 2) := by decide +kernel
theorem dX1_init_15 : decode cX1_init 15 = .ok (.newarray .int, 2) := by decide +kernel
theorem dX1_init_17 : decode cX1_init 17 = .ok (.putfield 15, 3) := by decide +kernel
theorem dX1_init_20 : decode cX1_init 20 = .ok (.aload_n 0, 1) := by decide +kernel
theorem dX1_init_21 : decode cX1_init 21 = .ok (.bipush 24, 2) := by decide +kernel
theorem dX1_init_23 : decode cX1_init 23 = .ok (.newarray .int, 2) := by decide +kernel
theorem dX1_init_25 : decode cX1_init 25 = .ok (.putfield 18, 3) := by decide +kernel
theorem dX1_init_28 : decode cX1_init 28 = .ok (.aload_n 0, 1) := by decide +kernel
theorem dX1_init_29 : decode cX1_init 29 = .ok (.bipush 24, 2) := by decide +kernel
theorem dX1_init_31 : decode cX1_init 31 = .ok (.newarray .int, 2) := by decide +kernel
theorem dX1_init_33 : decode cX1_init 33 = .ok (.putfield 21, 3) := by decide +kernel
theorem dX1_init_36 : decode cX1_init 36 = .ok (.aload_n 0, 1) := by decide +kernel
theorem dX1_init_37 : decode cX1_init 37 = .ok (.iconst 4, 1) := by decide +kernel
theorem dX1_init_38 : decode cX1_init 38 = .ok (.newarray .int, 2) := by decide +kernel
theorem dX1_init_40 : decode cX1_init 40 = .ok (.putfield 24, 3) := by decide +kernel
theorem dX1_init_43 : decode cX1_init 43 = .ok (.aload_n 0, 1) := by decide +kernel
theorem dX1_init_44 : decode cX1_init 44 = .ok (.iconst 4, 1) := by decide +kernel
theorem dX1_init_45 : decode cX1_init 45 = .ok (.newarray .boolean, 2) := by decide +kernel
theorem dX1_init_47 : decode cX1_init 47 = .ok (.putfield 27, 3) := by decide +kernel
theorem dX1_init_50 : decode cX1_init 50 = .ok (.aload_n 0, 1) := by decide +kernel
theorem dX1_init_51 : decode cX1_init 51 = .ok (.iconst 4, 1) := by decide +kernel
theorem dX1_init_52 : decode cX1_init 52 = .ok (.newarray .int, 2) := by decide +kernel
theorem dX1_init_54 : decode cX1_init 54 = .ok (.putfield 31, 3) := by decide +kernel
theorem dX1_init_57 : decode cX1_init 57 = .ok (.iconst 0, 1) := by decide +kernel
theorem dX1_init_58 : decode cX1_init 58 = .ok (.istore_n 1, 1) := by decide +kernel
theorem dX1_init_59 : decode cX1_init 59 = .ok (.iload_n 1, 1) := by decide +kernel
theorem dX1_init_60 : decode cX1_init 60 = .ok (.iconst 4, 1) := by decide +kernel
theorem dX1_init_61 : decode cX1_init 61 = .ok (.if_icmp .ge 16, 3) := by decide +kernel
theorem dX1_init_64 : decode cX1_init 64 = .ok (.aload_n 0, 1) := by decide +kernel
theorem dX1_init_65 : decode cX1_init 65 = .ok (.getfield 31, 3) := by decide +kernel
theorem dX1_init_68 : decode cX1_init 68 = .ok (.iload_n 1, 1) := by decide +kernel
theorem dX1_init_69 : decode cX1_init 69 = .ok (.iconst 1, 1) := by decide +kernel
theorem dX1_init_70 : decode cX1_init 70 = .ok (.iastore, 1) := by decide +kernel
theorem dX1_init_71 : decode cX1_init 71 = .ok (.iinc 1 1, 3) := by decide +kernel
theorem dX1_init_74 : decode cX1_init 74 = .ok (.goto (-15), 3) := by decide +kernel
theorem dX1_init_77 : decode cX1_init 77 = .ok (.return_, 1) := by decide +kernel
theorem dX1_allows_0 : decode cX1_allows 0 = .ok (.iload_n 0, 1) := by decide +kernel
theorem dX1_allows_1 : decode cX1_allows 1 = .ok (.ifCond .lt 49, 3) := by decide +kernel
theorem dX1_allows_4 : decode cX1_allows 4 = .ok (.iload_n 0, 1) := by decide +kernel
theorem dX1_allows_5 : decode cX1_allows 5 = .ok (.bipush 14, 2) := by decide +kernel
theorem dX1_allows_7 : decode cX1_allows 7 = .ok (.if_icmp .ge 43, 3) := by decide +kernel
theorem dX1_allows_10 : decode cX1_allows 10 = .ok (.iload_n 1, 1) := by decide +kernel
theorem dX1_allows_11 : decode cX1_allows 11 = .ok (.getstatic 34, 3) := by decide +kernel
theorem dX1_allows_14 : decode cX1_allows 14 = .ok (.iload_n 0, 1) := by decide +kernel
theorem dX1_allows_15 : decode cX1_allows 15 = .ok (.iaload, 1) := by decide +kernel
theorem dX1_allows_16 : decode cX1_allows 16 = .ok (.invokestatic 37, 3) := by decide +kernel
theorem dX1_allows_19 : decode cX1_allows 19 = .ok (.ifCond .eq 31, 3) := by decide +kernel
theorem dX1_allows_22 : decode cX1_allows 22 = .ok (.iload_n 2, 1) := by decide +kernel
theorem dX1_allows_23 : decode cX1_allows 23 = .ok (.getstatic 41, 3) := by decide +kernel
theorem dX1_allows_26 : decode cX1_allows 26 = .ok (.iload_n 0, 1) := by decide +kernel
theorem dX1_allows_27 : decode cX1_allows 27 = .ok (.iaload, 1) := by decide +kernel
theorem dX1_allows_28 : decode cX1_allows 28 = .ok (.invokestatic 37, 3) := by decide +kernel
theorem dX1_allows_31 : decode cX1_allows 31 = .ok (.ifCond .eq 19, 3) := by decide +kernel
theorem dX1_allows_34 : decode cX1_allows 34 = .ok (.iload_n 3, 1) := by decide +kernel
theorem dX1_allows_35 : decode cX1_allows 35 = .ok (.getstatic 44, 3) := by decide +kernel
theorem dX1_allows_38 : decode cX1_allows 38 = .ok (.iload_n 0, 1) := by decide +kernel
theorem dX1_allows_39 : decode cX1_allows 39 = .ok (.iaload, 1) := by decide +kernel
theorem dX1_allows_40 : decode cX1_allows 40 = .ok (.invokestatic 37, 3) := by decide +kernel
theorem dX1_allows_43 : decode cX1_allows 43 = .ok (.ifCond .eq 7, 3) := by decide +kernel
theorem dX1_allows_46 : decode cX1_allows 46 = .ok (.iconst 1, 1) := by decide +kernel
theorem dX1_allows_47 : decode cX1_allows 47 = .ok (.goto 4, 3) := by decide +kernel
theorem dX1_allows_50 : decode cX1_allows 50 = .ok (.iconst 0, 1) := by decide +kernel
theorem dX1_allows_51 : decode cX1_allows 51 = .ok (.ireturn, 1) := by decide +kernel
theorem dX1_isBelow_0 : decode cX1_isBelow 0 = .ok (.iload_n 1, 1) := by decide +kernel
theorem dX1_isBelow_1 : decode cX1_isBelow 1 = .ok (.ifCond .eq 12, 3) := by decide +kernel
theorem dX1_isBelow_4 : decode cX1_isBelow 4 = .ok (.iload_n 0, 1) := by decide +kernel
theorem dX1_isBelow_5 : decode cX1_isBelow 5 = .ok (.ifCond .lt 12, 3) := by decide +kernel
theorem dX1_isBelow_8 : decode cX1_isBelow 8 = .ok (.iload_n 0, 1) := by decide +kernel
theorem dX1_isBelow_9 : decode cX1_isBelow 9 = .ok (.iload_n 1, 1) := by decide +kernel
theorem dX1_isBelow_10 : decode cX1_isBelow 10 = .ok (.if_icmp .ge 7, 3) := by decide +kernel
theorem dX1_isBelow_13 : decode cX1_isBelow 13 = .ok (.iconst 1, 1) := by decide +kernel
theorem dX1_isBelow_14 : decode cX1_isBelow 14 = .ok (.goto 4, 3) := by decide +kernel
theorem dX1_isBelow_17 : decode cX1_isBelow 17 = .ok (.iconst 0, 1) := by decide +kernel
theorem dX1_isBelow_18 : decode cX1_isBelow 18 = .ok (.ireturn, 1) := by decide +kernel
theorem dX1_has_0 : decode cX1_has 0 = .ok (.iload_n 1, 1) := by decide +kernel
theorem dX1_has_1 : decode cX1_has 1 = .ok (.ifCond .lt 15, 3) := by decide +kernel
theorem dX1_has_4 : decode cX1_has 4 = .ok (.iload_n 1, 1) := by decide +kernel
theorem dX1_has_5 : decode cX1_has 5 = .ok (.aload_n 0, 1) := by decide +kernel
theorem dX1_has_6 : decode cX1_has 6 = .ok (.getfield 47, 3) := by decide +kernel
theorem dX1_has_9 : decode cX1_has 9 = .ok (.if_icmp .ge 7, 3) := by decide +kernel
theorem dX1_has_12 : decode cX1_has 12 = .ok (.iconst 1, 1) := by decide +kernel
theorem dX1_has_13 : decode cX1_has 13 = .ok (.goto 4, 3) := by decide +kernel
theorem dX1_has_16 : decode cX1_has 16 = .ok (.iconst 0, 1) := by decide +kernel
theorem dX1_has_17 : decode cX1_has 17 = .ok (.ireturn, 1) := by decide +kernel
theorem dX1_all_0 : decode cX1_all 0 = .ok (.iconst 1, 1) := by decide +kernel
theorem dX1_all_1 : decode cX1_all 1 = .ok (.aload_n 0, 1) := by decide +kernel
theorem dX1_all_2 : decode cX1_all 2 = .ok (.getfield 47, 3) := by decide +kernel
theorem dX1_all_5 : decode cX1_all 5 = .ok (.ishl, 1) := by decide +kernel
theorem dX1_all_6 : decode cX1_all 6 = .ok (.iconst 1, 1) := by decide +kernel
theorem dX1_all_7 : decode cX1_all 7 = .ok (.isub, 1) := by decide +kernel
theorem dX1_all_8 : decode cX1_all 8 = .ok (.ireturn, 1) := by decide +kernel
theorem dX1_write_0 : decode cX1_write 0 = .ok (.aload_n 0, 1) := by decide +kernel
theorem dX1_write_1 : decode cX1_write 1 = .ok (.getfield 9, 3) := by decide +kernel
theorem dX1_write_4 : decode cX1_write 4 = .ok (.iload_n 1, 1) := by decide +kernel
theorem dX1_write_5 : decode cX1_write 5 = .ok (.iload_n 2, 1) := by decide +kernel
theorem dX1_write_6 : decode cX1_write 6 = .ok (.iastore, 1) := by decide +kernel
theorem dX1_write_7 : decode cX1_write 7 = .ok (.aload_n 0, 1) := by decide +kernel
theorem dX1_write_8 : decode cX1_write 8 = .ok (.getfield 15, 3) := by decide +kernel
theorem dX1_write_11 : decode cX1_write 11 = .ok (.iload_n 1, 1) := by decide +kernel
theorem dX1_write_12 : decode cX1_write 12 = .ok (.iload_n 3, 1) := by decide +kernel
theorem dX1_write_13 : decode cX1_write 13 = .ok (.iastore, 1) := by decide +kernel
theorem dX1_write_14 : decode cX1_write 14 = .ok (.aload_n 0, 1) := by decide +kernel
theorem dX1_write_15 : decode cX1_write 15 = .ok (.getfield 18, 3) := by decide +kernel
theorem dX1_write_18 : decode cX1_write 18 = .ok (.iload_n 1, 1) := by decide +kernel
theorem dX1_write_19 : decode cX1_write 19 = .ok (.iload 4, 2) := by decide +kernel
theorem dX1_write_21 : decode cX1_write 21 = .ok (.iastore, 1) := by decide +kernel
theorem dX1_write_22 : decode cX1_write 22 = .ok (.aload_n 0, 1) := by decide +kernel
theorem dX1_write_23 : decode cX1_write 23 = .ok (.getfield 21, 3) := by decide +kernel
theorem dX1_write_26 : decode cX1_write 26 = .ok (.iload_n 1, 1) := by decide +kernel
theorem dX1_write_27 : decode cX1_write 27 = .ok (.iload 5, 2) := by decide +kernel
theorem dX1_write_29 : decode cX1_write 29 = .ok (.iastore, 1) := by decide +kernel
theorem dX1_write_30 : decode cX1_write 30 = .ok (.return_, 1) := by decide +kernel
theorem dX1_isOfFailingGlobal_0 : decode cX1_isOfFailingGlobal 0 = .ok (.aload_n 0, 1) := by decide +kernel
theorem dX1_isOfFailingGlobal_1 : decode cX1_isOfFailingGlobal 1 = .ok (.getfield 9, 3) := by decide +kernel
theorem dX1_isOfFailingGlobal_4 : decode cX1_isOfFailingGlobal 4 = .ok (.iload_n 1, 1) := by decide +kernel
theorem dX1_isOfFailingGlobal_5 : decode cX1_isOfFailingGlobal 5 = .ok (.iaload, 1) := by decide +kernel
theorem dX1_isOfFailingGlobal_6 : decode cX1_isOfFailingGlobal 6 = .ok (.bipush 9, 2) := by decide +kernel
theorem dX1_isOfFailingGlobal_8 : decode cX1_isOfFailingGlobal 8 = .ok (.if_icmp .eq 14, 3) := by decide +kernel
theorem dX1_isOfFailingGlobal_11 : decode cX1_isOfFailingGlobal 11 = .ok (.aload_n 0, 1) := by decide +kernel
theorem dX1_isOfFailingGlobal_12 : decode cX1_isOfFailingGlobal 12 = .ok (.getfield 9, 3) := by decide +kernel
theorem dX1_isOfFailingGlobal_15 : decode cX1_isOfFailingGlobal 15 = .ok (.iload_n 1, 1) := by decide +kernel
theorem dX1_isOfFailingGlobal_16 : decode cX1_isOfFailingGlobal 16 = .ok (.iaload, 1) := by decide +kernel
theorem dX1_isOfFailingGlobal_17 : decode cX1_isOfFailingGlobal 17 = .ok (.bipush 10, 2) := by decide +kernel
theorem dX1_isOfFailingGlobal_19 : decode cX1_isOfFailingGlobal 19 = .ok (.if_icmp .ne 21, 3) := by decide +kernel
theorem dX1_isOfFailingGlobal_22 : decode cX1_isOfFailingGlobal 22 = .ok (.aload_n 0, 1) := by decide +kernel
theorem dX1_isOfFailingGlobal_23 : decode cX1_isOfFailingGlobal 23 = .ok (.getfield 27, 3) := by decide +kernel
theorem dX1_isOfFailingGlobal_26 : decode cX1_isOfFailingGlobal 26 = .ok (.aload_n 0, 1) := by decide +kernel
theorem dX1_isOfFailingGlobal_27 : decode cX1_isOfFailingGlobal 27 = .ok (.getfield 18, 3) := by decide +kernel
theorem dX1_isOfFailingGlobal_30 : decode cX1_isOfFailingGlobal 30 = .ok (.iload_n 1, 1) := by decide +kernel
theorem dX1_isOfFailingGlobal_31 : decode cX1_isOfFailingGlobal 31 = .ok (.iaload, 1) := by decide +kernel
theorem dX1_isOfFailingGlobal_32 : decode cX1_isOfFailingGlobal 32 = .ok (.baload, 1) := by decide +kernel
theorem dX1_isOfFailingGlobal_33 : decode cX1_isOfFailingGlobal 33 = .ok (.ifCond .eq 7, 3) := by decide +kernel
theorem dX1_isOfFailingGlobal_36 : decode cX1_isOfFailingGlobal 36 = .ok (.iconst 1, 1) := by decide +kernel
theorem dX1_isOfFailingGlobal_37 : decode cX1_isOfFailingGlobal 37 = .ok (.goto 4, 3) := by decide +kernel
theorem dX1_isOfFailingGlobal_40 : decode cX1_isOfFailingGlobal 40 = .ok (.iconst 0, 1) := by decide +kernel
theorem dX1_isOfFailingGlobal_41 : decode cX1_isOfFailingGlobal 41 = .ok (.ireturn, 1) := by decide +kernel
theorem dX1_bitOf_0 : decode cX1_bitOf 0 = .ok (.iconst 1, 1) := by decide +kernel
theorem dX1_bitOf_1 : decode cX1_bitOf 1 = .ok (.iload_n 1, 1) := by decide +kernel
theorem dX1_bitOf_2 : decode cX1_bitOf 2 = .ok (.aload_n 0, 1) := by decide +kernel
theorem dX1_bitOf_3 : decode cX1_bitOf 3 = .ok (.getfield 47, 3) := by decide +kernel
theorem dX1_bitOf_6 : decode cX1_bitOf 6 = .ok (.if_icmp .ge 7, 3) := by decide +kernel
theorem dX1_bitOf_9 : decode cX1_bitOf 9 = .ok (.iload_n 1, 1) := by decide +kernel
theorem dX1_bitOf_10 : decode cX1_bitOf 10 = .ok (.goto 5, 3) := by decide +kernel
theorem dX1_bitOf_13 : decode cX1_bitOf 13 = .ok (.bipush 24, 2) := by decide +kernel
theorem dX1_bitOf_15 : decode cX1_bitOf 15 = .ok (.ishl, 1) := by decide +kernel
theorem dX1_bitOf_16 : decode cX1_bitOf 16 = .ok (.ireturn, 1) := by decide +kernel
theorem dX1_nextsOf_0 : decode cX1_nextsOf 0 = .ok (.aload_n 0, 1) := by decide +kernel
theorem dX1_nextsOf_1 : decode cX1_nextsOf 1 = .ok (.iload_n 1, 1) := by decide +kernel
theorem dX1_nextsOf_2 : decode cX1_nextsOf 2 = .ok (.iconst 1, 1) := by decide +kernel
theorem dX1_nextsOf_3 : decode cX1_nextsOf 3 = .ok (.iadd, 1) := by decide +kernel
theorem dX1_nextsOf_4 : decode cX1_nextsOf 4 = .ok (.invokevirtual 51, 3) := by decide +kernel
theorem dX1_nextsOf_7 : decode cX1_nextsOf 7 = .ok (.istore_n 2, 1) := by decide +kernel
theorem dX1_nextsOf_8 : decode cX1_nextsOf 8 = .ok (.aload_n 0, 1) := by decide +kernel
theorem dX1_nextsOf_9 : decode cX1_nextsOf 9 = .ok (.getfield 9, 3) := by decide +kernel
theorem dX1_nextsOf_12 : decode cX1_nextsOf 12 = .ok (.iload_n 1, 1) := by decide +kernel
theorem dX1_nextsOf_13 : decode cX1_nextsOf 13 = .ok (.iaload, 1) := by decide +kernel
theorem dX1_nextsOf_14 : decode cX1_nextsOf 14 = .ok (.tableswitch 78 6 13 #[73, 78, 78, 78, 78, 46, 59, 70], 46) := by decide +kernel
theorem dX1_nextsOf_60 : decode cX1_nextsOf 60 = .ok (.iload_n 2, 1) := by decide +kernel
theorem dX1_nextsOf_61 : decode cX1_nextsOf 61 = .ok (.aload_n 0, 1) := by decide +kernel
theorem dX1_nextsOf_62 : decode cX1_nextsOf 62 = .ok (.aload_n 0, 1) := by decide +kernel
theorem dX1_nextsOf_63 : decode cX1_nextsOf 63 = .ok (.getfield 18, 3) := by decide +kernel
theorem dX1_nextsOf_66 : decode cX1_nextsOf 66 = .ok (.iload_n 1, 1) := by decide +kernel
theorem dX1_nextsOf_67 : decode cX1_nextsOf 67 = .ok (.iaload, 1) := by decide +kernel
theorem dX1_nextsOf_68 : decode cX1_nextsOf 68 = .ok (.invokevirtual 51, 3) := by decide +kernel
theorem dX1_nextsOf_71 : decode cX1_nextsOf 71 = .ok (.ior, 1) := by decide +kernel
theorem dX1_nextsOf_72 : decode cX1_nextsOf 72 = .ok (.ireturn, 1) := by decide +kernel
theorem dX1_nextsOf_73 : decode cX1_nextsOf 73 = .ok (.aload_n 0, 1) := by decide +kernel
theorem dX1_nextsOf_74 : decode cX1_nextsOf 74 = .ok (.aload_n 0, 1) := by decide +kernel
theorem dX1_nextsOf_75 : decode cX1_nextsOf 75 = .ok (.getfield 18, 3) := by decide +kernel
theorem dX1_nextsOf_78 : decode cX1_nextsOf 78 = .ok (.iload_n 1, 1) := by decide +kernel
theorem dX1_nextsOf_79 : decode cX1_nextsOf 79 = .ok (.iaload, 1) := by decide +kernel
theorem dX1_nextsOf_80 : decode cX1_nextsOf 80 = .ok (.invokevirtual 51, 3) := by decide +kernel
theorem dX1_nextsOf_83 : decode cX1_nextsOf 83 = .ok (.ireturn, 1) := by decide +kernel
theorem dX1_nextsOf_84 : decode cX1_nextsOf 84 = .ok (.ldc 55, 2) := by decide +kernel
theorem dX1_nextsOf_86 : decode cX1_nextsOf 86 = .ok (.ireturn, 1) := by decide +kernel
theorem dX1_nextsOf_87 : decode cX1_nextsOf 87 = .ok (.iload_n 2, 1) := by decide +kernel
theorem dX1_nextsOf_88 : decode cX1_nextsOf 88 = .ok (.ldc 55, 2) := by decide +kernel
theorem dX1_nextsOf_90 : decode cX1_nextsOf 90 = .ok (.ior, 1) := by decide +kernel
theorem dX1_nextsOf_91 : decode cX1_nextsOf 91 = .ok (.ireturn, 1) := by decide +kernel
theorem dX1_nextsOf_92 : decode cX1_nextsOf 92 = .ok (.aload_n 0, 1) := by decide +kernel
theorem dX1_nextsOf_93 : decode cX1_nextsOf 93 = .ok (.iload_n 1, 1) := by decide +kernel
theorem dX1_nextsOf_94 : decode cX1_nextsOf 94 = .ok (.invokevirtual 56, 3) := by decide +kernel
theorem dX1_nextsOf_97 : decode cX1_nextsOf 97 = .ok (.ifCond .eq 10, 3) := by decide +kernel
theorem dX1_nextsOf_100 : decode cX1_nextsOf 100 = .ok (.iload_n 2, 1) := by decide +kernel
theorem dX1_nextsOf_101 : decode cX1_nextsOf 101 = .ok (.ldc 55, 2) := by decide +kernel
theorem dX1_nextsOf_103 : decode cX1_nextsOf 103 = .ok (.ior, 1) := by decide +kernel
theorem dX1_nextsOf_104 : decode cX1_nextsOf 104 = .ok (.goto 4, 3) := by decide +kernel
theorem dX1_nextsOf_107 : decode cX1_nextsOf 107 = .ok (.iload_n 2, 1) := by decide +kernel
theorem dX1_nextsOf_108 : decode cX1_nextsOf 108 = .ok (.ireturn, 1) := by decide +kernel
theorem dX1_widerNextsOf_0 : decode cX1_widerNextsOf 0 = .ok (.aload_n 0, 1) := by decide +kernel
theorem dX1_widerNextsOf_1 : decode cX1_widerNextsOf 1 = .ok (.iload_n 1, 1) := by decide +kernel
theorem dX1_widerNextsOf_2 : decode cX1_widerNextsOf 2 = .ok (.invokevirtual 60, 3) := by decide +kernel
theorem dX1_widerNextsOf_5 : decode cX1_widerNextsOf 5 = .ok (.aload_n 0, 1) := by decide +kernel
theorem dX1_widerNextsOf_6 : decode cX1_widerNextsOf 6 = .ok (.iload_n 1, 1) := by decide +kernel
theorem dX1_widerNextsOf_7 : decode cX1_widerNextsOf 7 = .ok (.iconst 1, 1) := by decide +kernel
theorem dX1_widerNextsOf_8 : decode cX1_widerNextsOf 8 = .ok (.iadd, 1) := by decide +kernel
theorem dX1_widerNextsOf_9 : decode cX1_widerNextsOf 9 = .ok (.invokevirtual 51, 3) := by decide +kernel
theorem dX1_widerNextsOf_12 : decode cX1_widerNextsOf 12 = .ok (.ior, 1) := by decide +kernel
theorem dX1_widerNextsOf_13 : decode cX1_widerNextsOf 13 = .ok (.ireturn, 1) := by decide +kernel
theorem dX1_registerBit_0 : decode cX1_registerBit 0 = .ok (.iconst 1, 1) := by decide +kernel
theorem dX1_registerBit_1 : decode cX1_registerBit 1 = .ok (.iload_n 0, 1) := by decide +kernel
theorem dX1_registerBit_2 : decode cX1_registerBit 2 = .ok (.ishl, 1) := by decide +kernel
theorem dX1_registerBit_3 : decode cX1_registerBit 3 = .ok (.ireturn, 1) := by decide +kernel
theorem dX1_globalBit_0 : decode cX1_globalBit 0 = .ok (.iconst 1, 1) := by decide +kernel
theorem dX1_globalBit_1 : decode cX1_globalBit 1 = .ok (.bipush 8, 2) := by decide +kernel
theorem dX1_globalBit_3 : decode cX1_globalBit 3 = .ok (.iload_n 0, 1) := by decide +kernel
theorem dX1_globalBit_4 : decode cX1_globalBit 4 = .ok (.iadd, 1) := by decide +kernel
theorem dX1_globalBit_5 : decode cX1_globalBit 5 = .ok (.ishl, 1) := by decide +kernel
theorem dX1_globalBit_6 : decode cX1_globalBit 6 = .ok (.ireturn, 1) := by decide +kernel
theorem dX1_setBy_0 : decode cX1_setBy 0 = .ok (.aload_n 0, 1) := by decide +kernel
theorem dX1_setBy_1 : decode cX1_setBy 1 = .ok (.getfield 9, 3) := by decide +kernel
theorem dX1_setBy_4 : decode cX1_setBy 4 = .ok (.iload_n 1, 1) := by decide +kernel
theorem dX1_setBy_5 : decode cX1_setBy 5 = .ok (.iaload, 1) := by decide +kernel
theorem dX1_setBy_6 : decode cX1_setBy 6 = .ok (.tableswitch 74 1 10 #[54, 54, 54, 54, 54, 54, 74, 54, 54, 64], 54) := by decide +kernel
theorem dX1_setBy_60 : decode cX1_setBy 60 = .ok (.aload_n 0, 1) := by decide +kernel
theorem dX1_setBy_61 : decode cX1_setBy 61 = .ok (.getfield 15, 3) := by decide +kernel
theorem dX1_setBy_64 : decode cX1_setBy 64 = .ok (.iload_n 1, 1) := by decide +kernel
theorem dX1_setBy_65 : decode cX1_setBy 65 = .ok (.iaload, 1) := by decide +kernel
theorem dX1_setBy_66 : decode cX1_setBy 66 = .ok (.invokestatic 63, 3) := by decide +kernel
theorem dX1_setBy_69 : decode cX1_setBy 69 = .ok (.ireturn, 1) := by decide +kernel
theorem dX1_setBy_70 : decode cX1_setBy 70 = .ok (.aload_n 0, 1) := by decide +kernel
theorem dX1_setBy_71 : decode cX1_setBy 71 = .ok (.getfield 18, 3) := by decide +kernel
theorem dX1_setBy_74 : decode cX1_setBy 74 = .ok (.iload_n 1, 1) := by decide +kernel
theorem dX1_setBy_75 : decode cX1_setBy 75 = .ok (.iaload, 1) := by decide +kernel
theorem dX1_setBy_76 : decode cX1_setBy 76 = .ok (.invokestatic 66, 3) := by decide +kernel
theorem dX1_setBy_79 : decode cX1_setBy 79 = .ok (.ireturn, 1) := by decide +kernel
theorem dX1_setBy_80 : decode cX1_setBy 80 = .ok (.iconst 0, 1) := by decide +kernel
theorem dX1_setBy_81 : decode cX1_setBy 81 = .ok (.ireturn, 1) := by decide +kernel
theorem dX1_readBy_0 : decode cX1_readBy 0 = .ok (.aload_n 0, 1) := by decide +kernel
theorem dX1_readBy_1 : decode cX1_readBy 1 = .ok (.getfield 9, 3) := by decide +kernel
theorem dX1_readBy_4 : decode cX1_readBy 4 = .ok (.iload_n 1, 1) := by decide +kernel
theorem dX1_readBy_5 : decode cX1_readBy 5 = .ok (.iaload, 1) := by decide +kernel
theorem dX1_readBy_6 : decode cX1_readBy 6 = .ok (.tableswitch 74 7 11 #[34, 54, 74, 74, 64], 34) := by decide +kernel
theorem dX1_readBy_40 : decode cX1_readBy 40 = .ok (.aload_n 0, 1) := by decide +kernel
theorem dX1_readBy_41 : decode cX1_readBy 41 = .ok (.getfield 15, 3) := by decide +kernel
theorem dX1_readBy_44 : decode cX1_readBy 44 = .ok (.iload_n 1, 1) := by decide +kernel
theorem dX1_readBy_45 : decode cX1_readBy 45 = .ok (.iaload, 1) := by decide +kernel
theorem dX1_readBy_46 : decode cX1_readBy 46 = .ok (.invokestatic 63, 3) := by decide +kernel
theorem dX1_readBy_49 : decode cX1_readBy 49 = .ok (.aload_n 0, 1) := by decide +kernel
theorem dX1_readBy_50 : decode cX1_readBy 50 = .ok (.getfield 18, 3) := by decide +kernel
theorem dX1_readBy_53 : decode cX1_readBy 53 = .ok (.iload_n 1, 1) := by decide +kernel
theorem dX1_readBy_54 : decode cX1_readBy 54 = .ok (.iaload, 1) := by decide +kernel
theorem dX1_readBy_55 : decode cX1_readBy 55 = .ok (.invokestatic 63, 3) := by decide +kernel
theorem dX1_readBy_58 : decode cX1_readBy 58 = .ok (.ior, 1) := by decide +kernel
theorem dX1_readBy_59 : decode cX1_readBy 59 = .ok (.ireturn, 1) := by decide +kernel
theorem dX1_readBy_60 : decode cX1_readBy 60 = .ok (.aload_n 0, 1) := by decide +kernel
theorem dX1_readBy_61 : decode cX1_readBy 61 = .ok (.getfield 18, 3) := by decide +kernel
theorem dX1_readBy_64 : decode cX1_readBy 64 = .ok (.iload_n 1, 1) := by decide +kernel
theorem dX1_readBy_65 : decode cX1_readBy 65 = .ok (.iaload, 1) := by decide +kernel
theorem dX1_readBy_66 : decode cX1_readBy 66 = .ok (.invokestatic 63, 3) := by decide +kernel
theorem dX1_readBy_69 : decode cX1_readBy 69 = .ok (.ireturn, 1) := by decide +kernel
theorem dX1_readBy_70 : decode cX1_readBy 70 = .ok (.aload_n 0, 1) := by decide +kernel
theorem dX1_readBy_71 : decode cX1_readBy 71 = .ok (.getfield 15, 3) := by decide +kernel
theorem dX1_readBy_74 : decode cX1_readBy 74 = .ok (.iload_n 1, 1) := by decide +kernel
theorem dX1_readBy_75 : decode cX1_readBy 75 = .ok (.iaload, 1) := by decide +kernel
theorem dX1_readBy_76 : decode cX1_readBy 76 = .ok (.invokestatic 63, 3) := by decide +kernel
theorem dX1_readBy_79 : decode cX1_readBy 79 = .ok (.ireturn, 1) := by decide +kernel
theorem dX1_readBy_80 : decode cX1_readBy 80 = .ok (.aload_n 0, 1) := by decide +kernel
theorem dX1_readBy_81 : decode cX1_readBy 81 = .ok (.iload_n 1, 1) := by decide +kernel
theorem dX1_readBy_82 : decode cX1_readBy 82 = .ok (.invokevirtual 69, 3) := by decide +kernel
theorem dX1_readBy_85 : decode cX1_readBy 85 = .ok (.ireturn, 1) := by decide +kernel
theorem dX1_thinlyReadBy_0 : decode cX1_thinlyReadBy 0 = .ok (.aload_n 0, 1) := by decide +kernel
theorem dX1_thinlyReadBy_1 : decode cX1_thinlyReadBy 1 = .ok (.getfield 9, 3) := by decide +kernel
theorem dX1_thinlyReadBy_4 : decode cX1_thinlyReadBy 4 = .ok (.iload_n 1, 1) := by decide +kernel
theorem dX1_thinlyReadBy_5 : decode cX1_thinlyReadBy 5 = .ok (.iaload, 1) := by decide +kernel
theorem dX1_thinlyReadBy_6 : decode cX1_thinlyReadBy 6 = .ok (.tableswitch 86 3 10 #[46, 46, 46, 46, 66, 86, 76, 66], 46) := by decide +kernel
theorem dX1_thinlyReadBy_52 : decode cX1_thinlyReadBy 52 = .ok (.aload_n 0, 1) := by decide +kernel
theorem dX1_thinlyReadBy_53 : decode cX1_thinlyReadBy 53 = .ok (.getfield 18, 3) := by decide +kernel
theorem dX1_thinlyReadBy_56 : decode cX1_thinlyReadBy 56 = .ok (.iload_n 1, 1) := by decide +kernel
theorem dX1_thinlyReadBy_57 : decode cX1_thinlyReadBy 57 = .ok (.iaload, 1) := by decide +kernel
theorem dX1_thinlyReadBy_58 : decode cX1_thinlyReadBy 58 = .ok (.invokestatic 63, 3) := by decide +kernel
theorem dX1_thinlyReadBy_61 : decode cX1_thinlyReadBy 61 = .ok (.aload_n 0, 1) := by decide +kernel
theorem dX1_thinlyReadBy_62 : decode cX1_thinlyReadBy 62 = .ok (.getfield 21, 3) := by decide +kernel
theorem dX1_thinlyReadBy_65 : decode cX1_thinlyReadBy 65 = .ok (.iload_n 1, 1) := by decide +kernel
theorem dX1_thinlyReadBy_66 : decode cX1_thinlyReadBy 66 = .ok (.iaload, 1) := by decide +kernel
theorem dX1_thinlyReadBy_67 : decode cX1_thinlyReadBy 67 = .ok (.invokestatic 63, 3) := by decide +kernel
theorem dX1_thinlyReadBy_70 : decode cX1_thinlyReadBy 70 = .ok (.ior, 1) := by decide +kernel
theorem dX1_thinlyReadBy_71 : decode cX1_thinlyReadBy 71 = .ok (.ireturn, 1) := by decide +kernel
theorem dX1_thinlyReadBy_72 : decode cX1_thinlyReadBy 72 = .ok (.aload_n 0, 1) := by decide +kernel
theorem dX1_thinlyReadBy_73 : decode cX1_thinlyReadBy 73 = .ok (.getfield 15, 3) := by decide +kernel
theorem dX1_thinlyReadBy_76 : decode cX1_thinlyReadBy 76 = .ok (.iload_n 1, 1) := by decide +kernel
theorem dX1_thinlyReadBy_77 : decode cX1_thinlyReadBy 77 = .ok (.iaload, 1) := by decide +kernel
theorem dX1_thinlyReadBy_78 : decode cX1_thinlyReadBy 78 = .ok (.invokestatic 63, 3) := by decide +kernel
theorem dX1_thinlyReadBy_81 : decode cX1_thinlyReadBy 81 = .ok (.ireturn, 1) := by decide +kernel
theorem dX1_thinlyReadBy_82 : decode cX1_thinlyReadBy 82 = .ok (.aload_n 0, 1) := by decide +kernel
theorem dX1_thinlyReadBy_83 : decode cX1_thinlyReadBy 83 = .ok (.getfield 18, 3) := by decide +kernel
theorem dX1_thinlyReadBy_86 : decode cX1_thinlyReadBy 86 = .ok (.iload_n 1, 1) := by decide +kernel
theorem dX1_thinlyReadBy_87 : decode cX1_thinlyReadBy 87 = .ok (.iaload, 1) := by decide +kernel
theorem dX1_thinlyReadBy_88 : decode cX1_thinlyReadBy 88 = .ok (.invokestatic 66, 3) := by decide +kernel
theorem dX1_thinlyReadBy_91 : decode cX1_thinlyReadBy 91 = .ok (.ireturn, 1) := by decide +kernel
theorem dX1_thinlyReadBy_92 : decode cX1_thinlyReadBy 92 = .ok (.iconst 0, 1) := by decide +kernel
theorem dX1_thinlyReadBy_93 : decode cX1_thinlyReadBy 93 = .ok (.ireturn, 1) := by decide +kernel
theorem dX1_mayShareRow_0 : decode cX1_mayShareRow 0 = .ok (.aload_n 0, 1) := by decide +kernel
theorem dX1_mayShareRow_1 : decode cX1_mayShareRow 1 = .ok (.getfield 31, 3) := by decide +kernel
theorem dX1_mayShareRow_4 : decode cX1_mayShareRow 4 = .ok (.aload_n 0, 1) := by decide +kernel
theorem dX1_mayShareRow_5 : decode cX1_mayShareRow 5 = .ok (.getfield 21, 3) := by decide +kernel
theorem dX1_mayShareRow_8 : decode cX1_mayShareRow 8 = .ok (.iload_n 1, 1) := by decide +kernel
theorem dX1_mayShareRow_9 : decode cX1_mayShareRow 9 = .ok (.iaload, 1) := by decide +kernel
theorem dX1_mayShareRow_10 : decode cX1_mayShareRow 10 = .ok (.iaload, 1) := by decide +kernel
theorem dX1_mayShareRow_11 : decode cX1_mayShareRow 11 = .ok (.aload_n 0, 1) := by decide +kernel
theorem dX1_mayShareRow_12 : decode cX1_mayShareRow 12 = .ok (.getfield 31, 3) := by decide +kernel
theorem dX1_mayShareRow_15 : decode cX1_mayShareRow 15 = .ok (.aload_n 0, 1) := by decide +kernel
theorem dX1_mayShareRow_16 : decode cX1_mayShareRow 16 = .ok (.getfield 21, 3) := by decide +kernel
theorem dX1_mayShareRow_19 : decode cX1_mayShareRow 19 = .ok (.iload_n 2, 1) := by decide +kernel
theorem dX1_mayShareRow_20 : decode cX1_mayShareRow 20 = .ok (.iaload, 1) := by decide +kernel
theorem dX1_mayShareRow_21 : decode cX1_mayShareRow 21 = .ok (.iaload, 1) := by decide +kernel
theorem dX1_mayShareRow_22 : decode cX1_mayShareRow 22 = .ok (.iand, 1) := by decide +kernel
theorem dX1_mayShareRow_23 : decode cX1_mayShareRow 23 = .ok (.ifCond .eq 7, 3) := by decide +kernel
theorem dX1_mayShareRow_26 : decode cX1_mayShareRow 26 = .ok (.iconst 1, 1) := by decide +kernel
theorem dX1_mayShareRow_27 : decode cX1_mayShareRow 27 = .ok (.goto 4, 3) := by decide +kernel
theorem dX1_mayShareRow_30 : decode cX1_mayShareRow 30 = .ok (.iconst 0, 1) := by decide +kernel
theorem dX1_mayShareRow_31 : decode cX1_mayShareRow 31 = .ok (.ireturn, 1) := by decide +kernel
end
section
theorem dX2_init_0 : decode cX2_init 0 = .ok (.aload_n 0, 1) := by decide +kernel
theorem dX2_init_1 : decode cX2_init 1 = .ok (.invokespecial 3, 3) := by decide +kernel
theorem dX2_init_4 : decode cX2_init 4 = .ok (.aload_n 0, 1) := by decide +kernel
theorem dX2_init_5 : decode cX2_init 5 = .ok (.bipush 24, 2) := by decide +kernel
theorem dX2_init_7 : decode cX2_init 7 = .ok (.newarray .int, 2) := by decide +kernel
theorem dX2_init_9 : decode cX2_init 9 = .ok (.putfield 9, 3) := by decide +kernel
theorem dX2_init_12 : decode cX2_init 12 = .ok (.aload_n 0, 1) := by decide +kernel
theorem dX2_init_13 : decode cX2_init 13 = .ok (.bipush 24, 2) := by decide +kernel
theorem dX2_init_15 : decode cX2_init 15 = .ok (.newarray .int, 2) := by decide +kernel
theorem dX2_init_17 : decode cX2_init 17 = .ok (.putfield 15, 3) := by decide +kernel
theorem dX2_init_20 : decode cX2_init 20 = .ok (.aload_n 0, 1) := by decide +kernel
theorem dX2_init_21 : decode cX2_init 21 = .ok (.bipush 24, 2) := by decide +kernel
theorem dX2_init_23 : decode cX2_init 23 = .ok (.newarray .int, 2) := by decide +kernel
theorem dX2_init_25 : decode cX2_init 25 = .ok (.putfield 18, 3) := by decide +kernel
theorem dX2_init_28 : decode cX2_init 28 = .ok (.aload_n 0, 1) := by decide +kernel
theorem dX2_init_29 : decode cX2_init 29 = .ok (.iconst 5, 1) := by decide +kernel
theorem dX2_init_30 : decode cX2_init 30 = .ok (.bipush 24, 2) := by decide +kernel
theorem dX2_init_32 : decode cX2_init 32 = .ok (.multianewarray 21 2, 4) := by decide +kernel
theorem dX2_init_36 : decode cX2_init 36 = .ok (.putfield 23, 3) := by decide +kernel
theorem dX2_init_39 : decode cX2_init 39 = .ok (.aload_n 0, 1) := by decide +kernel
theorem dX2_init_40 : decode cX2_init 40 = .ok (.bipush 24, 2) := by decide +kernel
theorem dX2_init_42 : decode cX2_init 42 = .ok (.newarray .int, 2) := by decide +kernel
theorem dX2_init_44 : decode cX2_init 44 = .ok (.putfield 26, 3) := by decide +kernel
theorem dX2_init_47 : decode cX2_init 47 = .ok (.aload_n 0, 1) := by decide +kernel
theorem dX2_init_48 : decode cX2_init 48 = .ok (.bipush 24, 2) := by decide +kernel
theorem dX2_init_50 : decode cX2_init 50 = .ok (.newarray .int, 2) := by decide +kernel
theorem dX2_init_52 : decode cX2_init 52 = .ok (.putfield 29, 3) := by decide +kernel
theorem dX2_init_55 : decode cX2_init 55 = .ok (.aload_n 0, 1) := by decide +kernel
theorem dX2_init_56 : decode cX2_init 56 = .ok (.bipush 24, 2) := by decide +kernel
theorem dX2_init_58 : decode cX2_init 58 = .ok (.newarray .int, 2) := by decide +kernel
theorem dX2_init_60 : decode cX2_init 60 = .ok (.putfield 32, 3) := by decide +kernel
theorem dX2_init_63 : decode cX2_init 63 = .ok (.aload_n 0, 1) := by decide +kernel
theorem dX2_init_64 : decode cX2_init 64 = .ok (.bipush 24, 2) := by decide +kernel
theorem dX2_init_66 : decode cX2_init 66 = .ok (.newarray .int, 2) := by decide +kernel
theorem dX2_init_68 : decode cX2_init 68 = .ok (.putfield 35, 3) := by decide +kernel
theorem dX2_init_71 : decode cX2_init 71 = .ok (.aload_n 0, 1) := by decide +kernel
theorem dX2_init_72 : decode cX2_init 72 = .ok (.bipush 24, 2) := by decide +kernel
theorem dX2_init_74 : decode cX2_init 74 = .ok (.newarray .int, 2) := by decide +kernel
theorem dX2_init_76 : decode cX2_init 76 = .ok (.putfield 38, 3) := by decide +kernel
theorem dX2_init_79 : decode cX2_init 79 = .ok (.return_, 1) := by decide +kernel
theorem dX2_backOf_0 : decode cX2_backOf 0 = .ok (.aload_n 0, 1) := by decide +kernel
theorem dX2_backOf_1 : decode cX2_backOf 1 = .ok (.getfield 32, 3) := by decide +kernel
theorem dX2_backOf_4 : decode cX2_backOf 4 = .ok (.iload_n 1, 1) := by decide +kernel
theorem dX2_backOf_5 : decode cX2_backOf 5 = .ok (.iaload, 1) := by decide +kernel
theorem dX2_backOf_6 : decode cX2_backOf 6 = .ok (.ireturn, 1) := by decide +kernel
theorem dX2_thinOf_0 : decode cX2_thinOf 0 = .ok (.aload_n 0, 1) := by decide +kernel
theorem dX2_thinOf_1 : decode cX2_thinOf 1 = .ok (.getfield 35, 3) := by decide +kernel
theorem dX2_thinOf_4 : decode cX2_thinOf 4 = .ok (.iload_n 1, 1) := by decide +kernel
theorem dX2_thinOf_5 : decode cX2_thinOf 5 = .ok (.iaload, 1) := by decide +kernel
theorem dX2_thinOf_6 : decode cX2_thinOf 6 = .ok (.ireturn, 1) := by decide +kernel
theorem dX2_forwardOf_0 : decode cX2_forwardOf 0 = .ok (.aload_n 0, 1) := by decide +kernel
theorem dX2_forwardOf_1 : decode cX2_forwardOf 1 = .ok (.iload_n 1, 1) := by decide +kernel
theorem dX2_forwardOf_2 : decode cX2_forwardOf 2 = .ok (.aload_n 0, 1) := by decide +kernel
theorem dX2_forwardOf_3 : decode cX2_forwardOf 3 = .ok (.getfield 32, 3) := by decide +kernel
theorem dX2_forwardOf_6 : decode cX2_forwardOf 6 = .ok (.invokevirtual 41, 3) := by decide +kernel
theorem dX2_forwardOf_9 : decode cX2_forwardOf 9 = .ok (.ireturn, 1) := by decide +kernel
theorem dX2_thinlyOf_0 : decode cX2_thinlyOf 0 = .ok (.aload_n 0, 1) := by decide +kernel
theorem dX2_thinlyOf_1 : decode cX2_thinlyOf 1 = .ok (.iload_n 1, 1) := by decide +kernel
theorem dX2_thinlyOf_2 : decode cX2_thinlyOf 2 = .ok (.aload_n 0, 1) := by decide +kernel
theorem dX2_thinlyOf_3 : decode cX2_thinlyOf 3 = .ok (.getfield 35, 3) := by decide +kernel
theorem dX2_thinlyOf_6 : decode cX2_thinlyOf 6 = .ok (.invokevirtual 41, 3) := by decide +kernel
theorem dX2_thinlyOf_9 : decode cX2_thinlyOf 9 = .ok (.ireturn, 1) := by decide +kernel
theorem dX2_followersOf_0 : decode cX2_followersOf 0 = .ok (.aload_n 0, 1) := by decide +kernel
theorem dX2_followersOf_1 : decode cX2_followersOf 1 = .ok (.getfield 18, 3) := by decide +kernel
theorem dX2_followersOf_4 : decode cX2_followersOf 4 = .ok (.iload_n 1, 1) := by decide +kernel
theorem dX2_followersOf_5 : decode cX2_followersOf 5 = .ok (.iaload, 1) := by decide +kernel
theorem dX2_followersOf_6 : decode cX2_followersOf 6 = .ok (.ireturn, 1) := by decide +kernel
theorem dX2_howManyCauses_0 : decode cX2_howManyCauses 0 = .ok (.iconst 0, 1) := by decide +kernel
theorem dX2_howManyCauses_1 : decode cX2_howManyCauses 1 = .ok (.istore_n 2, 1) := by decide +kernel
theorem dX2_howManyCauses_2 : decode cX2_howManyCauses 2 = .ok (.iconst 1, 1) := by decide +kernel
theorem dX2_howManyCauses_3 : decode cX2_howManyCauses 3 = .ok (.istore_n 3, 1) := by decide +kernel
theorem dX2_howManyCauses_4 : decode cX2_howManyCauses 4 = .ok (.iload_n 3, 1) := by decide +kernel
theorem dX2_howManyCauses_5 : decode cX2_howManyCauses 5 = .ok (.iconst 4, 1) := by decide +kernel
theorem dX2_howManyCauses_6 : decode cX2_howManyCauses 6 = .ok (.if_icmp .gt 23, 3) := by decide +kernel
theorem dX2_howManyCauses_9 : decode cX2_howManyCauses 9 = .ok (.iload_n 2, 1) := by decide +kernel
theorem dX2_howManyCauses_10 : decode cX2_howManyCauses 10 = .ok (.aload_n 0, 1) := by decide +kernel
theorem dX2_howManyCauses_11 : decode cX2_howManyCauses 11 = .ok (.getfield 23, 3) := by decide +kernel
theorem dX2_howManyCauses_14 : decode cX2_howManyCauses 14 = .ok (.iload_n 3, 1) := by decide +kernel
theorem dX2_howManyCauses_15 : decode cX2_howManyCauses 15 = .ok (.aaload, 1) := by decide +kernel
theorem dX2_howManyCauses_16 : decode cX2_howManyCauses 16 = .ok (.iload_n 1, 1) := by decide +kernel
theorem dX2_howManyCauses_17 : decode cX2_howManyCauses 17 = .ok (.iaload, 1) := by decide +kernel
theorem dX2_howManyCauses_18 : decode cX2_howManyCauses 18 = .ok (.invokestatic 45, 3) := by decide +kernel
theorem dX2_howManyCauses_21 : decode cX2_howManyCauses 21 = .ok (.iadd, 1) := by decide +kernel
theorem dX2_howManyCauses_22 : decode cX2_howManyCauses 22 = .ok (.istore_n 2, 1) := by decide +kernel
theorem dX2_howManyCauses_23 : decode cX2_howManyCauses 23 = .ok (.iinc 3 1, 3) := by decide +kernel
theorem dX2_howManyCauses_26 : decode cX2_howManyCauses 26 = .ok (.goto (-22), 3) := by decide +kernel
theorem dX2_howManyCauses_29 : decode cX2_howManyCauses 29 = .ok (.iload_n 2, 1) := by decide +kernel
theorem dX2_howManyCauses_30 : decode cX2_howManyCauses 30 = .ok (.ireturn, 1) := by decide +kernel
theorem dX2_kthCause_0 : decode cX2_kthCause 0 = .ok (.iload_n 2, 1) := by decide +kernel
theorem dX2_kthCause_1 : decode cX2_kthCause 1 = .ok (.istore 4, 2) := by decide +kernel
theorem dX2_kthCause_3 : decode cX2_kthCause 3 = .ok (.iconst 0, 1) := by decide +kernel
theorem dX2_kthCause_4 : decode cX2_kthCause 4 = .ok (.istore 5, 2) := by decide +kernel
theorem dX2_kthCause_6 : decode cX2_kthCause 6 = .ok (.iload 5, 2) := by decide +kernel
theorem dX2_kthCause_8 : decode cX2_kthCause 8 = .ok (.aload_n 0, 1) := by decide +kernel
theorem dX2_kthCause_9 : decode cX2_kthCause 9 = .ok (.getfield 51, 3) := by decide +kernel
theorem dX2_kthCause_12 : decode cX2_kthCause 12 = .ok (.if_icmp .ge 61, 3) := by decide +kernel
theorem dX2_kthCause_15 : decode cX2_kthCause 15 = .ok (.iconst 1, 1) := by decide +kernel
theorem dX2_kthCause_16 : decode cX2_kthCause 16 = .ok (.istore 6, 2) := by decide +kernel
theorem dX2_kthCause_18 : decode cX2_kthCause 18 = .ok (.iload 6, 2) := by decide +kernel
theorem dX2_kthCause_20 : decode cX2_kthCause 20 = .ok (.iconst 4, 1) := by decide +kernel
theorem dX2_kthCause_21 : decode cX2_kthCause 21 = .ok (.if_icmp .gt 46, 3) := by decide +kernel
theorem dX2_kthCause_24 : decode cX2_kthCause 24 = .ok (.aload_n 0, 1) := by decide +kernel
theorem dX2_kthCause_25 : decode cX2_kthCause 25 = .ok (.getfield 23, 3) := by decide +kernel
theorem dX2_kthCause_28 : decode cX2_kthCause 28 = .ok (.iload 6, 2) := by decide +kernel
theorem dX2_kthCause_30 : decode cX2_kthCause 30 = .ok (.aaload, 1) := by decide +kernel
theorem dX2_kthCause_31 : decode cX2_kthCause 31 = .ok (.iload_n 1, 1) := by decide +kernel
theorem dX2_kthCause_32 : decode cX2_kthCause 32 = .ok (.iaload, 1) := by decide +kernel
theorem dX2_kthCause_33 : decode cX2_kthCause 33 = .ok (.iload 5, 2) := by decide +kernel
theorem dX2_kthCause_35 : decode cX2_kthCause 35 = .ok (.invokestatic 55, 3) := by decide +kernel
theorem dX2_kthCause_38 : decode cX2_kthCause 38 = .ok (.ifCond .eq 23, 3) := by decide +kernel
theorem dX2_kthCause_41 : decode cX2_kthCause 41 = .ok (.iload 4, 2) := by decide +kernel
theorem dX2_kthCause_43 : decode cX2_kthCause 43 = .ok (.ifCond .ne 15, 3) := by decide +kernel
theorem dX2_kthCause_46 : decode cX2_kthCause 46 = .ok (.iload_n 3, 1) := by decide +kernel
theorem dX2_kthCause_47 : decode cX2_kthCause 47 = .ok (.ifCond .eq 8, 3) := by decide +kernel
theorem dX2_kthCause_50 : decode cX2_kthCause 50 = .ok (.iload 6, 2) := by decide +kernel
theorem dX2_kthCause_52 : decode cX2_kthCause 52 = .ok (.goto 5, 3) := by decide +kernel
theorem dX2_kthCause_55 : decode cX2_kthCause 55 = .ok (.iload 5, 2) := by decide +kernel
theorem dX2_kthCause_57 : decode cX2_kthCause 57 = .ok (.ireturn, 1) := by decide +kernel
theorem dX2_kthCause_58 : decode cX2_kthCause 58 = .ok (.iinc 4 (-1), 3) := by decide +kernel
theorem dX2_kthCause_61 : decode cX2_kthCause 61 = .ok (.iinc 6 1, 3) := by decide +kernel
theorem dX2_kthCause_64 : decode cX2_kthCause 64 = .ok (.goto (-46), 3) := by decide +kernel
theorem dX2_kthCause_67 : decode cX2_kthCause 67 = .ok (.iinc 5 1, 3) := by decide +kernel
theorem dX2_kthCause_70 : decode cX2_kthCause 70 = .ok (.goto (-64), 3) := by decide +kernel
theorem dX2_kthCause_73 : decode cX2_kthCause 73 = .ok (.bipush (-4), 2) := by decide +kernel
theorem dX2_kthCause_75 : decode cX2_kthCause 75 = .ok (.ireturn, 1) := by decide +kernel
theorem dX2_shortestWay_0 : decode cX2_shortestWay 0 = .ok (.aload_n 0, 1) := by decide +kernel
theorem dX2_shortestWay_1 : decode cX2_shortestWay 1 = .ok (.iload_n 1, 1) := by decide +kernel
theorem dX2_shortestWay_2 : decode cX2_shortestWay 2 = .ok (.iload_n 2, 1) := by decide +kernel
theorem dX2_shortestWay_3 : decode cX2_shortestWay 3 = .ok (.invokevirtual 59, 3) := by decide +kernel
theorem dX2_shortestWay_6 : decode cX2_shortestWay 6 = .ok (.istore 4, 2) := by decide +kernel
theorem dX2_shortestWay_8 : decode cX2_shortestWay 8 = .ok (.iload_n 1, 1) := by decide +kernel
theorem dX2_shortestWay_9 : decode cX2_shortestWay 9 = .ok (.istore 5, 2) := by decide +kernel
theorem dX2_shortestWay_11 : decode cX2_shortestWay 11 = .ok (.aload_n 3, 1) := by decide +kernel
theorem dX2_shortestWay_12 : decode cX2_shortestWay 12 = .ok (.iconst 0, 1) := by decide +kernel
theorem dX2_shortestWay_13 : decode cX2_shortestWay 13 = .ok (.iload_n 1, 1) := by decide +kernel
theorem dX2_shortestWay_14 : decode cX2_shortestWay 14 = .ok (.iastore, 1) := by decide +kernel
theorem dX2_shortestWay_15 : decode cX2_shortestWay 15 = .ok (.iconst 1, 1) := by decide +kernel
theorem dX2_shortestWay_16 : decode cX2_shortestWay 16 = .ok (.istore 6, 2) := by decide +kernel
theorem dX2_shortestWay_18 : decode cX2_shortestWay 18 = .ok (.iload 6, 2) := by decide +kernel
theorem dX2_shortestWay_20 : decode cX2_shortestWay 20 = .ok (.iload 4, 2) := by decide +kernel
theorem dX2_shortestWay_22 : decode cX2_shortestWay 22 = .ok (.if_icmp .gt 38, 3) := by decide +kernel
theorem dX2_shortestWay_25 : decode cX2_shortestWay 25 = .ok (.aload_n 0, 1) := by decide +kernel
theorem dX2_shortestWay_26 : decode cX2_shortestWay 26 = .ok (.getfield 26, 3) := by decide +kernel
theorem dX2_shortestWay_29 : decode cX2_shortestWay 29 = .ok (.iload 5, 2) := by decide +kernel
theorem dX2_shortestWay_31 : decode cX2_shortestWay 31 = .ok (.iaload, 1) := by decide +kernel
theorem dX2_shortestWay_32 : decode cX2_shortestWay 32 = .ok (.aload_n 0, 1) := by decide +kernel
theorem dX2_shortestWay_33 : decode cX2_shortestWay 33 = .ok (.getfield 38, 3) := by decide +kernel
theorem dX2_shortestWay_36 : decode cX2_shortestWay 36 = .ok (.iload 4, 2) := by decide +kernel
theorem dX2_shortestWay_38 : decode cX2_shortestWay 38 = .ok (.iload 6, 2) := by decide +kernel
theorem dX2_shortestWay_40 : decode cX2_shortestWay 40 = .ok (.isub, 1) := by decide +kernel
theorem dX2_shortestWay_41 : decode cX2_shortestWay 41 = .ok (.iaload, 1) := by decide +kernel
theorem dX2_shortestWay_42 : decode cX2_shortestWay 42 = .ok (.iand, 1) := by decide +kernel
theorem dX2_shortestWay_43 : decode cX2_shortestWay 43 = .ok (.invokestatic 63, 3) := by decide +kernel
theorem dX2_shortestWay_46 : decode cX2_shortestWay 46 = .ok (.istore 5, 2) := by decide +kernel
theorem dX2_shortestWay_48 : decode cX2_shortestWay 48 = .ok (.aload_n 3, 1) := by decide +kernel
theorem dX2_shortestWay_49 : decode cX2_shortestWay 49 = .ok (.iload 6, 2) := by decide +kernel
theorem dX2_shortestWay_51 : decode cX2_shortestWay 51 = .ok (.iload 5, 2) := by decide +kernel
theorem dX2_shortestWay_53 : decode cX2_shortestWay 53 = .ok (.iastore, 1) := by decide +kernel
theorem dX2_shortestWay_54 : decode cX2_shortestWay 54 = .ok (.iinc 6 1, 3) := by decide +kernel
theorem dX2_shortestWay_57 : decode cX2_shortestWay 57 = .ok (.goto (-39), 3) := by decide +kernel
theorem dX2_shortestWay_60 : decode cX2_shortestWay 60 = .ok (.iload 4, 2) := by decide +kernel
theorem dX2_shortestWay_62 : decode cX2_shortestWay 62 = .ok (.iconst 1, 1) := by decide +kernel
theorem dX2_shortestWay_63 : decode cX2_shortestWay 63 = .ok (.iadd, 1) := by decide +kernel
theorem dX2_shortestWay_64 : decode cX2_shortestWay 64 = .ok (.ireturn, 1) := by decide +kernel
theorem dX2_measureWays_0 : decode cX2_measureWays 0 = .ok (.aload_n 0, 1) := by decide +kernel
theorem dX2_measureWays_1 : decode cX2_measureWays 1 = .ok (.getfield 38, 3) := by decide +kernel
theorem dX2_measureWays_4 : decode cX2_measureWays 4 = .ok (.iconst 0, 1) := by decide +kernel
theorem dX2_measureWays_5 : decode cX2_measureWays 5 = .ok (.iconst 1, 1) := by decide +kernel
theorem dX2_measureWays_6 : decode cX2_measureWays 6 = .ok (.iload_n 2, 1) := by decide +kernel
theorem dX2_measureWays_7 : decode cX2_measureWays 7 = .ok (.ishl, 1) := by decide +kernel
theorem dX2_measureWays_8 : decode cX2_measureWays 8 = .ok (.iastore, 1) := by decide +kernel
theorem dX2_measureWays_9 : decode cX2_measureWays 9 = .ok (.iconst 0, 1) := by decide +kernel
theorem dX2_measureWays_10 : decode cX2_measureWays 10 = .ok (.istore_n 3, 1) := by decide +kernel
theorem dX2_measureWays_11 : decode cX2_measureWays 11 = .ok (.aload_n 0, 1) := by decide +kernel
theorem dX2_measureWays_12 : decode cX2_measureWays 12 = .ok (.getfield 38, 3) := by decide +kernel
theorem dX2_measureWays_15 : decode cX2_measureWays 15 = .ok (.iload_n 3, 1) := by decide +kernel
theorem dX2_measureWays_16 : decode cX2_measureWays 16 = .ok (.iaload, 1) := by decide +kernel
theorem dX2_measureWays_17 : decode cX2_measureWays 17 = .ok (.iload_n 1, 1) := by decide +kernel
theorem dX2_measureWays_18 : decode cX2_measureWays 18 = .ok (.invokestatic 55, 3) := by decide +kernel
theorem dX2_measureWays_21 : decode cX2_measureWays 21 = .ok (.ifCond .ne 33, 3) := by decide +kernel
theorem dX2_measureWays_24 : decode cX2_measureWays 24 = .ok (.iload_n 3, 1) := by decide +kernel
theorem dX2_measureWays_25 : decode cX2_measureWays 25 = .ok (.bipush 23, 2) := by decide +kernel
theorem dX2_measureWays_27 : decode cX2_measureWays 27 = .ok (.if_icmp .ge 27, 3) := by decide +kernel
theorem dX2_measureWays_30 : decode cX2_measureWays 30 = .ok (.iinc 3 1, 3) := by decide +kernel
theorem dX2_measureWays_33 : decode cX2_measureWays 33 = .ok (.aload_n 0, 1) := by decide +kernel
theorem dX2_measureWays_34 : decode cX2_measureWays 34 = .ok (.getfield 38, 3) := by decide +kernel
theorem dX2_measureWays_37 : decode cX2_measureWays 37 = .ok (.iload_n 3, 1) := by decide +kernel
theorem dX2_measureWays_38 : decode cX2_measureWays 38 = .ok (.aload_n 0, 1) := by decide +kernel
theorem dX2_measureWays_39 : decode cX2_measureWays 39 = .ok (.aload_n 0, 1) := by decide +kernel
theorem dX2_measureWays_40 : decode cX2_measureWays 40 = .ok (.getfield 38, 3) := by decide +kernel
theorem dX2_measureWays_43 : decode cX2_measureWays 43 = .ok (.iload_n 3, 1) := by decide +kernel
theorem dX2_measureWays_44 : decode cX2_measureWays 44 = .ok (.iconst 1, 1) := by decide +kernel
theorem dX2_measureWays_45 : decode cX2_measureWays 45 = .ok (.isub, 1) := by decide +kernel
theorem dX2_measureWays_46 : decode cX2_measureWays 46 = .ok (.iaload, 1) := by decide +kernel
theorem dX2_measureWays_47 : decode cX2_measureWays 47 = .ok (.invokevirtual 66, 3) := by decide +kernel
theorem dX2_measureWays_50 : decode cX2_measureWays 50 = .ok (.iastore, 1) := by decide +kernel
theorem dX2_measureWays_51 : decode cX2_measureWays 51 = .ok (.goto (-40), 3) := by decide +kernel
theorem dX2_measureWays_54 : decode cX2_measureWays 54 = .ok (.iload_n 3, 1) := by decide +kernel
theorem dX2_measureWays_55 : decode cX2_measureWays 55 = .ok (.ireturn, 1) := by decide +kernel
theorem dX2_allThatHangOn_0 : decode cX2_allThatHangOn 0 = .ok (.iconst 0, 1) := by decide +kernel
theorem dX2_allThatHangOn_1 : decode cX2_allThatHangOn 1 = .ok (.istore_n 2, 1) := by decide +kernel
theorem dX2_allThatHangOn_2 : decode cX2_allThatHangOn 2 = .ok (.iconst 0, 1) := by decide +kernel
theorem dX2_allThatHangOn_3 : decode cX2_allThatHangOn 3 = .ok (.istore_n 3, 1) := by decide +kernel
theorem dX2_allThatHangOn_4 : decode cX2_allThatHangOn 4 = .ok (.iload_n 3, 1) := by decide +kernel
theorem dX2_allThatHangOn_5 : decode cX2_allThatHangOn 5 = .ok (.aload_n 0, 1) := by decide +kernel
theorem dX2_allThatHangOn_6 : decode cX2_allThatHangOn 6 = .ok (.getfield 51, 3) := by decide +kernel
theorem dX2_allThatHangOn_9 : decode cX2_allThatHangOn 9 = .ok (.if_icmp .ge 26, 3) := by decide +kernel
theorem dX2_allThatHangOn_12 : decode cX2_allThatHangOn 12 = .ok (.aload_n 0, 1) := by decide +kernel
theorem dX2_allThatHangOn_13 : decode cX2_allThatHangOn 13 = .ok (.getfield 26, 3) := by decide +kernel
theorem dX2_allThatHangOn_16 : decode cX2_allThatHangOn 16 = .ok (.iload_n 3, 1) := by decide +kernel
theorem dX2_allThatHangOn_17 : decode cX2_allThatHangOn 17 = .ok (.iaload, 1) := by decide +kernel
theorem dX2_allThatHangOn_18 : decode cX2_allThatHangOn 18 = .ok (.iload_n 1, 1) := by decide +kernel
theorem dX2_allThatHangOn_19 : decode cX2_allThatHangOn 19 = .ok (.iand, 1) := by decide +kernel
theorem dX2_allThatHangOn_20 : decode cX2_allThatHangOn 20 = .ok (.ifCond .eq 9, 3) := by decide +kernel
theorem dX2_allThatHangOn_23 : decode cX2_allThatHangOn 23 = .ok (.iload_n 2, 1) := by decide +kernel
theorem dX2_allThatHangOn_24 : decode cX2_allThatHangOn 24 = .ok (.iconst 1, 1) := by decide +kernel
theorem dX2_allThatHangOn_25 : decode cX2_allThatHangOn 25 = .ok (.iload_n 3, 1) := by decide +kernel
theorem dX2_allThatHangOn_26 : decode cX2_allThatHangOn 26 = .ok (.ishl, 1) := by decide +kernel
theorem dX2_allThatHangOn_27 : decode cX2_allThatHangOn 27 = .ok (.ior, 1) := by decide +kernel
theorem dX2_allThatHangOn_28 : decode cX2_allThatHangOn 28 = .ok (.istore_n 2, 1) := by decide +kernel
theorem dX2_allThatHangOn_29 : decode cX2_allThatHangOn 29 = .ok (.iinc 3 1, 3) := by decide +kernel
theorem dX2_allThatHangOn_32 : decode cX2_allThatHangOn 32 = .ok (.goto (-28), 3) := by decide +kernel
theorem dX2_allThatHangOn_35 : decode cX2_allThatHangOn 35 = .ok (.iload_n 2, 1) := by decide +kernel
theorem dX2_allThatHangOn_36 : decode cX2_allThatHangOn 36 = .ok (.ireturn, 1) := by decide +kernel
theorem dX2_leastOf_0 : decode cX2_leastOf 0 = .ok (.iconst 0, 1) := by decide +kernel
theorem dX2_leastOf_1 : decode cX2_leastOf 1 = .ok (.istore_n 1, 1) := by decide +kernel
theorem dX2_leastOf_2 : decode cX2_leastOf 2 = .ok (.iload_n 1, 1) := by decide +kernel
theorem dX2_leastOf_3 : decode cX2_leastOf 3 = .ok (.bipush 23, 2) := by decide +kernel
theorem dX2_leastOf_5 : decode cX2_leastOf 5 = .ok (.if_icmp .ge 17, 3) := by decide +kernel
theorem dX2_leastOf_8 : decode cX2_leastOf 8 = .ok (.iload_n 0, 1) := by decide +kernel
theorem dX2_leastOf_9 : decode cX2_leastOf 9 = .ok (.iload_n 1, 1) := by decide +kernel
theorem dX2_leastOf_10 : decode cX2_leastOf 10 = .ok (.invokestatic 55, 3) := by decide +kernel
theorem dX2_leastOf_13 : decode cX2_leastOf 13 = .ok (.ifCond .ne 9, 3) := by decide +kernel
theorem dX2_leastOf_16 : decode cX2_leastOf 16 = .ok (.iinc 1 1, 3) := by decide +kernel
theorem dX2_leastOf_19 : decode cX2_leastOf 19 = .ok (.goto (-17), 3) := by decide +kernel
theorem dX2_leastOf_22 : decode cX2_leastOf 22 = .ok (.iload_n 1, 1) := by decide +kernel
theorem dX2_leastOf_23 : decode cX2_leastOf 23 = .ok (.ireturn, 1) := by decide +kernel
theorem dX2_whoseSetHolds_0 : decode cX2_whoseSetHolds 0 = .ok (.iconst 0, 1) := by decide +kernel
theorem dX2_whoseSetHolds_1 : decode cX2_whoseSetHolds 1 = .ok (.istore_n 3, 1) := by decide +kernel
theorem dX2_whoseSetHolds_2 : decode cX2_whoseSetHolds 2 = .ok (.iconst 0, 1) := by decide +kernel
theorem dX2_whoseSetHolds_3 : decode cX2_whoseSetHolds 3 = .ok (.istore 4, 2) := by decide +kernel
theorem dX2_whoseSetHolds_5 : decode cX2_whoseSetHolds 5 = .ok (.iload 4, 2) := by decide +kernel
theorem dX2_whoseSetHolds_7 : decode cX2_whoseSetHolds 7 = .ok (.aload_n 0, 1) := by decide +kernel
theorem dX2_whoseSetHolds_8 : decode cX2_whoseSetHolds 8 = .ok (.getfield 51, 3) := by decide +kernel
theorem dX2_whoseSetHolds_11 : decode cX2_whoseSetHolds 11 = .ok (.if_icmp .ge 27, 3) := by decide +kernel
theorem dX2_whoseSetHolds_14 : decode cX2_whoseSetHolds 14 = .ok (.aload_n 2, 1) := by decide +kernel
theorem dX2_whoseSetHolds_15 : decode cX2_whoseSetHolds 15 = .ok (.iload 4, 2) := by decide +kernel
theorem dX2_whoseSetHolds_17 : decode cX2_whoseSetHolds 17 = .ok (.iaload, 1) := by decide +kernel
theorem dX2_whoseSetHolds_18 : decode cX2_whoseSetHolds 18 = .ok (.iload_n 1, 1) := by decide +kernel
theorem dX2_whoseSetHolds_19 : decode cX2_whoseSetHolds 19 = .ok (.invokestatic 55, 3) := by decide +kernel
theorem dX2_whoseSetHolds_22 : decode cX2_whoseSetHolds 22 = .ok (.ifCond .eq 10, 3) := by decide +kernel
theorem dX2_whoseSetHolds_25 : decode cX2_whoseSetHolds 25 = .ok (.iload_n 3, 1) := by decide +kernel
theorem dX2_whoseSetHolds_26 : decode cX2_whoseSetHolds 26 = .ok (.iconst 1, 1) := by decide +kernel
theorem dX2_whoseSetHolds_27 : decode cX2_whoseSetHolds 27 = .ok (.iload 4, 2) := by decide +kernel
theorem dX2_whoseSetHolds_29 : decode cX2_whoseSetHolds 29 = .ok (.ishl, 1) := by decide +kernel
theorem dX2_whoseSetHolds_30 : decode cX2_whoseSetHolds 30 = .ok (.ior, 1) := by decide +kernel
theorem dX2_whoseSetHolds_31 : decode cX2_whoseSetHolds 31 = .ok (.istore_n 3, 1) := by decide +kernel
theorem dX2_whoseSetHolds_32 : decode cX2_whoseSetHolds 32 = .ok (.iinc 4 1, 3) := by decide +kernel
theorem dX2_whoseSetHolds_35 : decode cX2_whoseSetHolds 35 = .ok (.goto (-30), 3) := by decide +kernel
theorem dX2_whoseSetHolds_38 : decode cX2_whoseSetHolds 38 = .ok (.iload_n 3, 1) := by decide +kernel
theorem dX2_whoseSetHolds_39 : decode cX2_whoseSetHolds 39 = .ok (.ireturn, 1) := by decide +kernel
theorem dX2_findAll_0 : decode cX2_findAll 0 = .ok (.aload_n 0, 1) := by decide +kernel
theorem dX2_findAll_1 : decode cX2_findAll 1 = .ok (.aload_n 1, 1) := by decide +kernel
theorem dX2_findAll_2 : decode cX2_findAll 2 = .ok (.getfield 69, 3) := by decide +kernel
theorem dX2_findAll_5 : decode cX2_findAll 5 = .ok (.putfield 51, 3) := by decide +kernel
theorem dX2_findAll_8 : decode cX2_findAll 8 = .ok (.aload_n 0, 1) := by decide +kernel
theorem dX2_findAll_9 : decode cX2_findAll 9 = .ok (.aload_n 1, 1) := by decide +kernel
theorem dX2_findAll_10 : decode cX2_findAll 10 = .ok (.invokevirtual 72, 3) := by decide +kernel
theorem dX2_findAll_13 : decode cX2_findAll 13 = .ok (.aload_n 0, 1) := by decide +kernel
theorem dX2_findAll_14 : decode cX2_findAll 14 = .ok (.invokevirtual 76, 3) := by decide +kernel
theorem dX2_findAll_17 : decode cX2_findAll 17 = .ok (.aload_n 0, 1) := by decide +kernel
theorem dX2_findAll_18 : decode cX2_findAll 18 = .ok (.invokevirtual 79, 3) := by decide +kernel
theorem dX2_findAll_21 : decode cX2_findAll 21 = .ok (.iconst 0, 1) := by decide +kernel
theorem dX2_findAll_22 : decode cX2_findAll 22 = .ok (.istore_n 2, 1) := by decide +kernel
theorem dX2_findAll_23 : decode cX2_findAll 23 = .ok (.iload_n 2, 1) := by decide +kernel
theorem dX2_findAll_24 : decode cX2_findAll 24 = .ok (.aload_n 0, 1) := by decide +kernel
theorem dX2_findAll_25 : decode cX2_findAll 25 = .ok (.getfield 51, 3) := by decide +kernel
theorem dX2_findAll_28 : decode cX2_findAll 28 = .ok (.if_icmp .ge 26, 3) := by decide +kernel
theorem dX2_findAll_31 : decode cX2_findAll 31 = .ok (.aload_n 0, 1) := by decide +kernel
theorem dX2_findAll_32 : decode cX2_findAll 32 = .ok (.aload_n 1, 1) := by decide +kernel
theorem dX2_findAll_33 : decode cX2_findAll 33 = .ok (.iload_n 2, 1) := by decide +kernel
theorem dX2_findAll_34 : decode cX2_findAll 34 = .ok (.invokevirtual 82, 3) := by decide +kernel
theorem dX2_findAll_37 : decode cX2_findAll 37 = .ok (.aload_n 0, 1) := by decide +kernel
theorem dX2_findAll_38 : decode cX2_findAll 38 = .ok (.aload_n 1, 1) := by decide +kernel
theorem dX2_findAll_39 : decode cX2_findAll 39 = .ok (.iload_n 2, 1) := by decide +kernel
theorem dX2_findAll_40 : decode cX2_findAll 40 = .ok (.invokevirtual 86, 3) := by decide +kernel
theorem dX2_findAll_43 : decode cX2_findAll 43 = .ok (.aload_n 0, 1) := by decide +kernel
theorem dX2_findAll_44 : decode cX2_findAll 44 = .ok (.iload_n 2, 1) := by decide +kernel
theorem dX2_findAll_45 : decode cX2_findAll 45 = .ok (.invokevirtual 89, 3) := by decide +kernel
theorem dX2_findAll_48 : decode cX2_findAll 48 = .ok (.iinc 2 1, 3) := by decide +kernel
theorem dX2_findAll_51 : decode cX2_findAll 51 = .ok (.goto (-28), 3) := by decide +kernel
theorem dX2_findAll_54 : decode cX2_findAll 54 = .ok (.aload_n 0, 1) := by decide +kernel
theorem dX2_findAll_55 : decode cX2_findAll 55 = .ok (.invokevirtual 93, 3) := by decide +kernel
theorem dX2_findAll_58 : decode cX2_findAll 58 = .ok (.return_, 1) := by decide +kernel
theorem dX2_closeHanging_0 : decode cX2_closeHanging 0 = .ok (.iconst 0, 1) := by decide +kernel
theorem dX2_closeHanging_1 : decode cX2_closeHanging 1 = .ok (.istore_n 1, 1) := by decide +kernel
theorem dX2_closeHanging_2 : decode cX2_closeHanging 2 = .ok (.iload_n 1, 1) := by decide +kernel
theorem dX2_closeHanging_3 : decode cX2_closeHanging 3 = .ok (.aload_n 0, 1) := by decide +kernel
theorem dX2_closeHanging_4 : decode cX2_closeHanging 4 = .ok (.getfield 51, 3) := by decide +kernel
theorem dX2_closeHanging_7 : decode cX2_closeHanging 7 = .ok (.if_icmp .ge 67, 3) := by decide +kernel
theorem dX2_closeHanging_10 : decode cX2_closeHanging 10 = .ok (.aload_n 0, 1) := by decide +kernel
theorem dX2_closeHanging_11 : decode cX2_closeHanging 11 = .ok (.getfield 26, 3) := by decide +kernel
theorem dX2_closeHanging_14 : decode cX2_closeHanging 14 = .ok (.iload_n 1, 1) := by decide +kernel
theorem dX2_closeHanging_15 : decode cX2_closeHanging 15 = .ok (.aload_n 0, 1) := by decide +kernel
theorem dX2_closeHanging_16 : decode cX2_closeHanging 16 = .ok (.getfield 23, 3) := by decide +kernel
theorem dX2_closeHanging_19 : decode cX2_closeHanging 19 = .ok (.iconst 1, 1) := by decide +kernel
theorem dX2_closeHanging_20 : decode cX2_closeHanging 20 = .ok (.aaload, 1) := by decide +kernel
theorem dX2_closeHanging_21 : decode cX2_closeHanging 21 = .ok (.iload_n 1, 1) := by decide +kernel
theorem dX2_closeHanging_22 : decode cX2_closeHanging 22 = .ok (.iaload, 1) := by decide +kernel
theorem dX2_closeHanging_23 : decode cX2_closeHanging 23 = .ok (.aload_n 0, 1) := by decide +kernel
theorem dX2_closeHanging_24 : decode cX2_closeHanging 24 = .ok (.getfield 23, 3) := by decide +kernel
theorem dX2_closeHanging_27 : decode cX2_closeHanging 27 = .ok (.iconst 2, 1) := by decide +kernel
theorem dX2_closeHanging_28 : decode cX2_closeHanging 28 = .ok (.aaload, 1) := by decide +kernel
theorem dX2_closeHanging_29 : decode cX2_closeHanging 29 = .ok (.iload_n 1, 1) := by decide +kernel
theorem dX2_closeHanging_30 : decode cX2_closeHanging 30 = .ok (.iaload, 1) := by decide +kernel
theorem dX2_closeHanging_31 : decode cX2_closeHanging 31 = .ok (.ior, 1) := by decide +kernel
theorem dX2_closeHanging_32 : decode cX2_closeHanging 32 = .ok (.aload_n 0, 1) := by decide +kernel
theorem dX2_closeHanging_33 : decode cX2_closeHanging 33 = .ok (.getfield 23, 3) := by decide +kernel
theorem dX2_closeHanging_36 : decode cX2_closeHanging 36 = .ok (.iconst 3, 1) := by decide +kernel
theorem dX2_closeHanging_37 : decode cX2_closeHanging 37 = .ok (.aaload, 1) := by decide +kernel
theorem dX2_closeHanging_38 : decode cX2_closeHanging 38 = .ok (.iload_n 1, 1) := by decide +kernel
theorem dX2_closeHanging_39 : decode cX2_closeHanging 39 = .ok (.iaload, 1) := by decide +kernel
theorem dX2_closeHanging_40 : decode cX2_closeHanging 40 = .ok (.ior, 1) := by decide +kernel
theorem dX2_closeHanging_41 : decode cX2_closeHanging 41 = .ok (.aload_n 0, 1) := by decide +kernel
theorem dX2_closeHanging_42 : decode cX2_closeHanging 42 = .ok (.getfield 23, 3) := by decide +kernel
theorem dX2_closeHanging_45 : decode cX2_closeHanging 45 = .ok (.iconst 4, 1) := by decide +kernel
theorem dX2_closeHanging_46 : decode cX2_closeHanging 46 = .ok (.aaload, 1) := by decide +kernel
theorem dX2_closeHanging_47 : decode cX2_closeHanging 47 = .ok (.iload_n 1, 1) := by decide +kernel
theorem dX2_closeHanging_48 : decode cX2_closeHanging 48 = .ok (.iaload, 1) := by decide +kernel
theorem dX2_closeHanging_49 : decode cX2_closeHanging 49 = .ok (.ior, 1) := by decide +kernel
theorem dX2_closeHanging_50 : decode cX2_closeHanging 50 = .ok (.iastore, 1) := by decide +kernel
theorem dX2_closeHanging_51 : decode cX2_closeHanging 51 = .ok (.aload_n 0, 1) := by decide +kernel
theorem dX2_closeHanging_52 : decode cX2_closeHanging 52 = .ok (.getfield 29, 3) := by decide +kernel
theorem dX2_closeHanging_55 : decode cX2_closeHanging 55 = .ok (.iload_n 1, 1) := by decide +kernel
theorem dX2_closeHanging_56 : decode cX2_closeHanging 56 = .ok (.dup2, 1) := by decide +kernel
theorem dX2_closeHanging_57 : decode cX2_closeHanging 57 = .ok (.iaload, 1) := by decide +kernel
theorem dX2_closeHanging_58 : decode cX2_closeHanging 58 = .ok (.aload_n 0, 1) := by decide +kernel
theorem dX2_closeHanging_59 : decode cX2_closeHanging 59 = .ok (.getfield 23, 3) := by decide +kernel
theorem dX2_closeHanging_62 : decode cX2_closeHanging 62 = .ok (.iconst 2, 1) := by decide +kernel
theorem dX2_closeHanging_63 : decode cX2_closeHanging 63 = .ok (.aaload, 1) := by decide +kernel
theorem dX2_closeHanging_64 : decode cX2_closeHanging 64 = .ok (.iload_n 1, 1) := by decide +kernel
theorem dX2_closeHanging_65 : decode cX2_closeHanging 65 = .ok (.iaload, 1) := by decide +kernel
theorem dX2_closeHanging_66 : decode cX2_closeHanging 66 = .ok (.ior, 1) := by decide +kernel
theorem dX2_closeHanging_67 : decode cX2_closeHanging 67 = .ok (.iastore, 1) := by decide +kernel
theorem dX2_closeHanging_68 : decode cX2_closeHanging 68 = .ok (.iinc 1 1, 3) := by decide +kernel
theorem dX2_closeHanging_71 : decode cX2_closeHanging 71 = .ok (.goto (-69), 3) := by decide +kernel
theorem dX2_closeHanging_74 : decode cX2_closeHanging 74 = .ok (.iconst 0, 1) := by decide +kernel
theorem dX2_closeHanging_75 : decode cX2_closeHanging 75 = .ok (.istore_n 1, 1) := by decide +kernel
theorem dX2_closeHanging_76 : decode cX2_closeHanging 76 = .ok (.iload_n 1, 1) := by decide +kernel
theorem dX2_closeHanging_77 : decode cX2_closeHanging 77 = .ok (.aload_n 0, 1) := by decide +kernel
theorem dX2_closeHanging_78 : decode cX2_closeHanging 78 = .ok (.getfield 51, 3) := by decide +kernel
theorem dX2_closeHanging_81 : decode cX2_closeHanging 81 = .ok (.if_icmp .ge 43, 3) := by decide +kernel
theorem dX2_closeHanging_84 : decode cX2_closeHanging 84 = .ok (.aload_n 0, 1) := by decide +kernel
theorem dX2_closeHanging_85 : decode cX2_closeHanging 85 = .ok (.getfield 32, 3) := by decide +kernel
theorem dX2_closeHanging_88 : decode cX2_closeHanging 88 = .ok (.iload_n 1, 1) := by decide +kernel
theorem dX2_closeHanging_89 : decode cX2_closeHanging 89 = .ok (.aload_n 0, 1) := by decide +kernel
theorem dX2_closeHanging_90 : decode cX2_closeHanging 90 = .ok (.iconst 1, 1) := by decide +kernel
theorem dX2_closeHanging_91 : decode cX2_closeHanging 91 = .ok (.iload_n 1, 1) := by decide +kernel
theorem dX2_closeHanging_92 : decode cX2_closeHanging 92 = .ok (.ishl, 1) := by decide +kernel
theorem dX2_closeHanging_93 : decode cX2_closeHanging 93 = .ok (.aload_n 0, 1) := by decide +kernel
theorem dX2_closeHanging_94 : decode cX2_closeHanging 94 = .ok (.getfield 26, 3) := by decide +kernel
theorem dX2_closeHanging_97 : decode cX2_closeHanging 97 = .ok (.invokevirtual 96, 3) := by decide +kernel
theorem dX2_closeHanging_100 : decode cX2_closeHanging 100 = .ok (.iastore, 1) := by decide +kernel
theorem dX2_closeHanging_101 : decode cX2_closeHanging 101 = .ok (.aload_n 0, 1) := by decide +kernel
theorem dX2_closeHanging_102 : decode cX2_closeHanging 102 = .ok (.getfield 35, 3) := by decide +kernel
theorem dX2_closeHanging_105 : decode cX2_closeHanging 105 = .ok (.iload_n 1, 1) := by decide +kernel
theorem dX2_closeHanging_106 : decode cX2_closeHanging 106 = .ok (.aload_n 0, 1) := by decide +kernel
theorem dX2_closeHanging_107 : decode cX2_closeHanging 107 = .ok (.iconst 1, 1) := by decide +kernel
theorem dX2_closeHanging_108 : decode cX2_closeHanging 108 = .ok (.iload_n 1, 1) := by decide +kernel
theorem dX2_closeHanging_109 : decode cX2_closeHanging 109 = .ok (.ishl, 1) := by decide +kernel
theorem dX2_closeHanging_110 : decode cX2_closeHanging 110 = .ok (.aload_n 0, 1) := by decide +kernel
theorem dX2_closeHanging_111 : decode cX2_closeHanging 111 = .ok (.getfield 29, 3) := by decide +kernel
theorem dX2_closeHanging_114 : decode cX2_closeHanging 114 = .ok (.invokevirtual 96, 3) := by decide +kernel
theorem dX2_closeHanging_117 : decode cX2_closeHanging 117 = .ok (.iastore, 1) := by decide +kernel
theorem dX2_closeHanging_118 : decode cX2_closeHanging 118 = .ok (.iinc 1 1, 3) := by decide +kernel
theorem dX2_closeHanging_121 : decode cX2_closeHanging 121 = .ok (.goto (-45), 3) := by decide +kernel
theorem dX2_closeHanging_124 : decode cX2_closeHanging 124 = .ok (.return_, 1) := by decide +kernel
theorem dX2_takeNexts_0 : decode cX2_takeNexts 0 = .ok (.iconst 0, 1) := by decide +kernel
theorem dX2_takeNexts_1 : decode cX2_takeNexts 1 = .ok (.istore_n 2, 1) := by decide +kernel
theorem dX2_takeNexts_2 : decode cX2_takeNexts 2 = .ok (.iload_n 2, 1) := by decide +kernel
theorem dX2_takeNexts_3 : decode cX2_takeNexts 3 = .ok (.aload_n 0, 1) := by decide +kernel
theorem dX2_takeNexts_4 : decode cX2_takeNexts 4 = .ok (.getfield 51, 3) := by decide +kernel
theorem dX2_takeNexts_7 : decode cX2_takeNexts 7 = .ok (.if_icmp .ge 31, 3) := by decide +kernel
theorem dX2_takeNexts_10 : decode cX2_takeNexts 10 = .ok (.aload_n 0, 1) := by decide +kernel
theorem dX2_takeNexts_11 : decode cX2_takeNexts 11 = .ok (.getfield 9, 3) := by decide +kernel
theorem dX2_takeNexts_14 : decode cX2_takeNexts 14 = .ok (.iload_n 2, 1) := by decide +kernel
theorem dX2_takeNexts_15 : decode cX2_takeNexts 15 = .ok (.aload_n 1, 1) := by decide +kernel
theorem dX2_takeNexts_16 : decode cX2_takeNexts 16 = .ok (.iload_n 2, 1) := by decide +kernel
theorem dX2_takeNexts_17 : decode cX2_takeNexts 17 = .ok (.invokevirtual 99, 3) := by decide +kernel
theorem dX2_takeNexts_20 : decode cX2_takeNexts 20 = .ok (.iastore, 1) := by decide +kernel
theorem dX2_takeNexts_21 : decode cX2_takeNexts 21 = .ok (.aload_n 0, 1) := by decide +kernel
theorem dX2_takeNexts_22 : decode cX2_takeNexts 22 = .ok (.getfield 15, 3) := by decide +kernel
theorem dX2_takeNexts_25 : decode cX2_takeNexts 25 = .ok (.iload_n 2, 1) := by decide +kernel
theorem dX2_takeNexts_26 : decode cX2_takeNexts 26 = .ok (.aload_n 1, 1) := by decide +kernel
theorem dX2_takeNexts_27 : decode cX2_takeNexts 27 = .ok (.iload_n 2, 1) := by decide +kernel
theorem dX2_takeNexts_28 : decode cX2_takeNexts 28 = .ok (.invokevirtual 102, 3) := by decide +kernel
theorem dX2_takeNexts_31 : decode cX2_takeNexts 31 = .ok (.iastore, 1) := by decide +kernel
theorem dX2_takeNexts_32 : decode cX2_takeNexts 32 = .ok (.iinc 2 1, 3) := by decide +kernel
theorem dX2_takeNexts_35 : decode cX2_takeNexts 35 = .ok (.goto (-33), 3) := by decide +kernel
theorem dX2_takeNexts_38 : decode cX2_takeNexts 38 = .ok (.return_, 1) := by decide +kernel
theorem dX2_forgetHanging_0 : decode cX2_forgetHanging 0 = .ok (.iconst 0, 1) := by decide +kernel
theorem dX2_forgetHanging_1 : decode cX2_forgetHanging 1 = .ok (.istore_n 1, 1) := by decide +kernel
theorem dX2_forgetHanging_2 : decode cX2_forgetHanging 2 = .ok (.iload_n 1, 1) := by decide +kernel
theorem dX2_forgetHanging_3 : decode cX2_forgetHanging 3 = .ok (.aload_n 0, 1) := by decide +kernel
theorem dX2_forgetHanging_4 : decode cX2_forgetHanging 4 = .ok (.getfield 51, 3) := by decide +kernel
theorem dX2_forgetHanging_7 : decode cX2_forgetHanging 7 = .ok (.if_icmp .ge 45, 3) := by decide +kernel
theorem dX2_forgetHanging_10 : decode cX2_forgetHanging 10 = .ok (.aload_n 0, 1) := by decide +kernel
theorem dX2_forgetHanging_11 : decode cX2_forgetHanging 11 = .ok (.getfield 18, 3) := by decide +kernel
theorem dX2_forgetHanging_14 : decode cX2_forgetHanging 14 = .ok (.iload_n 1, 1) := by decide +kernel
theorem dX2_forgetHanging_15 : decode cX2_forgetHanging 15 = .ok (.iconst 0, 1) := by decide +kernel
theorem dX2_forgetHanging_16 : decode cX2_forgetHanging 16 = .ok (.iastore, 1) := by decide +kernel
theorem dX2_forgetHanging_17 : decode cX2_forgetHanging 17 = .ok (.aload_n 0, 1) := by decide +kernel
theorem dX2_forgetHanging_18 : decode cX2_forgetHanging 18 = .ok (.getfield 29, 3) := by decide +kernel
theorem dX2_forgetHanging_21 : decode cX2_forgetHanging 21 = .ok (.iload_n 1, 1) := by decide +kernel
theorem dX2_forgetHanging_22 : decode cX2_forgetHanging 22 = .ok (.iconst 0, 1) := by decide +kernel
theorem dX2_forgetHanging_23 : decode cX2_forgetHanging 23 = .ok (.iastore, 1) := by decide +kernel
theorem dX2_forgetHanging_24 : decode cX2_forgetHanging 24 = .ok (.iconst 1, 1) := by decide +kernel
theorem dX2_forgetHanging_25 : decode cX2_forgetHanging 25 = .ok (.istore_n 2, 1) := by decide +kernel
theorem dX2_forgetHanging_26 : decode cX2_forgetHanging 26 = .ok (.iload_n 2, 1) := by decide +kernel
theorem dX2_forgetHanging_27 : decode cX2_forgetHanging 27 = .ok (.iconst 4, 1) := by decide +kernel
theorem dX2_forgetHanging_28 : decode cX2_forgetHanging 28 = .ok (.if_icmp .gt 18, 3) := by decide +kernel
theorem dX2_forgetHanging_31 : decode cX2_forgetHanging 31 = .ok (.aload_n 0, 1) := by decide +kernel
theorem dX2_forgetHanging_32 : decode cX2_forgetHanging 32 = .ok (.getfield 23, 3) := by decide +kernel
theorem dX2_forgetHanging_35 : decode cX2_forgetHanging 35 = .ok (.iload_n 2, 1) := by decide +kernel
theorem dX2_forgetHanging_36 : decode cX2_forgetHanging 36 = .ok (.aaload, 1) := by decide +kernel
theorem dX2_forgetHanging_37 : decode cX2_forgetHanging 37 = .ok (.iload_n 1, 1) := by decide +kernel
theorem dX2_forgetHanging_38 : decode cX2_forgetHanging 38 = .ok (.iconst 0, 1) := by decide +kernel
theorem dX2_forgetHanging_39 : decode cX2_forgetHanging 39 = .ok (.iastore, 1) := by decide +kernel
theorem dX2_forgetHanging_40 : decode cX2_forgetHanging 40 = .ok (.iinc 2 1, 3) := by decide +kernel
theorem dX2_forgetHanging_43 : decode cX2_forgetHanging 43 = .ok (.goto (-17), 3) := by decide +kernel
theorem dX2_forgetHanging_46 : decode cX2_forgetHanging 46 = .ok (.iinc 1 1, 3) := by decide +kernel
theorem dX2_forgetHanging_49 : decode cX2_forgetHanging 49 = .ok (.goto (-47), 3) := by decide +kernel
theorem dX2_forgetHanging_52 : decode cX2_forgetHanging 52 = .ok (.return_, 1) := by decide +kernel
theorem dX2_findFollowers_0 : decode cX2_findFollowers 0 = .ok (.iconst 0, 1) := by decide +kernel
theorem dX2_findFollowers_1 : decode cX2_findFollowers 1 = .ok (.istore_n 1, 1) := by decide +kernel
theorem dX2_findFollowers_2 : decode cX2_findFollowers 2 = .ok (.iload_n 1, 1) := by decide +kernel
theorem dX2_findFollowers_3 : decode cX2_findFollowers 3 = .ok (.aload_n 0, 1) := by decide +kernel
theorem dX2_findFollowers_4 : decode cX2_findFollowers 4 = .ok (.getfield 51, 3) := by decide +kernel
theorem dX2_findFollowers_7 : decode cX2_findFollowers 7 = .ok (.if_icmp .ge 56, 3) := by decide +kernel
theorem dX2_findFollowers_10 : decode cX2_findFollowers 10 = .ok (.aload_n 0, 1) := by decide +kernel
theorem dX2_findFollowers_11 : decode cX2_findFollowers 11 = .ok (.iload_n 1, 1) := by decide +kernel
theorem dX2_findFollowers_12 : decode cX2_findFollowers 12 = .ok (.invokevirtual 105, 3) := by decide +kernel
theorem dX2_findFollowers_15 : decode cX2_findFollowers 15 = .ok (.istore_n 2, 1) := by decide +kernel
theorem dX2_findFollowers_16 : decode cX2_findFollowers 16 = .ok (.iconst 0, 1) := by decide +kernel
theorem dX2_findFollowers_17 : decode cX2_findFollowers 17 = .ok (.istore_n 3, 1) := by decide +kernel
theorem dX2_findFollowers_18 : decode cX2_findFollowers 18 = .ok (.iload_n 3, 1) := by decide +kernel
theorem dX2_findFollowers_19 : decode cX2_findFollowers 19 = .ok (.aload_n 0, 1) := by decide +kernel
theorem dX2_findFollowers_20 : decode cX2_findFollowers 20 = .ok (.getfield 51, 3) := by decide +kernel
theorem dX2_findFollowers_23 : decode cX2_findFollowers 23 = .ok (.if_icmp .ge 34, 3) := by decide +kernel
theorem dX2_findFollowers_26 : decode cX2_findFollowers 26 = .ok (.iload_n 3, 1) := by decide +kernel
theorem dX2_findFollowers_27 : decode cX2_findFollowers 27 = .ok (.iload_n 1, 1) := by decide +kernel
theorem dX2_findFollowers_28 : decode cX2_findFollowers 28 = .ok (.if_icmp .eq 23, 3) := by decide +kernel
theorem dX2_findFollowers_31 : decode cX2_findFollowers 31 = .ok (.iload_n 2, 1) := by decide +kernel
theorem dX2_findFollowers_32 : decode cX2_findFollowers 32 = .ok (.iload_n 3, 1) := by decide +kernel
theorem dX2_findFollowers_33 : decode cX2_findFollowers 33 = .ok (.invokestatic 55, 3) := by decide +kernel
theorem dX2_findFollowers_36 : decode cX2_findFollowers 36 = .ok (.ifCond .ne 15, 3) := by decide +kernel
theorem dX2_findFollowers_39 : decode cX2_findFollowers 39 = .ok (.aload_n 0, 1) := by decide +kernel
theorem dX2_findFollowers_40 : decode cX2_findFollowers 40 = .ok (.getfield 18, 3) := by decide +kernel
theorem dX2_findFollowers_43 : decode cX2_findFollowers 43 = .ok (.iload_n 3, 1) := by decide +kernel
theorem dX2_findFollowers_44 : decode cX2_findFollowers 44 = .ok (.dup2, 1) := by decide +kernel
theorem dX2_findFollowers_45 : decode cX2_findFollowers 45 = .ok (.iaload, 1) := by decide +kernel
theorem dX2_findFollowers_46 : decode cX2_findFollowers 46 = .ok (.iconst 1, 1) := by decide +kernel
theorem dX2_findFollowers_47 : decode cX2_findFollowers 47 = .ok (.iload_n 1, 1) := by decide +kernel
theorem dX2_findFollowers_48 : decode cX2_findFollowers 48 = .ok (.ishl, 1) := by decide +kernel
theorem dX2_findFollowers_49 : decode cX2_findFollowers 49 = .ok (.ior, 1) := by decide +kernel
theorem dX2_findFollowers_50 : decode cX2_findFollowers 50 = .ok (.iastore, 1) := by decide +kernel
theorem dX2_findFollowers_51 : decode cX2_findFollowers 51 = .ok (.iinc 3 1, 3) := by decide +kernel
theorem dX2_findFollowers_54 : decode cX2_findFollowers 54 = .ok (.goto (-36), 3) := by decide +kernel
theorem dX2_findFollowers_57 : decode cX2_findFollowers 57 = .ok (.iinc 1 1, 3) := by decide +kernel
theorem dX2_findFollowers_60 : decode cX2_findFollowers 60 = .ok (.goto (-58), 3) := by decide +kernel
theorem dX2_findFollowers_63 : decode cX2_findFollowers 63 = .ok (.return_, 1) := by decide +kernel
theorem dX2_endReachedWithout_0 : decode cX2_endReachedWithout 0 = .ok (.ldc 108, 2) := by decide +kernel
theorem dX2_endReachedWithout_2 : decode cX2_endReachedWithout 2 = .ok (.istore_n 2, 1) := by decide +kernel
theorem dX2_endReachedWithout_3 : decode cX2_endReachedWithout 3 = .ok (.iconst 0, 1) := by decide +kernel
theorem dX2_endReachedWithout_4 : decode cX2_endReachedWithout 4 = .ok (.istore_n 3, 1) := by decide +kernel
theorem dX2_endReachedWithout_5 : decode cX2_endReachedWithout 5 = .ok (.iconst 0, 1) := by decide +kernel
theorem dX2_endReachedWithout_6 : decode cX2_endReachedWithout 6 = .ok (.istore 4, 2) := by decide +kernel
theorem dX2_endReachedWithout_8 : decode cX2_endReachedWithout 8 = .ok (.iload_n 2, 1) := by decide +kernel
theorem dX2_endReachedWithout_9 : decode cX2_endReachedWithout 9 = .ok (.iload_n 3, 1) := by decide +kernel
theorem dX2_endReachedWithout_10 : decode cX2_endReachedWithout 10 = .ok (.if_icmp .eq 62, 3) := by decide +kernel
theorem dX2_endReachedWithout_13 : decode cX2_endReachedWithout 13 = .ok (.iload 4, 2) := by decide +kernel
theorem dX2_endReachedWithout_15 : decode cX2_endReachedWithout 15 = .ok (.bipush 24, 2) := by decide +kernel
theorem dX2_endReachedWithout_17 : decode cX2_endReachedWithout 17 = .ok (.if_icmp .gt 55, 3) := by decide +kernel
theorem dX2_endReachedWithout_20 : decode cX2_endReachedWithout 20 = .ok (.iload_n 2, 1) := by decide +kernel
theorem dX2_endReachedWithout_21 : decode cX2_endReachedWithout 21 = .ok (.istore_n 3, 1) := by decide +kernel
theorem dX2_endReachedWithout_22 : decode cX2_endReachedWithout 22 = .ok (.aload_n 0, 1) := by decide +kernel
theorem dX2_endReachedWithout_23 : decode cX2_endReachedWithout 23 = .ok (.getfield 51, 3) := by decide +kernel
theorem dX2_endReachedWithout_26 : decode cX2_endReachedWithout 26 = .ok (.iconst 1, 1) := by decide +kernel
theorem dX2_endReachedWithout_27 : decode cX2_endReachedWithout 27 = .ok (.isub, 1) := by decide +kernel
theorem dX2_endReachedWithout_28 : decode cX2_endReachedWithout 28 = .ok (.istore 5, 2) := by decide +kernel
theorem dX2_endReachedWithout_30 : decode cX2_endReachedWithout 30 = .ok (.iload 5, 2) := by decide +kernel
theorem dX2_endReachedWithout_32 : decode cX2_endReachedWithout 32 = .ok (.ifCond .lt 34, 3) := by decide +kernel
theorem dX2_endReachedWithout_35 : decode cX2_endReachedWithout 35 = .ok (.iload 5, 2) := by decide +kernel
theorem dX2_endReachedWithout_37 : decode cX2_endReachedWithout 37 = .ok (.iload_n 1, 1) := by decide +kernel
theorem dX2_endReachedWithout_38 : decode cX2_endReachedWithout 38 = .ok (.if_icmp .eq 22, 3) := by decide +kernel
theorem dX2_endReachedWithout_41 : decode cX2_endReachedWithout 41 = .ok (.aload_n 0, 1) := by decide +kernel
theorem dX2_endReachedWithout_42 : decode cX2_endReachedWithout 42 = .ok (.getfield 15, 3) := by decide +kernel
theorem dX2_endReachedWithout_45 : decode cX2_endReachedWithout 45 = .ok (.iload 5, 2) := by decide +kernel
theorem dX2_endReachedWithout_47 : decode cX2_endReachedWithout 47 = .ok (.iaload, 1) := by decide +kernel
theorem dX2_endReachedWithout_48 : decode cX2_endReachedWithout 48 = .ok (.iload_n 2, 1) := by decide +kernel
theorem dX2_endReachedWithout_49 : decode cX2_endReachedWithout 49 = .ok (.iand, 1) := by decide +kernel
theorem dX2_endReachedWithout_50 : decode cX2_endReachedWithout 50 = .ok (.ifCond .eq 10, 3) := by decide +kernel
theorem dX2_endReachedWithout_53 : decode cX2_endReachedWithout 53 = .ok (.iload_n 2, 1) := by decide +kernel
theorem dX2_endReachedWithout_54 : decode cX2_endReachedWithout 54 = .ok (.iconst 1, 1) := by decide +kernel
theorem dX2_endReachedWithout_55 : decode cX2_endReachedWithout 55 = .ok (.iload 5, 2) := by decide +kernel
theorem dX2_endReachedWithout_57 : decode cX2_endReachedWithout 57 = .ok (.ishl, 1) := by decide +kernel
theorem dX2_endReachedWithout_58 : decode cX2_endReachedWithout 58 = .ok (.ior, 1) := by decide +kernel
theorem dX2_endReachedWithout_59 : decode cX2_endReachedWithout 59 = .ok (.istore_n 2, 1) := by decide +kernel
theorem dX2_endReachedWithout_60 : decode cX2_endReachedWithout 60 = .ok (.iinc 5 (-1), 3) := by decide +kernel
theorem dX2_endReachedWithout_63 : decode cX2_endReachedWithout 63 = .ok (.goto (-33), 3) := by decide +kernel
theorem dX2_endReachedWithout_66 : decode cX2_endReachedWithout 66 = .ok (.iinc 4 1, 3) := by decide +kernel
theorem dX2_endReachedWithout_69 : decode cX2_endReachedWithout 69 = .ok (.goto (-61), 3) := by decide +kernel
theorem dX2_endReachedWithout_72 : decode cX2_endReachedWithout 72 = .ok (.iload_n 2, 1) := by decide +kernel
theorem dX2_endReachedWithout_73 : decode cX2_endReachedWithout 73 = .ok (.ireturn, 1) := by decide +kernel
theorem dX2_findHangingByData_0 : decode cX2_findHangingByData 0 = .ok (.aload_n 1, 1) := by decide +kernel
theorem dX2_findHangingByData_1 : decode cX2_findHangingByData 1 = .ok (.iload_n 2, 1) := by decide +kernel
theorem dX2_findHangingByData_2 : decode cX2_findHangingByData 2 = .ok (.invokevirtual 109, 3) := by decide +kernel
theorem dX2_findHangingByData_5 : decode cX2_findHangingByData 5 = .ok (.istore_n 3, 1) := by decide +kernel
theorem dX2_findHangingByData_6 : decode cX2_findHangingByData 6 = .ok (.iload_n 3, 1) := by decide +kernel
theorem dX2_findHangingByData_7 : decode cX2_findHangingByData 7 = .ok (.ifCond .ne 4, 3) := by decide +kernel
theorem dX2_findHangingByData_10 : decode cX2_findHangingByData 10 = .ok (.return_, 1) := by decide +kernel
theorem dX2_findHangingByData_11 : decode cX2_findHangingByData 11 = .ok (.iload_n 3, 1) := by decide +kernel
theorem dX2_findHangingByData_12 : decode cX2_findHangingByData 12 = .ok (.sipush 256, 3) := by decide +kernel
theorem dX2_findHangingByData_15 : decode cX2_findHangingByData 15 = .ok (.if_icmp .ge 7, 3) := by decide +kernel
theorem dX2_findHangingByData_18 : decode cX2_findHangingByData 18 = .ok (.iconst 1, 1) := by decide +kernel
theorem dX2_findHangingByData_19 : decode cX2_findHangingByData 19 = .ok (.goto 4, 3) := by decide +kernel
theorem dX2_findHangingByData_22 : decode cX2_findHangingByData 22 = .ok (.iconst 3, 1) := by decide +kernel
theorem dX2_findHangingByData_23 : decode cX2_findHangingByData 23 = .ok (.istore 4, 2) := by decide +kernel
theorem dX2_findHangingByData_25 : decode cX2_findHangingByData 25 = .ok (.aload_n 0, 1) := by decide +kernel
theorem dX2_findHangingByData_26 : decode cX2_findHangingByData 26 = .ok (.iload_n 2, 1) := by decide +kernel
theorem dX2_findHangingByData_27 : decode cX2_findHangingByData 27 = .ok (.aload_n 0, 1) := by decide +kernel
theorem dX2_findHangingByData_28 : decode cX2_findHangingByData 28 = .ok (.aload_n 1, 1) := by decide +kernel
theorem dX2_findHangingByData_29 : decode cX2_findHangingByData 29 = .ok (.iload_n 3, 1) := by decide +kernel
theorem dX2_findHangingByData_30 : decode cX2_findHangingByData 30 = .ok (.invokevirtual 112, 3) := by decide +kernel
theorem dX2_findHangingByData_33 : decode cX2_findHangingByData 33 = .ok (.invokevirtual 116, 3) := by decide +kernel
theorem dX2_findHangingByData_36 : decode cX2_findHangingByData 36 = .ok (.istore 5, 2) := by decide +kernel
theorem dX2_findHangingByData_38 : decode cX2_findHangingByData 38 = .ok (.iconst 0, 1) := by decide +kernel
theorem dX2_findHangingByData_39 : decode cX2_findHangingByData 39 = .ok (.istore 6, 2) := by decide +kernel
theorem dX2_findHangingByData_41 : decode cX2_findHangingByData 41 = .ok (.iload 6, 2) := by decide +kernel
theorem dX2_findHangingByData_43 : decode cX2_findHangingByData 43 = .ok (.aload_n 0, 1) := by decide +kernel
theorem dX2_findHangingByData_44 : decode cX2_findHangingByData 44 = .ok (.getfield 51, 3) := by decide +kernel
theorem dX2_findHangingByData_47 : decode cX2_findHangingByData 47 = .ok (.if_icmp .ge 80, 3) := by decide +kernel
theorem dX2_findHangingByData_50 : decode cX2_findHangingByData 50 = .ok (.iload 5, 2) := by decide +kernel
theorem dX2_findHangingByData_52 : decode cX2_findHangingByData 52 = .ok (.iload 6, 2) := by decide +kernel
theorem dX2_findHangingByData_54 : decode cX2_findHangingByData 54 = .ok (.invokestatic 55, 3) := by decide +kernel
theorem dX2_findHangingByData_57 : decode cX2_findHangingByData 57 = .ok (.ifCond .eq 30, 3) := by decide +kernel
theorem dX2_findHangingByData_60 : decode cX2_findHangingByData 60 = .ok (.aload_n 1, 1) := by decide +kernel
theorem dX2_findHangingByData_61 : decode cX2_findHangingByData 61 = .ok (.iload 6, 2) := by decide +kernel
theorem dX2_findHangingByData_63 : decode cX2_findHangingByData 63 = .ok (.invokevirtual 119, 3) := by decide +kernel
theorem dX2_findHangingByData_66 : decode cX2_findHangingByData 66 = .ok (.iload_n 3, 1) := by decide +kernel
theorem dX2_findHangingByData_67 : decode cX2_findHangingByData 67 = .ok (.iand, 1) := by decide +kernel
theorem dX2_findHangingByData_68 : decode cX2_findHangingByData 68 = .ok (.ifCond .eq 19, 3) := by decide +kernel
theorem dX2_findHangingByData_71 : decode cX2_findHangingByData 71 = .ok (.aload_n 0, 1) := by decide +kernel
theorem dX2_findHangingByData_72 : decode cX2_findHangingByData 72 = .ok (.getfield 23, 3) := by decide +kernel
theorem dX2_findHangingByData_75 : decode cX2_findHangingByData 75 = .ok (.iload 4, 2) := by decide +kernel
theorem dX2_findHangingByData_77 : decode cX2_findHangingByData 77 = .ok (.aaload, 1) := by decide +kernel
theorem dX2_findHangingByData_78 : decode cX2_findHangingByData 78 = .ok (.iload 6, 2) := by decide +kernel
theorem dX2_findHangingByData_80 : decode cX2_findHangingByData 80 = .ok (.dup2, 1) := by decide +kernel
theorem dX2_findHangingByData_81 : decode cX2_findHangingByData 81 = .ok (.iaload, 1) := by decide +kernel
theorem dX2_findHangingByData_82 : decode cX2_findHangingByData 82 = .ok (.iconst 1, 1) := by decide +kernel
theorem dX2_findHangingByData_83 : decode cX2_findHangingByData 83 = .ok (.iload_n 2, 1) := by decide +kernel
theorem dX2_findHangingByData_84 : decode cX2_findHangingByData 84 = .ok (.ishl, 1) := by decide +kernel
theorem dX2_findHangingByData_85 : decode cX2_findHangingByData 85 = .ok (.ior, 1) := by decide +kernel
theorem dX2_findHangingByData_86 : decode cX2_findHangingByData 86 = .ok (.iastore, 1) := by decide +kernel
theorem dX2_findHangingByData_87 : decode cX2_findHangingByData 87 = .ok (.iload 5, 2) := by decide +kernel
theorem dX2_findHangingByData_89 : decode cX2_findHangingByData 89 = .ok (.iload 6, 2) := by decide +kernel
theorem dX2_findHangingByData_91 : decode cX2_findHangingByData 91 = .ok (.invokestatic 55, 3) := by decide +kernel
theorem dX2_findHangingByData_94 : decode cX2_findHangingByData 94 = .ok (.ifCond .eq 27, 3) := by decide +kernel
theorem dX2_findHangingByData_97 : decode cX2_findHangingByData 97 = .ok (.aload_n 1, 1) := by decide +kernel
theorem dX2_findHangingByData_98 : decode cX2_findHangingByData 98 = .ok (.iload 6, 2) := by decide +kernel
theorem dX2_findHangingByData_100 : decode cX2_findHangingByData 100 = .ok (.invokevirtual 122, 3) := by decide +kernel
theorem dX2_findHangingByData_103 : decode cX2_findHangingByData 103 = .ok (.iload_n 3, 1) := by decide +kernel
theorem dX2_findHangingByData_104 : decode cX2_findHangingByData 104 = .ok (.iand, 1) := by decide +kernel
theorem dX2_findHangingByData_105 : decode cX2_findHangingByData 105 = .ok (.ifCond .eq 16, 3) := by decide +kernel
theorem dX2_findHangingByData_108 : decode cX2_findHangingByData 108 = .ok (.aload_n 0, 1) := by decide +kernel
theorem dX2_findHangingByData_109 : decode cX2_findHangingByData 109 = .ok (.getfield 29, 3) := by decide +kernel
theorem dX2_findHangingByData_112 : decode cX2_findHangingByData 112 = .ok (.iload 6, 2) := by decide +kernel
theorem dX2_findHangingByData_114 : decode cX2_findHangingByData 114 = .ok (.dup2, 1) := by decide +kernel
theorem dX2_findHangingByData_115 : decode cX2_findHangingByData 115 = .ok (.iaload, 1) := by decide +kernel
theorem dX2_findHangingByData_116 : decode cX2_findHangingByData 116 = .ok (.iconst 1, 1) := by decide +kernel
theorem dX2_findHangingByData_117 : decode cX2_findHangingByData 117 = .ok (.iload_n 2, 1) := by decide +kernel
theorem dX2_findHangingByData_118 : decode cX2_findHangingByData 118 = .ok (.ishl, 1) := by decide +kernel
theorem dX2_findHangingByData_119 : decode cX2_findHangingByData 119 = .ok (.ior, 1) := by decide +kernel
theorem dX2_findHangingByData_120 : decode cX2_findHangingByData 120 = .ok (.iastore, 1) := by decide +kernel
theorem dX2_findHangingByData_121 : decode cX2_findHangingByData 121 = .ok (.iinc 6 1, 3) := by decide +kernel
theorem dX2_findHangingByData_124 : decode cX2_findHangingByData 124 = .ok (.goto (-83), 3) := by decide +kernel
theorem dX2_findHangingByData_127 : decode cX2_findHangingByData 127 = .ok (.return_, 1) := by decide +kernel
theorem dX2_settersOf_0 : decode cX2_settersOf 0 = .ok (.iconst 0, 1) := by decide +kernel
theorem dX2_settersOf_1 : decode cX2_settersOf 1 = .ok (.istore_n 3, 1) := by decide +kernel
theorem dX2_settersOf_2 : decode cX2_settersOf 2 = .ok (.iconst 0, 1) := by decide +kernel
theorem dX2_settersOf_3 : decode cX2_settersOf 3 = .ok (.istore 4, 2) := by decide +kernel
theorem dX2_settersOf_5 : decode cX2_settersOf 5 = .ok (.iload 4, 2) := by decide +kernel
theorem dX2_settersOf_7 : decode cX2_settersOf 7 = .ok (.aload_n 0, 1) := by decide +kernel
theorem dX2_settersOf_8 : decode cX2_settersOf 8 = .ok (.getfield 51, 3) := by decide +kernel
theorem dX2_settersOf_11 : decode cX2_settersOf 11 = .ok (.if_icmp .ge 26, 3) := by decide +kernel
theorem dX2_settersOf_14 : decode cX2_settersOf 14 = .ok (.aload_n 1, 1) := by decide +kernel
theorem dX2_settersOf_15 : decode cX2_settersOf 15 = .ok (.iload 4, 2) := by decide +kernel
theorem dX2_settersOf_17 : decode cX2_settersOf 17 = .ok (.invokevirtual 109, 3) := by decide +kernel
theorem dX2_settersOf_20 : decode cX2_settersOf 20 = .ok (.iload_n 2, 1) := by decide +kernel
theorem dX2_settersOf_21 : decode cX2_settersOf 21 = .ok (.if_icmp .ne 10, 3) := by decide +kernel
theorem dX2_settersOf_24 : decode cX2_settersOf 24 = .ok (.iload_n 3, 1) := by decide +kernel
theorem dX2_settersOf_25 : decode cX2_settersOf 25 = .ok (.iconst 1, 1) := by decide +kernel
theorem dX2_settersOf_26 : decode cX2_settersOf 26 = .ok (.iload 4, 2) := by decide +kernel
theorem dX2_settersOf_28 : decode cX2_settersOf 28 = .ok (.ishl, 1) := by decide +kernel
theorem dX2_settersOf_29 : decode cX2_settersOf 29 = .ok (.ior, 1) := by decide +kernel
theorem dX2_settersOf_30 : decode cX2_settersOf 30 = .ok (.istore_n 3, 1) := by decide +kernel
theorem dX2_settersOf_31 : decode cX2_settersOf 31 = .ok (.iinc 4 1, 3) := by decide +kernel
theorem dX2_settersOf_34 : decode cX2_settersOf 34 = .ok (.goto (-29), 3) := by decide +kernel
theorem dX2_settersOf_37 : decode cX2_settersOf 37 = .ok (.iload_n 3, 1) := by decide +kernel
theorem dX2_settersOf_38 : decode cX2_settersOf 38 = .ok (.ireturn, 1) := by decide +kernel
theorem dX2_findHangingByNames_0 : decode cX2_findHangingByNames 0 = .ok (.aload_n 1, 1) := by decide +kernel
theorem dX2_findHangingByNames_1 : decode cX2_findHangingByNames 1 = .ok (.getfield 125, 3) := by decide +kernel
theorem dX2_findHangingByNames_4 : decode cX2_findHangingByNames 4 = .ok (.iload_n 2, 1) := by decide +kernel
theorem dX2_findHangingByNames_5 : decode cX2_findHangingByNames 5 = .ok (.iaload, 1) := by decide +kernel
theorem dX2_findHangingByNames_6 : decode cX2_findHangingByNames 6 = .ok (.bipush 7, 2) := by decide +kernel
theorem dX2_findHangingByNames_8 : decode cX2_findHangingByNames 8 = .ok (.if_icmp .eq 4, 3) := by decide +kernel
theorem dX2_findHangingByNames_11 : decode cX2_findHangingByNames 11 = .ok (.return_, 1) := by decide +kernel
theorem dX2_findHangingByNames_12 : decode cX2_findHangingByNames 12 = .ok (.aload_n 0, 1) := by decide +kernel
theorem dX2_findHangingByNames_13 : decode cX2_findHangingByNames 13 = .ok (.iload_n 2, 1) := by decide +kernel
theorem dX2_findHangingByNames_14 : decode cX2_findHangingByNames 14 = .ok (.iconst 0, 1) := by decide +kernel
theorem dX2_findHangingByNames_15 : decode cX2_findHangingByNames 15 = .ok (.invokevirtual 116, 3) := by decide +kernel
theorem dX2_findHangingByNames_18 : decode cX2_findHangingByNames 18 = .ok (.istore_n 3, 1) := by decide +kernel
theorem dX2_findHangingByNames_19 : decode cX2_findHangingByNames 19 = .ok (.iconst 0, 1) := by decide +kernel
theorem dX2_findHangingByNames_20 : decode cX2_findHangingByNames 20 = .ok (.istore 4, 2) := by decide +kernel
theorem dX2_findHangingByNames_22 : decode cX2_findHangingByNames 22 = .ok (.iload 4, 2) := by decide +kernel
theorem dX2_findHangingByNames_24 : decode cX2_findHangingByNames 24 = .ok (.aload_n 0, 1) := by decide +kernel
theorem dX2_findHangingByNames_25 : decode cX2_findHangingByNames 25 = .ok (.getfield 51, 3) := by decide +kernel
theorem dX2_findHangingByNames_28 : decode cX2_findHangingByNames 28 = .ok (.if_icmp .ge 55, 3) := by decide +kernel
theorem dX2_findHangingByNames_31 : decode cX2_findHangingByNames 31 = .ok (.iload_n 3, 1) := by decide +kernel
theorem dX2_findHangingByNames_32 : decode cX2_findHangingByNames 32 = .ok (.iload 4, 2) := by decide +kernel
theorem dX2_findHangingByNames_34 : decode cX2_findHangingByNames 34 = .ok (.invokestatic 55, 3) := by decide +kernel
theorem dX2_findHangingByNames_37 : decode cX2_findHangingByNames 37 = .ok (.ifCond .eq 40, 3) := by decide +kernel
theorem dX2_findHangingByNames_40 : decode cX2_findHangingByNames 40 = .ok (.aload_n 1, 1) := by decide +kernel
theorem dX2_findHangingByNames_41 : decode cX2_findHangingByNames 41 = .ok (.getfield 125, 3) := by decide +kernel
theorem dX2_findHangingByNames_44 : decode cX2_findHangingByNames 44 = .ok (.iload 4, 2) := by decide +kernel
theorem dX2_findHangingByNames_46 : decode cX2_findHangingByNames 46 = .ok (.iaload, 1) := by decide +kernel
theorem dX2_findHangingByNames_47 : decode cX2_findHangingByNames 47 = .ok (.bipush 8, 2) := by decide +kernel
theorem dX2_findHangingByNames_49 : decode cX2_findHangingByNames 49 = .ok (.if_icmp .ne 28, 3) := by decide +kernel
theorem dX2_findHangingByNames_52 : decode cX2_findHangingByNames 52 = .ok (.aload_n 1, 1) := by decide +kernel
theorem dX2_findHangingByNames_53 : decode cX2_findHangingByNames 53 = .ok (.iload_n 2, 1) := by decide +kernel
theorem dX2_findHangingByNames_54 : decode cX2_findHangingByNames 54 = .ok (.iload 4, 2) := by decide +kernel
theorem dX2_findHangingByNames_56 : decode cX2_findHangingByNames 56 = .ok (.invokevirtual 128, 3) := by decide +kernel
theorem dX2_findHangingByNames_59 : decode cX2_findHangingByNames 59 = .ok (.ifCond .eq 18, 3) := by decide +kernel
theorem dX2_findHangingByNames_62 : decode cX2_findHangingByNames 62 = .ok (.aload_n 0, 1) := by decide +kernel
theorem dX2_findHangingByNames_63 : decode cX2_findHangingByNames 63 = .ok (.getfield 23, 3) := by decide +kernel
theorem dX2_findHangingByNames_66 : decode cX2_findHangingByNames 66 = .ok (.iconst 2, 1) := by decide +kernel
theorem dX2_findHangingByNames_67 : decode cX2_findHangingByNames 67 = .ok (.aaload, 1) := by decide +kernel
theorem dX2_findHangingByNames_68 : decode cX2_findHangingByNames 68 = .ok (.iload 4, 2) := by decide +kernel
theorem dX2_findHangingByNames_70 : decode cX2_findHangingByNames 70 = .ok (.dup2, 1) := by decide +kernel
theorem dX2_findHangingByNames_71 : decode cX2_findHangingByNames 71 = .ok (.iaload, 1) := by decide +kernel
end
section
theorem dX2_findHangingByNames_72 : decode cX2_findHangingByNames 72 = .ok (.iconst 1, 1) := by decide +kernel
theorem dX2_findHangingByNames_73 : decode cX2_findHangingByNames 73 = .ok (.iload_n 2, 1) := by decide +kernel
theorem dX2_findHangingByNames_74 : decode cX2_findHangingByNames 74 = .ok (.ishl, 1) := by decide +kernel
theorem dX2_findHangingByNames_75 : decode cX2_findHangingByNames 75 = .ok (.ior, 1) := by decide +kernel
theorem dX2_findHangingByNames_76 : decode cX2_findHangingByNames 76 = .ok (.iastore, 1) := by decide +kernel
theorem dX2_findHangingByNames_77 : decode cX2_findHangingByNames 77 = .ok (.iinc 4 1, 3) := by decide +kernel
theorem dX2_findHangingByNames_80 : decode cX2_findHangingByNames 80 = .ok (.goto (-58), 3) := by decide +kernel
theorem dX2_findHangingByNames_83 : decode cX2_findHangingByNames 83 = .ok (.return_, 1) := by decide +kernel
theorem dX2_findHangingByControl_0 : decode cX2_findHangingByControl 0 = .ok (.aload_n 0, 1) := by decide +kernel
theorem dX2_findHangingByControl_1 : decode cX2_findHangingByControl 1 = .ok (.getfield 15, 3) := by decide +kernel
theorem dX2_findHangingByControl_4 : decode cX2_findHangingByControl 4 = .ok (.iload_n 1, 1) := by decide +kernel
theorem dX2_findHangingByControl_5 : decode cX2_findHangingByControl 5 = .ok (.iaload, 1) := by decide +kernel
theorem dX2_findHangingByControl_6 : decode cX2_findHangingByControl 6 = .ok (.istore_n 2, 1) := by decide +kernel
theorem dX2_findHangingByControl_7 : decode cX2_findHangingByControl 7 = .ok (.iconst 0, 1) := by decide +kernel
theorem dX2_findHangingByControl_8 : decode cX2_findHangingByControl 8 = .ok (.istore_n 3, 1) := by decide +kernel
theorem dX2_findHangingByControl_9 : decode cX2_findHangingByControl 9 = .ok (.iload_n 3, 1) := by decide +kernel
theorem dX2_findHangingByControl_10 : decode cX2_findHangingByControl 10 = .ok (.aload_n 0, 1) := by decide +kernel
theorem dX2_findHangingByControl_11 : decode cX2_findHangingByControl 11 = .ok (.getfield 51, 3) := by decide +kernel
theorem dX2_findHangingByControl_14 : decode cX2_findHangingByControl 14 = .ok (.if_icmp .ge 31, 3) := by decide +kernel
theorem dX2_findHangingByControl_17 : decode cX2_findHangingByControl 17 = .ok (.aload_n 0, 1) := by decide +kernel
theorem dX2_findHangingByControl_18 : decode cX2_findHangingByControl 18 = .ok (.getfield 15, 3) := by decide +kernel
theorem dX2_findHangingByControl_21 : decode cX2_findHangingByControl 21 = .ok (.iload_n 1, 1) := by decide +kernel
theorem dX2_findHangingByControl_22 : decode cX2_findHangingByControl 22 = .ok (.iaload, 1) := by decide +kernel
theorem dX2_findHangingByControl_23 : decode cX2_findHangingByControl 23 = .ok (.iload_n 3, 1) := by decide +kernel
theorem dX2_findHangingByControl_24 : decode cX2_findHangingByControl 24 = .ok (.invokestatic 55, 3) := by decide +kernel
theorem dX2_findHangingByControl_27 : decode cX2_findHangingByControl 27 = .ok (.ifCond .eq 12, 3) := by decide +kernel
theorem dX2_findHangingByControl_30 : decode cX2_findHangingByControl 30 = .ok (.iload_n 2, 1) := by decide +kernel
theorem dX2_findHangingByControl_31 : decode cX2_findHangingByControl 31 = .ok (.aload_n 0, 1) := by decide +kernel
theorem dX2_findHangingByControl_32 : decode cX2_findHangingByControl 32 = .ok (.getfield 18, 3) := by decide +kernel
theorem dX2_findHangingByControl_35 : decode cX2_findHangingByControl 35 = .ok (.iload_n 3, 1) := by decide +kernel
theorem dX2_findHangingByControl_36 : decode cX2_findHangingByControl 36 = .ok (.iaload, 1) := by decide +kernel
theorem dX2_findHangingByControl_37 : decode cX2_findHangingByControl 37 = .ok (.ior, 1) := by decide +kernel
theorem dX2_findHangingByControl_38 : decode cX2_findHangingByControl 38 = .ok (.istore_n 2, 1) := by decide +kernel
theorem dX2_findHangingByControl_39 : decode cX2_findHangingByControl 39 = .ok (.iinc 3 1, 3) := by decide +kernel
theorem dX2_findHangingByControl_42 : decode cX2_findHangingByControl 42 = .ok (.goto (-33), 3) := by decide +kernel
theorem dX2_findHangingByControl_45 : decode cX2_findHangingByControl 45 = .ok (.iload_n 2, 1) := by decide +kernel
theorem dX2_findHangingByControl_46 : decode cX2_findHangingByControl 46 = .ok (.aload_n 0, 1) := by decide +kernel
theorem dX2_findHangingByControl_47 : decode cX2_findHangingByControl 47 = .ok (.getfield 18, 3) := by decide +kernel
theorem dX2_findHangingByControl_50 : decode cX2_findHangingByControl 50 = .ok (.iload_n 1, 1) := by decide +kernel
theorem dX2_findHangingByControl_51 : decode cX2_findHangingByControl 51 = .ok (.iaload, 1) := by decide +kernel
theorem dX2_findHangingByControl_52 : decode cX2_findHangingByControl 52 = .ok (.iconst (-1), 1) := by decide +kernel
theorem dX2_findHangingByControl_53 : decode cX2_findHangingByControl 53 = .ok (.ixor, 1) := by decide +kernel
theorem dX2_findHangingByControl_54 : decode cX2_findHangingByControl 54 = .ok (.iand, 1) := by decide +kernel
theorem dX2_findHangingByControl_55 : decode cX2_findHangingByControl 55 = .ok (.istore_n 2, 1) := by decide +kernel
theorem dX2_findHangingByControl_56 : decode cX2_findHangingByControl 56 = .ok (.iconst 0, 1) := by decide +kernel
theorem dX2_findHangingByControl_57 : decode cX2_findHangingByControl 57 = .ok (.istore_n 3, 1) := by decide +kernel
theorem dX2_findHangingByControl_58 : decode cX2_findHangingByControl 58 = .ok (.iload_n 3, 1) := by decide +kernel
theorem dX2_findHangingByControl_59 : decode cX2_findHangingByControl 59 = .ok (.aload_n 0, 1) := by decide +kernel
theorem dX2_findHangingByControl_60 : decode cX2_findHangingByControl 60 = .ok (.getfield 51, 3) := by decide +kernel
theorem dX2_findHangingByControl_63 : decode cX2_findHangingByControl 63 = .ok (.if_icmp .ge 31, 3) := by decide +kernel
theorem dX2_findHangingByControl_66 : decode cX2_findHangingByControl 66 = .ok (.iload_n 2, 1) := by decide +kernel
theorem dX2_findHangingByControl_67 : decode cX2_findHangingByControl 67 = .ok (.iload_n 3, 1) := by decide +kernel
theorem dX2_findHangingByControl_68 : decode cX2_findHangingByControl 68 = .ok (.invokestatic 55, 3) := by decide +kernel
theorem dX2_findHangingByControl_71 : decode cX2_findHangingByControl 71 = .ok (.ifCond .eq 17, 3) := by decide +kernel
theorem dX2_findHangingByControl_74 : decode cX2_findHangingByControl 74 = .ok (.aload_n 0, 1) := by decide +kernel
theorem dX2_findHangingByControl_75 : decode cX2_findHangingByControl 75 = .ok (.getfield 23, 3) := by decide +kernel
theorem dX2_findHangingByControl_78 : decode cX2_findHangingByControl 78 = .ok (.iconst 4, 1) := by decide +kernel
theorem dX2_findHangingByControl_79 : decode cX2_findHangingByControl 79 = .ok (.aaload, 1) := by decide +kernel
theorem dX2_findHangingByControl_80 : decode cX2_findHangingByControl 80 = .ok (.iload_n 3, 1) := by decide +kernel
theorem dX2_findHangingByControl_81 : decode cX2_findHangingByControl 81 = .ok (.dup2, 1) := by decide +kernel
theorem dX2_findHangingByControl_82 : decode cX2_findHangingByControl 82 = .ok (.iaload, 1) := by decide +kernel
theorem dX2_findHangingByControl_83 : decode cX2_findHangingByControl 83 = .ok (.iconst 1, 1) := by decide +kernel
theorem dX2_findHangingByControl_84 : decode cX2_findHangingByControl 84 = .ok (.iload_n 1, 1) := by decide +kernel
theorem dX2_findHangingByControl_85 : decode cX2_findHangingByControl 85 = .ok (.ishl, 1) := by decide +kernel
theorem dX2_findHangingByControl_86 : decode cX2_findHangingByControl 86 = .ok (.ior, 1) := by decide +kernel
theorem dX2_findHangingByControl_87 : decode cX2_findHangingByControl 87 = .ok (.iastore, 1) := by decide +kernel
theorem dX2_findHangingByControl_88 : decode cX2_findHangingByControl 88 = .ok (.iinc 3 1, 3) := by decide +kernel
theorem dX2_findHangingByControl_91 : decode cX2_findHangingByControl 91 = .ok (.goto (-33), 3) := by decide +kernel
theorem dX2_findHangingByControl_94 : decode cX2_findHangingByControl 94 = .ok (.return_, 1) := by decide +kernel
theorem dX2_reachedFrom_0 : decode cX2_reachedFrom 0 = .ok (.aload_n 0, 1) := by decide +kernel
theorem dX2_reachedFrom_1 : decode cX2_reachedFrom 1 = .ok (.getfield 9, 3) := by decide +kernel
theorem dX2_reachedFrom_4 : decode cX2_reachedFrom 4 = .ok (.iload_n 1, 1) := by decide +kernel
theorem dX2_reachedFrom_5 : decode cX2_reachedFrom 5 = .ok (.iaload, 1) := by decide +kernel
theorem dX2_reachedFrom_6 : decode cX2_reachedFrom 6 = .ok (.istore_n 3, 1) := by decide +kernel
theorem dX2_reachedFrom_7 : decode cX2_reachedFrom 7 = .ok (.iconst 0, 1) := by decide +kernel
theorem dX2_reachedFrom_8 : decode cX2_reachedFrom 8 = .ok (.istore 4, 2) := by decide +kernel
theorem dX2_reachedFrom_10 : decode cX2_reachedFrom 10 = .ok (.iconst 0, 1) := by decide +kernel
theorem dX2_reachedFrom_11 : decode cX2_reachedFrom 11 = .ok (.istore 5, 2) := by decide +kernel
theorem dX2_reachedFrom_13 : decode cX2_reachedFrom 13 = .ok (.iload_n 3, 1) := by decide +kernel
theorem dX2_reachedFrom_14 : decode cX2_reachedFrom 14 = .ok (.iload 4, 2) := by decide +kernel
theorem dX2_reachedFrom_16 : decode cX2_reachedFrom 16 = .ok (.if_icmp .eq 60, 3) := by decide +kernel
theorem dX2_reachedFrom_19 : decode cX2_reachedFrom 19 = .ok (.iload 5, 2) := by decide +kernel
theorem dX2_reachedFrom_21 : decode cX2_reachedFrom 21 = .ok (.bipush 24, 2) := by decide +kernel
theorem dX2_reachedFrom_23 : decode cX2_reachedFrom 23 = .ok (.if_icmp .gt 53, 3) := by decide +kernel
theorem dX2_reachedFrom_26 : decode cX2_reachedFrom 26 = .ok (.iload_n 3, 1) := by decide +kernel
theorem dX2_reachedFrom_27 : decode cX2_reachedFrom 27 = .ok (.istore 4, 2) := by decide +kernel
theorem dX2_reachedFrom_29 : decode cX2_reachedFrom 29 = .ok (.iconst 0, 1) := by decide +kernel
theorem dX2_reachedFrom_30 : decode cX2_reachedFrom 30 = .ok (.istore 6, 2) := by decide +kernel
theorem dX2_reachedFrom_32 : decode cX2_reachedFrom 32 = .ok (.iload 6, 2) := by decide +kernel
theorem dX2_reachedFrom_34 : decode cX2_reachedFrom 34 = .ok (.aload_n 0, 1) := by decide +kernel
theorem dX2_reachedFrom_35 : decode cX2_reachedFrom 35 = .ok (.getfield 51, 3) := by decide +kernel
theorem dX2_reachedFrom_38 : decode cX2_reachedFrom 38 = .ok (.if_icmp .ge 32, 3) := by decide +kernel
theorem dX2_reachedFrom_41 : decode cX2_reachedFrom 41 = .ok (.iload_n 3, 1) := by decide +kernel
theorem dX2_reachedFrom_42 : decode cX2_reachedFrom 42 = .ok (.iload_n 2, 1) := by decide +kernel
theorem dX2_reachedFrom_43 : decode cX2_reachedFrom 43 = .ok (.iconst (-1), 1) := by decide +kernel
theorem dX2_reachedFrom_44 : decode cX2_reachedFrom 44 = .ok (.ixor, 1) := by decide +kernel
theorem dX2_reachedFrom_45 : decode cX2_reachedFrom 45 = .ok (.iand, 1) := by decide +kernel
theorem dX2_reachedFrom_46 : decode cX2_reachedFrom 46 = .ok (.iload 6, 2) := by decide +kernel
theorem dX2_reachedFrom_48 : decode cX2_reachedFrom 48 = .ok (.invokestatic 55, 3) := by decide +kernel
theorem dX2_reachedFrom_51 : decode cX2_reachedFrom 51 = .ok (.ifCond .eq 13, 3) := by decide +kernel
theorem dX2_reachedFrom_54 : decode cX2_reachedFrom 54 = .ok (.iload_n 3, 1) := by decide +kernel
theorem dX2_reachedFrom_55 : decode cX2_reachedFrom 55 = .ok (.aload_n 0, 1) := by decide +kernel
theorem dX2_reachedFrom_56 : decode cX2_reachedFrom 56 = .ok (.getfield 9, 3) := by decide +kernel
theorem dX2_reachedFrom_59 : decode cX2_reachedFrom 59 = .ok (.iload 6, 2) := by decide +kernel
theorem dX2_reachedFrom_61 : decode cX2_reachedFrom 61 = .ok (.iaload, 1) := by decide +kernel
theorem dX2_reachedFrom_62 : decode cX2_reachedFrom 62 = .ok (.ior, 1) := by decide +kernel
theorem dX2_reachedFrom_63 : decode cX2_reachedFrom 63 = .ok (.istore_n 3, 1) := by decide +kernel
theorem dX2_reachedFrom_64 : decode cX2_reachedFrom 64 = .ok (.iinc 6 1, 3) := by decide +kernel
theorem dX2_reachedFrom_67 : decode cX2_reachedFrom 67 = .ok (.goto (-35), 3) := by decide +kernel
theorem dX2_reachedFrom_70 : decode cX2_reachedFrom 70 = .ok (.iinc 5 1, 3) := by decide +kernel
theorem dX2_reachedFrom_73 : decode cX2_reachedFrom 73 = .ok (.goto (-60), 3) := by decide +kernel
theorem dX2_reachedFrom_76 : decode cX2_reachedFrom 76 = .ok (.iload_n 3, 1) := by decide +kernel
theorem dX2_reachedFrom_77 : decode cX2_reachedFrom 77 = .ok (.ireturn, 1) := by decide +kernel
theorem dX2_withAllBehind_0 : decode cX2_withAllBehind 0 = .ok (.iload_n 1, 1) := by decide +kernel
theorem dX2_withAllBehind_1 : decode cX2_withAllBehind 1 = .ok (.istore_n 3, 1) := by decide +kernel
theorem dX2_withAllBehind_2 : decode cX2_withAllBehind 2 = .ok (.iconst 0, 1) := by decide +kernel
theorem dX2_withAllBehind_3 : decode cX2_withAllBehind 3 = .ok (.istore 4, 2) := by decide +kernel
theorem dX2_withAllBehind_5 : decode cX2_withAllBehind 5 = .ok (.iconst 0, 1) := by decide +kernel
theorem dX2_withAllBehind_6 : decode cX2_withAllBehind 6 = .ok (.istore 5, 2) := by decide +kernel
theorem dX2_withAllBehind_8 : decode cX2_withAllBehind 8 = .ok (.iload_n 3, 1) := by decide +kernel
theorem dX2_withAllBehind_9 : decode cX2_withAllBehind 9 = .ok (.iload 4, 2) := by decide +kernel
theorem dX2_withAllBehind_11 : decode cX2_withAllBehind 11 = .ok (.if_icmp .eq 53, 3) := by decide +kernel
theorem dX2_withAllBehind_14 : decode cX2_withAllBehind 14 = .ok (.iload 5, 2) := by decide +kernel
theorem dX2_withAllBehind_16 : decode cX2_withAllBehind 16 = .ok (.bipush 24, 2) := by decide +kernel
theorem dX2_withAllBehind_18 : decode cX2_withAllBehind 18 = .ok (.if_icmp .gt 46, 3) := by decide +kernel
theorem dX2_withAllBehind_21 : decode cX2_withAllBehind 21 = .ok (.iload_n 3, 1) := by decide +kernel
theorem dX2_withAllBehind_22 : decode cX2_withAllBehind 22 = .ok (.istore 4, 2) := by decide +kernel
theorem dX2_withAllBehind_24 : decode cX2_withAllBehind 24 = .ok (.iconst 0, 1) := by decide +kernel
theorem dX2_withAllBehind_25 : decode cX2_withAllBehind 25 = .ok (.istore 6, 2) := by decide +kernel
theorem dX2_withAllBehind_27 : decode cX2_withAllBehind 27 = .ok (.iload 6, 2) := by decide +kernel
theorem dX2_withAllBehind_29 : decode cX2_withAllBehind 29 = .ok (.aload_n 0, 1) := by decide +kernel
theorem dX2_withAllBehind_30 : decode cX2_withAllBehind 30 = .ok (.getfield 51, 3) := by decide +kernel
theorem dX2_withAllBehind_33 : decode cX2_withAllBehind 33 = .ok (.if_icmp .ge 25, 3) := by decide +kernel
theorem dX2_withAllBehind_36 : decode cX2_withAllBehind 36 = .ok (.iload_n 3, 1) := by decide +kernel
theorem dX2_withAllBehind_37 : decode cX2_withAllBehind 37 = .ok (.iload 6, 2) := by decide +kernel
theorem dX2_withAllBehind_39 : decode cX2_withAllBehind 39 = .ok (.invokestatic 55, 3) := by decide +kernel
theorem dX2_withAllBehind_42 : decode cX2_withAllBehind 42 = .ok (.ifCond .eq 10, 3) := by decide +kernel
theorem dX2_withAllBehind_45 : decode cX2_withAllBehind 45 = .ok (.iload_n 3, 1) := by decide +kernel
theorem dX2_withAllBehind_46 : decode cX2_withAllBehind 46 = .ok (.aload_n 2, 1) := by decide +kernel
theorem dX2_withAllBehind_47 : decode cX2_withAllBehind 47 = .ok (.iload 6, 2) := by decide +kernel
theorem dX2_withAllBehind_49 : decode cX2_withAllBehind 49 = .ok (.iaload, 1) := by decide +kernel
theorem dX2_withAllBehind_50 : decode cX2_withAllBehind 50 = .ok (.ior, 1) := by decide +kernel
theorem dX2_withAllBehind_51 : decode cX2_withAllBehind 51 = .ok (.istore_n 3, 1) := by decide +kernel
theorem dX2_withAllBehind_52 : decode cX2_withAllBehind 52 = .ok (.iinc 6 1, 3) := by decide +kernel
theorem dX2_withAllBehind_55 : decode cX2_withAllBehind 55 = .ok (.goto (-28), 3) := by decide +kernel
theorem dX2_withAllBehind_58 : decode cX2_withAllBehind 58 = .ok (.iinc 5 1, 3) := by decide +kernel
theorem dX2_withAllBehind_61 : decode cX2_withAllBehind 61 = .ok (.goto (-53), 3) := by decide +kernel
theorem dX2_withAllBehind_64 : decode cX2_withAllBehind 64 = .ok (.iload_n 3, 1) := by decide +kernel
theorem dX2_withAllBehind_65 : decode cX2_withAllBehind 65 = .ok (.ireturn, 1) := by decide +kernel
end
section
theorem dX3_init_0 : decode cX3_init 0 = .ok (.aload_n 0, 1) := by decide +kernel
theorem dX3_init_1 : decode cX3_init 1 = .ok (.invokespecial 3, 3) := by decide +kernel
theorem dX3_init_4 : decode cX3_init 4 = .ok (.aload_n 0, 1) := by decide +kernel
theorem dX3_init_5 : decode cX3_init 5 = .ok (.new 9, 3) := by decide +kernel
theorem dX3_init_8 : decode cX3_init 8 = .ok (.dup, 1) := by decide +kernel
theorem dX3_init_9 : decode cX3_init 9 = .ok (.invokespecial 11, 3) := by decide +kernel
theorem dX3_init_12 : decode cX3_init 12 = .ok (.putfield 12, 3) := by decide +kernel
theorem dX3_init_15 : decode cX3_init 15 = .ok (.aload_n 0, 1) := by decide +kernel
theorem dX3_init_16 : decode cX3_init 16 = .ok (.new 16, 3) := by decide +kernel
theorem dX3_init_19 : decode cX3_init 19 = .ok (.dup, 1) := by decide +kernel
theorem dX3_init_20 : decode cX3_init 20 = .ok (.invokespecial 18, 3) := by decide +kernel
theorem dX3_init_23 : decode cX3_init 23 = .ok (.putfield 19, 3) := by decide +kernel
theorem dX3_init_26 : decode cX3_init 26 = .ok (.aload_n 0, 1) := by decide +kernel
theorem dX3_init_27 : decode cX3_init 27 = .ok (.iconst 1, 1) := by decide +kernel
theorem dX3_init_28 : decode cX3_init 28 = .ok (.putfield 23, 3) := by decide +kernel
theorem dX3_init_31 : decode cX3_init 31 = .ok (.aload_n 0, 1) := by decide +kernel
theorem dX3_init_32 : decode cX3_init 32 = .ok (.iconst 4, 1) := by decide +kernel
theorem dX3_init_33 : decode cX3_init 33 = .ok (.newarray .int, 2) := by decide +kernel
theorem dX3_init_35 : decode cX3_init 35 = .ok (.putfield 27, 3) := by decide +kernel
theorem dX3_init_38 : decode cX3_init 38 = .ok (.aload_n 0, 1) := by decide +kernel
theorem dX3_init_39 : decode cX3_init 39 = .ok (.iconst 3, 1) := by decide +kernel
theorem dX3_init_40 : decode cX3_init 40 = .ok (.iconst 4, 1) := by decide +kernel
theorem dX3_init_41 : decode cX3_init 41 = .ok (.multianewarray 31 2, 4) := by decide +kernel
theorem dX3_init_45 : decode cX3_init 45 = .ok (.putfield 33, 3) := by decide +kernel
theorem dX3_init_48 : decode cX3_init 48 = .ok (.aload_n 0, 1) := by decide +kernel
theorem dX3_init_49 : decode cX3_init 49 = .ok (.new 36, 3) := by decide +kernel
theorem dX3_init_52 : decode cX3_init 52 = .ok (.dup, 1) := by decide +kernel
theorem dX3_init_53 : decode cX3_init 53 = .ok (.invokespecial 38, 3) := by decide +kernel
theorem dX3_init_56 : decode cX3_init 56 = .ok (.putfield 39, 3) := by decide +kernel
theorem dX3_init_59 : decode cX3_init 59 = .ok (.aload_n 0, 1) := by decide +kernel
theorem dX3_init_60 : decode cX3_init 60 = .ok (.iconst 3, 1) := by decide +kernel
theorem dX3_init_61 : decode cX3_init 61 = .ok (.anewarray 36, 3) := by decide +kernel
theorem dX3_init_64 : decode cX3_init 64 = .ok (.putfield 43, 3) := by decide +kernel
theorem dX3_init_67 : decode cX3_init 67 = .ok (.aload_n 0, 1) := by decide +kernel
theorem dX3_init_68 : decode cX3_init 68 = .ok (.new 36, 3) := by decide +kernel
theorem dX3_init_71 : decode cX3_init 71 = .ok (.dup, 1) := by decide +kernel
theorem dX3_init_72 : decode cX3_init 72 = .ok (.invokespecial 38, 3) := by decide +kernel
theorem dX3_init_75 : decode cX3_init 75 = .ok (.putfield 47, 3) := by decide +kernel
theorem dX3_init_78 : decode cX3_init 78 = .ok (.aload_n 0, 1) := by decide +kernel
theorem dX3_init_79 : decode cX3_init 79 = .ok (.bipush 24, 2) := by decide +kernel
theorem dX3_init_81 : decode cX3_init 81 = .ok (.newarray .int, 2) := by decide +kernel
theorem dX3_init_83 : decode cX3_init 83 = .ok (.putfield 50, 3) := by decide +kernel
theorem dX3_init_86 : decode cX3_init 86 = .ok (.iconst 0, 1) := by decide +kernel
theorem dX3_init_87 : decode cX3_init 87 = .ok (.istore_n 1, 1) := by decide +kernel
theorem dX3_init_88 : decode cX3_init 88 = .ok (.iload_n 1, 1) := by decide +kernel
theorem dX3_init_89 : decode cX3_init 89 = .ok (.iconst 3, 1) := by decide +kernel
theorem dX3_init_90 : decode cX3_init 90 = .ok (.if_icmp .ge 22, 3) := by decide +kernel
theorem dX3_init_93 : decode cX3_init 93 = .ok (.aload_n 0, 1) := by decide +kernel
theorem dX3_init_94 : decode cX3_init 94 = .ok (.getfield 43, 3) := by decide +kernel
theorem dX3_init_97 : decode cX3_init 97 = .ok (.iload_n 1, 1) := by decide +kernel
theorem dX3_init_98 : decode cX3_init 98 = .ok (.new 36, 3) := by decide +kernel
theorem dX3_init_101 : decode cX3_init 101 = .ok (.dup, 1) := by decide +kernel
theorem dX3_init_102 : decode cX3_init 102 = .ok (.invokespecial 38, 3) := by decide +kernel
theorem dX3_init_105 : decode cX3_init 105 = .ok (.aastore, 1) := by decide +kernel
theorem dX3_init_106 : decode cX3_init 106 = .ok (.iinc 1 1, 3) := by decide +kernel
theorem dX3_init_109 : decode cX3_init 109 = .ok (.goto (-21), 3) := by decide +kernel
theorem dX3_init_112 : decode cX3_init 112 = .ok (.return_, 1) := by decide +kernel
theorem dX3_line_0 : decode cX3_line 0 = .ok (.iload_n 1, 1) := by decide +kernel
theorem dX3_line_1 : decode cX3_line 1 = .ok (.iload_n 2, 1) := by decide +kernel
theorem dX3_line_2 : decode cX3_line 2 = .ok (.iload_n 3, 1) := by decide +kernel
theorem dX3_line_3 : decode cX3_line 3 = .ok (.iload 4, 2) := by decide +kernel
theorem dX3_line_5 : decode cX3_line 5 = .ok (.invokestatic 53, 3) := by decide +kernel
theorem dX3_line_8 : decode cX3_line 8 = .ok (.ifCond .ne 5, 3) := by decide +kernel
theorem dX3_line_11 : decode cX3_line 11 = .ok (.iconst (-1), 1) := by decide +kernel
theorem dX3_line_12 : decode cX3_line 12 = .ok (.ireturn, 1) := by decide +kernel
theorem dX3_line_13 : decode cX3_line 13 = .ok (.aload_n 0, 1) := by decide +kernel
theorem dX3_line_14 : decode cX3_line 14 = .ok (.getfield 12, 3) := by decide +kernel
theorem dX3_line_17 : decode cX3_line 17 = .ok (.getfield 57, 3) := by decide +kernel
theorem dX3_line_20 : decode cX3_line 20 = .ok (.bipush 24, 2) := by decide +kernel
theorem dX3_line_22 : decode cX3_line 22 = .ok (.if_icmp .lt 6, 3) := by decide +kernel
theorem dX3_line_25 : decode cX3_line 25 = .ok (.bipush (-2), 2) := by decide +kernel
theorem dX3_line_27 : decode cX3_line 27 = .ok (.ireturn, 1) := by decide +kernel
theorem dX3_line_28 : decode cX3_line 28 = .ok (.aload_n 0, 1) := by decide +kernel
theorem dX3_line_29 : decode cX3_line 29 = .ok (.getfield 12, 3) := by decide +kernel
theorem dX3_line_32 : decode cX3_line 32 = .ok (.getfield 57, 3) := by decide +kernel
theorem dX3_line_35 : decode cX3_line 35 = .ok (.istore 5, 2) := by decide +kernel
theorem dX3_line_37 : decode cX3_line 37 = .ok (.aload_n 0, 1) := by decide +kernel
theorem dX3_line_38 : decode cX3_line 38 = .ok (.getfield 12, 3) := by decide +kernel
theorem dX3_line_41 : decode cX3_line 41 = .ok (.dup, 1) := by decide +kernel
theorem dX3_line_42 : decode cX3_line 42 = .ok (.getfield 57, 3) := by decide +kernel
theorem dX3_line_45 : decode cX3_line 45 = .ok (.iconst 1, 1) := by decide +kernel
theorem dX3_line_46 : decode cX3_line 46 = .ok (.iadd, 1) := by decide +kernel
theorem dX3_line_47 : decode cX3_line 47 = .ok (.putfield 57, 3) := by decide +kernel
theorem dX3_line_50 : decode cX3_line 50 = .ok (.aload_n 0, 1) := by decide +kernel
theorem dX3_line_51 : decode cX3_line 51 = .ok (.getfield 12, 3) := by decide +kernel
theorem dX3_line_54 : decode cX3_line 54 = .ok (.iload 5, 2) := by decide +kernel
theorem dX3_line_56 : decode cX3_line 56 = .ok (.iload_n 1, 1) := by decide +kernel
theorem dX3_line_57 : decode cX3_line 57 = .ok (.iload_n 2, 1) := by decide +kernel
theorem dX3_line_58 : decode cX3_line 58 = .ok (.iload_n 3, 1) := by decide +kernel
theorem dX3_line_59 : decode cX3_line 59 = .ok (.iload 4, 2) := by decide +kernel
theorem dX3_line_61 : decode cX3_line 61 = .ok (.invokevirtual 61, 3) := by decide +kernel
theorem dX3_line_64 : decode cX3_line 64 = .ok (.aload_n 0, 1) := by decide +kernel
theorem dX3_line_65 : decode cX3_line 65 = .ok (.iconst 1, 1) := by decide +kernel
theorem dX3_line_66 : decode cX3_line 66 = .ok (.putfield 23, 3) := by decide +kernel
theorem dX3_line_69 : decode cX3_line 69 = .ok (.iload 5, 2) := by decide +kernel
theorem dX3_line_71 : decode cX3_line 71 = .ok (.ireturn, 1) := by decide +kernel
theorem dX3_change_0 : decode cX3_change 0 = .ok (.aload_n 0, 1) := by decide +kernel
theorem dX3_change_1 : decode cX3_change 1 = .ok (.getfield 12, 3) := by decide +kernel
theorem dX3_change_4 : decode cX3_change 4 = .ok (.iload_n 1, 1) := by decide +kernel
theorem dX3_change_5 : decode cX3_change 5 = .ok (.invokevirtual 65, 3) := by decide +kernel
theorem dX3_change_8 : decode cX3_change 8 = .ok (.ifCond .eq 15, 3) := by decide +kernel
theorem dX3_change_11 : decode cX3_change 11 = .ok (.iload_n 2, 1) := by decide +kernel
theorem dX3_change_12 : decode cX3_change 12 = .ok (.iload_n 3, 1) := by decide +kernel
theorem dX3_change_13 : decode cX3_change 13 = .ok (.iload 4, 2) := by decide +kernel
theorem dX3_change_15 : decode cX3_change 15 = .ok (.iload 5, 2) := by decide +kernel
theorem dX3_change_17 : decode cX3_change 17 = .ok (.invokestatic 53, 3) := by decide +kernel
theorem dX3_change_20 : decode cX3_change 20 = .ok (.ifCond .ne 5, 3) := by decide +kernel
theorem dX3_change_23 : decode cX3_change 23 = .ok (.iconst (-1), 1) := by decide +kernel
theorem dX3_change_24 : decode cX3_change 24 = .ok (.ireturn, 1) := by decide +kernel
theorem dX3_change_25 : decode cX3_change 25 = .ok (.aload_n 0, 1) := by decide +kernel
theorem dX3_change_26 : decode cX3_change 26 = .ok (.getfield 12, 3) := by decide +kernel
theorem dX3_change_29 : decode cX3_change 29 = .ok (.getfield 69, 3) := by decide +kernel
theorem dX3_change_32 : decode cX3_change 32 = .ok (.iload_n 1, 1) := by decide +kernel
theorem dX3_change_33 : decode cX3_change 33 = .ok (.iaload, 1) := by decide +kernel
theorem dX3_change_34 : decode cX3_change 34 = .ok (.istore 6, 2) := by decide +kernel
theorem dX3_change_36 : decode cX3_change 36 = .ok (.aload_n 0, 1) := by decide +kernel
theorem dX3_change_37 : decode cX3_change 37 = .ok (.getfield 12, 3) := by decide +kernel
theorem dX3_change_40 : decode cX3_change 40 = .ok (.iload_n 1, 1) := by decide +kernel
theorem dX3_change_41 : decode cX3_change 41 = .ok (.iload_n 2, 1) := by decide +kernel
theorem dX3_change_42 : decode cX3_change 42 = .ok (.iload_n 3, 1) := by decide +kernel
theorem dX3_change_43 : decode cX3_change 43 = .ok (.iload 4, 2) := by decide +kernel
theorem dX3_change_45 : decode cX3_change 45 = .ok (.iload 5, 2) := by decide +kernel
theorem dX3_change_47 : decode cX3_change 47 = .ok (.invokevirtual 61, 3) := by decide +kernel
theorem dX3_change_50 : decode cX3_change 50 = .ok (.aload_n 0, 1) := by decide +kernel
theorem dX3_change_51 : decode cX3_change 51 = .ok (.iconst 1, 1) := by decide +kernel
theorem dX3_change_52 : decode cX3_change 52 = .ok (.putfield 23, 3) := by decide +kernel
theorem dX3_change_55 : decode cX3_change 55 = .ok (.iload 6, 2) := by decide +kernel
theorem dX3_change_57 : decode cX3_change 57 = .ok (.ireturn, 1) := by decide +kernel
theorem dX3_drop_0 : decode cX3_drop 0 = .ok (.aload_n 0, 1) := by decide +kernel
theorem dX3_drop_1 : decode cX3_drop 1 = .ok (.getfield 12, 3) := by decide +kernel
theorem dX3_drop_4 : decode cX3_drop 4 = .ok (.getfield 57, 3) := by decide +kernel
theorem dX3_drop_7 : decode cX3_drop 7 = .ok (.ifCond .ne 6, 3) := by decide +kernel
theorem dX3_drop_10 : decode cX3_drop 10 = .ok (.bipush (-3), 2) := by decide +kernel
theorem dX3_drop_12 : decode cX3_drop 12 = .ok (.ireturn, 1) := by decide +kernel
theorem dX3_drop_13 : decode cX3_drop 13 = .ok (.aload_n 0, 1) := by decide +kernel
theorem dX3_drop_14 : decode cX3_drop 14 = .ok (.getfield 12, 3) := by decide +kernel
theorem dX3_drop_17 : decode cX3_drop 17 = .ok (.dup, 1) := by decide +kernel
theorem dX3_drop_18 : decode cX3_drop 18 = .ok (.getfield 57, 3) := by decide +kernel
theorem dX3_drop_21 : decode cX3_drop 21 = .ok (.iconst 1, 1) := by decide +kernel
theorem dX3_drop_22 : decode cX3_drop 22 = .ok (.isub, 1) := by decide +kernel
theorem dX3_drop_23 : decode cX3_drop 23 = .ok (.putfield 57, 3) := by decide +kernel
theorem dX3_drop_26 : decode cX3_drop 26 = .ok (.aload_n 0, 1) := by decide +kernel
theorem dX3_drop_27 : decode cX3_drop 27 = .ok (.iconst 1, 1) := by decide +kernel
theorem dX3_drop_28 : decode cX3_drop 28 = .ok (.putfield 23, 3) := by decide +kernel
theorem dX3_drop_31 : decode cX3_drop 31 = .ok (.aload_n 0, 1) := by decide +kernel
theorem dX3_drop_32 : decode cX3_drop 32 = .ok (.getfield 12, 3) := by decide +kernel
theorem dX3_drop_35 : decode cX3_drop 35 = .ok (.getfield 57, 3) := by decide +kernel
theorem dX3_drop_38 : decode cX3_drop 38 = .ok (.ireturn, 1) := by decide +kernel
theorem dX3_start_0 : decode cX3_start 0 = .ok (.iload_n 1, 1) := by decide +kernel
theorem dX3_start_1 : decode cX3_start 1 = .ok (.ifCond .lt 8, 3) := by decide +kernel
theorem dX3_start_4 : decode cX3_start 4 = .ok (.iload_n 1, 1) := by decide +kernel
theorem dX3_start_5 : decode cX3_start 5 = .ok (.iconst 4, 1) := by decide +kernel
theorem dX3_start_6 : decode cX3_start 6 = .ok (.if_icmp .lt 5, 3) := by decide +kernel
theorem dX3_start_9 : decode cX3_start 9 = .ok (.iconst (-1), 1) := by decide +kernel
theorem dX3_start_10 : decode cX3_start 10 = .ok (.ireturn, 1) := by decide +kernel
theorem dX3_start_11 : decode cX3_start 11 = .ok (.aload_n 0, 1) := by decide +kernel
theorem dX3_start_12 : decode cX3_start 12 = .ok (.getfield 12, 3) := by decide +kernel
theorem dX3_start_15 : decode cX3_start 15 = .ok (.getfield 72, 3) := by decide +kernel
theorem dX3_start_18 : decode cX3_start 18 = .ok (.iload_n 1, 1) := by decide +kernel
theorem dX3_start_19 : decode cX3_start 19 = .ok (.iload_n 2, 1) := by decide +kernel
theorem dX3_start_20 : decode cX3_start 20 = .ok (.iastore, 1) := by decide +kernel
theorem dX3_start_21 : decode cX3_start 21 = .ok (.aload_n 0, 1) := by decide +kernel
theorem dX3_start_22 : decode cX3_start 22 = .ok (.getfield 12, 3) := by decide +kernel
theorem dX3_start_25 : decode cX3_start 25 = .ok (.getfield 75, 3) := by decide +kernel
theorem dX3_start_28 : decode cX3_start 28 = .ok (.iload_n 1, 1) := by decide +kernel
theorem dX3_start_29 : decode cX3_start 29 = .ok (.iload_n 3, 1) := by decide +kernel
theorem dX3_start_30 : decode cX3_start 30 = .ok (.bastore, 1) := by decide +kernel
theorem dX3_start_31 : decode cX3_start 31 = .ok (.aload_n 0, 1) := by decide +kernel
theorem dX3_start_32 : decode cX3_start 32 = .ok (.iconst 1, 1) := by decide +kernel
theorem dX3_start_33 : decode cX3_start 33 = .ok (.putfield 23, 3) := by decide +kernel
theorem dX3_start_36 : decode cX3_start 36 = .ok (.iconst 1, 1) := by decide +kernel
theorem dX3_start_37 : decode cX3_start 37 = .ok (.ireturn, 1) := by decide +kernel
theorem dX3_points_0 : decode cX3_points 0 = .ok (.iload_n 1, 1) := by decide +kernel
theorem dX3_points_1 : decode cX3_points 1 = .ok (.ifCond .lt 19, 3) := by decide +kernel
theorem dX3_points_4 : decode cX3_points 4 = .ok (.iload_n 1, 1) := by decide +kernel
theorem dX3_points_5 : decode cX3_points 5 = .ok (.iconst 4, 1) := by decide +kernel
theorem dX3_points_6 : decode cX3_points 6 = .ok (.if_icmp .ge 14, 3) := by decide +kernel
theorem dX3_points_9 : decode cX3_points 9 = .ok (.iload_n 2, 1) := by decide +kernel
theorem dX3_points_10 : decode cX3_points 10 = .ok (.iconst 1, 1) := by decide +kernel
theorem dX3_points_11 : decode cX3_points 11 = .ok (.if_icmp .lt 9, 3) := by decide +kernel
theorem dX3_points_14 : decode cX3_points 14 = .ok (.iload_n 2, 1) := by decide +kernel
theorem dX3_points_15 : decode cX3_points 15 = .ok (.bipush 15, 2) := by decide +kernel
theorem dX3_points_17 : decode cX3_points 17 = .ok (.if_icmp .le 5, 3) := by decide +kernel
theorem dX3_points_20 : decode cX3_points 20 = .ok (.iconst (-1), 1) := by decide +kernel
theorem dX3_points_21 : decode cX3_points 21 = .ok (.ireturn, 1) := by decide +kernel
theorem dX3_points_22 : decode cX3_points 22 = .ok (.aload_n 0, 1) := by decide +kernel
theorem dX3_points_23 : decode cX3_points 23 = .ok (.getfield 12, 3) := by decide +kernel
theorem dX3_points_26 : decode cX3_points 26 = .ok (.getfield 79, 3) := by decide +kernel
theorem dX3_points_29 : decode cX3_points 29 = .ok (.iload_n 1, 1) := by decide +kernel
theorem dX3_points_30 : decode cX3_points 30 = .ok (.iaload, 1) := by decide +kernel
theorem dX3_points_31 : decode cX3_points 31 = .ok (.istore_n 3, 1) := by decide +kernel
theorem dX3_points_32 : decode cX3_points 32 = .ok (.aload_n 0, 1) := by decide +kernel
theorem dX3_points_33 : decode cX3_points 33 = .ok (.getfield 12, 3) := by decide +kernel
theorem dX3_points_36 : decode cX3_points 36 = .ok (.getfield 79, 3) := by decide +kernel
theorem dX3_points_39 : decode cX3_points 39 = .ok (.iload_n 1, 1) := by decide +kernel
theorem dX3_points_40 : decode cX3_points 40 = .ok (.iload_n 2, 1) := by decide +kernel
theorem dX3_points_41 : decode cX3_points 41 = .ok (.iastore, 1) := by decide +kernel
theorem dX3_points_42 : decode cX3_points 42 = .ok (.aload_n 0, 1) := by decide +kernel
theorem dX3_points_43 : decode cX3_points 43 = .ok (.iconst 1, 1) := by decide +kernel
theorem dX3_points_44 : decode cX3_points 44 = .ok (.putfield 23, 3) := by decide +kernel
theorem dX3_points_47 : decode cX3_points 47 = .ok (.iload_n 3, 1) := by decide +kernel
theorem dX3_points_48 : decode cX3_points 48 = .ok (.ireturn, 1) := by decide +kernel
theorem dX3_input_0 : decode cX3_input 0 = .ok (.iload_n 1, 1) := by decide +kernel
theorem dX3_input_1 : decode cX3_input 1 = .ok (.ifCond .lt 8, 3) := by decide +kernel
theorem dX3_input_4 : decode cX3_input 4 = .ok (.iload_n 1, 1) := by decide +kernel
theorem dX3_input_5 : decode cX3_input 5 = .ok (.iconst 4, 1) := by decide +kernel
theorem dX3_input_6 : decode cX3_input 6 = .ok (.if_icmp .lt 5, 3) := by decide +kernel
theorem dX3_input_9 : decode cX3_input 9 = .ok (.iconst (-1), 1) := by decide +kernel
theorem dX3_input_10 : decode cX3_input 10 = .ok (.ireturn, 1) := by decide +kernel
theorem dX3_input_11 : decode cX3_input 11 = .ok (.aload_n 0, 1) := by decide +kernel
theorem dX3_input_12 : decode cX3_input 12 = .ok (.getfield 27, 3) := by decide +kernel
theorem dX3_input_15 : decode cX3_input 15 = .ok (.iload_n 1, 1) := by decide +kernel
theorem dX3_input_16 : decode cX3_input 16 = .ok (.iload_n 2, 1) := by decide +kernel
theorem dX3_input_17 : decode cX3_input 17 = .ok (.iastore, 1) := by decide +kernel
theorem dX3_input_18 : decode cX3_input 18 = .ok (.iconst 1, 1) := by decide +kernel
theorem dX3_input_19 : decode cX3_input 19 = .ok (.ireturn, 1) := by decide +kernel
theorem dX3_run_0 : decode cX3_run 0 = .ok (.aload_n 0, 1) := by decide +kernel
theorem dX3_run_1 : decode cX3_run 1 = .ok (.getfield 12, 3) := by decide +kernel
theorem dX3_run_4 : decode cX3_run 4 = .ok (.iload_n 2, 1) := by decide +kernel
theorem dX3_run_5 : decode cX3_run 5 = .ok (.invokevirtual 65, 3) := by decide +kernel
theorem dX3_run_8 : decode cX3_run 8 = .ok (.ifCond .eq 20, 3) := by decide +kernel
theorem dX3_run_11 : decode cX3_run 11 = .ok (.iload_n 1, 1) := by decide +kernel
theorem dX3_run_12 : decode cX3_run 12 = .ok (.bipush (-4), 2) := by decide +kernel
theorem dX3_run_14 : decode cX3_run 14 = .ok (.if_icmp .eq 16, 3) := by decide +kernel
theorem dX3_run_17 : decode cX3_run 17 = .ok (.aload_n 0, 1) := by decide +kernel
theorem dX3_run_18 : decode cX3_run 18 = .ok (.getfield 12, 3) := by decide +kernel
theorem dX3_run_21 : decode cX3_run 21 = .ok (.iload_n 1, 1) := by decide +kernel
theorem dX3_run_22 : decode cX3_run 22 = .ok (.invokevirtual 65, 3) := by decide +kernel
theorem dX3_run_25 : decode cX3_run 25 = .ok (.ifCond .ne 5, 3) := by decide +kernel
theorem dX3_run_28 : decode cX3_run 28 = .ok (.iconst (-1), 1) := by decide +kernel
theorem dX3_run_29 : decode cX3_run 29 = .ok (.ireturn, 1) := by decide +kernel
theorem dX3_run_30 : decode cX3_run 30 = .ok (.aload_n 0, 1) := by decide +kernel
theorem dX3_run_31 : decode cX3_run 31 = .ok (.dup, 1) := by decide +kernel
theorem dX3_run_32 : decode cX3_run 32 = .ok (.getfield 82, 3) := by decide +kernel
theorem dX3_run_35 : decode cX3_run 35 = .ok (.iconst 1, 1) := by decide +kernel
theorem dX3_run_36 : decode cX3_run 36 = .ok (.iadd, 1) := by decide +kernel
theorem dX3_run_37 : decode cX3_run 37 = .ok (.putfield 82, 3) := by decide +kernel
theorem dX3_run_40 : decode cX3_run 40 = .ok (.iload_n 1, 1) := by decide +kernel
theorem dX3_run_41 : decode cX3_run 41 = .ok (.bipush (-4), 2) := by decide +kernel
theorem dX3_run_43 : decode cX3_run 43 = .ok (.if_icmp .ne 13, 3) := by decide +kernel
theorem dX3_run_46 : decode cX3_run 46 = .ok (.aload_n 0, 1) := by decide +kernel
theorem dX3_run_47 : decode cX3_run 47 = .ok (.getfield 12, 3) := by decide +kernel
theorem dX3_run_50 : decode cX3_run 50 = .ok (.invokevirtual 85, 3) := by decide +kernel
theorem dX3_run_53 : decode cX3_run 53 = .ok (.goto 11, 3) := by decide +kernel
theorem dX3_run_56 : decode cX3_run 56 = .ok (.aload_n 0, 1) := by decide +kernel
theorem dX3_run_57 : decode cX3_run 57 = .ok (.invokevirtual 89, 3) := by decide +kernel
theorem dX3_run_60 : decode cX3_run 60 = .ok (.iload_n 1, 1) := by decide +kernel
theorem dX3_run_61 : decode cX3_run 61 = .ok (.invokevirtual 93, 3) := by decide +kernel
theorem dX3_run_64 : decode cX3_run 64 = .ok (.istore_n 3, 1) := by decide +kernel
theorem dX3_run_65 : decode cX3_run 65 = .ok (.aload_n 0, 1) := by decide +kernel
theorem dX3_run_66 : decode cX3_run 66 = .ok (.getfield 39, 3) := by decide +kernel
theorem dX3_run_69 : decode cX3_run 69 = .ok (.aload_n 0, 1) := by decide +kernel
theorem dX3_run_70 : decode cX3_run 70 = .ok (.getfield 12, 3) := by decide +kernel
theorem dX3_run_73 : decode cX3_run 73 = .ok (.aload_n 0, 1) := by decide +kernel
theorem dX3_run_74 : decode cX3_run 74 = .ok (.getfield 27, 3) := by decide +kernel
theorem dX3_run_77 : decode cX3_run 77 = .ok (.iload_n 3, 1) := by decide +kernel
theorem dX3_run_78 : decode cX3_run 78 = .ok (.iload_n 2, 1) := by decide +kernel
theorem dX3_run_79 : decode cX3_run 79 = .ok (.invokevirtual 97, 3) := by decide +kernel
theorem dX3_run_82 : decode cX3_run 82 = .ok (.ireturn, 1) := by decide +kernel
theorem dX3_seen_0 : decode cX3_seen 0 = .ok (.aload_n 0, 1) := by decide +kernel
theorem dX3_seen_1 : decode cX3_seen 1 = .ok (.getfield 39, 3) := by decide +kernel
theorem dX3_seen_4 : decode cX3_seen 4 = .ok (.getfield 101, 3) := by decide +kernel
theorem dX3_seen_7 : decode cX3_seen 7 = .ok (.ireturn, 1) := by decide +kernel
theorem dX3_saw_0 : decode cX3_saw 0 = .ok (.iload_n 1, 1) := by decide +kernel
theorem dX3_saw_1 : decode cX3_saw 1 = .ok (.ifCond .lt 26, 3) := by decide +kernel
theorem dX3_saw_4 : decode cX3_saw 4 = .ok (.iload_n 1, 1) := by decide +kernel
theorem dX3_saw_5 : decode cX3_saw 5 = .ok (.aload_n 0, 1) := by decide +kernel
theorem dX3_saw_6 : decode cX3_saw 6 = .ok (.getfield 39, 3) := by decide +kernel
theorem dX3_saw_9 : decode cX3_saw 9 = .ok (.getfield 101, 3) := by decide +kernel
theorem dX3_saw_12 : decode cX3_saw 12 = .ok (.if_icmp .ge 15, 3) := by decide +kernel
theorem dX3_saw_15 : decode cX3_saw 15 = .ok (.aload_n 0, 1) := by decide +kernel
theorem dX3_saw_16 : decode cX3_saw 16 = .ok (.getfield 39, 3) := by decide +kernel
theorem dX3_saw_19 : decode cX3_saw 19 = .ok (.getfield 104, 3) := by decide +kernel
theorem dX3_saw_22 : decode cX3_saw 22 = .ok (.iload_n 1, 1) := by decide +kernel
theorem dX3_saw_23 : decode cX3_saw 23 = .ok (.iaload, 1) := by decide +kernel
theorem dX3_saw_24 : decode cX3_saw 24 = .ok (.goto 4, 3) := by decide +kernel
theorem dX3_saw_27 : decode cX3_saw 27 = .ok (.iconst 0, 1) := by decide +kernel
theorem dX3_saw_28 : decode cX3_saw 28 = .ok (.ireturn, 1) := by decide +kernel
theorem dX3_left_0 : decode cX3_left 0 = .ok (.iload_n 1, 1) := by decide +kernel
theorem dX3_left_1 : decode cX3_left 1 = .ok (.ifCond .ne 11, 3) := by decide +kernel
theorem dX3_left_4 : decode cX3_left 4 = .ok (.aload_n 0, 1) := by decide +kernel
theorem dX3_left_5 : decode cX3_left 5 = .ok (.getfield 39, 3) := by decide +kernel
theorem dX3_left_8 : decode cX3_left 8 = .ok (.getfield 107, 3) := by decide +kernel
theorem dX3_left_11 : decode cX3_left 11 = .ok (.ireturn, 1) := by decide +kernel
theorem dX3_left_12 : decode cX3_left 12 = .ok (.iload_n 1, 1) := by decide +kernel
theorem dX3_left_13 : decode cX3_left 13 = .ok (.iconst 1, 1) := by decide +kernel
theorem dX3_left_14 : decode cX3_left 14 = .ok (.if_icmp .ne 11, 3) := by decide +kernel
theorem dX3_left_17 : decode cX3_left 17 = .ok (.aload_n 0, 1) := by decide +kernel
theorem dX3_left_18 : decode cX3_left 18 = .ok (.getfield 39, 3) := by decide +kernel
theorem dX3_left_21 : decode cX3_left 21 = .ok (.getfield 110, 3) := by decide +kernel
theorem dX3_left_24 : decode cX3_left 24 = .ok (.ireturn, 1) := by decide +kernel
theorem dX3_left_25 : decode cX3_left 25 = .ok (.iload_n 1, 1) := by decide +kernel
theorem dX3_left_26 : decode cX3_left 26 = .ok (.iconst 2, 1) := by decide +kernel
theorem dX3_left_27 : decode cX3_left 27 = .ok (.if_icmp .lt 23, 3) := by decide +kernel
theorem dX3_left_30 : decode cX3_left 30 = .ok (.iload_n 1, 1) := by decide +kernel
theorem dX3_left_31 : decode cX3_left 31 = .ok (.bipush 10, 2) := by decide +kernel
theorem dX3_left_33 : decode cX3_left 33 = .ok (.if_icmp .ge 17, 3) := by decide +kernel
theorem dX3_left_36 : decode cX3_left 36 = .ok (.aload_n 0, 1) := by decide +kernel
theorem dX3_left_37 : decode cX3_left 37 = .ok (.getfield 39, 3) := by decide +kernel
theorem dX3_left_40 : decode cX3_left 40 = .ok (.getfield 113, 3) := by decide +kernel
theorem dX3_left_43 : decode cX3_left 43 = .ok (.iload_n 1, 1) := by decide +kernel
theorem dX3_left_44 : decode cX3_left 44 = .ok (.iconst 2, 1) := by decide +kernel
theorem dX3_left_45 : decode cX3_left 45 = .ok (.isub, 1) := by decide +kernel
theorem dX3_left_46 : decode cX3_left 46 = .ok (.iaload, 1) := by decide +kernel
theorem dX3_left_47 : decode cX3_left 47 = .ok (.goto 4, 3) := by decide +kernel
theorem dX3_left_50 : decode cX3_left 50 = .ok (.iconst 0, 1) := by decide +kernel
theorem dX3_left_51 : decode cX3_left 51 = .ok (.ireturn, 1) := by decide +kernel
theorem dX3_slice_0 : decode cX3_slice 0 = .ok (.aload_n 0, 1) := by decide +kernel
theorem dX3_slice_1 : decode cX3_slice 1 = .ok (.getfield 12, 3) := by decide +kernel
theorem dX3_slice_4 : decode cX3_slice 4 = .ok (.iload_n 1, 1) := by decide +kernel
theorem dX3_slice_5 : decode cX3_slice 5 = .ok (.invokevirtual 65, 3) := by decide +kernel
theorem dX3_slice_8 : decode cX3_slice 8 = .ok (.ifCond .ne 5, 3) := by decide +kernel
theorem dX3_slice_11 : decode cX3_slice 11 = .ok (.iconst (-1), 1) := by decide +kernel
theorem dX3_slice_12 : decode cX3_slice 12 = .ok (.ireturn, 1) := by decide +kernel
theorem dX3_slice_13 : decode cX3_slice 13 = .ok (.iload_n 2, 1) := by decide +kernel
theorem dX3_slice_14 : decode cX3_slice 14 = .ok (.tableswitch 66 0 3 #[30, 39, 48, 57], 30) := by decide +kernel
theorem dX3_slice_44 : decode cX3_slice 44 = .ok (.aload_n 0, 1) := by decide +kernel
theorem dX3_slice_45 : decode cX3_slice 45 = .ok (.invokevirtual 89, 3) := by decide +kernel
theorem dX3_slice_48 : decode cX3_slice 48 = .ok (.iload_n 1, 1) := by decide +kernel
theorem dX3_slice_49 : decode cX3_slice 49 = .ok (.invokevirtual 93, 3) := by decide +kernel
theorem dX3_slice_52 : decode cX3_slice 52 = .ok (.ireturn, 1) := by decide +kernel
theorem dX3_slice_53 : decode cX3_slice 53 = .ok (.aload_n 0, 1) := by decide +kernel
theorem dX3_slice_54 : decode cX3_slice 54 = .ok (.invokevirtual 89, 3) := by decide +kernel
theorem dX3_slice_57 : decode cX3_slice 57 = .ok (.iload_n 1, 1) := by decide +kernel
theorem dX3_slice_58 : decode cX3_slice 58 = .ok (.invokevirtual 116, 3) := by decide +kernel
theorem dX3_slice_61 : decode cX3_slice 61 = .ok (.ireturn, 1) := by decide +kernel
theorem dX3_slice_62 : decode cX3_slice 62 = .ok (.aload_n 0, 1) := by decide +kernel
theorem dX3_slice_63 : decode cX3_slice 63 = .ok (.invokevirtual 89, 3) := by decide +kernel
theorem dX3_slice_66 : decode cX3_slice 66 = .ok (.iload_n 1, 1) := by decide +kernel
theorem dX3_slice_67 : decode cX3_slice 67 = .ok (.invokevirtual 119, 3) := by decide +kernel
theorem dX3_slice_70 : decode cX3_slice 70 = .ok (.ireturn, 1) := by decide +kernel
theorem dX3_slice_71 : decode cX3_slice 71 = .ok (.aload_n 0, 1) := by decide +kernel
theorem dX3_slice_72 : decode cX3_slice 72 = .ok (.invokevirtual 89, 3) := by decide +kernel
theorem dX3_slice_75 : decode cX3_slice 75 = .ok (.iload_n 1, 1) := by decide +kernel
theorem dX3_slice_76 : decode cX3_slice 76 = .ok (.invokevirtual 122, 3) := by decide +kernel
theorem dX3_slice_79 : decode cX3_slice 79 = .ok (.ireturn, 1) := by decide +kernel
theorem dX3_slice_80 : decode cX3_slice 80 = .ok (.iconst (-1), 1) := by decide +kernel
theorem dX3_slice_81 : decode cX3_slice 81 = .ok (.ireturn, 1) := by decide +kernel
theorem dX3_follows_0 : decode cX3_follows 0 = .ok (.aload_n 0, 1) := by decide +kernel
theorem dX3_follows_1 : decode cX3_follows 1 = .ok (.getfield 12, 3) := by decide +kernel
theorem dX3_follows_4 : decode cX3_follows 4 = .ok (.iload_n 1, 1) := by decide +kernel
theorem dX3_follows_5 : decode cX3_follows 5 = .ok (.invokevirtual 65, 3) := by decide +kernel
theorem dX3_follows_8 : decode cX3_follows 8 = .ok (.ifCond .eq 14, 3) := by decide +kernel
theorem dX3_follows_11 : decode cX3_follows 11 = .ok (.aload_n 0, 1) := by decide +kernel
theorem dX3_follows_12 : decode cX3_follows 12 = .ok (.invokevirtual 89, 3) := by decide +kernel
theorem dX3_follows_15 : decode cX3_follows 15 = .ok (.iload_n 1, 1) := by decide +kernel
theorem dX3_follows_16 : decode cX3_follows 16 = .ok (.invokevirtual 125, 3) := by decide +kernel
theorem dX3_follows_19 : decode cX3_follows 19 = .ok (.goto 4, 3) := by decide +kernel
theorem dX3_follows_22 : decode cX3_follows 22 = .ok (.iconst (-1), 1) := by decide +kernel
theorem dX3_follows_23 : decode cX3_follows 23 = .ok (.ireturn, 1) := by decide +kernel
theorem dX3_causes_0 : decode cX3_causes 0 = .ok (.aload_n 0, 1) := by decide +kernel
theorem dX3_causes_1 : decode cX3_causes 1 = .ok (.getfield 12, 3) := by decide +kernel
theorem dX3_causes_4 : decode cX3_causes 4 = .ok (.iload_n 1, 1) := by decide +kernel
theorem dX3_causes_5 : decode cX3_causes 5 = .ok (.invokevirtual 65, 3) := by decide +kernel
theorem dX3_causes_8 : decode cX3_causes 8 = .ok (.ifCond .eq 14, 3) := by decide +kernel
theorem dX3_causes_11 : decode cX3_causes 11 = .ok (.aload_n 0, 1) := by decide +kernel
theorem dX3_causes_12 : decode cX3_causes 12 = .ok (.invokevirtual 89, 3) := by decide +kernel
theorem dX3_causes_15 : decode cX3_causes 15 = .ok (.iload_n 1, 1) := by decide +kernel
theorem dX3_causes_16 : decode cX3_causes 16 = .ok (.invokevirtual 128, 3) := by decide +kernel
theorem dX3_causes_19 : decode cX3_causes 19 = .ok (.goto 4, 3) := by decide +kernel
theorem dX3_causes_22 : decode cX3_causes 22 = .ok (.iconst (-1), 1) := by decide +kernel
theorem dX3_causes_23 : decode cX3_causes 23 = .ok (.ireturn, 1) := by decide +kernel
theorem dX3_cause_0 : decode cX3_cause 0 = .ok (.aload_n 0, 1) := by decide +kernel
theorem dX3_cause_1 : decode cX3_cause 1 = .ok (.getfield 12, 3) := by decide +kernel
theorem dX3_cause_4 : decode cX3_cause 4 = .ok (.iload_n 1, 1) := by decide +kernel
theorem dX3_cause_5 : decode cX3_cause 5 = .ok (.invokevirtual 65, 3) := by decide +kernel
theorem dX3_cause_8 : decode cX3_cause 8 = .ok (.ifCond .eq 16, 3) := by decide +kernel
theorem dX3_cause_11 : decode cX3_cause 11 = .ok (.iload_n 2, 1) := by decide +kernel
theorem dX3_cause_12 : decode cX3_cause 12 = .ok (.ifCond .lt 12, 3) := by decide +kernel
theorem dX3_cause_15 : decode cX3_cause 15 = .ok (.iload_n 3, 1) := by decide +kernel
theorem dX3_cause_16 : decode cX3_cause 16 = .ok (.ifCond .lt 8, 3) := by decide +kernel
theorem dX3_cause_19 : decode cX3_cause 19 = .ok (.iload_n 3, 1) := by decide +kernel
theorem dX3_cause_20 : decode cX3_cause 20 = .ok (.iconst 1, 1) := by decide +kernel
theorem dX3_cause_21 : decode cX3_cause 21 = .ok (.if_icmp .le 5, 3) := by decide +kernel
theorem dX3_cause_24 : decode cX3_cause 24 = .ok (.iconst (-1), 1) := by decide +kernel
theorem dX3_cause_25 : decode cX3_cause 25 = .ok (.ireturn, 1) := by decide +kernel
theorem dX3_cause_26 : decode cX3_cause 26 = .ok (.aload_n 0, 1) := by decide +kernel
theorem dX3_cause_27 : decode cX3_cause 27 = .ok (.invokevirtual 89, 3) := by decide +kernel
theorem dX3_cause_30 : decode cX3_cause 30 = .ok (.iload_n 1, 1) := by decide +kernel
theorem dX3_cause_31 : decode cX3_cause 31 = .ok (.iload_n 2, 1) := by decide +kernel
theorem dX3_cause_32 : decode cX3_cause 32 = .ok (.iload_n 3, 1) := by decide +kernel
theorem dX3_cause_33 : decode cX3_cause 33 = .ok (.iconst 1, 1) := by decide +kernel
theorem dX3_cause_34 : decode cX3_cause 34 = .ok (.if_icmp .ne 7, 3) := by decide +kernel
theorem dX3_cause_37 : decode cX3_cause 37 = .ok (.iconst 1, 1) := by decide +kernel
theorem dX3_cause_38 : decode cX3_cause 38 = .ok (.goto 4, 3) := by decide +kernel
theorem dX3_cause_41 : decode cX3_cause 41 = .ok (.iconst 0, 1) := by decide +kernel
theorem dX3_cause_42 : decode cX3_cause 42 = .ok (.invokevirtual 131, 3) := by decide +kernel
theorem dX3_cause_45 : decode cX3_cause 45 = .ok (.ireturn, 1) := by decide +kernel
theorem dX3_chop_0 : decode cX3_chop 0 = .ok (.aload_n 0, 1) := by decide +kernel
theorem dX3_chop_1 : decode cX3_chop 1 = .ok (.getfield 12, 3) := by decide +kernel
theorem dX3_chop_4 : decode cX3_chop 4 = .ok (.iload_n 1, 1) := by decide +kernel
theorem dX3_chop_5 : decode cX3_chop 5 = .ok (.invokevirtual 65, 3) := by decide +kernel
theorem dX3_chop_8 : decode cX3_chop 8 = .ok (.ifCond .eq 14, 3) := by decide +kernel
theorem dX3_chop_11 : decode cX3_chop 11 = .ok (.aload_n 0, 1) := by decide +kernel
theorem dX3_chop_12 : decode cX3_chop 12 = .ok (.getfield 12, 3) := by decide +kernel
theorem dX3_chop_15 : decode cX3_chop 15 = .ok (.iload_n 2, 1) := by decide +kernel
theorem dX3_chop_16 : decode cX3_chop 16 = .ok (.invokevirtual 65, 3) := by decide +kernel
theorem dX3_chop_19 : decode cX3_chop 19 = .ok (.ifCond .ne 5, 3) := by decide +kernel
theorem dX3_chop_22 : decode cX3_chop 22 = .ok (.iconst (-1), 1) := by decide +kernel
theorem dX3_chop_23 : decode cX3_chop 23 = .ok (.ireturn, 1) := by decide +kernel
theorem dX3_chop_24 : decode cX3_chop 24 = .ok (.aload_n 0, 1) := by decide +kernel
theorem dX3_chop_25 : decode cX3_chop 25 = .ok (.invokevirtual 89, 3) := by decide +kernel
theorem dX3_chop_28 : decode cX3_chop 28 = .ok (.iload_n 1, 1) := by decide +kernel
theorem dX3_chop_29 : decode cX3_chop 29 = .ok (.invokevirtual 119, 3) := by decide +kernel
theorem dX3_chop_32 : decode cX3_chop 32 = .ok (.aload_n 0, 1) := by decide +kernel
theorem dX3_chop_33 : decode cX3_chop 33 = .ok (.invokevirtual 89, 3) := by decide +kernel
theorem dX3_chop_36 : decode cX3_chop 36 = .ok (.iload_n 2, 1) := by decide +kernel
theorem dX3_chop_37 : decode cX3_chop 37 = .ok (.invokevirtual 93, 3) := by decide +kernel
theorem dX3_chop_40 : decode cX3_chop 40 = .ok (.iand, 1) := by decide +kernel
theorem dX3_chop_41 : decode cX3_chop 41 = .ok (.ireturn, 1) := by decide +kernel
theorem dX3_way_0 : decode cX3_way 0 = .ok (.aload_n 0, 1) := by decide +kernel
theorem dX3_way_1 : decode cX3_way 1 = .ok (.getfield 12, 3) := by decide +kernel
theorem dX3_way_4 : decode cX3_way 4 = .ok (.iload_n 1, 1) := by decide +kernel
theorem dX3_way_5 : decode cX3_way 5 = .ok (.invokevirtual 65, 3) := by decide +kernel
theorem dX3_way_8 : decode cX3_way 8 = .ok (.ifCond .eq 14, 3) := by decide +kernel
theorem dX3_way_11 : decode cX3_way 11 = .ok (.aload_n 0, 1) := by decide +kernel
theorem dX3_way_12 : decode cX3_way 12 = .ok (.getfield 12, 3) := by decide +kernel
theorem dX3_way_15 : decode cX3_way 15 = .ok (.iload_n 2, 1) := by decide +kernel
theorem dX3_way_16 : decode cX3_way 16 = .ok (.invokevirtual 65, 3) := by decide +kernel
theorem dX3_way_19 : decode cX3_way 19 = .ok (.ifCond .ne 5, 3) := by decide +kernel
theorem dX3_way_22 : decode cX3_way 22 = .ok (.iconst (-1), 1) := by decide +kernel
theorem dX3_way_23 : decode cX3_way 23 = .ok (.ireturn, 1) := by decide +kernel
theorem dX3_way_24 : decode cX3_way 24 = .ok (.aload_n 0, 1) := by decide +kernel
theorem dX3_way_25 : decode cX3_way 25 = .ok (.invokevirtual 89, 3) := by decide +kernel
theorem dX3_way_28 : decode cX3_way 28 = .ok (.iload_n 1, 1) := by decide +kernel
theorem dX3_way_29 : decode cX3_way 29 = .ok (.invokevirtual 93, 3) := by decide +kernel
theorem dX3_way_32 : decode cX3_way 32 = .ok (.iload_n 2, 1) := by decide +kernel
theorem dX3_way_33 : decode cX3_way 33 = .ok (.invokestatic 135, 3) := by decide +kernel
theorem dX3_way_36 : decode cX3_way 36 = .ok (.ifCond .ne 6, 3) := by decide +kernel
theorem dX3_way_39 : decode cX3_way 39 = .ok (.bipush (-4), 2) := by decide +kernel
theorem dX3_way_41 : decode cX3_way 41 = .ok (.ireturn, 1) := by decide +kernel
theorem dX3_way_42 : decode cX3_way 42 = .ok (.aload_n 0, 1) := by decide +kernel
theorem dX3_way_43 : decode cX3_way 43 = .ok (.aload_n 0, 1) := by decide +kernel
theorem dX3_way_44 : decode cX3_way 44 = .ok (.invokevirtual 89, 3) := by decide +kernel
theorem dX3_way_47 : decode cX3_way 47 = .ok (.iload_n 1, 1) := by decide +kernel
theorem dX3_way_48 : decode cX3_way 48 = .ok (.iload_n 2, 1) := by decide +kernel
theorem dX3_way_49 : decode cX3_way 49 = .ok (.aload_n 0, 1) := by decide +kernel
theorem dX3_way_50 : decode cX3_way 50 = .ok (.getfield 50, 3) := by decide +kernel
theorem dX3_way_53 : decode cX3_way 53 = .ok (.invokevirtual 139, 3) := by decide +kernel
theorem dX3_way_56 : decode cX3_way 56 = .ok (.putfield 143, 3) := by decide +kernel
theorem dX3_way_59 : decode cX3_way 59 = .ok (.aload_n 0, 1) := by decide +kernel
theorem dX3_way_60 : decode cX3_way 60 = .ok (.getfield 143, 3) := by decide +kernel
theorem dX3_way_63 : decode cX3_way 63 = .ok (.ireturn, 1) := by decide +kernel
theorem dX3_on_0 : decode cX3_on 0 = .ok (.iload_n 1, 1) := by decide +kernel
theorem dX3_on_1 : decode cX3_on 1 = .ok (.ifCond .lt 20, 3) := by decide +kernel
theorem dX3_on_4 : decode cX3_on 4 = .ok (.iload_n 1, 1) := by decide +kernel
theorem dX3_on_5 : decode cX3_on 5 = .ok (.aload_n 0, 1) := by decide +kernel
theorem dX3_on_6 : decode cX3_on 6 = .ok (.getfield 143, 3) := by decide +kernel
theorem dX3_on_9 : decode cX3_on 9 = .ok (.if_icmp .ge 12, 3) := by decide +kernel
theorem dX3_on_12 : decode cX3_on 12 = .ok (.aload_n 0, 1) := by decide +kernel
theorem dX3_on_13 : decode cX3_on 13 = .ok (.getfield 50, 3) := by decide +kernel
theorem dX3_on_16 : decode cX3_on 16 = .ok (.iload_n 1, 1) := by decide +kernel
theorem dX3_on_17 : decode cX3_on 17 = .ok (.iaload, 1) := by decide +kernel
theorem dX3_on_18 : decode cX3_on 18 = .ok (.goto 5, 3) := by decide +kernel
theorem dX3_on_21 : decode cX3_on 21 = .ok (.bipush (-4), 2) := by decide +kernel
theorem dX3_on_23 : decode cX3_on 23 = .ok (.ireturn, 1) := by decide +kernel
theorem dX3_same_0 : decode cX3_same 0 = .ok (.aload_n 0, 1) := by decide +kernel
theorem dX3_same_1 : decode cX3_same 1 = .ok (.getfield 12, 3) := by decide +kernel
theorem dX3_same_4 : decode cX3_same 4 = .ok (.iload_n 1, 1) := by decide +kernel
theorem dX3_same_5 : decode cX3_same 5 = .ok (.invokevirtual 65, 3) := by decide +kernel
theorem dX3_same_8 : decode cX3_same 8 = .ok (.ifCond .ne 5, 3) := by decide +kernel
theorem dX3_same_11 : decode cX3_same 11 = .ok (.iconst (-1), 1) := by decide +kernel
theorem dX3_same_12 : decode cX3_same 12 = .ok (.ireturn, 1) := by decide +kernel
theorem dX3_same_13 : decode cX3_same 13 = .ok (.aload_n 0, 1) := by decide +kernel
theorem dX3_same_14 : decode cX3_same 14 = .ok (.getfield 43, 3) := by decide +kernel
theorem dX3_same_17 : decode cX3_same 17 = .ok (.iconst 0, 1) := by decide +kernel
theorem dX3_same_18 : decode cX3_same 18 = .ok (.aaload, 1) := by decide +kernel
theorem dX3_same_19 : decode cX3_same 19 = .ok (.aload_n 0, 1) := by decide +kernel
theorem dX3_same_20 : decode cX3_same 20 = .ok (.getfield 12, 3) := by decide +kernel
theorem dX3_same_23 : decode cX3_same 23 = .ok (.aload_n 0, 1) := by decide +kernel
theorem dX3_same_24 : decode cX3_same 24 = .ok (.getfield 27, 3) := by decide +kernel
theorem dX3_same_27 : decode cX3_same 27 = .ok (.aload_n 0, 1) := by decide +kernel
theorem dX3_same_28 : decode cX3_same 28 = .ok (.getfield 12, 3) := by decide +kernel
theorem dX3_same_31 : decode cX3_same 31 = .ok (.invokevirtual 85, 3) := by decide +kernel
theorem dX3_same_34 : decode cX3_same 34 = .ok (.iload_n 1, 1) := by decide +kernel
theorem dX3_same_35 : decode cX3_same 35 = .ok (.invokevirtual 97, 3) := by decide +kernel
theorem dX3_same_38 : decode cX3_same 38 = .ok (.iconst 2, 1) := by decide +kernel
theorem dX3_same_39 : decode cX3_same 39 = .ok (.if_icmp .ne 5, 3) := by decide +kernel
theorem dX3_same_42 : decode cX3_same 42 = .ok (.iconst 2, 1) := by decide +kernel
theorem dX3_same_43 : decode cX3_same 43 = .ok (.ireturn, 1) := by decide +kernel
theorem dX3_same_44 : decode cX3_same 44 = .ok (.aload_n 0, 1) := by decide +kernel
theorem dX3_same_45 : decode cX3_same 45 = .ok (.getfield 47, 3) := by decide +kernel
theorem dX3_same_48 : decode cX3_same 48 = .ok (.aload_n 0, 1) := by decide +kernel
theorem dX3_same_49 : decode cX3_same 49 = .ok (.getfield 12, 3) := by decide +kernel
theorem dX3_same_52 : decode cX3_same 52 = .ok (.aload_n 0, 1) := by decide +kernel
theorem dX3_same_53 : decode cX3_same 53 = .ok (.getfield 27, 3) := by decide +kernel
theorem dX3_same_56 : decode cX3_same 56 = .ok (.aload_n 0, 1) := by decide +kernel
theorem dX3_same_57 : decode cX3_same 57 = .ok (.invokevirtual 89, 3) := by decide +kernel
theorem dX3_same_60 : decode cX3_same 60 = .ok (.iload_n 1, 1) := by decide +kernel
theorem dX3_same_61 : decode cX3_same 61 = .ok (.invokevirtual 93, 3) := by decide +kernel
theorem dX3_same_64 : decode cX3_same 64 = .ok (.iload_n 1, 1) := by decide +kernel
theorem dX3_same_65 : decode cX3_same 65 = .ok (.invokevirtual 97, 3) := by decide +kernel
theorem dX3_same_68 : decode cX3_same 68 = .ok (.pop, 1) := by decide +kernel
theorem dX3_same_69 : decode cX3_same 69 = .ok (.aload_n 0, 1) := by decide +kernel
theorem dX3_same_70 : decode cX3_same 70 = .ok (.getfield 47, 3) := by decide +kernel
theorem dX3_same_73 : decode cX3_same 73 = .ok (.aload_n 0, 1) := by decide +kernel
theorem dX3_same_74 : decode cX3_same 74 = .ok (.getfield 43, 3) := by decide +kernel
theorem dX3_same_77 : decode cX3_same 77 = .ok (.iconst 0, 1) := by decide +kernel
theorem dX3_same_78 : decode cX3_same 78 = .ok (.aaload, 1) := by decide +kernel
theorem dX3_same_79 : decode cX3_same 79 = .ok (.invokevirtual 146, 3) := by decide +kernel
theorem dX3_same_82 : decode cX3_same 82 = .ok (.ifCond .eq 7, 3) := by decide +kernel
theorem dX3_same_85 : decode cX3_same 85 = .ok (.iconst 1, 1) := by decide +kernel
theorem dX3_same_86 : decode cX3_same 86 = .ok (.goto 4, 3) := by decide +kernel
theorem dX3_same_89 : decode cX3_same 89 = .ok (.iconst 0, 1) := by decide +kernel
theorem dX3_same_90 : decode cX3_same 90 = .ok (.ireturn, 1) := by decide +kernel
theorem dX3_test_0 : decode cX3_test 0 = .ok (.aload_n 0, 1) := by decide +kernel
theorem dX3_test_1 : decode cX3_test 1 = .ok (.getfield 150, 3) := by decide +kernel
theorem dX3_test_4 : decode cX3_test 4 = .ok (.iconst 3, 1) := by decide +kernel
theorem dX3_test_5 : decode cX3_test 5 = .ok (.if_icmp .lt 6, 3) := by decide +kernel
theorem dX3_test_8 : decode cX3_test 8 = .ok (.bipush (-2), 2) := by decide +kernel
theorem dX3_test_10 : decode cX3_test 10 = .ok (.ireturn, 1) := by decide +kernel
theorem dX3_test_11 : decode cX3_test 11 = .ok (.aload_n 0, 1) := by decide +kernel
theorem dX3_test_12 : decode cX3_test 12 = .ok (.getfield 27, 3) := by decide +kernel
theorem dX3_test_15 : decode cX3_test 15 = .ok (.iconst 0, 1) := by decide +kernel
theorem dX3_test_16 : decode cX3_test 16 = .ok (.aload_n 0, 1) := by decide +kernel
theorem dX3_test_17 : decode cX3_test 17 = .ok (.getfield 33, 3) := by decide +kernel
theorem dX3_test_20 : decode cX3_test 20 = .ok (.aload_n 0, 1) := by decide +kernel
theorem dX3_test_21 : decode cX3_test 21 = .ok (.getfield 150, 3) := by decide +kernel
theorem dX3_test_24 : decode cX3_test 24 = .ok (.aaload, 1) := by decide +kernel
theorem dX3_test_25 : decode cX3_test 25 = .ok (.iconst 0, 1) := by decide +kernel
theorem dX3_test_26 : decode cX3_test 26 = .ok (.iconst 4, 1) := by decide +kernel
theorem dX3_test_27 : decode cX3_test 27 = .ok (.invokestatic 153, 3) := by decide +kernel
theorem dX3_test_30 : decode cX3_test 30 = .ok (.aload_n 0, 1) := by decide +kernel
theorem dX3_test_31 : decode cX3_test 31 = .ok (.dup, 1) := by decide +kernel
theorem dX3_test_32 : decode cX3_test 32 = .ok (.getfield 150, 3) := by decide +kernel
theorem dX3_test_35 : decode cX3_test 35 = .ok (.iconst 1, 1) := by decide +kernel
theorem dX3_test_36 : decode cX3_test 36 = .ok (.iadd, 1) := by decide +kernel
theorem dX3_test_37 : decode cX3_test 37 = .ok (.putfield 150, 3) := by decide +kernel
theorem dX3_test_40 : decode cX3_test 40 = .ok (.aload_n 0, 1) := by decide +kernel
theorem dX3_test_41 : decode cX3_test 41 = .ok (.getfield 150, 3) := by decide +kernel
theorem dX3_test_44 : decode cX3_test 44 = .ok (.iconst 1, 1) := by decide +kernel
theorem dX3_test_45 : decode cX3_test 45 = .ok (.isub, 1) := by decide +kernel
theorem dX3_test_46 : decode cX3_test 46 = .ok (.ireturn, 1) := by decide +kernel
theorem dX3_untest_0 : decode cX3_untest 0 = .ok (.aload_n 0, 1) := by decide +kernel
theorem dX3_untest_1 : decode cX3_untest 1 = .ok (.getfield 150, 3) := by decide +kernel
theorem dX3_untest_4 : decode cX3_untest 4 = .ok (.istore_n 1, 1) := by decide +kernel
theorem dX3_untest_5 : decode cX3_untest 5 = .ok (.aload_n 0, 1) := by decide +kernel
theorem dX3_untest_6 : decode cX3_untest 6 = .ok (.iconst 0, 1) := by decide +kernel
theorem dX3_untest_7 : decode cX3_untest 7 = .ok (.putfield 150, 3) := by decide +kernel
theorem dX3_untest_10 : decode cX3_untest 10 = .ok (.iload_n 1, 1) := by decide +kernel
theorem dX3_untest_11 : decode cX3_untest 11 = .ok (.ireturn, 1) := by decide +kernel
theorem dX3_least_0 : decode cX3_least 0 = .ok (.aload_n 0, 1) := by decide +kernel
theorem dX3_least_1 : decode cX3_least 1 = .ok (.getfield 12, 3) := by decide +kernel
theorem dX3_least_4 : decode cX3_least 4 = .ok (.iload_n 1, 1) := by decide +kernel
theorem dX3_least_5 : decode cX3_least 5 = .ok (.invokevirtual 65, 3) := by decide +kernel
theorem dX3_least_8 : decode cX3_least 8 = .ok (.ifCond .ne 5, 3) := by decide +kernel
theorem dX3_least_11 : decode cX3_least 11 = .ok (.iconst (-1), 1) := by decide +kernel
theorem dX3_least_12 : decode cX3_least 12 = .ok (.ireturn, 1) := by decide +kernel
theorem dX3_least_13 : decode cX3_least 13 = .ok (.aload_n 0, 1) := by decide +kernel
theorem dX3_least_14 : decode cX3_least 14 = .ok (.getfield 150, 3) := by decide +kernel
theorem dX3_least_17 : decode cX3_least 17 = .ok (.ifCond .eq 11, 3) := by decide +kernel
theorem dX3_least_20 : decode cX3_least 20 = .ok (.aload_n 0, 1) := by decide +kernel
theorem dX3_least_21 : decode cX3_least 21 = .ok (.iload_n 1, 1) := by decide +kernel
theorem dX3_least_22 : decode cX3_least 22 = .ok (.invokevirtual 159, 3) := by decide +kernel
theorem dX3_least_25 : decode cX3_least 25 = .ok (.ifCond .eq 6, 3) := by decide +kernel
theorem dX3_least_28 : decode cX3_least 28 = .ok (.bipush (-3), 2) := by decide +kernel
theorem dX3_least_30 : decode cX3_least 30 = .ok (.ireturn, 1) := by decide +kernel
theorem dX3_least_31 : decode cX3_least 31 = .ok (.aload_n 0, 1) := by decide +kernel
theorem dX3_least_32 : decode cX3_least 32 = .ok (.invokevirtual 89, 3) := by decide +kernel
theorem dX3_least_35 : decode cX3_least 35 = .ok (.iload_n 1, 1) := by decide +kernel
theorem dX3_least_36 : decode cX3_least 36 = .ok (.invokevirtual 93, 3) := by decide +kernel
theorem dX3_least_39 : decode cX3_least 39 = .ok (.istore_n 2, 1) := by decide +kernel
theorem dX3_least_40 : decode cX3_least 40 = .ok (.iconst 1, 1) := by decide +kernel
theorem dX3_least_41 : decode cX3_least 41 = .ok (.istore_n 3, 1) := by decide +kernel
theorem dX3_least_42 : decode cX3_least 42 = .ok (.iconst 0, 1) := by decide +kernel
theorem dX3_least_43 : decode cX3_least 43 = .ok (.istore 4, 2) := by decide +kernel
theorem dX3_least_45 : decode cX3_least 45 = .ok (.iload_n 3, 1) := by decide +kernel
theorem dX3_least_46 : decode cX3_least 46 = .ok (.ifCond .eq 39, 3) := by decide +kernel
theorem dX3_least_49 : decode cX3_least 49 = .ok (.iload 4, 2) := by decide +kernel
theorem dX3_least_51 : decode cX3_least 51 = .ok (.bipush 24, 2) := by decide +kernel
theorem dX3_least_53 : decode cX3_least 53 = .ok (.if_icmp .ge 32, 3) := by decide +kernel
theorem dX3_least_56 : decode cX3_least 56 = .ok (.aload_n 0, 1) := by decide +kernel
theorem dX3_least_57 : decode cX3_least 57 = .ok (.iload_n 2, 1) := by decide +kernel
theorem dX3_least_58 : decode cX3_least 58 = .ok (.iload_n 1, 1) := by decide +kernel
theorem dX3_least_59 : decode cX3_least 59 = .ok (.invokevirtual 162, 3) := by decide +kernel
theorem dX3_least_62 : decode cX3_least 62 = .ok (.istore 5, 2) := by decide +kernel
theorem dX3_least_64 : decode cX3_least 64 = .ok (.iload 5, 2) := by decide +kernel
theorem dX3_least_66 : decode cX3_least 66 = .ok (.iload_n 2, 1) := by decide +kernel
theorem dX3_least_67 : decode cX3_least 67 = .ok (.if_icmp .eq 7, 3) := by decide +kernel
theorem dX3_least_70 : decode cX3_least 70 = .ok (.iconst 1, 1) := by decide +kernel
theorem dX3_least_71 : decode cX3_least 71 = .ok (.goto 4, 3) := by decide +kernel
theorem dX3_least_74 : decode cX3_least 74 = .ok (.iconst 0, 1) := by decide +kernel
theorem dX3_least_75 : decode cX3_least 75 = .ok (.istore_n 3, 1) := by decide +kernel
theorem dX3_least_76 : decode cX3_least 76 = .ok (.iload 5, 2) := by decide +kernel
theorem dX3_least_78 : decode cX3_least 78 = .ok (.istore_n 2, 1) := by decide +kernel
theorem dX3_least_79 : decode cX3_least 79 = .ok (.iinc 4 1, 3) := by decide +kernel
theorem dX3_least_82 : decode cX3_least 82 = .ok (.goto (-37), 3) := by decide +kernel
theorem dX3_least_85 : decode cX3_least 85 = .ok (.iload_n 2, 1) := by decide +kernel
theorem dX3_least_86 : decode cX3_least 86 = .ok (.ireturn, 1) := by decide +kernel
theorem dX3_count_0 : decode cX3_count 0 = .ok (.iload_n 1, 1) := by decide +kernel
theorem dX3_count_1 : decode cX3_count 1 = .ok (.tableswitch 45 0 2 #[27, 35, 40], 27) := by decide +kernel
theorem dX3_count_28 : decode cX3_count 28 = .ok (.aload_n 0, 1) := by decide +kernel
theorem dX3_count_29 : decode cX3_count 29 = .ok (.getfield 12, 3) := by decide +kernel
theorem dX3_count_32 : decode cX3_count 32 = .ok (.getfield 57, 3) := by decide +kernel
theorem dX3_count_35 : decode cX3_count 35 = .ok (.ireturn, 1) := by decide +kernel
theorem dX3_count_36 : decode cX3_count 36 = .ok (.aload_n 0, 1) := by decide +kernel
theorem dX3_count_37 : decode cX3_count 37 = .ok (.getfield 150, 3) := by decide +kernel
theorem dX3_count_40 : decode cX3_count 40 = .ok (.ireturn, 1) := by decide +kernel
theorem dX3_count_41 : decode cX3_count 41 = .ok (.aload_n 0, 1) := by decide +kernel
theorem dX3_count_42 : decode cX3_count 42 = .ok (.getfield 82, 3) := by decide +kernel
theorem dX3_count_45 : decode cX3_count 45 = .ok (.ireturn, 1) := by decide +kernel
theorem dX3_count_46 : decode cX3_count 46 = .ok (.iconst (-1), 1) := by decide +kernel
theorem dX3_count_47 : decode cX3_count 47 = .ok (.ireturn, 1) := by decide +kernel
theorem dX3_reasonsNow_0 : decode cX3_reasonsNow 0 = .ok (.aload_n 0, 1) := by decide +kernel
theorem dX3_reasonsNow_1 : decode cX3_reasonsNow 1 = .ok (.getfield 23, 3) := by decide +kernel
theorem dX3_reasonsNow_4 : decode cX3_reasonsNow 4 = .ok (.ifCond .eq 19, 3) := by decide +kernel
theorem dX3_reasonsNow_7 : decode cX3_reasonsNow 7 = .ok (.aload_n 0, 1) := by decide +kernel
theorem dX3_reasonsNow_8 : decode cX3_reasonsNow 8 = .ok (.getfield 19, 3) := by decide +kernel
theorem dX3_reasonsNow_11 : decode cX3_reasonsNow 11 = .ok (.aload_n 0, 1) := by decide +kernel
theorem dX3_reasonsNow_12 : decode cX3_reasonsNow 12 = .ok (.getfield 12, 3) := by decide +kernel
theorem dX3_reasonsNow_15 : decode cX3_reasonsNow 15 = .ok (.invokevirtual 166, 3) := by decide +kernel
theorem dX3_reasonsNow_18 : decode cX3_reasonsNow 18 = .ok (.aload_n 0, 1) := by decide +kernel
theorem dX3_reasonsNow_19 : decode cX3_reasonsNow 19 = .ok (.iconst 0, 1) := by decide +kernel
theorem dX3_reasonsNow_20 : decode cX3_reasonsNow 20 = .ok (.putfield 23, 3) := by decide +kernel
theorem dX3_reasonsNow_23 : decode cX3_reasonsNow 23 = .ok (.aload_n 0, 1) := by decide +kernel
theorem dX3_reasonsNow_24 : decode cX3_reasonsNow 24 = .ok (.getfield 19, 3) := by decide +kernel
theorem dX3_reasonsNow_27 : decode cX3_reasonsNow 27 = .ok (.areturn, 1) := by decide +kernel
theorem dX3_wholeIsSpentInATest_0 : decode cX3_wholeIsSpentInATest 0 = .ok (.iconst 0, 1) := by decide +kernel
theorem dX3_wholeIsSpentInATest_1 : decode cX3_wholeIsSpentInATest 1 = .ok (.istore_n 2, 1) := by decide +kernel
theorem dX3_wholeIsSpentInATest_2 : decode cX3_wholeIsSpentInATest 2 = .ok (.iconst 0, 1) := by decide +kernel
theorem dX3_wholeIsSpentInATest_3 : decode cX3_wholeIsSpentInATest 3 = .ok (.istore_n 3, 1) := by decide +kernel
theorem dX3_wholeIsSpentInATest_4 : decode cX3_wholeIsSpentInATest 4 = .ok (.iload_n 3, 1) := by decide +kernel
theorem dX3_wholeIsSpentInATest_5 : decode cX3_wholeIsSpentInATest 5 = .ok (.aload_n 0, 1) := by decide +kernel
theorem dX3_wholeIsSpentInATest_6 : decode cX3_wholeIsSpentInATest 6 = .ok (.getfield 150, 3) := by decide +kernel
theorem dX3_wholeIsSpentInATest_9 : decode cX3_wholeIsSpentInATest 9 = .ok (.if_icmp .ge 48, 3) := by decide +kernel
theorem dX3_wholeIsSpentInATest_12 : decode cX3_wholeIsSpentInATest 12 = .ok (.iload_n 2, 1) := by decide +kernel
theorem dX3_wholeIsSpentInATest_13 : decode cX3_wholeIsSpentInATest 13 = .ok (.aload_n 0, 1) := by decide +kernel
theorem dX3_wholeIsSpentInATest_14 : decode cX3_wholeIsSpentInATest 14 = .ok (.getfield 43, 3) := by decide +kernel
theorem dX3_wholeIsSpentInATest_17 : decode cX3_wholeIsSpentInATest 17 = .ok (.iload_n 3, 1) := by decide +kernel
theorem dX3_wholeIsSpentInATest_18 : decode cX3_wholeIsSpentInATest 18 = .ok (.aaload, 1) := by decide +kernel
theorem dX3_wholeIsSpentInATest_19 : decode cX3_wholeIsSpentInATest 19 = .ok (.aload_n 0, 1) := by decide +kernel
theorem dX3_wholeIsSpentInATest_20 : decode cX3_wholeIsSpentInATest 20 = .ok (.getfield 12, 3) := by decide +kernel
theorem dX3_wholeIsSpentInATest_23 : decode cX3_wholeIsSpentInATest 23 = .ok (.aload_n 0, 1) := by decide +kernel
theorem dX3_wholeIsSpentInATest_24 : decode cX3_wholeIsSpentInATest 24 = .ok (.getfield 33, 3) := by decide +kernel
theorem dX3_wholeIsSpentInATest_27 : decode cX3_wholeIsSpentInATest 27 = .ok (.iload_n 3, 1) := by decide +kernel
theorem dX3_wholeIsSpentInATest_28 : decode cX3_wholeIsSpentInATest 28 = .ok (.aaload, 1) := by decide +kernel
theorem dX3_wholeIsSpentInATest_29 : decode cX3_wholeIsSpentInATest 29 = .ok (.aload_n 0, 1) := by decide +kernel
theorem dX3_wholeIsSpentInATest_30 : decode cX3_wholeIsSpentInATest 30 = .ok (.getfield 12, 3) := by decide +kernel
theorem dX3_wholeIsSpentInATest_33 : decode cX3_wholeIsSpentInATest 33 = .ok (.invokevirtual 85, 3) := by decide +kernel
theorem dX3_wholeIsSpentInATest_36 : decode cX3_wholeIsSpentInATest 36 = .ok (.iload_n 1, 1) := by decide +kernel
theorem dX3_wholeIsSpentInATest_37 : decode cX3_wholeIsSpentInATest 37 = .ok (.invokevirtual 97, 3) := by decide +kernel
theorem dX3_wholeIsSpentInATest_40 : decode cX3_wholeIsSpentInATest 40 = .ok (.iconst 2, 1) := by decide +kernel
theorem dX3_wholeIsSpentInATest_41 : decode cX3_wholeIsSpentInATest 41 = .ok (.if_icmp .ne 7, 3) := by decide +kernel
theorem dX3_wholeIsSpentInATest_44 : decode cX3_wholeIsSpentInATest 44 = .ok (.iconst 1, 1) := by decide +kernel
theorem dX3_wholeIsSpentInATest_45 : decode cX3_wholeIsSpentInATest 45 = .ok (.goto 4, 3) := by decide +kernel
theorem dX3_wholeIsSpentInATest_48 : decode cX3_wholeIsSpentInATest 48 = .ok (.iconst 0, 1) := by decide +kernel
theorem dX3_wholeIsSpentInATest_49 : decode cX3_wholeIsSpentInATest 49 = .ok (.ior, 1) := by decide +kernel
theorem dX3_wholeIsSpentInATest_50 : decode cX3_wholeIsSpentInATest 50 = .ok (.istore_n 2, 1) := by decide +kernel
theorem dX3_wholeIsSpentInATest_51 : decode cX3_wholeIsSpentInATest 51 = .ok (.iinc 3 1, 3) := by decide +kernel
theorem dX3_wholeIsSpentInATest_54 : decode cX3_wholeIsSpentInATest 54 = .ok (.goto (-50), 3) := by decide +kernel
end
section
theorem dX3_wholeIsSpentInATest_57 : decode cX3_wholeIsSpentInATest 57 = .ok (.iload_n 2, 1) := by decide +kernel
theorem dX3_wholeIsSpentInATest_58 : decode cX3_wholeIsSpentInATest 58 = .ok (.ireturn, 1) := by decide +kernel
theorem dX3_withoutNeedless_0 : decode cX3_withoutNeedless 0 = .ok (.iload_n 1, 1) := by decide +kernel
theorem dX3_withoutNeedless_1 : decode cX3_withoutNeedless 1 = .ok (.istore_n 3, 1) := by decide +kernel
theorem dX3_withoutNeedless_2 : decode cX3_withoutNeedless 2 = .ok (.aload_n 0, 1) := by decide +kernel
theorem dX3_withoutNeedless_3 : decode cX3_withoutNeedless 3 = .ok (.getfield 12, 3) := by decide +kernel
theorem dX3_withoutNeedless_6 : decode cX3_withoutNeedless 6 = .ok (.getfield 57, 3) := by decide +kernel
theorem dX3_withoutNeedless_9 : decode cX3_withoutNeedless 9 = .ok (.iconst 1, 1) := by decide +kernel
theorem dX3_withoutNeedless_10 : decode cX3_withoutNeedless 10 = .ok (.isub, 1) := by decide +kernel
theorem dX3_withoutNeedless_11 : decode cX3_withoutNeedless 11 = .ok (.istore 4, 2) := by decide +kernel
theorem dX3_withoutNeedless_13 : decode cX3_withoutNeedless 13 = .ok (.iload 4, 2) := by decide +kernel
theorem dX3_withoutNeedless_15 : decode cX3_withoutNeedless 15 = .ok (.ifCond .lt 49, 3) := by decide +kernel
theorem dX3_withoutNeedless_18 : decode cX3_withoutNeedless 18 = .ok (.iload 4, 2) := by decide +kernel
theorem dX3_withoutNeedless_20 : decode cX3_withoutNeedless 20 = .ok (.iload_n 2, 1) := by decide +kernel
theorem dX3_withoutNeedless_21 : decode cX3_withoutNeedless 21 = .ok (.if_icmp .eq 37, 3) := by decide +kernel
theorem dX3_withoutNeedless_24 : decode cX3_withoutNeedless 24 = .ok (.iload_n 3, 1) := by decide +kernel
theorem dX3_withoutNeedless_25 : decode cX3_withoutNeedless 25 = .ok (.iload 4, 2) := by decide +kernel
theorem dX3_withoutNeedless_27 : decode cX3_withoutNeedless 27 = .ok (.invokestatic 135, 3) := by decide +kernel
theorem dX3_withoutNeedless_30 : decode cX3_withoutNeedless 30 = .ok (.ifCond .eq 28, 3) := by decide +kernel
theorem dX3_withoutNeedless_33 : decode cX3_withoutNeedless 33 = .ok (.aload_n 0, 1) := by decide +kernel
theorem dX3_withoutNeedless_34 : decode cX3_withoutNeedless 34 = .ok (.iload_n 3, 1) := by decide +kernel
theorem dX3_withoutNeedless_35 : decode cX3_withoutNeedless 35 = .ok (.iconst 1, 1) := by decide +kernel
theorem dX3_withoutNeedless_36 : decode cX3_withoutNeedless 36 = .ok (.iload 4, 2) := by decide +kernel
theorem dX3_withoutNeedless_38 : decode cX3_withoutNeedless 38 = .ok (.ishl, 1) := by decide +kernel
theorem dX3_withoutNeedless_39 : decode cX3_withoutNeedless 39 = .ok (.iconst (-1), 1) := by decide +kernel
theorem dX3_withoutNeedless_40 : decode cX3_withoutNeedless 40 = .ok (.ixor, 1) := by decide +kernel
theorem dX3_withoutNeedless_41 : decode cX3_withoutNeedless 41 = .ok (.iand, 1) := by decide +kernel
theorem dX3_withoutNeedless_42 : decode cX3_withoutNeedless 42 = .ok (.iload_n 2, 1) := by decide +kernel
theorem dX3_withoutNeedless_43 : decode cX3_withoutNeedless 43 = .ok (.invokevirtual 170, 3) := by decide +kernel
theorem dX3_withoutNeedless_46 : decode cX3_withoutNeedless 46 = .ok (.ifCond .eq 12, 3) := by decide +kernel
theorem dX3_withoutNeedless_49 : decode cX3_withoutNeedless 49 = .ok (.iload_n 3, 1) := by decide +kernel
theorem dX3_withoutNeedless_50 : decode cX3_withoutNeedless 50 = .ok (.iconst 1, 1) := by decide +kernel
theorem dX3_withoutNeedless_51 : decode cX3_withoutNeedless 51 = .ok (.iload 4, 2) := by decide +kernel
theorem dX3_withoutNeedless_53 : decode cX3_withoutNeedless 53 = .ok (.ishl, 1) := by decide +kernel
theorem dX3_withoutNeedless_54 : decode cX3_withoutNeedless 54 = .ok (.iconst (-1), 1) := by decide +kernel
theorem dX3_withoutNeedless_55 : decode cX3_withoutNeedless 55 = .ok (.ixor, 1) := by decide +kernel
theorem dX3_withoutNeedless_56 : decode cX3_withoutNeedless 56 = .ok (.iand, 1) := by decide +kernel
theorem dX3_withoutNeedless_57 : decode cX3_withoutNeedless 57 = .ok (.istore_n 3, 1) := by decide +kernel
theorem dX3_withoutNeedless_58 : decode cX3_withoutNeedless 58 = .ok (.iinc 4 (-1), 3) := by decide +kernel
theorem dX3_withoutNeedless_61 : decode cX3_withoutNeedless 61 = .ok (.goto (-48), 3) := by decide +kernel
theorem dX3_withoutNeedless_64 : decode cX3_withoutNeedless 64 = .ok (.iload_n 3, 1) := by decide +kernel
theorem dX3_withoutNeedless_65 : decode cX3_withoutNeedless 65 = .ok (.ireturn, 1) := by decide +kernel
theorem dX3_testsAgree_0 : decode cX3_testsAgree 0 = .ok (.iconst 0, 1) := by decide +kernel
theorem dX3_testsAgree_1 : decode cX3_testsAgree 1 = .ok (.istore_n 3, 1) := by decide +kernel
theorem dX3_testsAgree_2 : decode cX3_testsAgree 2 = .ok (.iload_n 3, 1) := by decide +kernel
theorem dX3_testsAgree_3 : decode cX3_testsAgree 3 = .ok (.aload_n 0, 1) := by decide +kernel
theorem dX3_testsAgree_4 : decode cX3_testsAgree 4 = .ok (.getfield 150, 3) := by decide +kernel
theorem dX3_testsAgree_7 : decode cX3_testsAgree 7 = .ok (.if_icmp .ge 62, 3) := by decide +kernel
theorem dX3_testsAgree_10 : decode cX3_testsAgree 10 = .ok (.aload_n 0, 1) := by decide +kernel
theorem dX3_testsAgree_11 : decode cX3_testsAgree 11 = .ok (.getfield 47, 3) := by decide +kernel
theorem dX3_testsAgree_14 : decode cX3_testsAgree 14 = .ok (.aload_n 0, 1) := by decide +kernel
theorem dX3_testsAgree_15 : decode cX3_testsAgree 15 = .ok (.getfield 12, 3) := by decide +kernel
theorem dX3_testsAgree_18 : decode cX3_testsAgree 18 = .ok (.aload_n 0, 1) := by decide +kernel
theorem dX3_testsAgree_19 : decode cX3_testsAgree 19 = .ok (.getfield 33, 3) := by decide +kernel
theorem dX3_testsAgree_22 : decode cX3_testsAgree 22 = .ok (.iload_n 3, 1) := by decide +kernel
theorem dX3_testsAgree_23 : decode cX3_testsAgree 23 = .ok (.aaload, 1) := by decide +kernel
theorem dX3_testsAgree_24 : decode cX3_testsAgree 24 = .ok (.iload_n 1, 1) := by decide +kernel
theorem dX3_testsAgree_25 : decode cX3_testsAgree 25 = .ok (.iload_n 2, 1) := by decide +kernel
theorem dX3_testsAgree_26 : decode cX3_testsAgree 26 = .ok (.invokevirtual 97, 3) := by decide +kernel
theorem dX3_testsAgree_29 : decode cX3_testsAgree 29 = .ok (.iconst 2, 1) := by decide +kernel
theorem dX3_testsAgree_30 : decode cX3_testsAgree 30 = .ok (.if_icmp .ne 7, 3) := by decide +kernel
theorem dX3_testsAgree_33 : decode cX3_testsAgree 33 = .ok (.iconst 1, 1) := by decide +kernel
theorem dX3_testsAgree_34 : decode cX3_testsAgree 34 = .ok (.goto 4, 3) := by decide +kernel
theorem dX3_testsAgree_37 : decode cX3_testsAgree 37 = .ok (.iconst 0, 1) := by decide +kernel
theorem dX3_testsAgree_38 : decode cX3_testsAgree 38 = .ok (.istore 4, 2) := by decide +kernel
theorem dX3_testsAgree_40 : decode cX3_testsAgree 40 = .ok (.iload 4, 2) := by decide +kernel
theorem dX3_testsAgree_42 : decode cX3_testsAgree 42 = .ok (.ifCond .ne 19, 3) := by decide +kernel
theorem dX3_testsAgree_45 : decode cX3_testsAgree 45 = .ok (.aload_n 0, 1) := by decide +kernel
theorem dX3_testsAgree_46 : decode cX3_testsAgree 46 = .ok (.getfield 47, 3) := by decide +kernel
theorem dX3_testsAgree_49 : decode cX3_testsAgree 49 = .ok (.aload_n 0, 1) := by decide +kernel
theorem dX3_testsAgree_50 : decode cX3_testsAgree 50 = .ok (.getfield 43, 3) := by decide +kernel
theorem dX3_testsAgree_53 : decode cX3_testsAgree 53 = .ok (.iload_n 3, 1) := by decide +kernel
theorem dX3_testsAgree_54 : decode cX3_testsAgree 54 = .ok (.aaload, 1) := by decide +kernel
theorem dX3_testsAgree_55 : decode cX3_testsAgree 55 = .ok (.invokevirtual 146, 3) := by decide +kernel
theorem dX3_testsAgree_58 : decode cX3_testsAgree 58 = .ok (.ifCond .ne 5, 3) := by decide +kernel
theorem dX3_testsAgree_61 : decode cX3_testsAgree 61 = .ok (.iconst 0, 1) := by decide +kernel
theorem dX3_testsAgree_62 : decode cX3_testsAgree 62 = .ok (.ireturn, 1) := by decide +kernel
theorem dX3_testsAgree_63 : decode cX3_testsAgree 63 = .ok (.iinc 3 1, 3) := by decide +kernel
theorem dX3_testsAgree_66 : decode cX3_testsAgree 66 = .ok (.goto (-64), 3) := by decide +kernel
theorem dX3_testsAgree_69 : decode cX3_testsAgree 69 = .ok (.iconst 1, 1) := by decide +kernel
theorem dX3_testsAgree_70 : decode cX3_testsAgree 70 = .ok (.ireturn, 1) := by decide +kernel
theorem dX3_holds_0 : decode cX3_holds 0 = .ok (.iload_n 0, 1) := by decide +kernel
theorem dX3_holds_1 : decode cX3_holds 1 = .ok (.iload_n 1, 1) := by decide +kernel
theorem dX3_holds_2 : decode cX3_holds 2 = .ok (.iushr, 1) := by decide +kernel
theorem dX3_holds_3 : decode cX3_holds 3 = .ok (.iconst 1, 1) := by decide +kernel
theorem dX3_holds_4 : decode cX3_holds 4 = .ok (.iand, 1) := by decide +kernel
theorem dX3_holds_5 : decode cX3_holds 5 = .ok (.ifCond .eq 7, 3) := by decide +kernel
theorem dX3_holds_8 : decode cX3_holds 8 = .ok (.iconst 1, 1) := by decide +kernel
theorem dX3_holds_9 : decode cX3_holds 9 = .ok (.goto 4, 3) := by decide +kernel
theorem dX3_holds_12 : decode cX3_holds 12 = .ok (.iconst 0, 1) := by decide +kernel
theorem dX3_holds_13 : decode cX3_holds 13 = .ok (.ireturn, 1) := by decide +kernel
end
section
theorem dX4_init_0 : decode cX4_init 0 = .ok (.aload_n 0, 1) := by decide +kernel
theorem dX4_init_1 : decode cX4_init 1 = .ok (.invokespecial 1, 3) := by decide +kernel
theorem dX4_init_4 : decode cX4_init 4 = .ok (.aload_n 0, 1) := by decide +kernel
theorem dX4_init_5 : decode cX4_init 5 = .ok (.bipush 24, 2) := by decide +kernel
theorem dX4_init_7 : decode cX4_init 7 = .ok (.newarray .int, 2) := by decide +kernel
theorem dX4_init_9 : decode cX4_init 9 = .ok (.putfield 7, 3) := by decide +kernel
theorem dX4_init_12 : decode cX4_init 12 = .ok (.aload_n 0, 1) := by decide +kernel
theorem dX4_init_13 : decode cX4_init 13 = .ok (.bipush 24, 2) := by decide +kernel
theorem dX4_init_15 : decode cX4_init 15 = .ok (.newarray .int, 2) := by decide +kernel
theorem dX4_init_17 : decode cX4_init 17 = .ok (.putfield 13, 3) := by decide +kernel
theorem dX4_init_20 : decode cX4_init 20 = .ok (.aload_n 0, 1) := by decide +kernel
theorem dX4_init_21 : decode cX4_init 21 = .ok (.bipush 24, 2) := by decide +kernel
theorem dX4_init_23 : decode cX4_init 23 = .ok (.newarray .int, 2) := by decide +kernel
theorem dX4_init_25 : decode cX4_init 25 = .ok (.putfield 16, 3) := by decide +kernel
theorem dX4_init_28 : decode cX4_init 28 = .ok (.aload_n 0, 1) := by decide +kernel
theorem dX4_init_29 : decode cX4_init 29 = .ok (.bipush 24, 2) := by decide +kernel
theorem dX4_init_31 : decode cX4_init 31 = .ok (.newarray .int, 2) := by decide +kernel
theorem dX4_init_33 : decode cX4_init 33 = .ok (.putfield 19, 3) := by decide +kernel
theorem dX4_init_36 : decode cX4_init 36 = .ok (.aload_n 0, 1) := by decide +kernel
theorem dX4_init_37 : decode cX4_init 37 = .ok (.iconst 4, 1) := by decide +kernel
theorem dX4_init_38 : decode cX4_init 38 = .ok (.newarray .int, 2) := by decide +kernel
theorem dX4_init_40 : decode cX4_init 40 = .ok (.putfield 22, 3) := by decide +kernel
theorem dX4_init_43 : decode cX4_init 43 = .ok (.aload_n 0, 1) := by decide +kernel
theorem dX4_init_44 : decode cX4_init 44 = .ok (.iconst 4, 1) := by decide +kernel
theorem dX4_init_45 : decode cX4_init 45 = .ok (.newarray .int, 2) := by decide +kernel
theorem dX4_init_47 : decode cX4_init 47 = .ok (.putfield 25, 3) := by decide +kernel
theorem dX4_init_50 : decode cX4_init 50 = .ok (.aload_n 0, 1) := by decide +kernel
theorem dX4_init_51 : decode cX4_init 51 = .ok (.iconst 4, 1) := by decide +kernel
theorem dX4_init_52 : decode cX4_init 52 = .ok (.newarray .boolean, 2) := by decide +kernel
theorem dX4_init_54 : decode cX4_init 54 = .ok (.putfield 28, 3) := by decide +kernel
theorem dX4_init_57 : decode cX4_init 57 = .ok (.aload_n 0, 1) := by decide +kernel
theorem dX4_init_58 : decode cX4_init 58 = .ok (.iconst 4, 1) := by decide +kernel
theorem dX4_init_59 : decode cX4_init 59 = .ok (.newarray .int, 2) := by decide +kernel
theorem dX4_init_61 : decode cX4_init 61 = .ok (.putfield 32, 3) := by decide +kernel
theorem dX4_init_64 : decode cX4_init 64 = .ok (.aload_n 0, 1) := by decide +kernel
theorem dX4_init_65 : decode cX4_init 65 = .ok (.bipush 12, 2) := by decide +kernel
theorem dX4_init_67 : decode cX4_init 67 = .ok (.newarray .int, 2) := by decide +kernel
theorem dX4_init_69 : decode cX4_init 69 = .ok (.putfield 35, 3) := by decide +kernel
theorem dX4_init_72 : decode cX4_init 72 = .ok (.aload_n 0, 1) := by decide +kernel
theorem dX4_init_73 : decode cX4_init 73 = .ok (.bipush 100, 2) := by decide +kernel
theorem dX4_init_75 : decode cX4_init 75 = .ok (.newarray .int, 2) := by decide +kernel
theorem dX4_init_77 : decode cX4_init 77 = .ok (.putfield 38, 3) := by decide +kernel
theorem dX4_init_80 : decode cX4_init 80 = .ok (.aload_n 0, 1) := by decide +kernel
theorem dX4_init_81 : decode cX4_init 81 = .ok (.bipush (-4), 2) := by decide +kernel
theorem dX4_init_83 : decode cX4_init 83 = .ok (.putfield 41, 3) := by decide +kernel
theorem dX4_init_86 : decode cX4_init 86 = .ok (.aload_n 0, 1) := by decide +kernel
theorem dX4_init_87 : decode cX4_init 87 = .ok (.bipush 8, 2) := by decide +kernel
theorem dX4_init_89 : decode cX4_init 89 = .ok (.newarray .int, 2) := by decide +kernel
theorem dX4_init_91 : decode cX4_init 91 = .ok (.putfield 45, 3) := by decide +kernel
theorem dX4_init_94 : decode cX4_init 94 = .ok (.aload_n 0, 1) := by decide +kernel
theorem dX4_init_95 : decode cX4_init 95 = .ok (.bipush 24, 2) := by decide +kernel
theorem dX4_init_97 : decode cX4_init 97 = .ok (.newarray .int, 2) := by decide +kernel
theorem dX4_init_99 : decode cX4_init 99 = .ok (.putfield 48, 3) := by decide +kernel
theorem dX4_init_102 : decode cX4_init 102 = .ok (.aload_n 0, 1) := by decide +kernel
theorem dX4_init_103 : decode cX4_init 103 = .ok (.bipush 24, 2) := by decide +kernel
theorem dX4_init_105 : decode cX4_init 105 = .ok (.newarray .int, 2) := by decide +kernel
theorem dX4_init_107 : decode cX4_init 107 = .ok (.putfield 51, 3) := by decide +kernel
theorem dX4_init_110 : decode cX4_init 110 = .ok (.aload_n 0, 1) := by decide +kernel
theorem dX4_init_111 : decode cX4_init 111 = .ok (.bipush 96, 2) := by decide +kernel
theorem dX4_init_113 : decode cX4_init 113 = .ok (.newarray .int, 2) := by decide +kernel
theorem dX4_init_115 : decode cX4_init 115 = .ok (.putfield 54, 3) := by decide +kernel
theorem dX4_init_118 : decode cX4_init 118 = .ok (.aload_n 0, 1) := by decide +kernel
theorem dX4_init_119 : decode cX4_init 119 = .ok (.bipush 72, 2) := by decide +kernel
theorem dX4_init_121 : decode cX4_init 121 = .ok (.newarray .int, 2) := by decide +kernel
theorem dX4_init_123 : decode cX4_init 123 = .ok (.putfield 57, 3) := by decide +kernel
theorem dX4_init_126 : decode cX4_init 126 = .ok (.aload_n 0, 1) := by decide +kernel
theorem dX4_init_127 : decode cX4_init 127 = .ok (.bipush 24, 2) := by decide +kernel
theorem dX4_init_129 : decode cX4_init 129 = .ok (.newarray .int, 2) := by decide +kernel
theorem dX4_init_131 : decode cX4_init 131 = .ok (.putfield 60, 3) := by decide +kernel
theorem dX4_init_134 : decode cX4_init 134 = .ok (.aload_n 0, 1) := by decide +kernel
theorem dX4_init_135 : decode cX4_init 135 = .ok (.bipush 8, 2) := by decide +kernel
theorem dX4_init_137 : decode cX4_init 137 = .ok (.newarray .int, 2) := by decide +kernel
theorem dX4_init_139 : decode cX4_init 139 = .ok (.putfield 63, 3) := by decide +kernel
theorem dX4_init_142 : decode cX4_init 142 = .ok (.aload_n 0, 1) := by decide +kernel
theorem dX4_init_143 : decode cX4_init 143 = .ok (.bipush 32, 2) := by decide +kernel
theorem dX4_init_145 : decode cX4_init 145 = .ok (.newarray .int, 2) := by decide +kernel
theorem dX4_init_147 : decode cX4_init 147 = .ok (.putfield 66, 3) := by decide +kernel
theorem dX4_init_150 : decode cX4_init 150 = .ok (.aload_n 0, 1) := by decide +kernel
theorem dX4_init_151 : decode cX4_init 151 = .ok (.iconst 4, 1) := by decide +kernel
theorem dX4_init_152 : decode cX4_init 152 = .ok (.newarray .int, 2) := by decide +kernel
theorem dX4_init_154 : decode cX4_init 154 = .ok (.putfield 69, 3) := by decide +kernel
theorem dX4_init_157 : decode cX4_init 157 = .ok (.aload_n 0, 1) := by decide +kernel
theorem dX4_init_158 : decode cX4_init 158 = .ok (.iconst 4, 1) := by decide +kernel
theorem dX4_init_159 : decode cX4_init 159 = .ok (.newarray .int, 2) := by decide +kernel
theorem dX4_init_161 : decode cX4_init 161 = .ok (.putfield 72, 3) := by decide +kernel
theorem dX4_init_164 : decode cX4_init 164 = .ok (.aload_n 0, 1) := by decide +kernel
theorem dX4_init_165 : decode cX4_init 165 = .ok (.bipush 100, 2) := by decide +kernel
theorem dX4_init_167 : decode cX4_init 167 = .ok (.newarray .int, 2) := by decide +kernel
theorem dX4_init_169 : decode cX4_init 169 = .ok (.putfield 75, 3) := by decide +kernel
theorem dX4_init_172 : decode cX4_init 172 = .ok (.aload_n 0, 1) := by decide +kernel
theorem dX4_init_173 : decode cX4_init 173 = .ok (.bipush 100, 2) := by decide +kernel
theorem dX4_init_175 : decode cX4_init 175 = .ok (.newarray .int, 2) := by decide +kernel
theorem dX4_init_177 : decode cX4_init 177 = .ok (.putfield 78, 3) := by decide +kernel
theorem dX4_init_180 : decode cX4_init 180 = .ok (.iconst 0, 1) := by decide +kernel
theorem dX4_init_181 : decode cX4_init 181 = .ok (.istore_n 1, 1) := by decide +kernel
theorem dX4_init_182 : decode cX4_init 182 = .ok (.iload_n 1, 1) := by decide +kernel
theorem dX4_init_183 : decode cX4_init 183 = .ok (.iconst 4, 1) := by decide +kernel
theorem dX4_init_184 : decode cX4_init 184 = .ok (.if_icmp .ge 16, 3) := by decide +kernel
theorem dX4_init_187 : decode cX4_init 187 = .ok (.aload_n 0, 1) := by decide +kernel
theorem dX4_init_188 : decode cX4_init 188 = .ok (.getfield 32, 3) := by decide +kernel
theorem dX4_init_191 : decode cX4_init 191 = .ok (.iload_n 1, 1) := by decide +kernel
theorem dX4_init_192 : decode cX4_init 192 = .ok (.iconst 1, 1) := by decide +kernel
theorem dX4_init_193 : decode cX4_init 193 = .ok (.iastore, 1) := by decide +kernel
theorem dX4_init_194 : decode cX4_init 194 = .ok (.iinc 1 1, 3) := by decide +kernel
theorem dX4_init_197 : decode cX4_init 197 = .ok (.goto (-15), 3) := by decide +kernel
theorem dX4_init_200 : decode cX4_init 200 = .ok (.return_, 1) := by decide +kernel
theorem dX4_in_0 : decode cX4_in 0 = .ok (.lload_n 0, 1) := by decide +kernel
theorem dX4_in_1 : decode cX4_in 1 = .ok (.lload_n 2, 1) := by decide +kernel
theorem dX4_in_2 : decode cX4_in 2 = .ok (.lcmp, 1) := by decide +kernel
theorem dX4_in_3 : decode cX4_in 3 = .ok (.ifCond .lt 14, 3) := by decide +kernel
theorem dX4_in_6 : decode cX4_in 6 = .ok (.lload_n 0, 1) := by decide +kernel
theorem dX4_in_7 : decode cX4_in 7 = .ok (.lload 4, 2) := by decide +kernel
theorem dX4_in_9 : decode cX4_in 9 = .ok (.lcmp, 1) := by decide +kernel
theorem dX4_in_10 : decode cX4_in 10 = .ok (.ifCond .gt 7, 3) := by decide +kernel
theorem dX4_in_13 : decode cX4_in 13 = .ok (.iconst 1, 1) := by decide +kernel
theorem dX4_in_14 : decode cX4_in 14 = .ok (.goto 4, 3) := by decide +kernel
theorem dX4_in_17 : decode cX4_in 17 = .ok (.iconst 0, 1) := by decide +kernel
theorem dX4_in_18 : decode cX4_in 18 = .ok (.ireturn, 1) := by decide +kernel
theorem dX4_isPlace_0 : decode cX4_isPlace 0 = .ok (.iload_n 1, 1) := by decide +kernel
theorem dX4_isPlace_1 : decode cX4_isPlace 1 = .ok (.i2l, 1) := by decide +kernel
theorem dX4_isPlace_2 : decode cX4_isPlace 2 = .ok (.lconst 0, 1) := by decide +kernel
theorem dX4_isPlace_3 : decode cX4_isPlace 3 = .ok (.aload_n 0, 1) := by decide +kernel
theorem dX4_isPlace_4 : decode cX4_isPlace 4 = .ok (.getfield 81, 3) := by decide +kernel
theorem dX4_isPlace_7 : decode cX4_isPlace 7 = .ok (.iconst 1, 1) := by decide +kernel
theorem dX4_isPlace_8 : decode cX4_isPlace 8 = .ok (.isub, 1) := by decide +kernel
theorem dX4_isPlace_9 : decode cX4_isPlace 9 = .ok (.i2l, 1) := by decide +kernel
theorem dX4_isPlace_10 : decode cX4_isPlace 10 = .ok (.invokestatic 84, 3) := by decide +kernel
theorem dX4_isPlace_13 : decode cX4_isPlace 13 = .ok (.ireturn, 1) := by decide +kernel
theorem dX4_isRegister_0 : decode cX4_isRegister 0 = .ok (.iload_n 0, 1) := by decide +kernel
theorem dX4_isRegister_1 : decode cX4_isRegister 1 = .ok (.i2l, 1) := by decide +kernel
theorem dX4_isRegister_2 : decode cX4_isRegister 2 = .ok (.lconst 0, 1) := by decide +kernel
theorem dX4_isRegister_3 : decode cX4_isRegister 3 = .ok (.ldc2_w 88, 3) := by decide +kernel
theorem dX4_isRegister_6 : decode cX4_isRegister 6 = .ok (.invokestatic 84, 3) := by decide +kernel
theorem dX4_isRegister_9 : decode cX4_isRegister 9 = .ok (.ireturn, 1) := by decide +kernel
theorem dX4_fits_0 : decode cX4_fits 0 = .ok (.iload_n 0, 1) := by decide +kernel
theorem dX4_fits_1 : decode cX4_fits 1 = .ok (.tableswitch 197 0 13 #[71, 73, 78, 103, 103, 103, 103, 130, 130, 78, 78, 162, 187, 71], 71) := by decide +kernel
theorem dX4_fits_72 : decode cX4_fits 72 = .ok (.iconst 1, 1) := by decide +kernel
theorem dX4_fits_73 : decode cX4_fits 73 = .ok (.ireturn, 1) := by decide +kernel
theorem dX4_fits_74 : decode cX4_fits 74 = .ok (.iload_n 1, 1) := by decide +kernel
theorem dX4_fits_75 : decode cX4_fits 75 = .ok (.invokestatic 90, 3) := by decide +kernel
theorem dX4_fits_78 : decode cX4_fits 78 = .ok (.ireturn, 1) := by decide +kernel
theorem dX4_fits_79 : decode cX4_fits 79 = .ok (.iload_n 1, 1) := by decide +kernel
theorem dX4_fits_80 : decode cX4_fits 80 = .ok (.invokestatic 90, 3) := by decide +kernel
theorem dX4_fits_83 : decode cX4_fits 83 = .ok (.ifCond .eq 19, 3) := by decide +kernel
theorem dX4_fits_86 : decode cX4_fits 86 = .ok (.iload_n 2, 1) := by decide +kernel
theorem dX4_fits_87 : decode cX4_fits 87 = .ok (.i2l, 1) := by decide +kernel
theorem dX4_fits_88 : decode cX4_fits 88 = .ok (.lconst 0, 1) := by decide +kernel
theorem dX4_fits_89 : decode cX4_fits 89 = .ok (.ldc2_w 94, 3) := by decide +kernel
theorem dX4_fits_92 : decode cX4_fits 92 = .ok (.invokestatic 84, 3) := by decide +kernel
theorem dX4_fits_95 : decode cX4_fits 95 = .ok (.ifCond .eq 7, 3) := by decide +kernel
theorem dX4_fits_98 : decode cX4_fits 98 = .ok (.iconst 1, 1) := by decide +kernel
theorem dX4_fits_99 : decode cX4_fits 99 = .ok (.goto 4, 3) := by decide +kernel
theorem dX4_fits_102 : decode cX4_fits 102 = .ok (.iconst 0, 1) := by decide +kernel
theorem dX4_fits_103 : decode cX4_fits 103 = .ok (.ireturn, 1) := by decide +kernel
theorem dX4_fits_104 : decode cX4_fits 104 = .ok (.iload_n 1, 1) := by decide +kernel
theorem dX4_fits_105 : decode cX4_fits 105 = .ok (.invokestatic 90, 3) := by decide +kernel
theorem dX4_fits_108 : decode cX4_fits 108 = .ok (.ifCond .eq 21, 3) := by decide +kernel
theorem dX4_fits_111 : decode cX4_fits 111 = .ok (.iload_n 2, 1) := by decide +kernel
theorem dX4_fits_112 : decode cX4_fits 112 = .ok (.invokestatic 90, 3) := by decide +kernel
theorem dX4_fits_115 : decode cX4_fits 115 = .ok (.ifCond .eq 14, 3) := by decide +kernel
theorem dX4_fits_118 : decode cX4_fits 118 = .ok (.iload_n 3, 1) := by decide +kernel
theorem dX4_fits_119 : decode cX4_fits 119 = .ok (.invokestatic 90, 3) := by decide +kernel
theorem dX4_fits_122 : decode cX4_fits 122 = .ok (.ifCond .eq 7, 3) := by decide +kernel
theorem dX4_fits_125 : decode cX4_fits 125 = .ok (.iconst 1, 1) := by decide +kernel
theorem dX4_fits_126 : decode cX4_fits 126 = .ok (.goto 4, 3) := by decide +kernel
theorem dX4_fits_129 : decode cX4_fits 129 = .ok (.iconst 0, 1) := by decide +kernel
theorem dX4_fits_130 : decode cX4_fits 130 = .ok (.ireturn, 1) := by decide +kernel
theorem dX4_fits_131 : decode cX4_fits 131 = .ok (.iload_n 1, 1) := by decide +kernel
theorem dX4_fits_132 : decode cX4_fits 132 = .ok (.invokestatic 90, 3) := by decide +kernel
theorem dX4_fits_135 : decode cX4_fits 135 = .ok (.ifCond .eq 26, 3) := by decide +kernel
theorem dX4_fits_138 : decode cX4_fits 138 = .ok (.iload_n 2, 1) := by decide +kernel
theorem dX4_fits_139 : decode cX4_fits 139 = .ok (.invokestatic 90, 3) := by decide +kernel
theorem dX4_fits_142 : decode cX4_fits 142 = .ok (.ifCond .eq 19, 3) := by decide +kernel
theorem dX4_fits_145 : decode cX4_fits 145 = .ok (.iload_n 3, 1) := by decide +kernel
theorem dX4_fits_146 : decode cX4_fits 146 = .ok (.i2l, 1) := by decide +kernel
theorem dX4_fits_147 : decode cX4_fits 147 = .ok (.lconst 0, 1) := by decide +kernel
theorem dX4_fits_148 : decode cX4_fits 148 = .ok (.ldc2_w 94, 3) := by decide +kernel
theorem dX4_fits_151 : decode cX4_fits 151 = .ok (.invokestatic 84, 3) := by decide +kernel
theorem dX4_fits_154 : decode cX4_fits 154 = .ok (.ifCond .eq 7, 3) := by decide +kernel
theorem dX4_fits_157 : decode cX4_fits 157 = .ok (.iconst 1, 1) := by decide +kernel
theorem dX4_fits_158 : decode cX4_fits 158 = .ok (.goto 4, 3) := by decide +kernel
theorem dX4_fits_161 : decode cX4_fits 161 = .ok (.iconst 0, 1) := by decide +kernel
theorem dX4_fits_162 : decode cX4_fits 162 = .ok (.ireturn, 1) := by decide +kernel
theorem dX4_fits_163 : decode cX4_fits 163 = .ok (.iload_n 1, 1) := by decide +kernel
theorem dX4_fits_164 : decode cX4_fits 164 = .ok (.invokestatic 90, 3) := by decide +kernel
theorem dX4_fits_167 : decode cX4_fits 167 = .ok (.ifCond .eq 19, 3) := by decide +kernel
theorem dX4_fits_170 : decode cX4_fits 170 = .ok (.iload_n 2, 1) := by decide +kernel
theorem dX4_fits_171 : decode cX4_fits 171 = .ok (.i2l, 1) := by decide +kernel
theorem dX4_fits_172 : decode cX4_fits 172 = .ok (.lconst 0, 1) := by decide +kernel
theorem dX4_fits_173 : decode cX4_fits 173 = .ok (.ldc2_w 96, 3) := by decide +kernel
theorem dX4_fits_176 : decode cX4_fits 176 = .ok (.invokestatic 84, 3) := by decide +kernel
theorem dX4_fits_179 : decode cX4_fits 179 = .ok (.ifCond .eq 7, 3) := by decide +kernel
theorem dX4_fits_182 : decode cX4_fits 182 = .ok (.iconst 1, 1) := by decide +kernel
theorem dX4_fits_183 : decode cX4_fits 183 = .ok (.goto 4, 3) := by decide +kernel
theorem dX4_fits_186 : decode cX4_fits 186 = .ok (.iconst 0, 1) := by decide +kernel
theorem dX4_fits_187 : decode cX4_fits 187 = .ok (.ireturn, 1) := by decide +kernel
theorem dX4_fits_188 : decode cX4_fits 188 = .ok (.iload_n 2, 1) := by decide +kernel
theorem dX4_fits_189 : decode cX4_fits 189 = .ok (.i2l, 1) := by decide +kernel
theorem dX4_fits_190 : decode cX4_fits 190 = .ok (.lconst 0, 1) := by decide +kernel
theorem dX4_fits_191 : decode cX4_fits 191 = .ok (.ldc2_w 96, 3) := by decide +kernel
theorem dX4_fits_194 : decode cX4_fits 194 = .ok (.invokestatic 84, 3) := by decide +kernel
theorem dX4_fits_197 : decode cX4_fits 197 = .ok (.ireturn, 1) := by decide +kernel
theorem dX4_fits_198 : decode cX4_fits 198 = .ok (.iconst 0, 1) := by decide +kernel
theorem dX4_fits_199 : decode cX4_fits 199 = .ok (.ireturn, 1) := by decide +kernel
theorem dX4_write_0 : decode cX4_write 0 = .ok (.aload_n 0, 1) := by decide +kernel
theorem dX4_write_1 : decode cX4_write 1 = .ok (.iconst 0, 1) := by decide +kernel
theorem dX4_write_2 : decode cX4_write 2 = .ok (.putfield 98, 3) := by decide +kernel
theorem dX4_write_5 : decode cX4_write 5 = .ok (.aload_n 0, 1) := by decide +kernel
theorem dX4_write_6 : decode cX4_write 6 = .ok (.getfield 7, 3) := by decide +kernel
theorem dX4_write_9 : decode cX4_write 9 = .ok (.iload_n 1, 1) := by decide +kernel
theorem dX4_write_10 : decode cX4_write 10 = .ok (.iload_n 2, 1) := by decide +kernel
theorem dX4_write_11 : decode cX4_write 11 = .ok (.iastore, 1) := by decide +kernel
theorem dX4_write_12 : decode cX4_write 12 = .ok (.aload_n 0, 1) := by decide +kernel
theorem dX4_write_13 : decode cX4_write 13 = .ok (.getfield 13, 3) := by decide +kernel
theorem dX4_write_16 : decode cX4_write 16 = .ok (.iload_n 1, 1) := by decide +kernel
theorem dX4_write_17 : decode cX4_write 17 = .ok (.iload_n 3, 1) := by decide +kernel
theorem dX4_write_18 : decode cX4_write 18 = .ok (.iastore, 1) := by decide +kernel
theorem dX4_write_19 : decode cX4_write 19 = .ok (.aload_n 0, 1) := by decide +kernel
theorem dX4_write_20 : decode cX4_write 20 = .ok (.getfield 16, 3) := by decide +kernel
theorem dX4_write_23 : decode cX4_write 23 = .ok (.iload_n 1, 1) := by decide +kernel
theorem dX4_write_24 : decode cX4_write 24 = .ok (.iload 4, 2) := by decide +kernel
theorem dX4_write_26 : decode cX4_write 26 = .ok (.iastore, 1) := by decide +kernel
theorem dX4_write_27 : decode cX4_write 27 = .ok (.aload_n 0, 1) := by decide +kernel
theorem dX4_write_28 : decode cX4_write 28 = .ok (.getfield 19, 3) := by decide +kernel
theorem dX4_write_31 : decode cX4_write 31 = .ok (.iload_n 1, 1) := by decide +kernel
theorem dX4_write_32 : decode cX4_write 32 = .ok (.iload 5, 2) := by decide +kernel
theorem dX4_write_34 : decode cX4_write 34 = .ok (.iastore, 1) := by decide +kernel
theorem dX4_write_35 : decode cX4_write 35 = .ok (.return_, 1) := by decide +kernel
theorem dX4_line_0 : decode cX4_line 0 = .ok (.iload_n 1, 1) := by decide +kernel
theorem dX4_line_1 : decode cX4_line 1 = .ok (.iload_n 2, 1) := by decide +kernel
theorem dX4_line_2 : decode cX4_line 2 = .ok (.iload_n 3, 1) := by decide +kernel
theorem dX4_line_3 : decode cX4_line 3 = .ok (.iload 4, 2) := by decide +kernel
theorem dX4_line_5 : decode cX4_line 5 = .ok (.invokestatic 102, 3) := by decide +kernel
theorem dX4_line_8 : decode cX4_line 8 = .ok (.ifCond .ne 5, 3) := by decide +kernel
theorem dX4_line_11 : decode cX4_line 11 = .ok (.iconst (-1), 1) := by decide +kernel
theorem dX4_line_12 : decode cX4_line 12 = .ok (.ireturn, 1) := by decide +kernel
theorem dX4_line_13 : decode cX4_line 13 = .ok (.aload_n 0, 1) := by decide +kernel
theorem dX4_line_14 : decode cX4_line 14 = .ok (.getfield 81, 3) := by decide +kernel
theorem dX4_line_17 : decode cX4_line 17 = .ok (.bipush 24, 2) := by decide +kernel
theorem dX4_line_19 : decode cX4_line 19 = .ok (.if_icmp .ne 6, 3) := by decide +kernel
theorem dX4_line_22 : decode cX4_line 22 = .ok (.bipush (-2), 2) := by decide +kernel
theorem dX4_line_24 : decode cX4_line 24 = .ok (.ireturn, 1) := by decide +kernel
theorem dX4_line_25 : decode cX4_line 25 = .ok (.aload_n 0, 1) := by decide +kernel
theorem dX4_line_26 : decode cX4_line 26 = .ok (.aload_n 0, 1) := by decide +kernel
theorem dX4_line_27 : decode cX4_line 27 = .ok (.getfield 81, 3) := by decide +kernel
theorem dX4_line_30 : decode cX4_line 30 = .ok (.iload_n 1, 1) := by decide +kernel
theorem dX4_line_31 : decode cX4_line 31 = .ok (.iload_n 2, 1) := by decide +kernel
theorem dX4_line_32 : decode cX4_line 32 = .ok (.iload_n 3, 1) := by decide +kernel
theorem dX4_line_33 : decode cX4_line 33 = .ok (.iload 4, 2) := by decide +kernel
theorem dX4_line_35 : decode cX4_line 35 = .ok (.invokevirtual 106, 3) := by decide +kernel
theorem dX4_line_38 : decode cX4_line 38 = .ok (.aload_n 0, 1) := by decide +kernel
theorem dX4_line_39 : decode cX4_line 39 = .ok (.dup, 1) := by decide +kernel
theorem dX4_line_40 : decode cX4_line 40 = .ok (.getfield 81, 3) := by decide +kernel
theorem dX4_line_43 : decode cX4_line 43 = .ok (.iconst 1, 1) := by decide +kernel
theorem dX4_line_44 : decode cX4_line 44 = .ok (.iadd, 1) := by decide +kernel
theorem dX4_line_45 : decode cX4_line 45 = .ok (.putfield 81, 3) := by decide +kernel
theorem dX4_line_48 : decode cX4_line 48 = .ok (.aload_n 0, 1) := by decide +kernel
theorem dX4_line_49 : decode cX4_line 49 = .ok (.getfield 81, 3) := by decide +kernel
theorem dX4_line_52 : decode cX4_line 52 = .ok (.iconst 1, 1) := by decide +kernel
theorem dX4_line_53 : decode cX4_line 53 = .ok (.isub, 1) := by decide +kernel
theorem dX4_line_54 : decode cX4_line 54 = .ok (.ireturn, 1) := by decide +kernel
theorem dX4_change_0 : decode cX4_change 0 = .ok (.aload_n 0, 1) := by decide +kernel
theorem dX4_change_1 : decode cX4_change 1 = .ok (.iload_n 1, 1) := by decide +kernel
theorem dX4_change_2 : decode cX4_change 2 = .ok (.invokevirtual 110, 3) := by decide +kernel
theorem dX4_change_5 : decode cX4_change 5 = .ok (.ifCond .eq 15, 3) := by decide +kernel
theorem dX4_change_8 : decode cX4_change 8 = .ok (.iload_n 2, 1) := by decide +kernel
theorem dX4_change_9 : decode cX4_change 9 = .ok (.iload_n 3, 1) := by decide +kernel
theorem dX4_change_10 : decode cX4_change 10 = .ok (.iload 4, 2) := by decide +kernel
theorem dX4_change_12 : decode cX4_change 12 = .ok (.iload 5, 2) := by decide +kernel
theorem dX4_change_14 : decode cX4_change 14 = .ok (.invokestatic 102, 3) := by decide +kernel
theorem dX4_change_17 : decode cX4_change 17 = .ok (.ifCond .ne 5, 3) := by decide +kernel
theorem dX4_change_20 : decode cX4_change 20 = .ok (.iconst (-1), 1) := by decide +kernel
theorem dX4_change_21 : decode cX4_change 21 = .ok (.ireturn, 1) := by decide +kernel
theorem dX4_change_22 : decode cX4_change 22 = .ok (.aload_n 0, 1) := by decide +kernel
theorem dX4_change_23 : decode cX4_change 23 = .ok (.getfield 7, 3) := by decide +kernel
theorem dX4_change_26 : decode cX4_change 26 = .ok (.iload_n 1, 1) := by decide +kernel
theorem dX4_change_27 : decode cX4_change 27 = .ok (.iaload, 1) := by decide +kernel
theorem dX4_change_28 : decode cX4_change 28 = .ok (.istore 6, 2) := by decide +kernel
theorem dX4_change_30 : decode cX4_change 30 = .ok (.aload_n 0, 1) := by decide +kernel
theorem dX4_change_31 : decode cX4_change 31 = .ok (.iload_n 1, 1) := by decide +kernel
theorem dX4_change_32 : decode cX4_change 32 = .ok (.iload_n 2, 1) := by decide +kernel
theorem dX4_change_33 : decode cX4_change 33 = .ok (.iload_n 3, 1) := by decide +kernel
theorem dX4_change_34 : decode cX4_change 34 = .ok (.iload 4, 2) := by decide +kernel
theorem dX4_change_36 : decode cX4_change 36 = .ok (.iload 5, 2) := by decide +kernel
theorem dX4_change_38 : decode cX4_change 38 = .ok (.invokevirtual 106, 3) := by decide +kernel
theorem dX4_change_41 : decode cX4_change 41 = .ok (.iload 6, 2) := by decide +kernel
theorem dX4_change_43 : decode cX4_change 43 = .ok (.ireturn, 1) := by decide +kernel
theorem dX4_drop_0 : decode cX4_drop 0 = .ok (.aload_n 0, 1) := by decide +kernel
theorem dX4_drop_1 : decode cX4_drop 1 = .ok (.getfield 81, 3) := by decide +kernel
theorem dX4_drop_4 : decode cX4_drop 4 = .ok (.ifCond .ne 6, 3) := by decide +kernel
theorem dX4_drop_7 : decode cX4_drop 7 = .ok (.bipush (-3), 2) := by decide +kernel
theorem dX4_drop_9 : decode cX4_drop 9 = .ok (.ireturn, 1) := by decide +kernel
theorem dX4_drop_10 : decode cX4_drop 10 = .ok (.aload_n 0, 1) := by decide +kernel
theorem dX4_drop_11 : decode cX4_drop 11 = .ok (.dup, 1) := by decide +kernel
theorem dX4_drop_12 : decode cX4_drop 12 = .ok (.getfield 81, 3) := by decide +kernel
theorem dX4_drop_15 : decode cX4_drop 15 = .ok (.iconst 1, 1) := by decide +kernel
theorem dX4_drop_16 : decode cX4_drop 16 = .ok (.isub, 1) := by decide +kernel
theorem dX4_drop_17 : decode cX4_drop 17 = .ok (.putfield 81, 3) := by decide +kernel
theorem dX4_drop_20 : decode cX4_drop 20 = .ok (.aload_n 0, 1) := by decide +kernel
theorem dX4_drop_21 : decode cX4_drop 21 = .ok (.iconst 0, 1) := by decide +kernel
theorem dX4_drop_22 : decode cX4_drop 22 = .ok (.putfield 98, 3) := by decide +kernel
theorem dX4_drop_25 : decode cX4_drop 25 = .ok (.aload_n 0, 1) := by decide +kernel
theorem dX4_drop_26 : decode cX4_drop 26 = .ok (.getfield 81, 3) := by decide +kernel
theorem dX4_drop_29 : decode cX4_drop 29 = .ok (.ireturn, 1) := by decide +kernel
theorem dX4_start_0 : decode cX4_start 0 = .ok (.iload_n 1, 1) := by decide +kernel
theorem dX4_start_1 : decode cX4_start 1 = .ok (.i2l, 1) := by decide +kernel
theorem dX4_start_2 : decode cX4_start 2 = .ok (.lconst 0, 1) := by decide +kernel
theorem dX4_start_3 : decode cX4_start 3 = .ok (.ldc2_w 94, 3) := by decide +kernel
theorem dX4_start_6 : decode cX4_start 6 = .ok (.invokestatic 84, 3) := by decide +kernel
theorem dX4_start_9 : decode cX4_start 9 = .ok (.ifCond .ne 5, 3) := by decide +kernel
theorem dX4_start_12 : decode cX4_start 12 = .ok (.iconst (-1), 1) := by decide +kernel
theorem dX4_start_13 : decode cX4_start 13 = .ok (.ireturn, 1) := by decide +kernel
theorem dX4_start_14 : decode cX4_start 14 = .ok (.aload_n 0, 1) := by decide +kernel
theorem dX4_start_15 : decode cX4_start 15 = .ok (.getfield 25, 3) := by decide +kernel
theorem dX4_start_18 : decode cX4_start 18 = .ok (.iload_n 1, 1) := by decide +kernel
theorem dX4_start_19 : decode cX4_start 19 = .ok (.iload_n 2, 1) := by decide +kernel
theorem dX4_start_20 : decode cX4_start 20 = .ok (.iastore, 1) := by decide +kernel
theorem dX4_start_21 : decode cX4_start 21 = .ok (.aload_n 0, 1) := by decide +kernel
theorem dX4_start_22 : decode cX4_start 22 = .ok (.getfield 28, 3) := by decide +kernel
theorem dX4_start_25 : decode cX4_start 25 = .ok (.iload_n 1, 1) := by decide +kernel
theorem dX4_start_26 : decode cX4_start 26 = .ok (.iload_n 3, 1) := by decide +kernel
theorem dX4_start_27 : decode cX4_start 27 = .ok (.bastore, 1) := by decide +kernel
theorem dX4_start_28 : decode cX4_start 28 = .ok (.aload_n 0, 1) := by decide +kernel
theorem dX4_start_29 : decode cX4_start 29 = .ok (.iconst 0, 1) := by decide +kernel
theorem dX4_start_30 : decode cX4_start 30 = .ok (.putfield 98, 3) := by decide +kernel
theorem dX4_start_33 : decode cX4_start 33 = .ok (.iconst 1, 1) := by decide +kernel
theorem dX4_start_34 : decode cX4_start 34 = .ok (.ireturn, 1) := by decide +kernel
theorem dX4_points_0 : decode cX4_points 0 = .ok (.iload_n 1, 1) := by decide +kernel
theorem dX4_points_1 : decode cX4_points 1 = .ok (.i2l, 1) := by decide +kernel
theorem dX4_points_2 : decode cX4_points 2 = .ok (.lconst 0, 1) := by decide +kernel
theorem dX4_points_3 : decode cX4_points 3 = .ok (.ldc2_w 94, 3) := by decide +kernel
theorem dX4_points_6 : decode cX4_points 6 = .ok (.invokestatic 84, 3) := by decide +kernel
theorem dX4_points_9 : decode cX4_points 9 = .ok (.ifCond .eq 15, 3) := by decide +kernel
theorem dX4_points_12 : decode cX4_points 12 = .ok (.iload_n 2, 1) := by decide +kernel
theorem dX4_points_13 : decode cX4_points 13 = .ok (.i2l, 1) := by decide +kernel
theorem dX4_points_14 : decode cX4_points 14 = .ok (.lconst 1, 1) := by decide +kernel
theorem dX4_points_15 : decode cX4_points 15 = .ok (.ldc2_w 113, 3) := by decide +kernel
theorem dX4_points_18 : decode cX4_points 18 = .ok (.invokestatic 84, 3) := by decide +kernel
theorem dX4_points_21 : decode cX4_points 21 = .ok (.ifCond .ne 5, 3) := by decide +kernel
theorem dX4_points_24 : decode cX4_points 24 = .ok (.iconst (-1), 1) := by decide +kernel
theorem dX4_points_25 : decode cX4_points 25 = .ok (.ireturn, 1) := by decide +kernel
theorem dX4_points_26 : decode cX4_points 26 = .ok (.aload_n 0, 1) := by decide +kernel
theorem dX4_points_27 : decode cX4_points 27 = .ok (.getfield 32, 3) := by decide +kernel
theorem dX4_points_30 : decode cX4_points 30 = .ok (.iload_n 1, 1) := by decide +kernel
theorem dX4_points_31 : decode cX4_points 31 = .ok (.iaload, 1) := by decide +kernel
theorem dX4_points_32 : decode cX4_points 32 = .ok (.istore_n 3, 1) := by decide +kernel
theorem dX4_points_33 : decode cX4_points 33 = .ok (.aload_n 0, 1) := by decide +kernel
theorem dX4_points_34 : decode cX4_points 34 = .ok (.getfield 32, 3) := by decide +kernel
theorem dX4_points_37 : decode cX4_points 37 = .ok (.iload_n 1, 1) := by decide +kernel
theorem dX4_points_38 : decode cX4_points 38 = .ok (.iload_n 2, 1) := by decide +kernel
theorem dX4_points_39 : decode cX4_points 39 = .ok (.iastore, 1) := by decide +kernel
theorem dX4_points_40 : decode cX4_points 40 = .ok (.aload_n 0, 1) := by decide +kernel
theorem dX4_points_41 : decode cX4_points 41 = .ok (.iconst 0, 1) := by decide +kernel
theorem dX4_points_42 : decode cX4_points 42 = .ok (.putfield 98, 3) := by decide +kernel
theorem dX4_points_45 : decode cX4_points 45 = .ok (.iload_n 3, 1) := by decide +kernel
theorem dX4_points_46 : decode cX4_points 46 = .ok (.ireturn, 1) := by decide +kernel
theorem dX4_input_0 : decode cX4_input 0 = .ok (.iload_n 1, 1) := by decide +kernel
theorem dX4_input_1 : decode cX4_input 1 = .ok (.i2l, 1) := by decide +kernel
theorem dX4_input_2 : decode cX4_input 2 = .ok (.lconst 0, 1) := by decide +kernel
theorem dX4_input_3 : decode cX4_input 3 = .ok (.ldc2_w 94, 3) := by decide +kernel
theorem dX4_input_6 : decode cX4_input 6 = .ok (.invokestatic 84, 3) := by decide +kernel
theorem dX4_input_9 : decode cX4_input 9 = .ok (.ifCond .ne 5, 3) := by decide +kernel
theorem dX4_input_12 : decode cX4_input 12 = .ok (.iconst (-1), 1) := by decide +kernel
theorem dX4_input_13 : decode cX4_input 13 = .ok (.ireturn, 1) := by decide +kernel
theorem dX4_input_14 : decode cX4_input 14 = .ok (.aload_n 0, 1) := by decide +kernel
theorem dX4_input_15 : decode cX4_input 15 = .ok (.getfield 22, 3) := by decide +kernel
theorem dX4_input_18 : decode cX4_input 18 = .ok (.iload_n 1, 1) := by decide +kernel
theorem dX4_input_19 : decode cX4_input 19 = .ok (.iload_n 2, 1) := by decide +kernel
theorem dX4_input_20 : decode cX4_input 20 = .ok (.iastore, 1) := by decide +kernel
theorem dX4_input_21 : decode cX4_input 21 = .ok (.iconst 1, 1) := by decide +kernel
theorem dX4_input_22 : decode cX4_input 22 = .ok (.ireturn, 1) := by decide +kernel
theorem dX4_place_0 : decode cX4_place 0 = .ok (.iload_n 1, 1) := by decide +kernel
theorem dX4_place_1 : decode cX4_place 1 = .ok (.aload_n 0, 1) := by decide +kernel
theorem dX4_place_2 : decode cX4_place 2 = .ok (.getfield 81, 3) := by decide +kernel
theorem dX4_place_5 : decode cX4_place 5 = .ok (.if_icmp .ge 9, 3) := by decide +kernel
theorem dX4_place_8 : decode cX4_place 8 = .ok (.iconst 1, 1) := by decide +kernel
theorem dX4_place_9 : decode cX4_place 9 = .ok (.iload_n 1, 1) := by decide +kernel
theorem dX4_place_10 : decode cX4_place 10 = .ok (.ishl, 1) := by decide +kernel
theorem dX4_place_11 : decode cX4_place 11 = .ok (.goto 5, 3) := by decide +kernel
theorem dX4_place_14 : decode cX4_place 14 = .ok (.ldc 115, 2) := by decide +kernel
theorem dX4_place_16 : decode cX4_place 16 = .ok (.ireturn, 1) := by decide +kernel
theorem dX4_canFail_0 : decode cX4_canFail 0 = .ok (.aload_n 0, 1) := by decide +kernel
theorem dX4_canFail_1 : decode cX4_canFail 1 = .ok (.getfield 7, 3) := by decide +kernel
theorem dX4_canFail_4 : decode cX4_canFail 4 = .ok (.iload_n 1, 1) := by decide +kernel
theorem dX4_canFail_5 : decode cX4_canFail 5 = .ok (.iaload, 1) := by decide +kernel
theorem dX4_canFail_6 : decode cX4_canFail 6 = .ok (.bipush 6, 2) := by decide +kernel
theorem dX4_canFail_8 : decode cX4_canFail 8 = .ok (.if_icmp .eq 39, 3) := by decide +kernel
theorem dX4_canFail_11 : decode cX4_canFail 11 = .ok (.aload_n 0, 1) := by decide +kernel
theorem dX4_canFail_12 : decode cX4_canFail 12 = .ok (.getfield 7, 3) := by decide +kernel
theorem dX4_canFail_15 : decode cX4_canFail 15 = .ok (.iload_n 1, 1) := by decide +kernel
theorem dX4_canFail_16 : decode cX4_canFail 16 = .ok (.iaload, 1) := by decide +kernel
theorem dX4_canFail_17 : decode cX4_canFail 17 = .ok (.bipush 9, 2) := by decide +kernel
theorem dX4_canFail_19 : decode cX4_canFail 19 = .ok (.if_icmp .eq 14, 3) := by decide +kernel
theorem dX4_canFail_22 : decode cX4_canFail 22 = .ok (.aload_n 0, 1) := by decide +kernel
theorem dX4_canFail_23 : decode cX4_canFail 23 = .ok (.getfield 7, 3) := by decide +kernel
theorem dX4_canFail_26 : decode cX4_canFail 26 = .ok (.iload_n 1, 1) := by decide +kernel
theorem dX4_canFail_27 : decode cX4_canFail 27 = .ok (.iaload, 1) := by decide +kernel
theorem dX4_canFail_28 : decode cX4_canFail 28 = .ok (.bipush 10, 2) := by decide +kernel
theorem dX4_canFail_30 : decode cX4_canFail 30 = .ok (.if_icmp .ne 21, 3) := by decide +kernel
theorem dX4_canFail_33 : decode cX4_canFail 33 = .ok (.aload_n 0, 1) := by decide +kernel
theorem dX4_canFail_34 : decode cX4_canFail 34 = .ok (.getfield 28, 3) := by decide +kernel
theorem dX4_canFail_37 : decode cX4_canFail 37 = .ok (.aload_n 0, 1) := by decide +kernel
theorem dX4_canFail_38 : decode cX4_canFail 38 = .ok (.getfield 16, 3) := by decide +kernel
theorem dX4_canFail_41 : decode cX4_canFail 41 = .ok (.iload_n 1, 1) := by decide +kernel
theorem dX4_canFail_42 : decode cX4_canFail 42 = .ok (.iaload, 1) := by decide +kernel
theorem dX4_canFail_43 : decode cX4_canFail 43 = .ok (.baload, 1) := by decide +kernel
theorem dX4_canFail_44 : decode cX4_canFail 44 = .ok (.ifCond .eq 7, 3) := by decide +kernel
theorem dX4_canFail_47 : decode cX4_canFail 47 = .ok (.iconst 1, 1) := by decide +kernel
theorem dX4_canFail_48 : decode cX4_canFail 48 = .ok (.goto 4, 3) := by decide +kernel
theorem dX4_canFail_51 : decode cX4_canFail 51 = .ok (.iconst 0, 1) := by decide +kernel
theorem dX4_canFail_52 : decode cX4_canFail 52 = .ok (.ireturn, 1) := by decide +kernel
theorem dX4_nexts_0 : decode cX4_nexts 0 = .ok (.aload_n 0, 1) := by decide +kernel
theorem dX4_nexts_1 : decode cX4_nexts 1 = .ok (.iload_n 1, 1) := by decide +kernel
theorem dX4_nexts_2 : decode cX4_nexts 2 = .ok (.iconst 1, 1) := by decide +kernel
theorem dX4_nexts_3 : decode cX4_nexts 3 = .ok (.iadd, 1) := by decide +kernel
theorem dX4_nexts_4 : decode cX4_nexts 4 = .ok (.invokevirtual 116, 3) := by decide +kernel
theorem dX4_nexts_7 : decode cX4_nexts 7 = .ok (.istore_n 3, 1) := by decide +kernel
theorem dX4_nexts_8 : decode cX4_nexts 8 = .ok (.aload_n 0, 1) := by decide +kernel
theorem dX4_nexts_9 : decode cX4_nexts 9 = .ok (.getfield 7, 3) := by decide +kernel
theorem dX4_nexts_12 : decode cX4_nexts 12 = .ok (.iload_n 1, 1) := by decide +kernel
theorem dX4_nexts_13 : decode cX4_nexts 13 = .ok (.iaload, 1) := by decide +kernel
theorem dX4_nexts_14 : decode cX4_nexts 14 = .ok (.bipush 12, 2) := by decide +kernel
theorem dX4_nexts_16 : decode cX4_nexts 16 = .ok (.if_icmp .eq 14, 3) := by decide +kernel
theorem dX4_nexts_19 : decode cX4_nexts 19 = .ok (.aload_n 0, 1) := by decide +kernel
theorem dX4_nexts_20 : decode cX4_nexts 20 = .ok (.getfield 7, 3) := by decide +kernel
theorem dX4_nexts_23 : decode cX4_nexts 23 = .ok (.iload_n 1, 1) := by decide +kernel
theorem dX4_nexts_24 : decode cX4_nexts 24 = .ok (.iaload, 1) := by decide +kernel
theorem dX4_nexts_25 : decode cX4_nexts 25 = .ok (.bipush 13, 2) := by decide +kernel
theorem dX4_nexts_27 : decode cX4_nexts 27 = .ok (.if_icmp .ne 45, 3) := by decide +kernel
theorem dX4_nexts_30 : decode cX4_nexts 30 = .ok (.aload_n 0, 1) := by decide +kernel
theorem dX4_nexts_31 : decode cX4_nexts 31 = .ok (.getfield 7, 3) := by decide +kernel
theorem dX4_nexts_34 : decode cX4_nexts 34 = .ok (.iload_n 1, 1) := by decide +kernel
theorem dX4_nexts_35 : decode cX4_nexts 35 = .ok (.iaload, 1) := by decide +kernel
theorem dX4_nexts_36 : decode cX4_nexts 36 = .ok (.bipush 12, 2) := by decide +kernel
theorem dX4_nexts_38 : decode cX4_nexts 38 = .ok (.if_icmp .ne 16, 3) := by decide +kernel
theorem dX4_nexts_41 : decode cX4_nexts 41 = .ok (.aload_n 0, 1) := by decide +kernel
theorem dX4_nexts_42 : decode cX4_nexts 42 = .ok (.aload_n 0, 1) := by decide +kernel
theorem dX4_nexts_43 : decode cX4_nexts 43 = .ok (.getfield 16, 3) := by decide +kernel
theorem dX4_nexts_46 : decode cX4_nexts 46 = .ok (.iload_n 1, 1) := by decide +kernel
theorem dX4_nexts_47 : decode cX4_nexts 47 = .ok (.iaload, 1) := by decide +kernel
theorem dX4_nexts_48 : decode cX4_nexts 48 = .ok (.invokevirtual 116, 3) := by decide +kernel
theorem dX4_nexts_51 : decode cX4_nexts 51 = .ok (.goto 5, 3) := by decide +kernel
theorem dX4_nexts_54 : decode cX4_nexts 54 = .ok (.ldc 115, 2) := by decide +kernel
theorem dX4_nexts_56 : decode cX4_nexts 56 = .ok (.istore 4, 2) := by decide +kernel
theorem dX4_nexts_58 : decode cX4_nexts 58 = .ok (.iload_n 2, 1) := by decide +kernel
theorem dX4_nexts_59 : decode cX4_nexts 59 = .ok (.ifCond .eq 10, 3) := by decide +kernel
theorem dX4_nexts_62 : decode cX4_nexts 62 = .ok (.iload 4, 2) := by decide +kernel
theorem dX4_nexts_64 : decode cX4_nexts 64 = .ok (.iload_n 3, 1) := by decide +kernel
theorem dX4_nexts_65 : decode cX4_nexts 65 = .ok (.ior, 1) := by decide +kernel
theorem dX4_nexts_66 : decode cX4_nexts 66 = .ok (.goto 5, 3) := by decide +kernel
theorem dX4_nexts_69 : decode cX4_nexts 69 = .ok (.iload 4, 2) := by decide +kernel
theorem dX4_nexts_71 : decode cX4_nexts 71 = .ok (.ireturn, 1) := by decide +kernel
theorem dX4_nexts_72 : decode cX4_nexts 72 = .ok (.aload_n 0, 1) := by decide +kernel
theorem dX4_nexts_73 : decode cX4_nexts 73 = .ok (.getfield 7, 3) := by decide +kernel
theorem dX4_nexts_76 : decode cX4_nexts 76 = .ok (.iload_n 1, 1) := by decide +kernel
theorem dX4_nexts_77 : decode cX4_nexts 77 = .ok (.iaload, 1) := by decide +kernel
theorem dX4_nexts_78 : decode cX4_nexts 78 = .ok (.bipush 11, 2) := by decide +kernel
theorem dX4_nexts_80 : decode cX4_nexts 80 = .ok (.if_icmp .ne 18, 3) := by decide +kernel
theorem dX4_nexts_83 : decode cX4_nexts 83 = .ok (.iload_n 3, 1) := by decide +kernel
theorem dX4_nexts_84 : decode cX4_nexts 84 = .ok (.aload_n 0, 1) := by decide +kernel
theorem dX4_nexts_85 : decode cX4_nexts 85 = .ok (.aload_n 0, 1) := by decide +kernel
theorem dX4_nexts_86 : decode cX4_nexts 86 = .ok (.getfield 16, 3) := by decide +kernel
theorem dX4_nexts_89 : decode cX4_nexts 89 = .ok (.iload_n 1, 1) := by decide +kernel
theorem dX4_nexts_90 : decode cX4_nexts 90 = .ok (.iaload, 1) := by decide +kernel
theorem dX4_nexts_91 : decode cX4_nexts 91 = .ok (.invokevirtual 116, 3) := by decide +kernel
theorem dX4_nexts_94 : decode cX4_nexts 94 = .ok (.ior, 1) := by decide +kernel
theorem dX4_nexts_95 : decode cX4_nexts 95 = .ok (.goto 19, 3) := by decide +kernel
theorem dX4_nexts_98 : decode cX4_nexts 98 = .ok (.aload_n 0, 1) := by decide +kernel
theorem dX4_nexts_99 : decode cX4_nexts 99 = .ok (.iload_n 1, 1) := by decide +kernel
theorem dX4_nexts_100 : decode cX4_nexts 100 = .ok (.invokevirtual 120, 3) := by decide +kernel
theorem dX4_nexts_103 : decode cX4_nexts 103 = .ok (.ifCond .eq 10, 3) := by decide +kernel
theorem dX4_nexts_106 : decode cX4_nexts 106 = .ok (.iload_n 3, 1) := by decide +kernel
theorem dX4_nexts_107 : decode cX4_nexts 107 = .ok (.ldc 115, 2) := by decide +kernel
theorem dX4_nexts_109 : decode cX4_nexts 109 = .ok (.ior, 1) := by decide +kernel
theorem dX4_nexts_110 : decode cX4_nexts 110 = .ok (.goto 4, 3) := by decide +kernel
theorem dX4_nexts_113 : decode cX4_nexts 113 = .ok (.iload_n 3, 1) := by decide +kernel
theorem dX4_nexts_114 : decode cX4_nexts 114 = .ok (.ireturn, 1) := by decide +kernel
theorem dX4_reach_0 : decode cX4_reach 0 = .ok (.iload_n 1, 1) := by decide +kernel
theorem dX4_reach_1 : decode cX4_reach 1 = .ok (.iload_n 2, 1) := by decide +kernel
theorem dX4_reach_2 : decode cX4_reach 2 = .ok (.iconst (-1), 1) := by decide +kernel
theorem dX4_reach_3 : decode cX4_reach 3 = .ok (.ixor, 1) := by decide +kernel
theorem dX4_reach_4 : decode cX4_reach 4 = .ok (.iand, 1) := by decide +kernel
theorem dX4_reach_5 : decode cX4_reach 5 = .ok (.istore 4, 2) := by decide +kernel
theorem dX4_reach_7 : decode cX4_reach 7 = .ok (.iconst 0, 1) := by decide +kernel
theorem dX4_reach_8 : decode cX4_reach 8 = .ok (.istore 5, 2) := by decide +kernel
theorem dX4_reach_10 : decode cX4_reach 10 = .ok (.iload 4, 2) := by decide +kernel
theorem dX4_reach_12 : decode cX4_reach 12 = .ok (.iload 5, 2) := by decide +kernel
theorem dX4_reach_14 : decode cX4_reach 14 = .ok (.if_icmp .eq 55, 3) := by decide +kernel
theorem dX4_reach_17 : decode cX4_reach 17 = .ok (.iload 4, 2) := by decide +kernel
theorem dX4_reach_19 : decode cX4_reach 19 = .ok (.istore 5, 2) := by decide +kernel
theorem dX4_reach_21 : decode cX4_reach 21 = .ok (.iconst 0, 1) := by decide +kernel
theorem dX4_reach_22 : decode cX4_reach 22 = .ok (.istore 6, 2) := by decide +kernel
theorem dX4_reach_24 : decode cX4_reach 24 = .ok (.iload 6, 2) := by decide +kernel
theorem dX4_reach_26 : decode cX4_reach 26 = .ok (.aload_n 0, 1) := by decide +kernel
theorem dX4_reach_27 : decode cX4_reach 27 = .ok (.getfield 81, 3) := by decide +kernel
theorem dX4_reach_30 : decode cX4_reach 30 = .ok (.if_icmp .ge 36, 3) := by decide +kernel
theorem dX4_reach_33 : decode cX4_reach 33 = .ok (.iload 4, 2) := by decide +kernel
theorem dX4_reach_35 : decode cX4_reach 35 = .ok (.iload 6, 2) := by decide +kernel
theorem dX4_reach_37 : decode cX4_reach 37 = .ok (.ishr, 1) := by decide +kernel
theorem dX4_reach_38 : decode cX4_reach 38 = .ok (.iconst 1, 1) := by decide +kernel
theorem dX4_reach_39 : decode cX4_reach 39 = .ok (.iand, 1) := by decide +kernel
theorem dX4_reach_40 : decode cX4_reach 40 = .ok (.iconst 1, 1) := by decide +kernel
theorem dX4_reach_41 : decode cX4_reach 41 = .ok (.if_icmp .ne 19, 3) := by decide +kernel
theorem dX4_reach_44 : decode cX4_reach 44 = .ok (.iload 4, 2) := by decide +kernel
theorem dX4_reach_46 : decode cX4_reach 46 = .ok (.aload_n 0, 1) := by decide +kernel
theorem dX4_reach_47 : decode cX4_reach 47 = .ok (.iload 6, 2) := by decide +kernel
theorem dX4_reach_49 : decode cX4_reach 49 = .ok (.iload_n 3, 1) := by decide +kernel
theorem dX4_reach_50 : decode cX4_reach 50 = .ok (.invokevirtual 123, 3) := by decide +kernel
theorem dX4_reach_53 : decode cX4_reach 53 = .ok (.iload_n 2, 1) := by decide +kernel
theorem dX4_reach_54 : decode cX4_reach 54 = .ok (.iconst (-1), 1) := by decide +kernel
theorem dX4_reach_55 : decode cX4_reach 55 = .ok (.ixor, 1) := by decide +kernel
theorem dX4_reach_56 : decode cX4_reach 56 = .ok (.iand, 1) := by decide +kernel
theorem dX4_reach_57 : decode cX4_reach 57 = .ok (.ior, 1) := by decide +kernel
theorem dX4_reach_58 : decode cX4_reach 58 = .ok (.istore 4, 2) := by decide +kernel
theorem dX4_reach_60 : decode cX4_reach 60 = .ok (.iinc 6 1, 3) := by decide +kernel
theorem dX4_reach_63 : decode cX4_reach 63 = .ok (.goto (-39), 3) := by decide +kernel
theorem dX4_reach_66 : decode cX4_reach 66 = .ok (.goto (-56), 3) := by decide +kernel
theorem dX4_reach_69 : decode cX4_reach 69 = .ok (.iload 4, 2) := by decide +kernel
theorem dX4_reach_71 : decode cX4_reach 71 = .ok (.ireturn, 1) := by decide +kernel
theorem dX4_followers_0 : decode cX4_followers 0 = .ok (.iconst 0, 1) := by decide +kernel
theorem dX4_followers_1 : decode cX4_followers 1 = .ok (.istore_n 2, 1) := by decide +kernel
theorem dX4_followers_2 : decode cX4_followers 2 = .ok (.iconst 0, 1) := by decide +kernel
theorem dX4_followers_3 : decode cX4_followers 3 = .ok (.istore_n 3, 1) := by decide +kernel
theorem dX4_followers_4 : decode cX4_followers 4 = .ok (.iload_n 3, 1) := by decide +kernel
theorem dX4_followers_5 : decode cX4_followers 5 = .ok (.aload_n 0, 1) := by decide +kernel
theorem dX4_followers_6 : decode cX4_followers 6 = .ok (.getfield 81, 3) := by decide +kernel
theorem dX4_followers_9 : decode cX4_followers 9 = .ok (.if_icmp .ge 53, 3) := by decide +kernel
theorem dX4_followers_12 : decode cX4_followers 12 = .ok (.aload_n 0, 1) := by decide +kernel
theorem dX4_followers_13 : decode cX4_followers 13 = .ok (.iconst 1, 1) := by decide +kernel
theorem dX4_followers_14 : decode cX4_followers 14 = .ok (.iload_n 1, 1) := by decide +kernel
theorem dX4_followers_15 : decode cX4_followers 15 = .ok (.ishl, 1) := by decide +kernel
theorem dX4_followers_16 : decode cX4_followers 16 = .ok (.iconst 1, 1) := by decide +kernel
theorem dX4_followers_17 : decode cX4_followers 17 = .ok (.iload_n 3, 1) := by decide +kernel
theorem dX4_followers_18 : decode cX4_followers 18 = .ok (.ishl, 1) := by decide +kernel
theorem dX4_followers_19 : decode cX4_followers 19 = .ok (.iconst 1, 1) := by decide +kernel
theorem dX4_followers_20 : decode cX4_followers 20 = .ok (.invokevirtual 127, 3) := by decide +kernel
theorem dX4_followers_23 : decode cX4_followers 23 = .ok (.ldc 115, 2) := by decide +kernel
theorem dX4_followers_25 : decode cX4_followers 25 = .ok (.iand, 1) := by decide +kernel
theorem dX4_followers_26 : decode cX4_followers 26 = .ok (.ifCond .eq 7, 3) := by decide +kernel
theorem dX4_followers_29 : decode cX4_followers 29 = .ok (.iconst 1, 1) := by decide +kernel
theorem dX4_followers_30 : decode cX4_followers 30 = .ok (.goto 4, 3) := by decide +kernel
theorem dX4_followers_33 : decode cX4_followers 33 = .ok (.iconst 0, 1) := by decide +kernel
theorem dX4_followers_34 : decode cX4_followers 34 = .ok (.istore 4, 2) := by decide +kernel
theorem dX4_followers_36 : decode cX4_followers 36 = .ok (.iload_n 3, 1) := by decide +kernel
theorem dX4_followers_37 : decode cX4_followers 37 = .ok (.iload_n 1, 1) := by decide +kernel
theorem dX4_followers_38 : decode cX4_followers 38 = .ok (.if_icmp .eq 16, 3) := by decide +kernel
theorem dX4_followers_41 : decode cX4_followers 41 = .ok (.iload 4, 2) := by decide +kernel
theorem dX4_followers_43 : decode cX4_followers 43 = .ok (.ifCond .ne 11, 3) := by decide +kernel
theorem dX4_followers_46 : decode cX4_followers 46 = .ok (.iload_n 2, 1) := by decide +kernel
theorem dX4_followers_47 : decode cX4_followers 47 = .ok (.iconst 1, 1) := by decide +kernel
theorem dX4_followers_48 : decode cX4_followers 48 = .ok (.iload_n 3, 1) := by decide +kernel
theorem dX4_followers_49 : decode cX4_followers 49 = .ok (.ishl, 1) := by decide +kernel
theorem dX4_followers_50 : decode cX4_followers 50 = .ok (.ior, 1) := by decide +kernel
theorem dX4_followers_51 : decode cX4_followers 51 = .ok (.goto 4, 3) := by decide +kernel
theorem dX4_followers_54 : decode cX4_followers 54 = .ok (.iload_n 2, 1) := by decide +kernel
theorem dX4_followers_55 : decode cX4_followers 55 = .ok (.istore_n 2, 1) := by decide +kernel
theorem dX4_followers_56 : decode cX4_followers 56 = .ok (.iinc 3 1, 3) := by decide +kernel
theorem dX4_followers_59 : decode cX4_followers 59 = .ok (.goto (-55), 3) := by decide +kernel
theorem dX4_followers_62 : decode cX4_followers 62 = .ok (.iload_n 2, 1) := by decide +kernel
theorem dX4_followers_63 : decode cX4_followers 63 = .ok (.ireturn, 1) := by decide +kernel
theorem dX4_follows_0 : decode cX4_follows 0 = .ok (.aload_n 0, 1) := by decide +kernel
theorem dX4_follows_1 : decode cX4_follows 1 = .ok (.iload_n 1, 1) := by decide +kernel
theorem dX4_follows_2 : decode cX4_follows 2 = .ok (.invokevirtual 110, 3) := by decide +kernel
theorem dX4_follows_5 : decode cX4_follows 5 = .ok (.ifCond .eq 11, 3) := by decide +kernel
theorem dX4_follows_8 : decode cX4_follows 8 = .ok (.aload_n 0, 1) := by decide +kernel
theorem dX4_follows_9 : decode cX4_follows 9 = .ok (.iload_n 1, 1) := by decide +kernel
theorem dX4_follows_10 : decode cX4_follows 10 = .ok (.invokevirtual 131, 3) := by decide +kernel
theorem dX4_follows_13 : decode cX4_follows 13 = .ok (.goto 4, 3) := by decide +kernel
theorem dX4_follows_16 : decode cX4_follows 16 = .ok (.iconst (-1), 1) := by decide +kernel
theorem dX4_follows_17 : decode cX4_follows 17 = .ok (.ireturn, 1) := by decide +kernel
theorem dX4_sets_0 : decode cX4_sets 0 = .ok (.aload_n 0, 1) := by decide +kernel
theorem dX4_sets_1 : decode cX4_sets 1 = .ok (.getfield 7, 3) := by decide +kernel
theorem dX4_sets_4 : decode cX4_sets 4 = .ok (.iload_n 1, 1) := by decide +kernel
theorem dX4_sets_5 : decode cX4_sets 5 = .ok (.iaload, 1) := by decide +kernel
theorem dX4_sets_6 : decode cX4_sets 6 = .ok (.istore_n 2, 1) := by decide +kernel
theorem dX4_sets_7 : decode cX4_sets 7 = .ok (.iload_n 2, 1) := by decide +kernel
theorem dX4_sets_8 : decode cX4_sets 8 = .ok (.i2l, 1) := by decide +kernel
theorem dX4_sets_9 : decode cX4_sets 9 = .ok (.lconst 1, 1) := by decide +kernel
theorem dX4_sets_10 : decode cX4_sets 10 = .ok (.ldc2_w 134, 3) := by decide +kernel
theorem dX4_sets_13 : decode cX4_sets 13 = .ok (.invokestatic 84, 3) := by decide +kernel
theorem dX4_sets_16 : decode cX4_sets 16 = .ok (.ifCond .ne 15, 3) := by decide +kernel
theorem dX4_sets_19 : decode cX4_sets 19 = .ok (.iload_n 2, 1) := by decide +kernel
theorem dX4_sets_20 : decode cX4_sets 20 = .ok (.bipush 8, 2) := by decide +kernel
theorem dX4_sets_22 : decode cX4_sets 22 = .ok (.if_icmp .eq 9, 3) := by decide +kernel
theorem dX4_sets_25 : decode cX4_sets 25 = .ok (.iload_n 2, 1) := by decide +kernel
theorem dX4_sets_26 : decode cX4_sets 26 = .ok (.bipush 9, 2) := by decide +kernel
theorem dX4_sets_28 : decode cX4_sets 28 = .ok (.if_icmp .ne 12, 3) := by decide +kernel
theorem dX4_sets_31 : decode cX4_sets 31 = .ok (.aload_n 0, 1) := by decide +kernel
theorem dX4_sets_32 : decode cX4_sets 32 = .ok (.getfield 13, 3) := by decide +kernel
theorem dX4_sets_35 : decode cX4_sets 35 = .ok (.iload_n 1, 1) := by decide +kernel
theorem dX4_sets_36 : decode cX4_sets 36 = .ok (.iaload, 1) := by decide +kernel
theorem dX4_sets_37 : decode cX4_sets 37 = .ok (.goto 5, 3) := by decide +kernel
theorem dX4_sets_40 : decode cX4_sets 40 = .ok (.bipush (-4), 2) := by decide +kernel
theorem dX4_sets_42 : decode cX4_sets 42 = .ok (.ireturn, 1) := by decide +kernel
theorem dX4_reads_0 : decode cX4_reads 0 = .ok (.aload_n 0, 1) := by decide +kernel
theorem dX4_reads_1 : decode cX4_reads 1 = .ok (.getfield 7, 3) := by decide +kernel
theorem dX4_reads_4 : decode cX4_reads 4 = .ok (.iload_n 1, 1) := by decide +kernel
theorem dX4_reads_5 : decode cX4_reads 5 = .ok (.iaload, 1) := by decide +kernel
theorem dX4_reads_6 : decode cX4_reads 6 = .ok (.tableswitch 144 3 11 #[50, 50, 50, 50, 68, 101, 144, 118, 127], 50) := by decide +kernel
theorem dX4_reads_56 : decode cX4_reads 56 = .ok (.iconst 1, 1) := by decide +kernel
theorem dX4_reads_57 : decode cX4_reads 57 = .ok (.aload_n 0, 1) := by decide +kernel
theorem dX4_reads_58 : decode cX4_reads 58 = .ok (.getfield 16, 3) := by decide +kernel
theorem dX4_reads_61 : decode cX4_reads 61 = .ok (.iload_n 1, 1) := by decide +kernel
theorem dX4_reads_62 : decode cX4_reads 62 = .ok (.iaload, 1) := by decide +kernel
theorem dX4_reads_63 : decode cX4_reads 63 = .ok (.ishl, 1) := by decide +kernel
theorem dX4_reads_64 : decode cX4_reads 64 = .ok (.iconst 1, 1) := by decide +kernel
theorem dX4_reads_65 : decode cX4_reads 65 = .ok (.aload_n 0, 1) := by decide +kernel
theorem dX4_reads_66 : decode cX4_reads 66 = .ok (.getfield 19, 3) := by decide +kernel
theorem dX4_reads_69 : decode cX4_reads 69 = .ok (.iload_n 1, 1) := by decide +kernel
theorem dX4_reads_70 : decode cX4_reads 70 = .ok (.iaload, 1) := by decide +kernel
theorem dX4_reads_71 : decode cX4_reads 71 = .ok (.ishl, 1) := by decide +kernel
theorem dX4_reads_72 : decode cX4_reads 72 = .ok (.ior, 1) := by decide +kernel
theorem dX4_reads_73 : decode cX4_reads 73 = .ok (.ireturn, 1) := by decide +kernel
theorem dX4_reads_74 : decode cX4_reads 74 = .ok (.iload_n 2, 1) := by decide +kernel
theorem dX4_reads_75 : decode cX4_reads 75 = .ok (.ifCond .eq 14, 3) := by decide +kernel
theorem dX4_reads_78 : decode cX4_reads 78 = .ok (.iconst 1, 1) := by decide +kernel
theorem dX4_reads_79 : decode cX4_reads 79 = .ok (.aload_n 0, 1) := by decide +kernel
theorem dX4_reads_80 : decode cX4_reads 80 = .ok (.getfield 13, 3) := by decide +kernel
theorem dX4_reads_83 : decode cX4_reads 83 = .ok (.iload_n 1, 1) := by decide +kernel
theorem dX4_reads_84 : decode cX4_reads 84 = .ok (.iaload, 1) := by decide +kernel
theorem dX4_reads_85 : decode cX4_reads 85 = .ok (.ishl, 1) := by decide +kernel
theorem dX4_reads_86 : decode cX4_reads 86 = .ok (.goto 20, 3) := by decide +kernel
theorem dX4_reads_89 : decode cX4_reads 89 = .ok (.iconst 1, 1) := by decide +kernel
theorem dX4_reads_90 : decode cX4_reads 90 = .ok (.aload_n 0, 1) := by decide +kernel
theorem dX4_reads_91 : decode cX4_reads 91 = .ok (.getfield 13, 3) := by decide +kernel
theorem dX4_reads_94 : decode cX4_reads 94 = .ok (.iload_n 1, 1) := by decide +kernel
theorem dX4_reads_95 : decode cX4_reads 95 = .ok (.iaload, 1) := by decide +kernel
theorem dX4_reads_96 : decode cX4_reads 96 = .ok (.ishl, 1) := by decide +kernel
theorem dX4_reads_97 : decode cX4_reads 97 = .ok (.iconst 1, 1) := by decide +kernel
theorem dX4_reads_98 : decode cX4_reads 98 = .ok (.aload_n 0, 1) := by decide +kernel
theorem dX4_reads_99 : decode cX4_reads 99 = .ok (.getfield 16, 3) := by decide +kernel
theorem dX4_reads_102 : decode cX4_reads 102 = .ok (.iload_n 1, 1) := by decide +kernel
theorem dX4_reads_103 : decode cX4_reads 103 = .ok (.iaload, 1) := by decide +kernel
theorem dX4_reads_104 : decode cX4_reads 104 = .ok (.ishl, 1) := by decide +kernel
theorem dX4_reads_105 : decode cX4_reads 105 = .ok (.ior, 1) := by decide +kernel
theorem dX4_reads_106 : decode cX4_reads 106 = .ok (.ireturn, 1) := by decide +kernel
theorem dX4_reads_107 : decode cX4_reads 107 = .ok (.iload_n 2, 1) := by decide +kernel
theorem dX4_reads_108 : decode cX4_reads 108 = .ok (.ifCond .eq 7, 3) := by decide +kernel
theorem dX4_reads_111 : decode cX4_reads 111 = .ok (.iconst 0, 1) := by decide +kernel
theorem dX4_reads_112 : decode cX4_reads 112 = .ok (.goto 11, 3) := by decide +kernel
theorem dX4_reads_115 : decode cX4_reads 115 = .ok (.iconst 1, 1) := by decide +kernel
theorem dX4_reads_116 : decode cX4_reads 116 = .ok (.aload_n 0, 1) := by decide +kernel
theorem dX4_reads_117 : decode cX4_reads 117 = .ok (.getfield 16, 3) := by decide +kernel
theorem dX4_reads_120 : decode cX4_reads 120 = .ok (.iload_n 1, 1) := by decide +kernel
theorem dX4_reads_121 : decode cX4_reads 121 = .ok (.iaload, 1) := by decide +kernel
theorem dX4_reads_122 : decode cX4_reads 122 = .ok (.ishl, 1) := by decide +kernel
theorem dX4_reads_123 : decode cX4_reads 123 = .ok (.ireturn, 1) := by decide +kernel
theorem dX4_reads_124 : decode cX4_reads 124 = .ok (.iconst 1, 1) := by decide +kernel
theorem dX4_reads_125 : decode cX4_reads 125 = .ok (.aload_n 0, 1) := by decide +kernel
theorem dX4_reads_126 : decode cX4_reads 126 = .ok (.getfield 13, 3) := by decide +kernel
end
section
theorem dX4_reads_129 : decode cX4_reads 129 = .ok (.iload_n 1, 1) := by decide +kernel
theorem dX4_reads_130 : decode cX4_reads 130 = .ok (.iaload, 1) := by decide +kernel
theorem dX4_reads_131 : decode cX4_reads 131 = .ok (.ishl, 1) := by decide +kernel
theorem dX4_reads_132 : decode cX4_reads 132 = .ok (.ireturn, 1) := by decide +kernel
theorem dX4_reads_133 : decode cX4_reads 133 = .ok (.iload_n 2, 1) := by decide +kernel
theorem dX4_reads_134 : decode cX4_reads 134 = .ok (.ifCond .eq 7, 3) := by decide +kernel
theorem dX4_reads_137 : decode cX4_reads 137 = .ok (.iconst 0, 1) := by decide +kernel
theorem dX4_reads_138 : decode cX4_reads 138 = .ok (.goto 11, 3) := by decide +kernel
theorem dX4_reads_141 : decode cX4_reads 141 = .ok (.iconst 1, 1) := by decide +kernel
theorem dX4_reads_142 : decode cX4_reads 142 = .ok (.aload_n 0, 1) := by decide +kernel
theorem dX4_reads_143 : decode cX4_reads 143 = .ok (.getfield 13, 3) := by decide +kernel
theorem dX4_reads_146 : decode cX4_reads 146 = .ok (.iload_n 1, 1) := by decide +kernel
theorem dX4_reads_147 : decode cX4_reads 147 = .ok (.iaload, 1) := by decide +kernel
theorem dX4_reads_148 : decode cX4_reads 148 = .ok (.ishl, 1) := by decide +kernel
theorem dX4_reads_149 : decode cX4_reads 149 = .ok (.ireturn, 1) := by decide +kernel
theorem dX4_reads_150 : decode cX4_reads 150 = .ok (.iconst 0, 1) := by decide +kernel
theorem dX4_reads_151 : decode cX4_reads 151 = .ok (.ireturn, 1) := by decide +kernel
theorem dX4_sources_0 : decode cX4_sources 0 = .ok (.iconst 0, 1) := by decide +kernel
theorem dX4_sources_1 : decode cX4_sources 1 = .ok (.istore_n 3, 1) := by decide +kernel
theorem dX4_sources_2 : decode cX4_sources 2 = .ok (.bipush (-4), 2) := by decide +kernel
theorem dX4_sources_4 : decode cX4_sources 4 = .ok (.istore 4, 2) := by decide +kernel
theorem dX4_sources_6 : decode cX4_sources 6 = .ok (.iload_n 3, 1) := by decide +kernel
theorem dX4_sources_7 : decode cX4_sources 7 = .ok (.iload 4, 2) := by decide +kernel
theorem dX4_sources_9 : decode cX4_sources 9 = .ok (.if_icmp .eq 130, 3) := by decide +kernel
theorem dX4_sources_12 : decode cX4_sources 12 = .ok (.iload_n 3, 1) := by decide +kernel
theorem dX4_sources_13 : decode cX4_sources 13 = .ok (.istore 4, 2) := by decide +kernel
theorem dX4_sources_15 : decode cX4_sources 15 = .ok (.iconst 0, 1) := by decide +kernel
theorem dX4_sources_16 : decode cX4_sources 16 = .ok (.istore 5, 2) := by decide +kernel
theorem dX4_sources_18 : decode cX4_sources 18 = .ok (.iload 5, 2) := by decide +kernel
theorem dX4_sources_20 : decode cX4_sources 20 = .ok (.aload_n 0, 1) := by decide +kernel
theorem dX4_sources_21 : decode cX4_sources 21 = .ok (.getfield 81, 3) := by decide +kernel
theorem dX4_sources_24 : decode cX4_sources 24 = .ok (.if_icmp .ge 112, 3) := by decide +kernel
theorem dX4_sources_27 : decode cX4_sources 27 = .ok (.aload_n 0, 1) := by decide +kernel
theorem dX4_sources_28 : decode cX4_sources 28 = .ok (.iload 5, 2) := by decide +kernel
theorem dX4_sources_30 : decode cX4_sources 30 = .ok (.iconst 0, 1) := by decide +kernel
theorem dX4_sources_31 : decode cX4_sources 31 = .ok (.invokevirtual 123, 3) := by decide +kernel
theorem dX4_sources_34 : decode cX4_sources 34 = .ok (.istore 6, 2) := by decide +kernel
theorem dX4_sources_36 : decode cX4_sources 36 = .ok (.iload 6, 2) := by decide +kernel
theorem dX4_sources_38 : decode cX4_sources 38 = .ok (.iload_n 1, 1) := by decide +kernel
theorem dX4_sources_39 : decode cX4_sources 39 = .ok (.ishr, 1) := by decide +kernel
theorem dX4_sources_40 : decode cX4_sources 40 = .ok (.iconst 1, 1) := by decide +kernel
theorem dX4_sources_41 : decode cX4_sources 41 = .ok (.iand, 1) := by decide +kernel
theorem dX4_sources_42 : decode cX4_sources 42 = .ok (.iconst 1, 1) := by decide +kernel
theorem dX4_sources_43 : decode cX4_sources 43 = .ok (.if_icmp .ne 7, 3) := by decide +kernel
theorem dX4_sources_46 : decode cX4_sources 46 = .ok (.iconst 1, 1) := by decide +kernel
theorem dX4_sources_47 : decode cX4_sources 47 = .ok (.goto 4, 3) := by decide +kernel
theorem dX4_sources_50 : decode cX4_sources 50 = .ok (.iconst 0, 1) := by decide +kernel
theorem dX4_sources_51 : decode cX4_sources 51 = .ok (.istore 7, 2) := by decide +kernel
theorem dX4_sources_53 : decode cX4_sources 53 = .ok (.iconst 0, 1) := by decide +kernel
theorem dX4_sources_54 : decode cX4_sources 54 = .ok (.istore 8, 2) := by decide +kernel
theorem dX4_sources_56 : decode cX4_sources 56 = .ok (.iload 8, 2) := by decide +kernel
theorem dX4_sources_58 : decode cX4_sources 58 = .ok (.aload_n 0, 1) := by decide +kernel
theorem dX4_sources_59 : decode cX4_sources 59 = .ok (.getfield 81, 3) := by decide +kernel
theorem dX4_sources_62 : decode cX4_sources 62 = .ok (.if_icmp .ge 52, 3) := by decide +kernel
theorem dX4_sources_65 : decode cX4_sources 65 = .ok (.iload 7, 2) := by decide +kernel
theorem dX4_sources_67 : decode cX4_sources 67 = .ok (.ifCond .ne 47, 3) := by decide +kernel
theorem dX4_sources_70 : decode cX4_sources 70 = .ok (.iload 6, 2) := by decide +kernel
theorem dX4_sources_72 : decode cX4_sources 72 = .ok (.iload 8, 2) := by decide +kernel
theorem dX4_sources_74 : decode cX4_sources 74 = .ok (.ishr, 1) := by decide +kernel
theorem dX4_sources_75 : decode cX4_sources 75 = .ok (.iconst 1, 1) := by decide +kernel
theorem dX4_sources_76 : decode cX4_sources 76 = .ok (.iand, 1) := by decide +kernel
theorem dX4_sources_77 : decode cX4_sources 77 = .ok (.iconst 1, 1) := by decide +kernel
theorem dX4_sources_78 : decode cX4_sources 78 = .ok (.if_icmp .ne 27, 3) := by decide +kernel
theorem dX4_sources_81 : decode cX4_sources 81 = .ok (.iload_n 3, 1) := by decide +kernel
theorem dX4_sources_82 : decode cX4_sources 82 = .ok (.iload 8, 2) := by decide +kernel
theorem dX4_sources_84 : decode cX4_sources 84 = .ok (.ishr, 1) := by decide +kernel
theorem dX4_sources_85 : decode cX4_sources 85 = .ok (.iconst 1, 1) := by decide +kernel
theorem dX4_sources_86 : decode cX4_sources 86 = .ok (.iand, 1) := by decide +kernel
theorem dX4_sources_87 : decode cX4_sources 87 = .ok (.iconst 1, 1) := by decide +kernel
theorem dX4_sources_88 : decode cX4_sources 88 = .ok (.if_icmp .ne 17, 3) := by decide +kernel
theorem dX4_sources_91 : decode cX4_sources 91 = .ok (.aload_n 0, 1) := by decide +kernel
theorem dX4_sources_92 : decode cX4_sources 92 = .ok (.iload 8, 2) := by decide +kernel
theorem dX4_sources_94 : decode cX4_sources 94 = .ok (.iload_n 2, 1) := by decide +kernel
theorem dX4_sources_95 : decode cX4_sources 95 = .ok (.invokevirtual 136, 3) := by decide +kernel
theorem dX4_sources_98 : decode cX4_sources 98 = .ok (.ifCond .ne 7, 3) := by decide +kernel
theorem dX4_sources_101 : decode cX4_sources 101 = .ok (.iconst 1, 1) := by decide +kernel
theorem dX4_sources_102 : decode cX4_sources 102 = .ok (.goto 4, 3) := by decide +kernel
theorem dX4_sources_105 : decode cX4_sources 105 = .ok (.iconst 0, 1) := by decide +kernel
theorem dX4_sources_106 : decode cX4_sources 106 = .ok (.istore 7, 2) := by decide +kernel
theorem dX4_sources_108 : decode cX4_sources 108 = .ok (.iinc 8 1, 3) := by decide +kernel
theorem dX4_sources_111 : decode cX4_sources 111 = .ok (.goto (-55), 3) := by decide +kernel
theorem dX4_sources_114 : decode cX4_sources 114 = .ok (.iload 7, 2) := by decide +kernel
theorem dX4_sources_116 : decode cX4_sources 116 = .ok (.ifCond .eq 12, 3) := by decide +kernel
theorem dX4_sources_119 : decode cX4_sources 119 = .ok (.iload_n 3, 1) := by decide +kernel
theorem dX4_sources_120 : decode cX4_sources 120 = .ok (.iconst 1, 1) := by decide +kernel
theorem dX4_sources_121 : decode cX4_sources 121 = .ok (.iload 5, 2) := by decide +kernel
theorem dX4_sources_123 : decode cX4_sources 123 = .ok (.ishl, 1) := by decide +kernel
theorem dX4_sources_124 : decode cX4_sources 124 = .ok (.ior, 1) := by decide +kernel
theorem dX4_sources_125 : decode cX4_sources 125 = .ok (.goto 4, 3) := by decide +kernel
theorem dX4_sources_128 : decode cX4_sources 128 = .ok (.iload_n 3, 1) := by decide +kernel
theorem dX4_sources_129 : decode cX4_sources 129 = .ok (.istore_n 3, 1) := by decide +kernel
theorem dX4_sources_130 : decode cX4_sources 130 = .ok (.iinc 5 1, 3) := by decide +kernel
theorem dX4_sources_133 : decode cX4_sources 133 = .ok (.goto (-115), 3) := by decide +kernel
theorem dX4_sources_136 : decode cX4_sources 136 = .ok (.goto (-130), 3) := by decide +kernel
theorem dX4_sources_139 : decode cX4_sources 139 = .ok (.iload_n 3, 1) := by decide +kernel
theorem dX4_sources_140 : decode cX4_sources 140 = .ok (.ireturn, 1) := by decide +kernel
theorem dX4_setsIt_0 : decode cX4_setsIt 0 = .ok (.iload_n 2, 1) := by decide +kernel
theorem dX4_setsIt_1 : decode cX4_setsIt 1 = .ok (.ifCond .lt 49, 3) := by decide +kernel
theorem dX4_setsIt_4 : decode cX4_setsIt 4 = .ok (.iload_n 2, 1) := by decide +kernel
theorem dX4_setsIt_5 : decode cX4_setsIt 5 = .ok (.bipush 8, 2) := by decide +kernel
theorem dX4_setsIt_7 : decode cX4_setsIt 7 = .ok (.if_icmp .ge 15, 3) := by decide +kernel
theorem dX4_setsIt_10 : decode cX4_setsIt 10 = .ok (.aload_n 0, 1) := by decide +kernel
theorem dX4_setsIt_11 : decode cX4_setsIt 11 = .ok (.iload_n 1, 1) := by decide +kernel
theorem dX4_setsIt_12 : decode cX4_setsIt 12 = .ok (.invokevirtual 140, 3) := by decide +kernel
theorem dX4_setsIt_15 : decode cX4_setsIt 15 = .ok (.iload_n 2, 1) := by decide +kernel
theorem dX4_setsIt_16 : decode cX4_setsIt 16 = .ok (.if_icmp .ne 34, 3) := by decide +kernel
theorem dX4_setsIt_19 : decode cX4_setsIt 19 = .ok (.goto 27, 3) := by decide +kernel
theorem dX4_setsIt_22 : decode cX4_setsIt 22 = .ok (.aload_n 0, 1) := by decide +kernel
theorem dX4_setsIt_23 : decode cX4_setsIt 23 = .ok (.getfield 7, 3) := by decide +kernel
theorem dX4_setsIt_26 : decode cX4_setsIt 26 = .ok (.iload_n 1, 1) := by decide +kernel
theorem dX4_setsIt_27 : decode cX4_setsIt 27 = .ok (.iaload, 1) := by decide +kernel
theorem dX4_setsIt_28 : decode cX4_setsIt 28 = .ok (.bipush 10, 2) := by decide +kernel
theorem dX4_setsIt_30 : decode cX4_setsIt 30 = .ok (.if_icmp .ne 20, 3) := by decide +kernel
theorem dX4_setsIt_33 : decode cX4_setsIt 33 = .ok (.aload_n 0, 1) := by decide +kernel
theorem dX4_setsIt_34 : decode cX4_setsIt 34 = .ok (.getfield 16, 3) := by decide +kernel
theorem dX4_setsIt_37 : decode cX4_setsIt 37 = .ok (.iload_n 1, 1) := by decide +kernel
theorem dX4_setsIt_38 : decode cX4_setsIt 38 = .ok (.iaload, 1) := by decide +kernel
theorem dX4_setsIt_39 : decode cX4_setsIt 39 = .ok (.iload_n 2, 1) := by decide +kernel
theorem dX4_setsIt_40 : decode cX4_setsIt 40 = .ok (.bipush 8, 2) := by decide +kernel
theorem dX4_setsIt_42 : decode cX4_setsIt 42 = .ok (.isub, 1) := by decide +kernel
theorem dX4_setsIt_43 : decode cX4_setsIt 43 = .ok (.if_icmp .ne 7, 3) := by decide +kernel
theorem dX4_setsIt_46 : decode cX4_setsIt 46 = .ok (.iconst 1, 1) := by decide +kernel
theorem dX4_setsIt_47 : decode cX4_setsIt 47 = .ok (.goto 4, 3) := by decide +kernel
theorem dX4_setsIt_50 : decode cX4_setsIt 50 = .ok (.iconst 0, 1) := by decide +kernel
theorem dX4_setsIt_51 : decode cX4_setsIt 51 = .ok (.ireturn, 1) := by decide +kernel
theorem dX4_settersOf_0 : decode cX4_settersOf 0 = .ok (.aload_n 0, 1) := by decide +kernel
theorem dX4_settersOf_1 : decode cX4_settersOf 1 = .ok (.iload_n 1, 1) := by decide +kernel
theorem dX4_settersOf_2 : decode cX4_settersOf 2 = .ok (.iload_n 2, 1) := by decide +kernel
theorem dX4_settersOf_3 : decode cX4_settersOf 3 = .ok (.invokevirtual 143, 3) := by decide +kernel
theorem dX4_settersOf_6 : decode cX4_settersOf 6 = .ok (.istore_n 3, 1) := by decide +kernel
theorem dX4_settersOf_7 : decode cX4_settersOf 7 = .ok (.iconst 0, 1) := by decide +kernel
theorem dX4_settersOf_8 : decode cX4_settersOf 8 = .ok (.istore 4, 2) := by decide +kernel
theorem dX4_settersOf_10 : decode cX4_settersOf 10 = .ok (.iconst 0, 1) := by decide +kernel
theorem dX4_settersOf_11 : decode cX4_settersOf 11 = .ok (.istore 5, 2) := by decide +kernel
theorem dX4_settersOf_13 : decode cX4_settersOf 13 = .ok (.iload 5, 2) := by decide +kernel
theorem dX4_settersOf_15 : decode cX4_settersOf 15 = .ok (.aload_n 0, 1) := by decide +kernel
theorem dX4_settersOf_16 : decode cX4_settersOf 16 = .ok (.getfield 81, 3) := by decide +kernel
theorem dX4_settersOf_19 : decode cX4_settersOf 19 = .ok (.if_icmp .ge 43, 3) := by decide +kernel
theorem dX4_settersOf_22 : decode cX4_settersOf 22 = .ok (.iload_n 3, 1) := by decide +kernel
theorem dX4_settersOf_23 : decode cX4_settersOf 23 = .ok (.iload 5, 2) := by decide +kernel
theorem dX4_settersOf_25 : decode cX4_settersOf 25 = .ok (.ishr, 1) := by decide +kernel
theorem dX4_settersOf_26 : decode cX4_settersOf 26 = .ok (.iconst 1, 1) := by decide +kernel
theorem dX4_settersOf_27 : decode cX4_settersOf 27 = .ok (.iand, 1) := by decide +kernel
theorem dX4_settersOf_28 : decode cX4_settersOf 28 = .ok (.iconst 1, 1) := by decide +kernel
theorem dX4_settersOf_29 : decode cX4_settersOf 29 = .ok (.if_icmp .ne 23, 3) := by decide +kernel
theorem dX4_settersOf_32 : decode cX4_settersOf 32 = .ok (.aload_n 0, 1) := by decide +kernel
theorem dX4_settersOf_33 : decode cX4_settersOf 33 = .ok (.iload 5, 2) := by decide +kernel
theorem dX4_settersOf_35 : decode cX4_settersOf 35 = .ok (.iload_n 2, 1) := by decide +kernel
theorem dX4_settersOf_36 : decode cX4_settersOf 36 = .ok (.invokevirtual 136, 3) := by decide +kernel
theorem dX4_settersOf_39 : decode cX4_settersOf 39 = .ok (.ifCond .eq 13, 3) := by decide +kernel
theorem dX4_settersOf_42 : decode cX4_settersOf 42 = .ok (.iload 4, 2) := by decide +kernel
theorem dX4_settersOf_44 : decode cX4_settersOf 44 = .ok (.iconst 1, 1) := by decide +kernel
theorem dX4_settersOf_45 : decode cX4_settersOf 45 = .ok (.iload 5, 2) := by decide +kernel
theorem dX4_settersOf_47 : decode cX4_settersOf 47 = .ok (.ishl, 1) := by decide +kernel
theorem dX4_settersOf_48 : decode cX4_settersOf 48 = .ok (.ior, 1) := by decide +kernel
theorem dX4_settersOf_49 : decode cX4_settersOf 49 = .ok (.goto 5, 3) := by decide +kernel
theorem dX4_settersOf_52 : decode cX4_settersOf 52 = .ok (.iload 4, 2) := by decide +kernel
theorem dX4_settersOf_54 : decode cX4_settersOf 54 = .ok (.istore 4, 2) := by decide +kernel
theorem dX4_settersOf_56 : decode cX4_settersOf 56 = .ok (.iinc 5 1, 3) := by decide +kernel
theorem dX4_settersOf_59 : decode cX4_settersOf 59 = .ok (.goto (-46), 3) := by decide +kernel
theorem dX4_settersOf_62 : decode cX4_settersOf 62 = .ok (.iload 4, 2) := by decide +kernel
theorem dX4_settersOf_64 : decode cX4_settersOf 64 = .ok (.ireturn, 1) := by decide +kernel
theorem dX4_hangs_0 : decode cX4_hangs 0 = .ok (.iconst 0, 1) := by decide +kernel
theorem dX4_hangs_1 : decode cX4_hangs 1 = .ok (.istore 4, 2) := by decide +kernel
theorem dX4_hangs_3 : decode cX4_hangs 3 = .ok (.iload_n 2, 1) := by decide +kernel
theorem dX4_hangs_4 : decode cX4_hangs 4 = .ok (.iconst 1, 1) := by decide +kernel
theorem dX4_hangs_5 : decode cX4_hangs 5 = .ok (.if_icmp .ne 58, 3) := by decide +kernel
theorem dX4_hangs_8 : decode cX4_hangs 8 = .ok (.aload_n 0, 1) := by decide +kernel
theorem dX4_hangs_9 : decode cX4_hangs 9 = .ok (.iload_n 1, 1) := by decide +kernel
theorem dX4_hangs_10 : decode cX4_hangs 10 = .ok (.iload_n 3, 1) := by decide +kernel
theorem dX4_hangs_11 : decode cX4_hangs 11 = .ok (.invokevirtual 147, 3) := by decide +kernel
theorem dX4_hangs_14 : decode cX4_hangs 14 = .ok (.istore 5, 2) := by decide +kernel
theorem dX4_hangs_16 : decode cX4_hangs 16 = .ok (.iconst 0, 1) := by decide +kernel
theorem dX4_hangs_17 : decode cX4_hangs 17 = .ok (.istore 6, 2) := by decide +kernel
theorem dX4_hangs_19 : decode cX4_hangs 19 = .ok (.iload 6, 2) := by decide +kernel
theorem dX4_hangs_21 : decode cX4_hangs 21 = .ok (.bipush 8, 2) := by decide +kernel
theorem dX4_hangs_23 : decode cX4_hangs 23 = .ok (.if_icmp .ge 37, 3) := by decide +kernel
theorem dX4_hangs_26 : decode cX4_hangs 26 = .ok (.iload 5, 2) := by decide +kernel
theorem dX4_hangs_28 : decode cX4_hangs 28 = .ok (.iload 6, 2) := by decide +kernel
theorem dX4_hangs_30 : decode cX4_hangs 30 = .ok (.ishr, 1) := by decide +kernel
theorem dX4_hangs_31 : decode cX4_hangs 31 = .ok (.iconst 1, 1) := by decide +kernel
theorem dX4_hangs_32 : decode cX4_hangs 32 = .ok (.iand, 1) := by decide +kernel
theorem dX4_hangs_33 : decode cX4_hangs 33 = .ok (.iconst 1, 1) := by decide +kernel
theorem dX4_hangs_34 : decode cX4_hangs 34 = .ok (.if_icmp .ne 16, 3) := by decide +kernel
theorem dX4_hangs_37 : decode cX4_hangs 37 = .ok (.iload 4, 2) := by decide +kernel
theorem dX4_hangs_39 : decode cX4_hangs 39 = .ok (.aload_n 0, 1) := by decide +kernel
theorem dX4_hangs_40 : decode cX4_hangs 40 = .ok (.iload_n 1, 1) := by decide +kernel
theorem dX4_hangs_41 : decode cX4_hangs 41 = .ok (.iload 6, 2) := by decide +kernel
theorem dX4_hangs_43 : decode cX4_hangs 43 = .ok (.invokevirtual 150, 3) := by decide +kernel
theorem dX4_hangs_46 : decode cX4_hangs 46 = .ok (.ior, 1) := by decide +kernel
theorem dX4_hangs_47 : decode cX4_hangs 47 = .ok (.goto 5, 3) := by decide +kernel
theorem dX4_hangs_50 : decode cX4_hangs 50 = .ok (.iload 4, 2) := by decide +kernel
theorem dX4_hangs_52 : decode cX4_hangs 52 = .ok (.istore 4, 2) := by decide +kernel
theorem dX4_hangs_54 : decode cX4_hangs 54 = .ok (.iinc 6 1, 3) := by decide +kernel
theorem dX4_hangs_57 : decode cX4_hangs 57 = .ok (.goto (-38), 3) := by decide +kernel
theorem dX4_hangs_60 : decode cX4_hangs 60 = .ok (.goto 172, 3) := by decide +kernel
theorem dX4_hangs_63 : decode cX4_hangs 63 = .ok (.iload_n 2, 1) := by decide +kernel
theorem dX4_hangs_64 : decode cX4_hangs 64 = .ok (.iconst 2, 1) := by decide +kernel
theorem dX4_hangs_65 : decode cX4_hangs 65 = .ok (.if_icmp .ne 120, 3) := by decide +kernel
theorem dX4_hangs_68 : decode cX4_hangs 68 = .ok (.aload_n 0, 1) := by decide +kernel
theorem dX4_hangs_69 : decode cX4_hangs 69 = .ok (.getfield 7, 3) := by decide +kernel
theorem dX4_hangs_72 : decode cX4_hangs 72 = .ok (.iload_n 1, 1) := by decide +kernel
theorem dX4_hangs_73 : decode cX4_hangs 73 = .ok (.iaload, 1) := by decide +kernel
theorem dX4_hangs_74 : decode cX4_hangs 74 = .ok (.bipush 8, 2) := by decide +kernel
theorem dX4_hangs_76 : decode cX4_hangs 76 = .ok (.if_icmp .ne 109, 3) := by decide +kernel
theorem dX4_hangs_79 : decode cX4_hangs 79 = .ok (.aload_n 0, 1) := by decide +kernel
theorem dX4_hangs_80 : decode cX4_hangs 80 = .ok (.iload_n 1, 1) := by decide +kernel
theorem dX4_hangs_81 : decode cX4_hangs 81 = .ok (.bipush (-4), 2) := by decide +kernel
theorem dX4_hangs_83 : decode cX4_hangs 83 = .ok (.invokevirtual 143, 3) := by decide +kernel
theorem dX4_hangs_86 : decode cX4_hangs 86 = .ok (.istore 5, 2) := by decide +kernel
theorem dX4_hangs_88 : decode cX4_hangs 88 = .ok (.iconst 0, 1) := by decide +kernel
theorem dX4_hangs_89 : decode cX4_hangs 89 = .ok (.istore 6, 2) := by decide +kernel
theorem dX4_hangs_91 : decode cX4_hangs 91 = .ok (.iload 6, 2) := by decide +kernel
theorem dX4_hangs_93 : decode cX4_hangs 93 = .ok (.aload_n 0, 1) := by decide +kernel
theorem dX4_hangs_94 : decode cX4_hangs 94 = .ok (.getfield 81, 3) := by decide +kernel
theorem dX4_hangs_97 : decode cX4_hangs 97 = .ok (.if_icmp .ge 85, 3) := by decide +kernel
theorem dX4_hangs_100 : decode cX4_hangs 100 = .ok (.iload 5, 2) := by decide +kernel
theorem dX4_hangs_102 : decode cX4_hangs 102 = .ok (.iload 6, 2) := by decide +kernel
theorem dX4_hangs_104 : decode cX4_hangs 104 = .ok (.ishr, 1) := by decide +kernel
theorem dX4_hangs_105 : decode cX4_hangs 105 = .ok (.iconst 1, 1) := by decide +kernel
theorem dX4_hangs_106 : decode cX4_hangs 106 = .ok (.iand, 1) := by decide +kernel
theorem dX4_hangs_107 : decode cX4_hangs 107 = .ok (.iconst 1, 1) := by decide +kernel
theorem dX4_hangs_108 : decode cX4_hangs 108 = .ok (.if_icmp .ne 46, 3) := by decide +kernel
theorem dX4_hangs_111 : decode cX4_hangs 111 = .ok (.aload_n 0, 1) := by decide +kernel
theorem dX4_hangs_112 : decode cX4_hangs 112 = .ok (.getfield 7, 3) := by decide +kernel
theorem dX4_hangs_115 : decode cX4_hangs 115 = .ok (.iload 6, 2) := by decide +kernel
theorem dX4_hangs_117 : decode cX4_hangs 117 = .ok (.iaload, 1) := by decide +kernel
theorem dX4_hangs_118 : decode cX4_hangs 118 = .ok (.bipush 7, 2) := by decide +kernel
theorem dX4_hangs_120 : decode cX4_hangs 120 = .ok (.if_icmp .ne 34, 3) := by decide +kernel
theorem dX4_hangs_123 : decode cX4_hangs 123 = .ok (.aload_n 0, 1) := by decide +kernel
theorem dX4_hangs_124 : decode cX4_hangs 124 = .ok (.getfield 32, 3) := by decide +kernel
theorem dX4_hangs_127 : decode cX4_hangs 127 = .ok (.aload_n 0, 1) := by decide +kernel
theorem dX4_hangs_128 : decode cX4_hangs 128 = .ok (.getfield 19, 3) := by decide +kernel
theorem dX4_hangs_131 : decode cX4_hangs 131 = .ok (.iload 6, 2) := by decide +kernel
theorem dX4_hangs_133 : decode cX4_hangs 133 = .ok (.iaload, 1) := by decide +kernel
theorem dX4_hangs_134 : decode cX4_hangs 134 = .ok (.iaload, 1) := by decide +kernel
theorem dX4_hangs_135 : decode cX4_hangs 135 = .ok (.aload_n 0, 1) := by decide +kernel
theorem dX4_hangs_136 : decode cX4_hangs 136 = .ok (.getfield 32, 3) := by decide +kernel
theorem dX4_hangs_139 : decode cX4_hangs 139 = .ok (.aload_n 0, 1) := by decide +kernel
theorem dX4_hangs_140 : decode cX4_hangs 140 = .ok (.getfield 19, 3) := by decide +kernel
theorem dX4_hangs_143 : decode cX4_hangs 143 = .ok (.iload_n 1, 1) := by decide +kernel
theorem dX4_hangs_144 : decode cX4_hangs 144 = .ok (.iaload, 1) := by decide +kernel
theorem dX4_hangs_145 : decode cX4_hangs 145 = .ok (.iaload, 1) := by decide +kernel
theorem dX4_hangs_146 : decode cX4_hangs 146 = .ok (.iand, 1) := by decide +kernel
theorem dX4_hangs_147 : decode cX4_hangs 147 = .ok (.ifCond .eq 7, 3) := by decide +kernel
theorem dX4_hangs_150 : decode cX4_hangs 150 = .ok (.iconst 1, 1) := by decide +kernel
theorem dX4_hangs_151 : decode cX4_hangs 151 = .ok (.goto 4, 3) := by decide +kernel
theorem dX4_hangs_154 : decode cX4_hangs 154 = .ok (.iconst 0, 1) := by decide +kernel
theorem dX4_hangs_155 : decode cX4_hangs 155 = .ok (.istore 7, 2) := by decide +kernel
theorem dX4_hangs_157 : decode cX4_hangs 157 = .ok (.iload 7, 2) := by decide +kernel
theorem dX4_hangs_159 : decode cX4_hangs 159 = .ok (.ifCond .eq 13, 3) := by decide +kernel
theorem dX4_hangs_162 : decode cX4_hangs 162 = .ok (.iload 4, 2) := by decide +kernel
theorem dX4_hangs_164 : decode cX4_hangs 164 = .ok (.iconst 1, 1) := by decide +kernel
theorem dX4_hangs_165 : decode cX4_hangs 165 = .ok (.iload 6, 2) := by decide +kernel
theorem dX4_hangs_167 : decode cX4_hangs 167 = .ok (.ishl, 1) := by decide +kernel
theorem dX4_hangs_168 : decode cX4_hangs 168 = .ok (.ior, 1) := by decide +kernel
theorem dX4_hangs_169 : decode cX4_hangs 169 = .ok (.goto 5, 3) := by decide +kernel
theorem dX4_hangs_172 : decode cX4_hangs 172 = .ok (.iload 4, 2) := by decide +kernel
theorem dX4_hangs_174 : decode cX4_hangs 174 = .ok (.istore 4, 2) := by decide +kernel
theorem dX4_hangs_176 : decode cX4_hangs 176 = .ok (.iinc 6 1, 3) := by decide +kernel
theorem dX4_hangs_179 : decode cX4_hangs 179 = .ok (.goto (-88), 3) := by decide +kernel
theorem dX4_hangs_182 : decode cX4_hangs 182 = .ok (.goto 50, 3) := by decide +kernel
theorem dX4_hangs_185 : decode cX4_hangs 185 = .ok (.iload_n 2, 1) := by decide +kernel
theorem dX4_hangs_186 : decode cX4_hangs 186 = .ok (.iconst 3, 1) := by decide +kernel
theorem dX4_hangs_187 : decode cX4_hangs 187 = .ok (.if_icmp .ne 33, 3) := by decide +kernel
theorem dX4_hangs_190 : decode cX4_hangs 190 = .ok (.aload_n 0, 1) := by decide +kernel
theorem dX4_hangs_191 : decode cX4_hangs 191 = .ok (.getfield 7, 3) := by decide +kernel
theorem dX4_hangs_194 : decode cX4_hangs 194 = .ok (.iload_n 1, 1) := by decide +kernel
theorem dX4_hangs_195 : decode cX4_hangs 195 = .ok (.iaload, 1) := by decide +kernel
theorem dX4_hangs_196 : decode cX4_hangs 196 = .ok (.bipush 9, 2) := by decide +kernel
theorem dX4_hangs_198 : decode cX4_hangs 198 = .ok (.if_icmp .ne 22, 3) := by decide +kernel
theorem dX4_hangs_201 : decode cX4_hangs 201 = .ok (.aload_n 0, 1) := by decide +kernel
theorem dX4_hangs_202 : decode cX4_hangs 202 = .ok (.iload_n 1, 1) := by decide +kernel
theorem dX4_hangs_203 : decode cX4_hangs 203 = .ok (.bipush 8, 2) := by decide +kernel
theorem dX4_hangs_205 : decode cX4_hangs 205 = .ok (.aload_n 0, 1) := by decide +kernel
theorem dX4_hangs_206 : decode cX4_hangs 206 = .ok (.getfield 16, 3) := by decide +kernel
theorem dX4_hangs_209 : decode cX4_hangs 209 = .ok (.iload_n 1, 1) := by decide +kernel
theorem dX4_hangs_210 : decode cX4_hangs 210 = .ok (.iaload, 1) := by decide +kernel
theorem dX4_hangs_211 : decode cX4_hangs 211 = .ok (.iadd, 1) := by decide +kernel
theorem dX4_hangs_212 : decode cX4_hangs 212 = .ok (.invokevirtual 150, 3) := by decide +kernel
theorem dX4_hangs_215 : decode cX4_hangs 215 = .ok (.istore 4, 2) := by decide +kernel
theorem dX4_hangs_217 : decode cX4_hangs 217 = .ok (.goto 15, 3) := by decide +kernel
theorem dX4_hangs_220 : decode cX4_hangs 220 = .ok (.iload_n 2, 1) := by decide +kernel
theorem dX4_hangs_221 : decode cX4_hangs 221 = .ok (.iconst 4, 1) := by decide +kernel
theorem dX4_hangs_222 : decode cX4_hangs 222 = .ok (.if_icmp .ne 10, 3) := by decide +kernel
theorem dX4_hangs_225 : decode cX4_hangs 225 = .ok (.aload_n 0, 1) := by decide +kernel
theorem dX4_hangs_226 : decode cX4_hangs 226 = .ok (.iload_n 1, 1) := by decide +kernel
theorem dX4_hangs_227 : decode cX4_hangs 227 = .ok (.invokevirtual 153, 3) := by decide +kernel
theorem dX4_hangs_230 : decode cX4_hangs 230 = .ok (.istore 4, 2) := by decide +kernel
theorem dX4_hangs_232 : decode cX4_hangs 232 = .ok (.iload 4, 2) := by decide +kernel
theorem dX4_hangs_234 : decode cX4_hangs 234 = .ok (.ireturn, 1) := by decide +kernel
theorem dX4_controls_0 : decode cX4_controls 0 = .ok (.iconst 0, 1) := by decide +kernel
theorem dX4_controls_1 : decode cX4_controls 1 = .ok (.istore_n 2, 1) := by decide +kernel
theorem dX4_controls_2 : decode cX4_controls 2 = .ok (.iconst 0, 1) := by decide +kernel
theorem dX4_controls_3 : decode cX4_controls 3 = .ok (.istore_n 3, 1) := by decide +kernel
theorem dX4_controls_4 : decode cX4_controls 4 = .ok (.iconst 0, 1) := by decide +kernel
theorem dX4_controls_5 : decode cX4_controls 5 = .ok (.istore 4, 2) := by decide +kernel
theorem dX4_controls_7 : decode cX4_controls 7 = .ok (.iload 4, 2) := by decide +kernel
theorem dX4_controls_9 : decode cX4_controls 9 = .ok (.aload_n 0, 1) := by decide +kernel
theorem dX4_controls_10 : decode cX4_controls 10 = .ok (.getfield 81, 3) := by decide +kernel
theorem dX4_controls_13 : decode cX4_controls 13 = .ok (.if_icmp .ge 35, 3) := by decide +kernel
theorem dX4_controls_16 : decode cX4_controls 16 = .ok (.aload_n 0, 1) := by decide +kernel
theorem dX4_controls_17 : decode cX4_controls 17 = .ok (.getfield 51, 3) := by decide +kernel
theorem dX4_controls_20 : decode cX4_controls 20 = .ok (.iload 4, 2) := by decide +kernel
theorem dX4_controls_22 : decode cX4_controls 22 = .ok (.iaload, 1) := by decide +kernel
theorem dX4_controls_23 : decode cX4_controls 23 = .ok (.iload_n 1, 1) := by decide +kernel
theorem dX4_controls_24 : decode cX4_controls 24 = .ok (.ishr, 1) := by decide +kernel
theorem dX4_controls_25 : decode cX4_controls 25 = .ok (.iconst 1, 1) := by decide +kernel
theorem dX4_controls_26 : decode cX4_controls 26 = .ok (.iand, 1) := by decide +kernel
theorem dX4_controls_27 : decode cX4_controls 27 = .ok (.iconst 1, 1) := by decide +kernel
theorem dX4_controls_28 : decode cX4_controls 28 = .ok (.if_icmp .ne 12, 3) := by decide +kernel
theorem dX4_controls_31 : decode cX4_controls 31 = .ok (.iload_n 3, 1) := by decide +kernel
theorem dX4_controls_32 : decode cX4_controls 32 = .ok (.iconst 1, 1) := by decide +kernel
theorem dX4_controls_33 : decode cX4_controls 33 = .ok (.iload 4, 2) := by decide +kernel
theorem dX4_controls_35 : decode cX4_controls 35 = .ok (.ishl, 1) := by decide +kernel
theorem dX4_controls_36 : decode cX4_controls 36 = .ok (.ior, 1) := by decide +kernel
theorem dX4_controls_37 : decode cX4_controls 37 = .ok (.goto 4, 3) := by decide +kernel
theorem dX4_controls_40 : decode cX4_controls 40 = .ok (.iload_n 3, 1) := by decide +kernel
theorem dX4_controls_41 : decode cX4_controls 41 = .ok (.istore_n 3, 1) := by decide +kernel
theorem dX4_controls_42 : decode cX4_controls 42 = .ok (.iinc 4 1, 3) := by decide +kernel
theorem dX4_controls_45 : decode cX4_controls 45 = .ok (.goto (-38), 3) := by decide +kernel
theorem dX4_controls_48 : decode cX4_controls 48 = .ok (.iconst 0, 1) := by decide +kernel
theorem dX4_controls_49 : decode cX4_controls 49 = .ok (.istore 4, 2) := by decide +kernel
theorem dX4_controls_51 : decode cX4_controls 51 = .ok (.iload 4, 2) := by decide +kernel
theorem dX4_controls_53 : decode cX4_controls 53 = .ok (.aload_n 0, 1) := by decide +kernel
theorem dX4_controls_54 : decode cX4_controls 54 = .ok (.getfield 81, 3) := by decide +kernel
theorem dX4_controls_57 : decode cX4_controls 57 = .ok (.if_icmp .ge 57, 3) := by decide +kernel
theorem dX4_controls_60 : decode cX4_controls 60 = .ok (.aload_n 0, 1) := by decide +kernel
theorem dX4_controls_61 : decode cX4_controls 61 = .ok (.iload 4, 2) := by decide +kernel
theorem dX4_controls_63 : decode cX4_controls 63 = .ok (.iconst 1, 1) := by decide +kernel
theorem dX4_controls_64 : decode cX4_controls 64 = .ok (.invokevirtual 123, 3) := by decide +kernel
theorem dX4_controls_67 : decode cX4_controls 67 = .ok (.iload_n 3, 1) := by decide +kernel
theorem dX4_controls_68 : decode cX4_controls 68 = .ok (.iconst 1, 1) := by decide +kernel
theorem dX4_controls_69 : decode cX4_controls 69 = .ok (.iload_n 1, 1) := by decide +kernel
theorem dX4_controls_70 : decode cX4_controls 70 = .ok (.ishl, 1) := by decide +kernel
theorem dX4_controls_71 : decode cX4_controls 71 = .ok (.ior, 1) := by decide +kernel
theorem dX4_controls_72 : decode cX4_controls 72 = .ok (.iand, 1) := by decide +kernel
theorem dX4_controls_73 : decode cX4_controls 73 = .ok (.ifCond .eq 16, 3) := by decide +kernel
theorem dX4_controls_76 : decode cX4_controls 76 = .ok (.iload_n 3, 1) := by decide +kernel
theorem dX4_controls_77 : decode cX4_controls 77 = .ok (.iload 4, 2) := by decide +kernel
theorem dX4_controls_79 : decode cX4_controls 79 = .ok (.ishr, 1) := by decide +kernel
theorem dX4_controls_80 : decode cX4_controls 80 = .ok (.iconst 1, 1) := by decide +kernel
theorem dX4_controls_81 : decode cX4_controls 81 = .ok (.iand, 1) := by decide +kernel
theorem dX4_controls_82 : decode cX4_controls 82 = .ok (.ifCond .ne 7, 3) := by decide +kernel
theorem dX4_controls_85 : decode cX4_controls 85 = .ok (.iconst 1, 1) := by decide +kernel
theorem dX4_controls_86 : decode cX4_controls 86 = .ok (.goto 4, 3) := by decide +kernel
theorem dX4_controls_89 : decode cX4_controls 89 = .ok (.iconst 0, 1) := by decide +kernel
theorem dX4_controls_90 : decode cX4_controls 90 = .ok (.istore 5, 2) := by decide +kernel
theorem dX4_controls_92 : decode cX4_controls 92 = .ok (.iload 5, 2) := by decide +kernel
theorem dX4_controls_94 : decode cX4_controls 94 = .ok (.ifCond .eq 12, 3) := by decide +kernel
theorem dX4_controls_97 : decode cX4_controls 97 = .ok (.iload_n 2, 1) := by decide +kernel
theorem dX4_controls_98 : decode cX4_controls 98 = .ok (.iconst 1, 1) := by decide +kernel
theorem dX4_controls_99 : decode cX4_controls 99 = .ok (.iload 4, 2) := by decide +kernel
theorem dX4_controls_101 : decode cX4_controls 101 = .ok (.ishl, 1) := by decide +kernel
theorem dX4_controls_102 : decode cX4_controls 102 = .ok (.ior, 1) := by decide +kernel
theorem dX4_controls_103 : decode cX4_controls 103 = .ok (.goto 4, 3) := by decide +kernel
theorem dX4_controls_106 : decode cX4_controls 106 = .ok (.iload_n 2, 1) := by decide +kernel
theorem dX4_controls_107 : decode cX4_controls 107 = .ok (.istore_n 2, 1) := by decide +kernel
theorem dX4_controls_108 : decode cX4_controls 108 = .ok (.iinc 4 1, 3) := by decide +kernel
theorem dX4_controls_111 : decode cX4_controls 111 = .ok (.goto (-60), 3) := by decide +kernel
theorem dX4_controls_114 : decode cX4_controls 114 = .ok (.iload_n 2, 1) := by decide +kernel
theorem dX4_controls_115 : decode cX4_controls 115 = .ok (.ireturn, 1) := by decide +kernel
theorem dX4_look_0 : decode cX4_look 0 = .ok (.aload_n 0, 1) := by decide +kernel
theorem dX4_look_1 : decode cX4_look 1 = .ok (.getfield 98, 3) := by decide +kernel
theorem dX4_look_4 : decode cX4_look 4 = .ok (.ifCond .eq 4, 3) := by decide +kernel
theorem dX4_look_7 : decode cX4_look 7 = .ok (.return_, 1) := by decide +kernel
theorem dX4_look_8 : decode cX4_look 8 = .ok (.aload_n 0, 1) := by decide +kernel
theorem dX4_look_9 : decode cX4_look 9 = .ok (.iconst 1, 1) := by decide +kernel
theorem dX4_look_10 : decode cX4_look 10 = .ok (.putfield 98, 3) := by decide +kernel
theorem dX4_look_13 : decode cX4_look 13 = .ok (.iconst 0, 1) := by decide +kernel
theorem dX4_look_14 : decode cX4_look 14 = .ok (.istore_n 1, 1) := by decide +kernel
theorem dX4_look_15 : decode cX4_look 15 = .ok (.iload_n 1, 1) := by decide +kernel
theorem dX4_look_16 : decode cX4_look 16 = .ok (.aload_n 0, 1) := by decide +kernel
theorem dX4_look_17 : decode cX4_look 17 = .ok (.getfield 81, 3) := by decide +kernel
theorem dX4_look_20 : decode cX4_look 20 = .ok (.if_icmp .ge 20, 3) := by decide +kernel
theorem dX4_look_23 : decode cX4_look 23 = .ok (.aload_n 0, 1) := by decide +kernel
theorem dX4_look_24 : decode cX4_look 24 = .ok (.getfield 51, 3) := by decide +kernel
theorem dX4_look_27 : decode cX4_look 27 = .ok (.iload_n 1, 1) := by decide +kernel
theorem dX4_look_28 : decode cX4_look 28 = .ok (.aload_n 0, 1) := by decide +kernel
theorem dX4_look_29 : decode cX4_look 29 = .ok (.iload_n 1, 1) := by decide +kernel
theorem dX4_look_30 : decode cX4_look 30 = .ok (.invokevirtual 131, 3) := by decide +kernel
theorem dX4_look_33 : decode cX4_look 33 = .ok (.iastore, 1) := by decide +kernel
theorem dX4_look_34 : decode cX4_look 34 = .ok (.iinc 1 1, 3) := by decide +kernel
theorem dX4_look_37 : decode cX4_look 37 = .ok (.goto (-22), 3) := by decide +kernel
theorem dX4_look_40 : decode cX4_look 40 = .ok (.iconst 0, 1) := by decide +kernel
theorem dX4_look_41 : decode cX4_look 41 = .ok (.istore_n 1, 1) := by decide +kernel
theorem dX4_look_42 : decode cX4_look 42 = .ok (.iload_n 1, 1) := by decide +kernel
theorem dX4_look_43 : decode cX4_look 43 = .ok (.aload_n 0, 1) := by decide +kernel
theorem dX4_look_44 : decode cX4_look 44 = .ok (.getfield 81, 3) := by decide +kernel
theorem dX4_look_47 : decode cX4_look 47 = .ok (.if_icmp .ge 73, 3) := by decide +kernel
theorem dX4_look_50 : decode cX4_look 50 = .ok (.iconst 1, 1) := by decide +kernel
theorem dX4_look_51 : decode cX4_look 51 = .ok (.istore_n 2, 1) := by decide +kernel
theorem dX4_look_52 : decode cX4_look 52 = .ok (.iload_n 2, 1) := by decide +kernel
theorem dX4_look_53 : decode cX4_look 53 = .ok (.iconst 5, 1) := by decide +kernel
theorem dX4_look_54 : decode cX4_look 54 = .ok (.if_icmp .ge 28, 3) := by decide +kernel
theorem dX4_look_57 : decode cX4_look 57 = .ok (.aload_n 0, 1) := by decide +kernel
theorem dX4_look_58 : decode cX4_look 58 = .ok (.getfield 54, 3) := by decide +kernel
theorem dX4_look_61 : decode cX4_look 61 = .ok (.iconst 4, 1) := by decide +kernel
theorem dX4_look_62 : decode cX4_look 62 = .ok (.iload_n 1, 1) := by decide +kernel
theorem dX4_look_63 : decode cX4_look 63 = .ok (.imul, 1) := by decide +kernel
theorem dX4_look_64 : decode cX4_look 64 = .ok (.iload_n 2, 1) := by decide +kernel
theorem dX4_look_65 : decode cX4_look 65 = .ok (.iadd, 1) := by decide +kernel
theorem dX4_look_66 : decode cX4_look 66 = .ok (.iconst 1, 1) := by decide +kernel
theorem dX4_look_67 : decode cX4_look 67 = .ok (.isub, 1) := by decide +kernel
theorem dX4_look_68 : decode cX4_look 68 = .ok (.aload_n 0, 1) := by decide +kernel
theorem dX4_look_69 : decode cX4_look 69 = .ok (.iload_n 1, 1) := by decide +kernel
theorem dX4_look_70 : decode cX4_look 70 = .ok (.iload_n 2, 1) := by decide +kernel
theorem dX4_look_71 : decode cX4_look 71 = .ok (.iconst 0, 1) := by decide +kernel
theorem dX4_look_72 : decode cX4_look 72 = .ok (.invokevirtual 156, 3) := by decide +kernel
theorem dX4_look_75 : decode cX4_look 75 = .ok (.iastore, 1) := by decide +kernel
theorem dX4_look_76 : decode cX4_look 76 = .ok (.iinc 2 1, 3) := by decide +kernel
theorem dX4_look_79 : decode cX4_look 79 = .ok (.goto (-27), 3) := by decide +kernel
theorem dX4_look_82 : decode cX4_look 82 = .ok (.iconst 1, 1) := by decide +kernel
theorem dX4_look_83 : decode cX4_look 83 = .ok (.istore_n 2, 1) := by decide +kernel
theorem dX4_look_84 : decode cX4_look 84 = .ok (.iload_n 2, 1) := by decide +kernel
theorem dX4_look_85 : decode cX4_look 85 = .ok (.iconst 4, 1) := by decide +kernel
theorem dX4_look_86 : decode cX4_look 86 = .ok (.if_icmp .ge 28, 3) := by decide +kernel
theorem dX4_look_89 : decode cX4_look 89 = .ok (.aload_n 0, 1) := by decide +kernel
theorem dX4_look_90 : decode cX4_look 90 = .ok (.getfield 57, 3) := by decide +kernel
theorem dX4_look_93 : decode cX4_look 93 = .ok (.iconst 3, 1) := by decide +kernel
theorem dX4_look_94 : decode cX4_look 94 = .ok (.iload_n 1, 1) := by decide +kernel
theorem dX4_look_95 : decode cX4_look 95 = .ok (.imul, 1) := by decide +kernel
theorem dX4_look_96 : decode cX4_look 96 = .ok (.iload_n 2, 1) := by decide +kernel
theorem dX4_look_97 : decode cX4_look 97 = .ok (.iadd, 1) := by decide +kernel
theorem dX4_look_98 : decode cX4_look 98 = .ok (.iconst 1, 1) := by decide +kernel
theorem dX4_look_99 : decode cX4_look 99 = .ok (.isub, 1) := by decide +kernel
theorem dX4_look_100 : decode cX4_look 100 = .ok (.aload_n 0, 1) := by decide +kernel
theorem dX4_look_101 : decode cX4_look 101 = .ok (.iload_n 1, 1) := by decide +kernel
theorem dX4_look_102 : decode cX4_look 102 = .ok (.iload_n 2, 1) := by decide +kernel
theorem dX4_look_103 : decode cX4_look 103 = .ok (.iconst 1, 1) := by decide +kernel
theorem dX4_look_104 : decode cX4_look 104 = .ok (.invokevirtual 156, 3) := by decide +kernel
theorem dX4_look_107 : decode cX4_look 107 = .ok (.iastore, 1) := by decide +kernel
theorem dX4_look_108 : decode cX4_look 108 = .ok (.iinc 2 1, 3) := by decide +kernel
theorem dX4_look_111 : decode cX4_look 111 = .ok (.goto (-27), 3) := by decide +kernel
theorem dX4_look_114 : decode cX4_look 114 = .ok (.iinc 1 1, 3) := by decide +kernel
theorem dX4_look_117 : decode cX4_look 117 = .ok (.goto (-75), 3) := by decide +kernel
theorem dX4_look_120 : decode cX4_look 120 = .ok (.return_, 1) := by decide +kernel
theorem dX4_on_0 : decode cX4_on 0 = .ok (.iconst 0, 1) := by decide +kernel
theorem dX4_on_1 : decode cX4_on 1 = .ok (.istore_n 3, 1) := by decide +kernel
theorem dX4_on_2 : decode cX4_on 2 = .ok (.iconst 0, 1) := by decide +kernel
theorem dX4_on_3 : decode cX4_on 3 = .ok (.istore 4, 2) := by decide +kernel
theorem dX4_on_5 : decode cX4_on 5 = .ok (.iload 4, 2) := by decide +kernel
theorem dX4_on_7 : decode cX4_on 7 = .ok (.iload_n 2, 1) := by decide +kernel
theorem dX4_on_8 : decode cX4_on 8 = .ok (.ifCond .eq 7, 3) := by decide +kernel
theorem dX4_on_11 : decode cX4_on 11 = .ok (.iconst 3, 1) := by decide +kernel
theorem dX4_on_12 : decode cX4_on 12 = .ok (.goto 4, 3) := by decide +kernel
theorem dX4_on_15 : decode cX4_on 15 = .ok (.iconst 4, 1) := by decide +kernel
theorem dX4_on_16 : decode cX4_on 16 = .ok (.if_icmp .ge 41, 3) := by decide +kernel
theorem dX4_on_19 : decode cX4_on 19 = .ok (.iload_n 3, 1) := by decide +kernel
theorem dX4_on_20 : decode cX4_on 20 = .ok (.iload_n 2, 1) := by decide +kernel
theorem dX4_on_21 : decode cX4_on 21 = .ok (.ifCond .eq 17, 3) := by decide +kernel
theorem dX4_on_24 : decode cX4_on 24 = .ok (.aload_n 0, 1) := by decide +kernel
theorem dX4_on_25 : decode cX4_on 25 = .ok (.getfield 57, 3) := by decide +kernel
theorem dX4_on_28 : decode cX4_on 28 = .ok (.iconst 3, 1) := by decide +kernel
theorem dX4_on_29 : decode cX4_on 29 = .ok (.iload_n 1, 1) := by decide +kernel
theorem dX4_on_30 : decode cX4_on 30 = .ok (.imul, 1) := by decide +kernel
theorem dX4_on_31 : decode cX4_on 31 = .ok (.iload 4, 2) := by decide +kernel
theorem dX4_on_33 : decode cX4_on 33 = .ok (.iadd, 1) := by decide +kernel
theorem dX4_on_34 : decode cX4_on 34 = .ok (.iaload, 1) := by decide +kernel
theorem dX4_on_35 : decode cX4_on 35 = .ok (.goto 14, 3) := by decide +kernel
theorem dX4_on_38 : decode cX4_on 38 = .ok (.aload_n 0, 1) := by decide +kernel
theorem dX4_on_39 : decode cX4_on 39 = .ok (.getfield 54, 3) := by decide +kernel
theorem dX4_on_42 : decode cX4_on 42 = .ok (.iconst 4, 1) := by decide +kernel
theorem dX4_on_43 : decode cX4_on 43 = .ok (.iload_n 1, 1) := by decide +kernel
theorem dX4_on_44 : decode cX4_on 44 = .ok (.imul, 1) := by decide +kernel
theorem dX4_on_45 : decode cX4_on 45 = .ok (.iload 4, 2) := by decide +kernel
theorem dX4_on_47 : decode cX4_on 47 = .ok (.iadd, 1) := by decide +kernel
theorem dX4_on_48 : decode cX4_on 48 = .ok (.iaload, 1) := by decide +kernel
theorem dX4_on_49 : decode cX4_on 49 = .ok (.ior, 1) := by decide +kernel
theorem dX4_on_50 : decode cX4_on 50 = .ok (.istore_n 3, 1) := by decide +kernel
theorem dX4_on_51 : decode cX4_on 51 = .ok (.iinc 4 1, 3) := by decide +kernel
theorem dX4_on_54 : decode cX4_on 54 = .ok (.goto (-49), 3) := by decide +kernel
theorem dX4_on_57 : decode cX4_on 57 = .ok (.iload_n 3, 1) := by decide +kernel
theorem dX4_on_58 : decode cX4_on 58 = .ok (.ireturn, 1) := by decide +kernel
theorem dX4_back_0 : decode cX4_back 0 = .ok (.iconst 1, 1) := by decide +kernel
theorem dX4_back_1 : decode cX4_back 1 = .ok (.iload_n 1, 1) := by decide +kernel
theorem dX4_back_2 : decode cX4_back 2 = .ok (.ishl, 1) := by decide +kernel
theorem dX4_back_3 : decode cX4_back 3 = .ok (.istore_n 3, 1) := by decide +kernel
theorem dX4_back_4 : decode cX4_back 4 = .ok (.iconst 0, 1) := by decide +kernel
theorem dX4_back_5 : decode cX4_back 5 = .ok (.istore 4, 2) := by decide +kernel
theorem dX4_back_7 : decode cX4_back 7 = .ok (.iload_n 3, 1) := by decide +kernel
theorem dX4_back_8 : decode cX4_back 8 = .ok (.iload 4, 2) := by decide +kernel
theorem dX4_back_10 : decode cX4_back 10 = .ok (.if_icmp .eq 51, 3) := by decide +kernel
theorem dX4_back_13 : decode cX4_back 13 = .ok (.iload_n 3, 1) := by decide +kernel
theorem dX4_back_14 : decode cX4_back 14 = .ok (.istore 4, 2) := by decide +kernel
theorem dX4_back_16 : decode cX4_back 16 = .ok (.iconst 0, 1) := by decide +kernel
theorem dX4_back_17 : decode cX4_back 17 = .ok (.istore 5, 2) := by decide +kernel
theorem dX4_back_19 : decode cX4_back 19 = .ok (.iload 5, 2) := by decide +kernel
theorem dX4_back_21 : decode cX4_back 21 = .ok (.aload_n 0, 1) := by decide +kernel
theorem dX4_back_22 : decode cX4_back 22 = .ok (.getfield 81, 3) := by decide +kernel
theorem dX4_back_25 : decode cX4_back 25 = .ok (.if_icmp .ge 33, 3) := by decide +kernel
theorem dX4_back_28 : decode cX4_back 28 = .ok (.iload_n 3, 1) := by decide +kernel
theorem dX4_back_29 : decode cX4_back 29 = .ok (.iload 5, 2) := by decide +kernel
theorem dX4_back_31 : decode cX4_back 31 = .ok (.ishr, 1) := by decide +kernel
theorem dX4_back_32 : decode cX4_back 32 = .ok (.iconst 1, 1) := by decide +kernel
theorem dX4_back_33 : decode cX4_back 33 = .ok (.iand, 1) := by decide +kernel
theorem dX4_back_34 : decode cX4_back 34 = .ok (.iconst 1, 1) := by decide +kernel
theorem dX4_back_35 : decode cX4_back 35 = .ok (.if_icmp .ne 15, 3) := by decide +kernel
theorem dX4_back_38 : decode cX4_back 38 = .ok (.iload_n 3, 1) := by decide +kernel
theorem dX4_back_39 : decode cX4_back 39 = .ok (.aload_n 0, 1) := by decide +kernel
theorem dX4_back_40 : decode cX4_back 40 = .ok (.iload 5, 2) := by decide +kernel
theorem dX4_back_42 : decode cX4_back 42 = .ok (.iload_n 2, 1) := by decide +kernel
theorem dX4_back_43 : decode cX4_back 43 = .ok (.invokevirtual 159, 3) := by decide +kernel
theorem dX4_back_46 : decode cX4_back 46 = .ok (.ior, 1) := by decide +kernel
theorem dX4_back_47 : decode cX4_back 47 = .ok (.goto 4, 3) := by decide +kernel
theorem dX4_back_50 : decode cX4_back 50 = .ok (.iload_n 3, 1) := by decide +kernel
theorem dX4_back_51 : decode cX4_back 51 = .ok (.istore_n 3, 1) := by decide +kernel
theorem dX4_back_52 : decode cX4_back 52 = .ok (.iinc 5 1, 3) := by decide +kernel
theorem dX4_back_55 : decode cX4_back 55 = .ok (.goto (-36), 3) := by decide +kernel
theorem dX4_back_58 : decode cX4_back 58 = .ok (.goto (-51), 3) := by decide +kernel
theorem dX4_back_61 : decode cX4_back 61 = .ok (.iload_n 3, 1) := by decide +kernel
theorem dX4_back_62 : decode cX4_back 62 = .ok (.ireturn, 1) := by decide +kernel
theorem dX4_forward_0 : decode cX4_forward 0 = .ok (.iconst 0, 1) := by decide +kernel
theorem dX4_forward_1 : decode cX4_forward 1 = .ok (.istore_n 3, 1) := by decide +kernel
theorem dX4_forward_2 : decode cX4_forward 2 = .ok (.iconst 0, 1) := by decide +kernel
theorem dX4_forward_3 : decode cX4_forward 3 = .ok (.istore 4, 2) := by decide +kernel
theorem dX4_forward_5 : decode cX4_forward 5 = .ok (.iload 4, 2) := by decide +kernel
theorem dX4_forward_7 : decode cX4_forward 7 = .ok (.aload_n 0, 1) := by decide +kernel
theorem dX4_forward_8 : decode cX4_forward 8 = .ok (.getfield 81, 3) := by decide +kernel
theorem dX4_forward_11 : decode cX4_forward 11 = .ok (.if_icmp .ge 35, 3) := by decide +kernel
theorem dX4_forward_14 : decode cX4_forward 14 = .ok (.aload_n 0, 1) := by decide +kernel
theorem dX4_forward_15 : decode cX4_forward 15 = .ok (.iload 4, 2) := by decide +kernel
theorem dX4_forward_17 : decode cX4_forward 17 = .ok (.iload_n 2, 1) := by decide +kernel
theorem dX4_forward_18 : decode cX4_forward 18 = .ok (.invokevirtual 162, 3) := by decide +kernel
theorem dX4_forward_21 : decode cX4_forward 21 = .ok (.iload_n 1, 1) := by decide +kernel
theorem dX4_forward_22 : decode cX4_forward 22 = .ok (.ishr, 1) := by decide +kernel
theorem dX4_forward_23 : decode cX4_forward 23 = .ok (.iconst 1, 1) := by decide +kernel
theorem dX4_forward_24 : decode cX4_forward 24 = .ok (.iand, 1) := by decide +kernel
theorem dX4_forward_25 : decode cX4_forward 25 = .ok (.iconst 1, 1) := by decide +kernel
theorem dX4_forward_26 : decode cX4_forward 26 = .ok (.if_icmp .ne 12, 3) := by decide +kernel
theorem dX4_forward_29 : decode cX4_forward 29 = .ok (.iload_n 3, 1) := by decide +kernel
theorem dX4_forward_30 : decode cX4_forward 30 = .ok (.iconst 1, 1) := by decide +kernel
theorem dX4_forward_31 : decode cX4_forward 31 = .ok (.iload 4, 2) := by decide +kernel
theorem dX4_forward_33 : decode cX4_forward 33 = .ok (.ishl, 1) := by decide +kernel
theorem dX4_forward_34 : decode cX4_forward 34 = .ok (.ior, 1) := by decide +kernel
theorem dX4_forward_35 : decode cX4_forward 35 = .ok (.goto 4, 3) := by decide +kernel
theorem dX4_forward_38 : decode cX4_forward 38 = .ok (.iload_n 3, 1) := by decide +kernel
theorem dX4_forward_39 : decode cX4_forward 39 = .ok (.istore_n 3, 1) := by decide +kernel
theorem dX4_forward_40 : decode cX4_forward 40 = .ok (.iinc 4 1, 3) := by decide +kernel
theorem dX4_forward_43 : decode cX4_forward 43 = .ok (.goto (-38), 3) := by decide +kernel
theorem dX4_forward_46 : decode cX4_forward 46 = .ok (.iload_n 3, 1) := by decide +kernel
theorem dX4_forward_47 : decode cX4_forward 47 = .ok (.ireturn, 1) := by decide +kernel
theorem dX4_slice_0 : decode cX4_slice 0 = .ok (.aload_n 0, 1) := by decide +kernel
theorem dX4_slice_1 : decode cX4_slice 1 = .ok (.iload_n 1, 1) := by decide +kernel
theorem dX4_slice_2 : decode cX4_slice 2 = .ok (.invokevirtual 110, 3) := by decide +kernel
theorem dX4_slice_5 : decode cX4_slice 5 = .ok (.ifCond .eq 15, 3) := by decide +kernel
theorem dX4_slice_8 : decode cX4_slice 8 = .ok (.iload_n 2, 1) := by decide +kernel
theorem dX4_slice_9 : decode cX4_slice 9 = .ok (.i2l, 1) := by decide +kernel
theorem dX4_slice_10 : decode cX4_slice 10 = .ok (.lconst 0, 1) := by decide +kernel
theorem dX4_slice_11 : decode cX4_slice 11 = .ok (.ldc2_w 94, 3) := by decide +kernel
theorem dX4_slice_14 : decode cX4_slice 14 = .ok (.invokestatic 84, 3) := by decide +kernel
theorem dX4_slice_17 : decode cX4_slice 17 = .ok (.ifCond .ne 5, 3) := by decide +kernel
theorem dX4_slice_20 : decode cX4_slice 20 = .ok (.iconst (-1), 1) := by decide +kernel
theorem dX4_slice_21 : decode cX4_slice 21 = .ok (.ireturn, 1) := by decide +kernel
theorem dX4_slice_22 : decode cX4_slice 22 = .ok (.aload_n 0, 1) := by decide +kernel
theorem dX4_slice_23 : decode cX4_slice 23 = .ok (.invokevirtual 165, 3) := by decide +kernel
theorem dX4_slice_26 : decode cX4_slice 26 = .ok (.iload_n 2, 1) := by decide +kernel
theorem dX4_slice_27 : decode cX4_slice 27 = .ok (.iconst 2, 1) := by decide +kernel
theorem dX4_slice_28 : decode cX4_slice 28 = .ok (.if_icmp .ge 21, 3) := by decide +kernel
theorem dX4_slice_31 : decode cX4_slice 31 = .ok (.aload_n 0, 1) := by decide +kernel
theorem dX4_slice_32 : decode cX4_slice 32 = .ok (.iload_n 1, 1) := by decide +kernel
theorem dX4_slice_33 : decode cX4_slice 33 = .ok (.iload_n 2, 1) := by decide +kernel
theorem dX4_slice_34 : decode cX4_slice 34 = .ok (.iconst 1, 1) := by decide +kernel
theorem dX4_slice_35 : decode cX4_slice 35 = .ok (.if_icmp .ne 7, 3) := by decide +kernel
theorem dX4_slice_38 : decode cX4_slice 38 = .ok (.iconst 1, 1) := by decide +kernel
theorem dX4_slice_39 : decode cX4_slice 39 = .ok (.goto 4, 3) := by decide +kernel
theorem dX4_slice_42 : decode cX4_slice 42 = .ok (.iconst 0, 1) := by decide +kernel
theorem dX4_slice_43 : decode cX4_slice 43 = .ok (.invokevirtual 162, 3) := by decide +kernel
theorem dX4_slice_46 : decode cX4_slice 46 = .ok (.goto 18, 3) := by decide +kernel
theorem dX4_slice_49 : decode cX4_slice 49 = .ok (.aload_n 0, 1) := by decide +kernel
theorem dX4_slice_50 : decode cX4_slice 50 = .ok (.iload_n 1, 1) := by decide +kernel
theorem dX4_slice_51 : decode cX4_slice 51 = .ok (.iload_n 2, 1) := by decide +kernel
theorem dX4_slice_52 : decode cX4_slice 52 = .ok (.iconst 3, 1) := by decide +kernel
theorem dX4_slice_53 : decode cX4_slice 53 = .ok (.if_icmp .ne 7, 3) := by decide +kernel
theorem dX4_slice_56 : decode cX4_slice 56 = .ok (.iconst 1, 1) := by decide +kernel
theorem dX4_slice_57 : decode cX4_slice 57 = .ok (.goto 4, 3) := by decide +kernel
theorem dX4_slice_60 : decode cX4_slice 60 = .ok (.iconst 0, 1) := by decide +kernel
theorem dX4_slice_61 : decode cX4_slice 61 = .ok (.invokevirtual 168, 3) := by decide +kernel
theorem dX4_slice_64 : decode cX4_slice 64 = .ok (.ireturn, 1) := by decide +kernel
theorem dX4_causes_0 : decode cX4_causes 0 = .ok (.aload_n 0, 1) := by decide +kernel
theorem dX4_causes_1 : decode cX4_causes 1 = .ok (.iload_n 1, 1) := by decide +kernel
theorem dX4_causes_2 : decode cX4_causes 2 = .ok (.invokevirtual 110, 3) := by decide +kernel
theorem dX4_causes_5 : decode cX4_causes 5 = .ok (.ifCond .ne 5, 3) := by decide +kernel
theorem dX4_causes_8 : decode cX4_causes 8 = .ok (.iconst (-1), 1) := by decide +kernel
theorem dX4_causes_9 : decode cX4_causes 9 = .ok (.ireturn, 1) := by decide +kernel
theorem dX4_causes_10 : decode cX4_causes 10 = .ok (.aload_n 0, 1) := by decide +kernel
theorem dX4_causes_11 : decode cX4_causes 11 = .ok (.invokevirtual 165, 3) := by decide +kernel
theorem dX4_causes_14 : decode cX4_causes 14 = .ok (.iconst 0, 1) := by decide +kernel
theorem dX4_causes_15 : decode cX4_causes 15 = .ok (.istore_n 2, 1) := by decide +kernel
theorem dX4_causes_16 : decode cX4_causes 16 = .ok (.iconst 0, 1) := by decide +kernel
theorem dX4_causes_17 : decode cX4_causes 17 = .ok (.istore_n 3, 1) := by decide +kernel
theorem dX4_causes_18 : decode cX4_causes 18 = .ok (.iload_n 3, 1) := by decide +kernel
theorem dX4_causes_19 : decode cX4_causes 19 = .ok (.bipush 96, 2) := by decide +kernel
theorem dX4_causes_21 : decode cX4_causes 21 = .ok (.if_icmp .ge 30, 3) := by decide +kernel
theorem dX4_causes_24 : decode cX4_causes 24 = .ok (.iload_n 2, 1) := by decide +kernel
theorem dX4_causes_25 : decode cX4_causes 25 = .ok (.aload_n 0, 1) := by decide +kernel
theorem dX4_causes_26 : decode cX4_causes 26 = .ok (.getfield 54, 3) := by decide +kernel
theorem dX4_causes_29 : decode cX4_causes 29 = .ok (.iconst 4, 1) := by decide +kernel
theorem dX4_causes_30 : decode cX4_causes 30 = .ok (.iload_n 1, 1) := by decide +kernel
theorem dX4_causes_31 : decode cX4_causes 31 = .ok (.imul, 1) := by decide +kernel
theorem dX4_causes_32 : decode cX4_causes 32 = .ok (.iload_n 3, 1) := by decide +kernel
theorem dX4_causes_33 : decode cX4_causes 33 = .ok (.iconst 3, 1) := by decide +kernel
theorem dX4_causes_34 : decode cX4_causes 34 = .ok (.iand, 1) := by decide +kernel
theorem dX4_causes_35 : decode cX4_causes 35 = .ok (.iadd, 1) := by decide +kernel
theorem dX4_causes_36 : decode cX4_causes 36 = .ok (.iaload, 1) := by decide +kernel
theorem dX4_causes_37 : decode cX4_causes 37 = .ok (.iload_n 3, 1) := by decide +kernel
theorem dX4_causes_38 : decode cX4_causes 38 = .ok (.iconst 2, 1) := by decide +kernel
theorem dX4_causes_39 : decode cX4_causes 39 = .ok (.ishr, 1) := by decide +kernel
theorem dX4_causes_40 : decode cX4_causes 40 = .ok (.ishr, 1) := by decide +kernel
theorem dX4_causes_41 : decode cX4_causes 41 = .ok (.iconst 1, 1) := by decide +kernel
theorem dX4_causes_42 : decode cX4_causes 42 = .ok (.iand, 1) := by decide +kernel
theorem dX4_causes_43 : decode cX4_causes 43 = .ok (.iadd, 1) := by decide +kernel
theorem dX4_causes_44 : decode cX4_causes 44 = .ok (.istore_n 2, 1) := by decide +kernel
theorem dX4_causes_45 : decode cX4_causes 45 = .ok (.iinc 3 1, 3) := by decide +kernel
theorem dX4_causes_48 : decode cX4_causes 48 = .ok (.goto (-30), 3) := by decide +kernel
theorem dX4_causes_51 : decode cX4_causes 51 = .ok (.iload_n 2, 1) := by decide +kernel
theorem dX4_causes_52 : decode cX4_causes 52 = .ok (.ireturn, 1) := by decide +kernel
theorem dX4_cause_0 : decode cX4_cause 0 = .ok (.aload_n 0, 1) := by decide +kernel
theorem dX4_cause_1 : decode cX4_cause 1 = .ok (.iload_n 1, 1) := by decide +kernel
theorem dX4_cause_2 : decode cX4_cause 2 = .ok (.invokevirtual 110, 3) := by decide +kernel
theorem dX4_cause_5 : decode cX4_cause 5 = .ok (.ifCond .eq 17, 3) := by decide +kernel
theorem dX4_cause_8 : decode cX4_cause 8 = .ok (.iload_n 2, 1) := by decide +kernel
theorem dX4_cause_9 : decode cX4_cause 9 = .ok (.ifCond .lt 13, 3) := by decide +kernel
theorem dX4_cause_12 : decode cX4_cause 12 = .ok (.iload_n 3, 1) := by decide +kernel
theorem dX4_cause_13 : decode cX4_cause 13 = .ok (.i2l, 1) := by decide +kernel
theorem dX4_cause_14 : decode cX4_cause 14 = .ok (.lconst 0, 1) := by decide +kernel
theorem dX4_cause_15 : decode cX4_cause 15 = .ok (.lconst 1, 1) := by decide +kernel
theorem dX4_cause_16 : decode cX4_cause 16 = .ok (.invokestatic 84, 3) := by decide +kernel
theorem dX4_cause_19 : decode cX4_cause 19 = .ok (.ifCond .ne 5, 3) := by decide +kernel
theorem dX4_cause_22 : decode cX4_cause 22 = .ok (.iconst (-1), 1) := by decide +kernel
theorem dX4_cause_23 : decode cX4_cause 23 = .ok (.ireturn, 1) := by decide +kernel
theorem dX4_cause_24 : decode cX4_cause 24 = .ok (.aload_n 0, 1) := by decide +kernel
theorem dX4_cause_25 : decode cX4_cause 25 = .ok (.invokevirtual 165, 3) := by decide +kernel
theorem dX4_cause_28 : decode cX4_cause 28 = .ok (.iload_n 2, 1) := by decide +kernel
theorem dX4_cause_29 : decode cX4_cause 29 = .ok (.istore 4, 2) := by decide +kernel
theorem dX4_cause_31 : decode cX4_cause 31 = .ok (.iconst 0, 1) := by decide +kernel
theorem dX4_cause_32 : decode cX4_cause 32 = .ok (.istore 5, 2) := by decide +kernel
theorem dX4_cause_34 : decode cX4_cause 34 = .ok (.iload 5, 2) := by decide +kernel
theorem dX4_cause_36 : decode cX4_cause 36 = .ok (.bipush 96, 2) := by decide +kernel
theorem dX4_cause_38 : decode cX4_cause 38 = .ok (.if_icmp .ge 59, 3) := by decide +kernel
theorem dX4_cause_41 : decode cX4_cause 41 = .ok (.aload_n 0, 1) := by decide +kernel
theorem dX4_cause_42 : decode cX4_cause 42 = .ok (.getfield 54, 3) := by decide +kernel
theorem dX4_cause_45 : decode cX4_cause 45 = .ok (.iconst 4, 1) := by decide +kernel
theorem dX4_cause_46 : decode cX4_cause 46 = .ok (.iload_n 1, 1) := by decide +kernel
theorem dX4_cause_47 : decode cX4_cause 47 = .ok (.imul, 1) := by decide +kernel
theorem dX4_cause_48 : decode cX4_cause 48 = .ok (.iload 5, 2) := by decide +kernel
theorem dX4_cause_50 : decode cX4_cause 50 = .ok (.iconst 3, 1) := by decide +kernel
theorem dX4_cause_51 : decode cX4_cause 51 = .ok (.iand, 1) := by decide +kernel
theorem dX4_cause_52 : decode cX4_cause 52 = .ok (.iadd, 1) := by decide +kernel
theorem dX4_cause_53 : decode cX4_cause 53 = .ok (.iaload, 1) := by decide +kernel
end
section
theorem dX4_cause_54 : decode cX4_cause 54 = .ok (.iload 5, 2) := by decide +kernel
theorem dX4_cause_56 : decode cX4_cause 56 = .ok (.iconst 2, 1) := by decide +kernel
theorem dX4_cause_57 : decode cX4_cause 57 = .ok (.ishr, 1) := by decide +kernel
theorem dX4_cause_58 : decode cX4_cause 58 = .ok (.ishr, 1) := by decide +kernel
theorem dX4_cause_59 : decode cX4_cause 59 = .ok (.iconst 1, 1) := by decide +kernel
theorem dX4_cause_60 : decode cX4_cause 60 = .ok (.iand, 1) := by decide +kernel
theorem dX4_cause_61 : decode cX4_cause 61 = .ok (.iconst 1, 1) := by decide +kernel
theorem dX4_cause_62 : decode cX4_cause 62 = .ok (.if_icmp .ne 29, 3) := by decide +kernel
theorem dX4_cause_65 : decode cX4_cause 65 = .ok (.iload 4, 2) := by decide +kernel
theorem dX4_cause_67 : decode cX4_cause 67 = .ok (.ifCond .ne 21, 3) := by decide +kernel
theorem dX4_cause_70 : decode cX4_cause 70 = .ok (.iload_n 3, 1) := by decide +kernel
theorem dX4_cause_71 : decode cX4_cause 71 = .ok (.ifCond .ne 10, 3) := by decide +kernel
theorem dX4_cause_74 : decode cX4_cause 74 = .ok (.iload 5, 2) := by decide +kernel
theorem dX4_cause_76 : decode cX4_cause 76 = .ok (.iconst 2, 1) := by decide +kernel
theorem dX4_cause_77 : decode cX4_cause 77 = .ok (.ishr, 1) := by decide +kernel
theorem dX4_cause_78 : decode cX4_cause 78 = .ok (.goto 9, 3) := by decide +kernel
theorem dX4_cause_81 : decode cX4_cause 81 = .ok (.iconst 1, 1) := by decide +kernel
theorem dX4_cause_82 : decode cX4_cause 82 = .ok (.iload 5, 2) := by decide +kernel
theorem dX4_cause_84 : decode cX4_cause 84 = .ok (.iconst 3, 1) := by decide +kernel
theorem dX4_cause_85 : decode cX4_cause 85 = .ok (.iand, 1) := by decide +kernel
theorem dX4_cause_86 : decode cX4_cause 86 = .ok (.iadd, 1) := by decide +kernel
theorem dX4_cause_87 : decode cX4_cause 87 = .ok (.ireturn, 1) := by decide +kernel
theorem dX4_cause_88 : decode cX4_cause 88 = .ok (.iinc 4 (-1), 3) := by decide +kernel
theorem dX4_cause_91 : decode cX4_cause 91 = .ok (.iinc 5 1, 3) := by decide +kernel
theorem dX4_cause_94 : decode cX4_cause 94 = .ok (.goto (-60), 3) := by decide +kernel
theorem dX4_cause_97 : decode cX4_cause 97 = .ok (.bipush (-4), 2) := by decide +kernel
theorem dX4_cause_99 : decode cX4_cause 99 = .ok (.ireturn, 1) := by decide +kernel
theorem dX4_chop_0 : decode cX4_chop 0 = .ok (.aload_n 0, 1) := by decide +kernel
theorem dX4_chop_1 : decode cX4_chop 1 = .ok (.iload_n 1, 1) := by decide +kernel
theorem dX4_chop_2 : decode cX4_chop 2 = .ok (.invokevirtual 110, 3) := by decide +kernel
theorem dX4_chop_5 : decode cX4_chop 5 = .ok (.ifCond .eq 11, 3) := by decide +kernel
theorem dX4_chop_8 : decode cX4_chop 8 = .ok (.aload_n 0, 1) := by decide +kernel
theorem dX4_chop_9 : decode cX4_chop 9 = .ok (.iload_n 2, 1) := by decide +kernel
theorem dX4_chop_10 : decode cX4_chop 10 = .ok (.invokevirtual 110, 3) := by decide +kernel
theorem dX4_chop_13 : decode cX4_chop 13 = .ok (.ifCond .ne 5, 3) := by decide +kernel
theorem dX4_chop_16 : decode cX4_chop 16 = .ok (.iconst (-1), 1) := by decide +kernel
theorem dX4_chop_17 : decode cX4_chop 17 = .ok (.ireturn, 1) := by decide +kernel
theorem dX4_chop_18 : decode cX4_chop 18 = .ok (.aload_n 0, 1) := by decide +kernel
theorem dX4_chop_19 : decode cX4_chop 19 = .ok (.invokevirtual 165, 3) := by decide +kernel
theorem dX4_chop_22 : decode cX4_chop 22 = .ok (.aload_n 0, 1) := by decide +kernel
theorem dX4_chop_23 : decode cX4_chop 23 = .ok (.iload_n 1, 1) := by decide +kernel
theorem dX4_chop_24 : decode cX4_chop 24 = .ok (.iconst 0, 1) := by decide +kernel
theorem dX4_chop_25 : decode cX4_chop 25 = .ok (.invokevirtual 168, 3) := by decide +kernel
theorem dX4_chop_28 : decode cX4_chop 28 = .ok (.aload_n 0, 1) := by decide +kernel
theorem dX4_chop_29 : decode cX4_chop 29 = .ok (.iload_n 2, 1) := by decide +kernel
theorem dX4_chop_30 : decode cX4_chop 30 = .ok (.iconst 0, 1) := by decide +kernel
theorem dX4_chop_31 : decode cX4_chop 31 = .ok (.invokevirtual 162, 3) := by decide +kernel
theorem dX4_chop_34 : decode cX4_chop 34 = .ok (.iand, 1) := by decide +kernel
theorem dX4_chop_35 : decode cX4_chop 35 = .ok (.ireturn, 1) := by decide +kernel
theorem dX4_way_0 : decode cX4_way 0 = .ok (.aload_n 0, 1) := by decide +kernel
theorem dX4_way_1 : decode cX4_way 1 = .ok (.iload_n 1, 1) := by decide +kernel
theorem dX4_way_2 : decode cX4_way 2 = .ok (.invokevirtual 110, 3) := by decide +kernel
theorem dX4_way_5 : decode cX4_way 5 = .ok (.ifCond .eq 11, 3) := by decide +kernel
theorem dX4_way_8 : decode cX4_way 8 = .ok (.aload_n 0, 1) := by decide +kernel
theorem dX4_way_9 : decode cX4_way 9 = .ok (.iload_n 2, 1) := by decide +kernel
theorem dX4_way_10 : decode cX4_way 10 = .ok (.invokevirtual 110, 3) := by decide +kernel
theorem dX4_way_13 : decode cX4_way 13 = .ok (.ifCond .ne 5, 3) := by decide +kernel
theorem dX4_way_16 : decode cX4_way 16 = .ok (.iconst (-1), 1) := by decide +kernel
theorem dX4_way_17 : decode cX4_way 17 = .ok (.ireturn, 1) := by decide +kernel
theorem dX4_way_18 : decode cX4_way 18 = .ok (.aload_n 0, 1) := by decide +kernel
theorem dX4_way_19 : decode cX4_way 19 = .ok (.invokevirtual 165, 3) := by decide +kernel
theorem dX4_way_22 : decode cX4_way 22 = .ok (.iconst 0, 1) := by decide +kernel
theorem dX4_way_23 : decode cX4_way 23 = .ok (.istore_n 3, 1) := by decide +kernel
theorem dX4_way_24 : decode cX4_way 24 = .ok (.iload_n 3, 1) := by decide +kernel
theorem dX4_way_25 : decode cX4_way 25 = .ok (.bipush 24, 2) := by decide +kernel
theorem dX4_way_27 : decode cX4_way 27 = .ok (.if_icmp .ge 26, 3) := by decide +kernel
theorem dX4_way_30 : decode cX4_way 30 = .ok (.aload_n 0, 1) := by decide +kernel
theorem dX4_way_31 : decode cX4_way 31 = .ok (.getfield 60, 3) := by decide +kernel
theorem dX4_way_34 : decode cX4_way 34 = .ok (.iload_n 3, 1) := by decide +kernel
theorem dX4_way_35 : decode cX4_way 35 = .ok (.iload_n 3, 1) := by decide +kernel
theorem dX4_way_36 : decode cX4_way 36 = .ok (.iload_n 2, 1) := by decide +kernel
theorem dX4_way_37 : decode cX4_way 37 = .ok (.if_icmp .ne 7, 3) := by decide +kernel
theorem dX4_way_40 : decode cX4_way 40 = .ok (.iconst 0, 1) := by decide +kernel
theorem dX4_way_41 : decode cX4_way 41 = .ok (.goto 5, 3) := by decide +kernel
theorem dX4_way_44 : decode cX4_way 44 = .ok (.bipush 99, 2) := by decide +kernel
theorem dX4_way_46 : decode cX4_way 46 = .ok (.iastore, 1) := by decide +kernel
theorem dX4_way_47 : decode cX4_way 47 = .ok (.iinc 3 1, 3) := by decide +kernel
theorem dX4_way_50 : decode cX4_way 50 = .ok (.goto (-26), 3) := by decide +kernel
theorem dX4_way_53 : decode cX4_way 53 = .ok (.iconst 1, 1) := by decide +kernel
theorem dX4_way_54 : decode cX4_way 54 = .ok (.istore_n 3, 1) := by decide +kernel
theorem dX4_way_55 : decode cX4_way 55 = .ok (.iload_n 3, 1) := by decide +kernel
theorem dX4_way_56 : decode cX4_way 56 = .ok (.bipush 24, 2) := by decide +kernel
theorem dX4_way_58 : decode cX4_way 58 = .ok (.if_icmp .ge 103, 3) := by decide +kernel
theorem dX4_way_61 : decode cX4_way 61 = .ok (.iconst 0, 1) := by decide +kernel
theorem dX4_way_62 : decode cX4_way 62 = .ok (.istore 4, 2) := by decide +kernel
theorem dX4_way_64 : decode cX4_way 64 = .ok (.iload 4, 2) := by decide +kernel
theorem dX4_way_66 : decode cX4_way 66 = .ok (.aload_n 0, 1) := by decide +kernel
theorem dX4_way_67 : decode cX4_way 67 = .ok (.getfield 81, 3) := by decide +kernel
theorem dX4_way_70 : decode cX4_way 70 = .ok (.if_icmp .ge 85, 3) := by decide +kernel
theorem dX4_way_73 : decode cX4_way 73 = .ok (.aload_n 0, 1) := by decide +kernel
theorem dX4_way_74 : decode cX4_way 74 = .ok (.iload 4, 2) := by decide +kernel
theorem dX4_way_76 : decode cX4_way 76 = .ok (.iconst 0, 1) := by decide +kernel
theorem dX4_way_77 : decode cX4_way 77 = .ok (.invokevirtual 159, 3) := by decide +kernel
theorem dX4_way_80 : decode cX4_way 80 = .ok (.istore 5, 2) := by decide +kernel
theorem dX4_way_82 : decode cX4_way 82 = .ok (.iconst 0, 1) := by decide +kernel
theorem dX4_way_83 : decode cX4_way 83 = .ok (.istore 6, 2) := by decide +kernel
theorem dX4_way_85 : decode cX4_way 85 = .ok (.iload 6, 2) := by decide +kernel
theorem dX4_way_87 : decode cX4_way 87 = .ok (.aload_n 0, 1) := by decide +kernel
theorem dX4_way_88 : decode cX4_way 88 = .ok (.getfield 81, 3) := by decide +kernel
theorem dX4_way_91 : decode cX4_way 91 = .ok (.if_icmp .ge 58, 3) := by decide +kernel
theorem dX4_way_94 : decode cX4_way 94 = .ok (.aload_n 0, 1) := by decide +kernel
theorem dX4_way_95 : decode cX4_way 95 = .ok (.getfield 60, 3) := by decide +kernel
theorem dX4_way_98 : decode cX4_way 98 = .ok (.iload 4, 2) := by decide +kernel
theorem dX4_way_100 : decode cX4_way 100 = .ok (.iaload, 1) := by decide +kernel
theorem dX4_way_101 : decode cX4_way 101 = .ok (.bipush 99, 2) := by decide +kernel
theorem dX4_way_103 : decode cX4_way 103 = .ok (.if_icmp .ne 46, 3) := by decide +kernel
theorem dX4_way_106 : decode cX4_way 106 = .ok (.aload_n 0, 1) := by decide +kernel
theorem dX4_way_107 : decode cX4_way 107 = .ok (.getfield 60, 3) := by decide +kernel
theorem dX4_way_110 : decode cX4_way 110 = .ok (.iload 4, 2) := by decide +kernel
theorem dX4_way_112 : decode cX4_way 112 = .ok (.iload 5, 2) := by decide +kernel
theorem dX4_way_114 : decode cX4_way 114 = .ok (.iload 6, 2) := by decide +kernel
theorem dX4_way_116 : decode cX4_way 116 = .ok (.ishr, 1) := by decide +kernel
theorem dX4_way_117 : decode cX4_way 117 = .ok (.iconst 1, 1) := by decide +kernel
theorem dX4_way_118 : decode cX4_way 118 = .ok (.iand, 1) := by decide +kernel
theorem dX4_way_119 : decode cX4_way 119 = .ok (.iconst 1, 1) := by decide +kernel
theorem dX4_way_120 : decode cX4_way 120 = .ok (.if_icmp .ne 20, 3) := by decide +kernel
theorem dX4_way_123 : decode cX4_way 123 = .ok (.aload_n 0, 1) := by decide +kernel
theorem dX4_way_124 : decode cX4_way 124 = .ok (.getfield 60, 3) := by decide +kernel
theorem dX4_way_127 : decode cX4_way 127 = .ok (.iload 6, 2) := by decide +kernel
theorem dX4_way_129 : decode cX4_way 129 = .ok (.iaload, 1) := by decide +kernel
theorem dX4_way_130 : decode cX4_way 130 = .ok (.iload_n 3, 1) := by decide +kernel
theorem dX4_way_131 : decode cX4_way 131 = .ok (.iconst 1, 1) := by decide +kernel
theorem dX4_way_132 : decode cX4_way 132 = .ok (.isub, 1) := by decide +kernel
theorem dX4_way_133 : decode cX4_way 133 = .ok (.if_icmp .ne 7, 3) := by decide +kernel
theorem dX4_way_136 : decode cX4_way 136 = .ok (.iload_n 3, 1) := by decide +kernel
theorem dX4_way_137 : decode cX4_way 137 = .ok (.goto 5, 3) := by decide +kernel
theorem dX4_way_140 : decode cX4_way 140 = .ok (.bipush 99, 2) := by decide +kernel
theorem dX4_way_142 : decode cX4_way 142 = .ok (.iastore, 1) := by decide +kernel
theorem dX4_way_143 : decode cX4_way 143 = .ok (.iinc 6 1, 3) := by decide +kernel
theorem dX4_way_146 : decode cX4_way 146 = .ok (.goto (-61), 3) := by decide +kernel
theorem dX4_way_149 : decode cX4_way 149 = .ok (.iinc 4 1, 3) := by decide +kernel
theorem dX4_way_152 : decode cX4_way 152 = .ok (.goto (-88), 3) := by decide +kernel
theorem dX4_way_155 : decode cX4_way 155 = .ok (.iinc 3 1, 3) := by decide +kernel
theorem dX4_way_158 : decode cX4_way 158 = .ok (.goto (-103), 3) := by decide +kernel
theorem dX4_way_161 : decode cX4_way 161 = .ok (.aload_n 0, 1) := by decide +kernel
theorem dX4_way_162 : decode cX4_way 162 = .ok (.getfield 60, 3) := by decide +kernel
theorem dX4_way_165 : decode cX4_way 165 = .ok (.iload_n 1, 1) := by decide +kernel
theorem dX4_way_166 : decode cX4_way 166 = .ok (.iaload, 1) := by decide +kernel
theorem dX4_way_167 : decode cX4_way 167 = .ok (.bipush 99, 2) := by decide +kernel
theorem dX4_way_169 : decode cX4_way 169 = .ok (.if_icmp .ne 6, 3) := by decide +kernel
theorem dX4_way_172 : decode cX4_way 172 = .ok (.bipush (-4), 2) := by decide +kernel
theorem dX4_way_174 : decode cX4_way 174 = .ok (.ireturn, 1) := by decide +kernel
theorem dX4_way_175 : decode cX4_way 175 = .ok (.aload_n 0, 1) := by decide +kernel
theorem dX4_way_176 : decode cX4_way 176 = .ok (.iconst 0, 1) := by decide +kernel
theorem dX4_way_177 : decode cX4_way 177 = .ok (.putfield 171, 3) := by decide +kernel
theorem dX4_way_180 : decode cX4_way 180 = .ok (.iload_n 1, 1) := by decide +kernel
theorem dX4_way_181 : decode cX4_way 181 = .ok (.istore_n 3, 1) := by decide +kernel
theorem dX4_way_182 : decode cX4_way 182 = .ok (.aload_n 0, 1) := by decide +kernel
theorem dX4_way_183 : decode cX4_way 183 = .ok (.getfield 48, 3) := by decide +kernel
theorem dX4_way_186 : decode cX4_way 186 = .ok (.iconst 0, 1) := by decide +kernel
theorem dX4_way_187 : decode cX4_way 187 = .ok (.iload_n 1, 1) := by decide +kernel
theorem dX4_way_188 : decode cX4_way 188 = .ok (.iastore, 1) := by decide +kernel
theorem dX4_way_189 : decode cX4_way 189 = .ok (.aload_n 0, 1) := by decide +kernel
theorem dX4_way_190 : decode cX4_way 190 = .ok (.iconst 1, 1) := by decide +kernel
theorem dX4_way_191 : decode cX4_way 191 = .ok (.putfield 171, 3) := by decide +kernel
theorem dX4_way_194 : decode cX4_way 194 = .ok (.iload_n 3, 1) := by decide +kernel
theorem dX4_way_195 : decode cX4_way 195 = .ok (.iload_n 2, 1) := by decide +kernel
theorem dX4_way_196 : decode cX4_way 196 = .ok (.if_icmp .eq 75, 3) := by decide +kernel
theorem dX4_way_199 : decode cX4_way 199 = .ok (.aload_n 0, 1) := by decide +kernel
theorem dX4_way_200 : decode cX4_way 200 = .ok (.iload_n 3, 1) := by decide +kernel
theorem dX4_way_201 : decode cX4_way 201 = .ok (.iconst 0, 1) := by decide +kernel
theorem dX4_way_202 : decode cX4_way 202 = .ok (.invokevirtual 159, 3) := by decide +kernel
theorem dX4_way_205 : decode cX4_way 205 = .ok (.istore 4, 2) := by decide +kernel
theorem dX4_way_207 : decode cX4_way 207 = .ok (.iconst 0, 1) := by decide +kernel
theorem dX4_way_208 : decode cX4_way 208 = .ok (.istore 5, 2) := by decide +kernel
theorem dX4_way_210 : decode cX4_way 210 = .ok (.iload 4, 2) := by decide +kernel
theorem dX4_way_212 : decode cX4_way 212 = .ok (.iload 5, 2) := by decide +kernel
theorem dX4_way_214 : decode cX4_way 214 = .ok (.ishr, 1) := by decide +kernel
theorem dX4_way_215 : decode cX4_way 215 = .ok (.iconst 1, 1) := by decide +kernel
theorem dX4_way_216 : decode cX4_way 216 = .ok (.iand, 1) := by decide +kernel
theorem dX4_way_217 : decode cX4_way 217 = .ok (.ifCond .eq 21, 3) := by decide +kernel
theorem dX4_way_220 : decode cX4_way 220 = .ok (.aload_n 0, 1) := by decide +kernel
theorem dX4_way_221 : decode cX4_way 221 = .ok (.getfield 60, 3) := by decide +kernel
theorem dX4_way_224 : decode cX4_way 224 = .ok (.iload 5, 2) := by decide +kernel
theorem dX4_way_226 : decode cX4_way 226 = .ok (.iaload, 1) := by decide +kernel
theorem dX4_way_227 : decode cX4_way 227 = .ok (.aload_n 0, 1) := by decide +kernel
theorem dX4_way_228 : decode cX4_way 228 = .ok (.getfield 60, 3) := by decide +kernel
theorem dX4_way_231 : decode cX4_way 231 = .ok (.iload_n 3, 1) := by decide +kernel
theorem dX4_way_232 : decode cX4_way 232 = .ok (.iaload, 1) := by decide +kernel
theorem dX4_way_233 : decode cX4_way 233 = .ok (.iconst 1, 1) := by decide +kernel
theorem dX4_way_234 : decode cX4_way 234 = .ok (.isub, 1) := by decide +kernel
theorem dX4_way_235 : decode cX4_way 235 = .ok (.if_icmp .eq 9, 3) := by decide +kernel
theorem dX4_way_238 : decode cX4_way 238 = .ok (.iinc 5 1, 3) := by decide +kernel
theorem dX4_way_241 : decode cX4_way 241 = .ok (.goto (-31), 3) := by decide +kernel
theorem dX4_way_244 : decode cX4_way 244 = .ok (.iload 5, 2) := by decide +kernel
theorem dX4_way_246 : decode cX4_way 246 = .ok (.istore_n 3, 1) := by decide +kernel
theorem dX4_way_247 : decode cX4_way 247 = .ok (.aload_n 0, 1) := by decide +kernel
theorem dX4_way_248 : decode cX4_way 248 = .ok (.getfield 48, 3) := by decide +kernel
theorem dX4_way_251 : decode cX4_way 251 = .ok (.aload_n 0, 1) := by decide +kernel
theorem dX4_way_252 : decode cX4_way 252 = .ok (.getfield 171, 3) := by decide +kernel
theorem dX4_way_255 : decode cX4_way 255 = .ok (.iload 5, 2) := by decide +kernel
theorem dX4_way_257 : decode cX4_way 257 = .ok (.iastore, 1) := by decide +kernel
theorem dX4_way_258 : decode cX4_way 258 = .ok (.aload_n 0, 1) := by decide +kernel
theorem dX4_way_259 : decode cX4_way 259 = .ok (.dup, 1) := by decide +kernel
theorem dX4_way_260 : decode cX4_way 260 = .ok (.getfield 171, 3) := by decide +kernel
theorem dX4_way_263 : decode cX4_way 263 = .ok (.iconst 1, 1) := by decide +kernel
theorem dX4_way_264 : decode cX4_way 264 = .ok (.iadd, 1) := by decide +kernel
theorem dX4_way_265 : decode cX4_way 265 = .ok (.putfield 171, 3) := by decide +kernel
theorem dX4_way_268 : decode cX4_way 268 = .ok (.goto (-74), 3) := by decide +kernel
theorem dX4_way_271 : decode cX4_way 271 = .ok (.aload_n 0, 1) := by decide +kernel
theorem dX4_way_272 : decode cX4_way 272 = .ok (.getfield 171, 3) := by decide +kernel
theorem dX4_way_275 : decode cX4_way 275 = .ok (.ireturn, 1) := by decide +kernel
theorem dX4_on__0 : decode cX4_on_ 0 = .ok (.iload_n 1, 1) := by decide +kernel
theorem dX4_on__1 : decode cX4_on_ 1 = .ok (.i2l, 1) := by decide +kernel
theorem dX4_on__2 : decode cX4_on_ 2 = .ok (.lconst 0, 1) := by decide +kernel
theorem dX4_on__3 : decode cX4_on_ 3 = .ok (.aload_n 0, 1) := by decide +kernel
theorem dX4_on__4 : decode cX4_on_ 4 = .ok (.getfield 171, 3) := by decide +kernel
theorem dX4_on__7 : decode cX4_on_ 7 = .ok (.iconst 1, 1) := by decide +kernel
theorem dX4_on__8 : decode cX4_on_ 8 = .ok (.isub, 1) := by decide +kernel
theorem dX4_on__9 : decode cX4_on_ 9 = .ok (.i2l, 1) := by decide +kernel
theorem dX4_on__10 : decode cX4_on_ 10 = .ok (.invokestatic 84, 3) := by decide +kernel
theorem dX4_on__13 : decode cX4_on_ 13 = .ok (.ifCond .eq 12, 3) := by decide +kernel
theorem dX4_on__16 : decode cX4_on_ 16 = .ok (.aload_n 0, 1) := by decide +kernel
theorem dX4_on__17 : decode cX4_on_ 17 = .ok (.getfield 48, 3) := by decide +kernel
theorem dX4_on__20 : decode cX4_on_ 20 = .ok (.iload_n 1, 1) := by decide +kernel
theorem dX4_on__21 : decode cX4_on_ 21 = .ok (.iaload, 1) := by decide +kernel
theorem dX4_on__22 : decode cX4_on_ 22 = .ok (.goto 5, 3) := by decide +kernel
theorem dX4_on__25 : decode cX4_on_ 25 = .ok (.bipush (-4), 2) := by decide +kernel
theorem dX4_on__27 : decode cX4_on_ 27 = .ok (.ireturn, 1) := by decide +kernel
theorem dX4_many_0 : decode cX4_many 0 = .ok (.iconst 0, 1) := by decide +kernel
theorem dX4_many_1 : decode cX4_many 1 = .ok (.istore_n 1, 1) := by decide +kernel
theorem dX4_many_2 : decode cX4_many 2 = .ok (.iconst 0, 1) := by decide +kernel
theorem dX4_many_3 : decode cX4_many 3 = .ok (.istore_n 2, 1) := by decide +kernel
theorem dX4_many_4 : decode cX4_many 4 = .ok (.iload_n 2, 1) := by decide +kernel
theorem dX4_many_5 : decode cX4_many 5 = .ok (.iconst 4, 1) := by decide +kernel
theorem dX4_many_6 : decode cX4_many 6 = .ok (.if_icmp .ge 17, 3) := by decide +kernel
theorem dX4_many_9 : decode cX4_many 9 = .ok (.iload_n 1, 1) := by decide +kernel
theorem dX4_many_10 : decode cX4_many 10 = .ok (.iload_n 0, 1) := by decide +kernel
theorem dX4_many_11 : decode cX4_many 11 = .ok (.iload_n 2, 1) := by decide +kernel
theorem dX4_many_12 : decode cX4_many 12 = .ok (.ishr, 1) := by decide +kernel
theorem dX4_many_13 : decode cX4_many 13 = .ok (.iconst 1, 1) := by decide +kernel
theorem dX4_many_14 : decode cX4_many 14 = .ok (.iand, 1) := by decide +kernel
theorem dX4_many_15 : decode cX4_many 15 = .ok (.iadd, 1) := by decide +kernel
theorem dX4_many_16 : decode cX4_many 16 = .ok (.istore_n 1, 1) := by decide +kernel
theorem dX4_many_17 : decode cX4_many 17 = .ok (.iinc 2 1, 3) := by decide +kernel
theorem dX4_many_20 : decode cX4_many 20 = .ok (.goto (-16), 3) := by decide +kernel
theorem dX4_many_23 : decode cX4_many 23 = .ok (.iload_n 1, 1) := by decide +kernel
theorem dX4_many_24 : decode cX4_many 24 = .ok (.ireturn, 1) := by decide +kernel
theorem dX4_begin_0 : decode cX4_begin 0 = .ok (.iconst 0, 1) := by decide +kernel
theorem dX4_begin_1 : decode cX4_begin 1 = .ok (.istore_n 3, 1) := by decide +kernel
theorem dX4_begin_2 : decode cX4_begin 2 = .ok (.iload_n 3, 1) := by decide +kernel
theorem dX4_begin_3 : decode cX4_begin 3 = .ok (.bipush 8, 2) := by decide +kernel
theorem dX4_begin_5 : decode cX4_begin 5 = .ok (.if_icmp .ge 16, 3) := by decide +kernel
theorem dX4_begin_8 : decode cX4_begin 8 = .ok (.aload_n 0, 1) := by decide +kernel
theorem dX4_begin_9 : decode cX4_begin 9 = .ok (.getfield 63, 3) := by decide +kernel
theorem dX4_begin_12 : decode cX4_begin 12 = .ok (.iload_n 3, 1) := by decide +kernel
theorem dX4_begin_13 : decode cX4_begin 13 = .ok (.iconst 0, 1) := by decide +kernel
theorem dX4_begin_14 : decode cX4_begin 14 = .ok (.iastore, 1) := by decide +kernel
theorem dX4_begin_15 : decode cX4_begin 15 = .ok (.iinc 3 1, 3) := by decide +kernel
theorem dX4_begin_18 : decode cX4_begin 18 = .ok (.goto (-16), 3) := by decide +kernel
theorem dX4_begin_21 : decode cX4_begin 21 = .ok (.iconst 0, 1) := by decide +kernel
theorem dX4_begin_22 : decode cX4_begin 22 = .ok (.istore_n 3, 1) := by decide +kernel
theorem dX4_begin_23 : decode cX4_begin 23 = .ok (.iload_n 3, 1) := by decide +kernel
theorem dX4_begin_24 : decode cX4_begin 24 = .ok (.bipush 32, 2) := by decide +kernel
theorem dX4_begin_26 : decode cX4_begin 26 = .ok (.if_icmp .ge 16, 3) := by decide +kernel
theorem dX4_begin_29 : decode cX4_begin 29 = .ok (.aload_n 0, 1) := by decide +kernel
theorem dX4_begin_30 : decode cX4_begin 30 = .ok (.getfield 66, 3) := by decide +kernel
theorem dX4_begin_33 : decode cX4_begin 33 = .ok (.iload_n 3, 1) := by decide +kernel
theorem dX4_begin_34 : decode cX4_begin 34 = .ok (.iconst 0, 1) := by decide +kernel
theorem dX4_begin_35 : decode cX4_begin 35 = .ok (.iastore, 1) := by decide +kernel
theorem dX4_begin_36 : decode cX4_begin 36 = .ok (.iinc 3 1, 3) := by decide +kernel
theorem dX4_begin_39 : decode cX4_begin 39 = .ok (.goto (-16), 3) := by decide +kernel
theorem dX4_begin_42 : decode cX4_begin 42 = .ok (.iconst 0, 1) := by decide +kernel
theorem dX4_begin_43 : decode cX4_begin 43 = .ok (.istore_n 3, 1) := by decide +kernel
theorem dX4_begin_44 : decode cX4_begin 44 = .ok (.iload_n 3, 1) := by decide +kernel
theorem dX4_begin_45 : decode cX4_begin 45 = .ok (.iconst 4, 1) := by decide +kernel
theorem dX4_begin_46 : decode cX4_begin 46 = .ok (.if_icmp .ge 93, 3) := by decide +kernel
theorem dX4_begin_49 : decode cX4_begin 49 = .ok (.aload_n 0, 1) := by decide +kernel
theorem dX4_begin_50 : decode cX4_begin 50 = .ok (.getfield 69, 3) := by decide +kernel
theorem dX4_begin_53 : decode cX4_begin 53 = .ok (.iload_n 3, 1) := by decide +kernel
theorem dX4_begin_54 : decode cX4_begin 54 = .ok (.aload_n 0, 1) := by decide +kernel
theorem dX4_begin_55 : decode cX4_begin 55 = .ok (.getfield 25, 3) := by decide +kernel
theorem dX4_begin_58 : decode cX4_begin 58 = .ok (.iload_n 3, 1) := by decide +kernel
theorem dX4_begin_59 : decode cX4_begin 59 = .ok (.iaload, 1) := by decide +kernel
theorem dX4_begin_60 : decode cX4_begin 60 = .ok (.iastore, 1) := by decide +kernel
theorem dX4_begin_61 : decode cX4_begin 61 = .ok (.aload_n 1, 1) := by decide +kernel
theorem dX4_begin_62 : decode cX4_begin 62 = .ok (.iload_n 2, 1) := by decide +kernel
theorem dX4_begin_63 : decode cX4_begin 63 = .ok (.iconst 3, 1) := by decide +kernel
theorem dX4_begin_64 : decode cX4_begin 64 = .ok (.iadd, 1) := by decide +kernel
theorem dX4_begin_65 : decode cX4_begin 65 = .ok (.iaload, 1) := by decide +kernel
theorem dX4_begin_66 : decode cX4_begin 66 = .ok (.ldc 174, 2) := by decide +kernel
theorem dX4_begin_68 : decode cX4_begin 68 = .ok (.iand, 1) := by decide +kernel
theorem dX4_begin_69 : decode cX4_begin 69 = .ok (.aload_n 0, 1) := by decide +kernel
theorem dX4_begin_70 : decode cX4_begin 70 = .ok (.getfield 32, 3) := by decide +kernel
theorem dX4_begin_73 : decode cX4_begin 73 = .ok (.iload_n 3, 1) := by decide +kernel
theorem dX4_begin_74 : decode cX4_begin 74 = .ok (.iaload, 1) := by decide +kernel
theorem dX4_begin_75 : decode cX4_begin 75 = .ok (.invokestatic 175, 3) := by decide +kernel
theorem dX4_begin_78 : decode cX4_begin 78 = .ok (.irem, 1) := by decide +kernel
theorem dX4_begin_79 : decode cX4_begin 79 = .ok (.istore 4, 2) := by decide +kernel
theorem dX4_begin_81 : decode cX4_begin 81 = .ok (.iconst 0, 1) := by decide +kernel
theorem dX4_begin_82 : decode cX4_begin 82 = .ok (.istore 5, 2) := by decide +kernel
theorem dX4_begin_84 : decode cX4_begin 84 = .ok (.iload 4, 2) := by decide +kernel
theorem dX4_begin_86 : decode cX4_begin 86 = .ok (.ifCond .gt 17, 3) := by decide +kernel
theorem dX4_begin_89 : decode cX4_begin 89 = .ok (.aload_n 0, 1) := by decide +kernel
theorem dX4_begin_90 : decode cX4_begin 90 = .ok (.getfield 32, 3) := by decide +kernel
theorem dX4_begin_93 : decode cX4_begin 93 = .ok (.iload_n 3, 1) := by decide +kernel
theorem dX4_begin_94 : decode cX4_begin 94 = .ok (.iaload, 1) := by decide +kernel
theorem dX4_begin_95 : decode cX4_begin 95 = .ok (.iload 5, 2) := by decide +kernel
theorem dX4_begin_97 : decode cX4_begin 97 = .ok (.ishr, 1) := by decide +kernel
theorem dX4_begin_98 : decode cX4_begin 98 = .ok (.iconst 1, 1) := by decide +kernel
theorem dX4_begin_99 : decode cX4_begin 99 = .ok (.iand, 1) := by decide +kernel
theorem dX4_begin_100 : decode cX4_begin 100 = .ok (.ifCond .ne 25, 3) := by decide +kernel
theorem dX4_begin_103 : decode cX4_begin 103 = .ok (.iload 4, 2) := by decide +kernel
theorem dX4_begin_105 : decode cX4_begin 105 = .ok (.aload_n 0, 1) := by decide +kernel
theorem dX4_begin_106 : decode cX4_begin 106 = .ok (.getfield 32, 3) := by decide +kernel
theorem dX4_begin_109 : decode cX4_begin 109 = .ok (.iload_n 3, 1) := by decide +kernel
theorem dX4_begin_110 : decode cX4_begin 110 = .ok (.iaload, 1) := by decide +kernel
theorem dX4_begin_111 : decode cX4_begin 111 = .ok (.iload 5, 2) := by decide +kernel
theorem dX4_begin_113 : decode cX4_begin 113 = .ok (.ishr, 1) := by decide +kernel
theorem dX4_begin_114 : decode cX4_begin 114 = .ok (.iconst 1, 1) := by decide +kernel
theorem dX4_begin_115 : decode cX4_begin 115 = .ok (.iand, 1) := by decide +kernel
theorem dX4_begin_116 : decode cX4_begin 116 = .ok (.isub, 1) := by decide +kernel
theorem dX4_begin_117 : decode cX4_begin 117 = .ok (.istore 4, 2) := by decide +kernel
theorem dX4_begin_119 : decode cX4_begin 119 = .ok (.iinc 5 1, 3) := by decide +kernel
theorem dX4_begin_122 : decode cX4_begin 122 = .ok (.goto (-38), 3) := by decide +kernel
theorem dX4_begin_125 : decode cX4_begin 125 = .ok (.aload_n 0, 1) := by decide +kernel
theorem dX4_begin_126 : decode cX4_begin 126 = .ok (.getfield 72, 3) := by decide +kernel
theorem dX4_begin_129 : decode cX4_begin 129 = .ok (.iload_n 3, 1) := by decide +kernel
theorem dX4_begin_130 : decode cX4_begin 130 = .ok (.iload 5, 2) := by decide +kernel
theorem dX4_begin_132 : decode cX4_begin 132 = .ok (.iastore, 1) := by decide +kernel
theorem dX4_begin_133 : decode cX4_begin 133 = .ok (.iinc 3 1, 3) := by decide +kernel
theorem dX4_begin_136 : decode cX4_begin 136 = .ok (.goto (-92), 3) := by decide +kernel
theorem dX4_begin_139 : decode cX4_begin 139 = .ok (.aload_n 0, 1) := by decide +kernel
theorem dX4_begin_140 : decode cX4_begin 140 = .ok (.iconst 0, 1) := by decide +kernel
theorem dX4_begin_141 : decode cX4_begin 141 = .ok (.putfield 178, 3) := by decide +kernel
theorem dX4_begin_144 : decode cX4_begin 144 = .ok (.aload_n 0, 1) := by decide +kernel
theorem dX4_begin_145 : decode cX4_begin 145 = .ok (.bipush (-4), 2) := by decide +kernel
theorem dX4_begin_147 : decode cX4_begin 147 = .ok (.putfield 181, 3) := by decide +kernel
theorem dX4_begin_150 : decode cX4_begin 150 = .ok (.aload_n 0, 1) := by decide +kernel
theorem dX4_begin_151 : decode cX4_begin 151 = .ok (.iconst 0, 1) := by decide +kernel
theorem dX4_begin_152 : decode cX4_begin 152 = .ok (.putfield 184, 3) := by decide +kernel
theorem dX4_begin_155 : decode cX4_begin 155 = .ok (.return_, 1) := by decide +kernel
theorem dX4_does_0 : decode cX4_does 0 = .ok (.aload_n 0, 1) := by decide +kernel
theorem dX4_does_1 : decode cX4_does 1 = .ok (.getfield 13, 3) := by decide +kernel
theorem dX4_does_4 : decode cX4_does 4 = .ok (.iload_n 1, 1) := by decide +kernel
theorem dX4_does_5 : decode cX4_does 5 = .ok (.iaload, 1) := by decide +kernel
theorem dX4_does_6 : decode cX4_does 6 = .ok (.istore 4, 2) := by decide +kernel
theorem dX4_does_8 : decode cX4_does 8 = .ok (.aload_n 0, 1) := by decide +kernel
theorem dX4_does_9 : decode cX4_does 9 = .ok (.getfield 16, 3) := by decide +kernel
theorem dX4_does_12 : decode cX4_does 12 = .ok (.iload_n 1, 1) := by decide +kernel
theorem dX4_does_13 : decode cX4_does 13 = .ok (.iaload, 1) := by decide +kernel
theorem dX4_does_14 : decode cX4_does 14 = .ok (.istore 5, 2) := by decide +kernel
theorem dX4_does_16 : decode cX4_does 16 = .ok (.aload_n 0, 1) := by decide +kernel
theorem dX4_does_17 : decode cX4_does 17 = .ok (.getfield 19, 3) := by decide +kernel
theorem dX4_does_20 : decode cX4_does 20 = .ok (.iload_n 1, 1) := by decide +kernel
theorem dX4_does_21 : decode cX4_does 21 = .ok (.iaload, 1) := by decide +kernel
theorem dX4_does_22 : decode cX4_does 22 = .ok (.istore 6, 2) := by decide +kernel
theorem dX4_does_24 : decode cX4_does 24 = .ok (.iconst 0, 1) := by decide +kernel
theorem dX4_does_25 : decode cX4_does 25 = .ok (.istore 7, 2) := by decide +kernel
theorem dX4_does_27 : decode cX4_does 27 = .ok (.aload_n 0, 1) := by decide +kernel
theorem dX4_does_28 : decode cX4_does 28 = .ok (.getfield 7, 3) := by decide +kernel
theorem dX4_does_31 : decode cX4_does 31 = .ok (.iload_n 1, 1) := by decide +kernel
theorem dX4_does_32 : decode cX4_does 32 = .ok (.iaload, 1) := by decide +kernel
theorem dX4_does_33 : decode cX4_does 33 = .ok (.bipush 6, 2) := by decide +kernel
theorem dX4_does_35 : decode cX4_does 35 = .ok (.if_icmp .ne 13, 3) := by decide +kernel
theorem dX4_does_38 : decode cX4_does 38 = .ok (.aload_n 0, 1) := by decide +kernel
theorem dX4_does_39 : decode cX4_does 39 = .ok (.getfield 63, 3) := by decide +kernel
theorem dX4_does_42 : decode cX4_does 42 = .ok (.iload 6, 2) := by decide +kernel
theorem dX4_does_44 : decode cX4_does 44 = .ok (.iaload, 1) := by decide +kernel
theorem dX4_does_45 : decode cX4_does 45 = .ok (.ifCond .eq 35, 3) := by decide +kernel
theorem dX4_does_48 : decode cX4_does 48 = .ok (.aload_n 0, 1) := by decide +kernel
theorem dX4_does_49 : decode cX4_does 49 = .ok (.getfield 7, 3) := by decide +kernel
theorem dX4_does_52 : decode cX4_does 52 = .ok (.iload_n 1, 1) := by decide +kernel
theorem dX4_does_53 : decode cX4_does 53 = .ok (.iaload, 1) := by decide +kernel
theorem dX4_does_54 : decode cX4_does 54 = .ok (.bipush 9, 2) := by decide +kernel
theorem dX4_does_56 : decode cX4_does 56 = .ok (.if_icmp .eq 14, 3) := by decide +kernel
theorem dX4_does_59 : decode cX4_does 59 = .ok (.aload_n 0, 1) := by decide +kernel
theorem dX4_does_60 : decode cX4_does 60 = .ok (.getfield 7, 3) := by decide +kernel
theorem dX4_does_63 : decode cX4_does 63 = .ok (.iload_n 1, 1) := by decide +kernel
theorem dX4_does_64 : decode cX4_does 64 = .ok (.iaload, 1) := by decide +kernel
theorem dX4_does_65 : decode cX4_does 65 = .ok (.bipush 10, 2) := by decide +kernel
theorem dX4_does_67 : decode cX4_does 67 = .ok (.if_icmp .ne 21, 3) := by decide +kernel
theorem dX4_does_70 : decode cX4_does 70 = .ok (.aload_n 0, 1) := by decide +kernel
theorem dX4_does_71 : decode cX4_does 71 = .ok (.getfield 28, 3) := by decide +kernel
theorem dX4_does_74 : decode cX4_does 74 = .ok (.iload 5, 2) := by decide +kernel
theorem dX4_does_76 : decode cX4_does 76 = .ok (.baload, 1) := by decide +kernel
theorem dX4_does_77 : decode cX4_does 77 = .ok (.ifCond .eq 11, 3) := by decide +kernel
theorem dX4_does_80 : decode cX4_does 80 = .ok (.aload_n 0, 1) := by decide +kernel
theorem dX4_does_81 : decode cX4_does 81 = .ok (.ldc 187, 2) := by decide +kernel
theorem dX4_does_83 : decode cX4_does 83 = .ok (.putfield 188, 3) := by decide +kernel
theorem dX4_does_86 : decode cX4_does 86 = .ok (.iconst 0, 1) := by decide +kernel
theorem dX4_does_87 : decode cX4_does 87 = .ok (.ireturn, 1) := by decide +kernel
theorem dX4_does_88 : decode cX4_does 88 = .ok (.aload_n 0, 1) := by decide +kernel
theorem dX4_does_89 : decode cX4_does 89 = .ok (.getfield 7, 3) := by decide +kernel
theorem dX4_does_92 : decode cX4_does 92 = .ok (.iload_n 1, 1) := by decide +kernel
theorem dX4_does_93 : decode cX4_does 93 = .ok (.iaload, 1) := by decide +kernel
theorem dX4_does_94 : decode cX4_does 94 = .ok (.tableswitch 290 1 11 #[58, 65, 76, 96, 123, 143, 166, 206, 237, 249, 270], 58) := by decide +kernel
theorem dX4_does_152 : decode cX4_does 152 = .ok (.iload 5, 2) := by decide +kernel
theorem dX4_does_154 : decode cX4_does 154 = .ok (.istore 7, 2) := by decide +kernel
theorem dX4_does_156 : decode cX4_does 156 = .ok (.goto 228, 3) := by decide +kernel
theorem dX4_does_159 : decode cX4_does 159 = .ok (.aload_n 2, 1) := by decide +kernel
theorem dX4_does_160 : decode cX4_does 160 = .ok (.iload_n 3, 1) := by decide +kernel
theorem dX4_does_161 : decode cX4_does 161 = .ok (.iload 5, 2) := by decide +kernel
theorem dX4_does_163 : decode cX4_does 163 = .ok (.iadd, 1) := by decide +kernel
theorem dX4_does_164 : decode cX4_does 164 = .ok (.iaload, 1) := by decide +kernel
theorem dX4_does_165 : decode cX4_does 165 = .ok (.istore 7, 2) := by decide +kernel
theorem dX4_does_167 : decode cX4_does 167 = .ok (.goto 217, 3) := by decide +kernel
theorem dX4_does_170 : decode cX4_does 170 = .ok (.aload_n 0, 1) := by decide +kernel
theorem dX4_does_171 : decode cX4_does 171 = .ok (.getfield 63, 3) := by decide +kernel
theorem dX4_does_174 : decode cX4_does 174 = .ok (.iload 5, 2) := by decide +kernel
theorem dX4_does_176 : decode cX4_does 176 = .ok (.iaload, 1) := by decide +kernel
theorem dX4_does_177 : decode cX4_does 177 = .ok (.aload_n 0, 1) := by decide +kernel
theorem dX4_does_178 : decode cX4_does 178 = .ok (.getfield 63, 3) := by decide +kernel
theorem dX4_does_181 : decode cX4_does 181 = .ok (.iload 6, 2) := by decide +kernel
theorem dX4_does_183 : decode cX4_does 183 = .ok (.iaload, 1) := by decide +kernel
theorem dX4_does_184 : decode cX4_does 184 = .ok (.iadd, 1) := by decide +kernel
theorem dX4_does_185 : decode cX4_does 185 = .ok (.istore 7, 2) := by decide +kernel
theorem dX4_does_187 : decode cX4_does 187 = .ok (.goto 197, 3) := by decide +kernel
theorem dX4_does_190 : decode cX4_does 190 = .ok (.aload_n 0, 1) := by decide +kernel
theorem dX4_does_191 : decode cX4_does 191 = .ok (.getfield 63, 3) := by decide +kernel
theorem dX4_does_194 : decode cX4_does 194 = .ok (.iload 5, 2) := by decide +kernel
theorem dX4_does_196 : decode cX4_does 196 = .ok (.iaload, 1) := by decide +kernel
theorem dX4_does_197 : decode cX4_does 197 = .ok (.aload_n 0, 1) := by decide +kernel
theorem dX4_does_198 : decode cX4_does 198 = .ok (.getfield 63, 3) := by decide +kernel
theorem dX4_does_201 : decode cX4_does 201 = .ok (.iload 6, 2) := by decide +kernel
theorem dX4_does_203 : decode cX4_does 203 = .ok (.iaload, 1) := by decide +kernel
theorem dX4_does_204 : decode cX4_does 204 = .ok (.if_icmp .ge 7, 3) := by decide +kernel
theorem dX4_does_207 : decode cX4_does 207 = .ok (.iconst 1, 1) := by decide +kernel
theorem dX4_does_208 : decode cX4_does 208 = .ok (.goto 4, 3) := by decide +kernel
theorem dX4_does_211 : decode cX4_does 211 = .ok (.iconst 0, 1) := by decide +kernel
theorem dX4_does_212 : decode cX4_does 212 = .ok (.istore 7, 2) := by decide +kernel
theorem dX4_does_214 : decode cX4_does 214 = .ok (.goto 170, 3) := by decide +kernel
theorem dX4_does_217 : decode cX4_does 217 = .ok (.aload_n 0, 1) := by decide +kernel
theorem dX4_does_218 : decode cX4_does 218 = .ok (.getfield 63, 3) := by decide +kernel
theorem dX4_does_221 : decode cX4_does 221 = .ok (.iload 5, 2) := by decide +kernel
theorem dX4_does_223 : decode cX4_does 223 = .ok (.iaload, 1) := by decide +kernel
theorem dX4_does_224 : decode cX4_does 224 = .ok (.aload_n 0, 1) := by decide +kernel
theorem dX4_does_225 : decode cX4_does 225 = .ok (.getfield 63, 3) := by decide +kernel
theorem dX4_does_228 : decode cX4_does 228 = .ok (.iload 6, 2) := by decide +kernel
theorem dX4_does_230 : decode cX4_does 230 = .ok (.iaload, 1) := by decide +kernel
theorem dX4_does_231 : decode cX4_does 231 = .ok (.imul, 1) := by decide +kernel
theorem dX4_does_232 : decode cX4_does 232 = .ok (.istore 7, 2) := by decide +kernel
theorem dX4_does_234 : decode cX4_does 234 = .ok (.goto 150, 3) := by decide +kernel
theorem dX4_does_237 : decode cX4_does 237 = .ok (.aload_n 0, 1) := by decide +kernel
theorem dX4_does_238 : decode cX4_does 238 = .ok (.getfield 63, 3) := by decide +kernel
theorem dX4_does_241 : decode cX4_does 241 = .ok (.iload 5, 2) := by decide +kernel
theorem dX4_does_243 : decode cX4_does 243 = .ok (.iaload, 1) := by decide +kernel
theorem dX4_does_244 : decode cX4_does 244 = .ok (.i2l, 1) := by decide +kernel
theorem dX4_does_245 : decode cX4_does 245 = .ok (.aload_n 0, 1) := by decide +kernel
theorem dX4_does_246 : decode cX4_does 246 = .ok (.getfield 63, 3) := by decide +kernel
theorem dX4_does_249 : decode cX4_does 249 = .ok (.iload 6, 2) := by decide +kernel
theorem dX4_does_251 : decode cX4_does 251 = .ok (.iaload, 1) := by decide +kernel
theorem dX4_does_252 : decode cX4_does 252 = .ok (.i2l, 1) := by decide +kernel
theorem dX4_does_253 : decode cX4_does 253 = .ok (.ldiv, 1) := by decide +kernel
theorem dX4_does_254 : decode cX4_does 254 = .ok (.l2i, 1) := by decide +kernel
theorem dX4_does_255 : decode cX4_does 255 = .ok (.istore 7, 2) := by decide +kernel
theorem dX4_does_257 : decode cX4_does 257 = .ok (.goto 127, 3) := by decide +kernel
theorem dX4_does_260 : decode cX4_does 260 = .ok (.aload_n 0, 1) := by decide +kernel
theorem dX4_does_261 : decode cX4_does 261 = .ok (.getfield 63, 3) := by decide +kernel
theorem dX4_does_264 : decode cX4_does 264 = .ok (.iload 4, 2) := by decide +kernel
theorem dX4_does_266 : decode cX4_does 266 = .ok (.iaload, 1) := by decide +kernel
theorem dX4_does_267 : decode cX4_does 267 = .ok (.istore 7, 2) := by decide +kernel
theorem dX4_does_269 : decode cX4_does 269 = .ok (.aload_n 0, 1) := by decide +kernel
theorem dX4_does_270 : decode cX4_does 270 = .ok (.getfield 66, 3) := by decide +kernel
theorem dX4_does_273 : decode cX4_does 273 = .ok (.bipush 8, 2) := by decide +kernel
theorem dX4_does_275 : decode cX4_does 275 = .ok (.aload_n 0, 1) := by decide +kernel
theorem dX4_does_276 : decode cX4_does 276 = .ok (.getfield 72, 3) := by decide +kernel
theorem dX4_does_279 : decode cX4_does 279 = .ok (.iload 6, 2) := by decide +kernel
theorem dX4_does_281 : decode cX4_does 281 = .ok (.iaload, 1) := by decide +kernel
theorem dX4_does_282 : decode cX4_does 282 = .ok (.imul, 1) := by decide +kernel
theorem dX4_does_283 : decode cX4_does 283 = .ok (.aload_n 0, 1) := by decide +kernel
theorem dX4_does_284 : decode cX4_does 284 = .ok (.getfield 63, 3) := by decide +kernel
theorem dX4_does_287 : decode cX4_does 287 = .ok (.iload 5, 2) := by decide +kernel
theorem dX4_does_289 : decode cX4_does 289 = .ok (.iaload, 1) := by decide +kernel
theorem dX4_does_290 : decode cX4_does 290 = .ok (.bipush 7, 2) := by decide +kernel
theorem dX4_does_292 : decode cX4_does 292 = .ok (.iand, 1) := by decide +kernel
theorem dX4_does_293 : decode cX4_does 293 = .ok (.iadd, 1) := by decide +kernel
theorem dX4_does_294 : decode cX4_does 294 = .ok (.iload 7, 2) := by decide +kernel
theorem dX4_does_296 : decode cX4_does 296 = .ok (.iastore, 1) := by decide +kernel
theorem dX4_does_297 : decode cX4_does 297 = .ok (.goto 87, 3) := by decide +kernel
theorem dX4_does_300 : decode cX4_does 300 = .ok (.aload_n 0, 1) := by decide +kernel
theorem dX4_does_301 : decode cX4_does 301 = .ok (.getfield 66, 3) := by decide +kernel
theorem dX4_does_304 : decode cX4_does 304 = .ok (.bipush 8, 2) := by decide +kernel
theorem dX4_does_306 : decode cX4_does 306 = .ok (.aload_n 0, 1) := by decide +kernel
theorem dX4_does_307 : decode cX4_does 307 = .ok (.getfield 72, 3) := by decide +kernel
theorem dX4_does_310 : decode cX4_does 310 = .ok (.iload 6, 2) := by decide +kernel
theorem dX4_does_312 : decode cX4_does 312 = .ok (.iaload, 1) := by decide +kernel
theorem dX4_does_313 : decode cX4_does 313 = .ok (.imul, 1) := by decide +kernel
theorem dX4_does_314 : decode cX4_does 314 = .ok (.aload_n 0, 1) := by decide +kernel
theorem dX4_does_315 : decode cX4_does 315 = .ok (.getfield 63, 3) := by decide +kernel
theorem dX4_does_318 : decode cX4_does 318 = .ok (.iload 5, 2) := by decide +kernel
theorem dX4_does_320 : decode cX4_does 320 = .ok (.iaload, 1) := by decide +kernel
theorem dX4_does_321 : decode cX4_does 321 = .ok (.bipush 7, 2) := by decide +kernel
theorem dX4_does_323 : decode cX4_does 323 = .ok (.iand, 1) := by decide +kernel
theorem dX4_does_324 : decode cX4_does 324 = .ok (.iadd, 1) := by decide +kernel
theorem dX4_does_325 : decode cX4_does 325 = .ok (.iaload, 1) := by decide +kernel
theorem dX4_does_326 : decode cX4_does 326 = .ok (.istore 7, 2) := by decide +kernel
theorem dX4_does_328 : decode cX4_does 328 = .ok (.goto 56, 3) := by decide +kernel
theorem dX4_does_331 : decode cX4_does 331 = .ok (.aload_n 0, 1) := by decide +kernel
theorem dX4_does_332 : decode cX4_does 332 = .ok (.getfield 69, 3) := by decide +kernel
theorem dX4_does_335 : decode cX4_does 335 = .ok (.iload 5, 2) := by decide +kernel
theorem dX4_does_337 : decode cX4_does 337 = .ok (.iaload, 1) := by decide +kernel
theorem dX4_does_338 : decode cX4_does 338 = .ok (.istore 7, 2) := by decide +kernel
theorem dX4_does_340 : decode cX4_does 340 = .ok (.goto 44, 3) := by decide +kernel
theorem dX4_does_343 : decode cX4_does 343 = .ok (.aload_n 0, 1) := by decide +kernel
theorem dX4_does_344 : decode cX4_does 344 = .ok (.getfield 63, 3) := by decide +kernel
theorem dX4_does_347 : decode cX4_does 347 = .ok (.iload 4, 2) := by decide +kernel
theorem dX4_does_349 : decode cX4_does 349 = .ok (.iaload, 1) := by decide +kernel
theorem dX4_does_350 : decode cX4_does 350 = .ok (.istore 7, 2) := by decide +kernel
theorem dX4_does_352 : decode cX4_does 352 = .ok (.aload_n 0, 1) := by decide +kernel
theorem dX4_does_353 : decode cX4_does 353 = .ok (.getfield 69, 3) := by decide +kernel
theorem dX4_does_356 : decode cX4_does 356 = .ok (.iload 5, 2) := by decide +kernel
theorem dX4_does_358 : decode cX4_does 358 = .ok (.iload 7, 2) := by decide +kernel
theorem dX4_does_360 : decode cX4_does 360 = .ok (.iastore, 1) := by decide +kernel
theorem dX4_does_361 : decode cX4_does 361 = .ok (.goto 23, 3) := by decide +kernel
theorem dX4_does_364 : decode cX4_does 364 = .ok (.aload_n 0, 1) := by decide +kernel
theorem dX4_does_365 : decode cX4_does 365 = .ok (.getfield 63, 3) := by decide +kernel
theorem dX4_does_368 : decode cX4_does 368 = .ok (.iload 4, 2) := by decide +kernel
theorem dX4_does_370 : decode cX4_does 370 = .ok (.iaload, 1) := by decide +kernel
theorem dX4_does_371 : decode cX4_does 371 = .ok (.ifCond .ne 7, 3) := by decide +kernel
theorem dX4_does_374 : decode cX4_does 374 = .ok (.iconst 1, 1) := by decide +kernel
theorem dX4_does_375 : decode cX4_does 375 = .ok (.goto 4, 3) := by decide +kernel
theorem dX4_does_378 : decode cX4_does 378 = .ok (.iconst 0, 1) := by decide +kernel
theorem dX4_does_379 : decode cX4_does 379 = .ok (.istore 7, 2) := by decide +kernel
theorem dX4_does_381 : decode cX4_does 381 = .ok (.goto 3, 3) := by decide +kernel
theorem dX4_does_384 : decode cX4_does 384 = .ok (.aload_n 0, 1) := by decide +kernel
theorem dX4_does_385 : decode cX4_does 385 = .ok (.iload_n 1, 1) := by decide +kernel
theorem dX4_does_386 : decode cX4_does 386 = .ok (.invokevirtual 140, 3) := by decide +kernel
theorem dX4_does_389 : decode cX4_does 389 = .ok (.ifCond .lt 12, 3) := by decide +kernel
theorem dX4_does_392 : decode cX4_does 392 = .ok (.aload_n 0, 1) := by decide +kernel
theorem dX4_does_393 : decode cX4_does 393 = .ok (.getfield 63, 3) := by decide +kernel
theorem dX4_does_396 : decode cX4_does 396 = .ok (.iload 4, 2) := by decide +kernel
theorem dX4_does_398 : decode cX4_does 398 = .ok (.iload 7, 2) := by decide +kernel
theorem dX4_does_400 : decode cX4_does 400 = .ok (.iastore, 1) := by decide +kernel
theorem dX4_does_401 : decode cX4_does 401 = .ok (.aload_n 0, 1) := by decide +kernel
theorem dX4_does_402 : decode cX4_does 402 = .ok (.iload 7, 2) := by decide +kernel
theorem dX4_does_404 : decode cX4_does 404 = .ok (.putfield 188, 3) := by decide +kernel
theorem dX4_does_407 : decode cX4_does 407 = .ok (.iconst 1, 1) := by decide +kernel
theorem dX4_does_408 : decode cX4_does 408 = .ok (.ireturn, 1) := by decide +kernel
theorem dX4_go_0 : decode cX4_go 0 = .ok (.aload_n 0, 1) := by decide +kernel
theorem dX4_go_1 : decode cX4_go 1 = .ok (.aload_n 3, 1) := by decide +kernel
theorem dX4_go_2 : decode cX4_go 2 = .ok (.iload 4, 2) := by decide +kernel
theorem dX4_go_4 : decode cX4_go 4 = .ok (.invokevirtual 191, 3) := by decide +kernel
theorem dX4_go_7 : decode cX4_go 7 = .ok (.iconst 0, 1) := by decide +kernel
theorem dX4_go_8 : decode cX4_go 8 = .ok (.istore 5, 2) := by decide +kernel
theorem dX4_go_10 : decode cX4_go 10 = .ok (.iload 5, 2) := by decide +kernel
theorem dX4_go_12 : decode cX4_go 12 = .ok (.aload_n 0, 1) := by decide +kernel
theorem dX4_go_13 : decode cX4_go 13 = .ok (.getfield 81, 3) := by decide +kernel
theorem dX4_go_16 : decode cX4_go 16 = .ok (.if_icmp .ge 174, 3) := by decide +kernel
theorem dX4_go_19 : decode cX4_go 19 = .ok (.iload_n 1, 1) := by decide +kernel
theorem dX4_go_20 : decode cX4_go 20 = .ok (.iload 5, 2) := by decide +kernel
theorem dX4_go_22 : decode cX4_go 22 = .ok (.ishr, 1) := by decide +kernel
theorem dX4_go_23 : decode cX4_go 23 = .ok (.iconst 1, 1) := by decide +kernel
theorem dX4_go_24 : decode cX4_go 24 = .ok (.iand, 1) := by decide +kernel
theorem dX4_go_25 : decode cX4_go 25 = .ok (.ifCond .ne 9, 3) := by decide +kernel
theorem dX4_go_28 : decode cX4_go 28 = .ok (.iinc 5 1, 3) := by decide +kernel
theorem dX4_go_31 : decode cX4_go 31 = .ok (.goto (-21), 3) := by decide +kernel
theorem dX4_go_34 : decode cX4_go 34 = .ok (.aload_n 0, 1) := by decide +kernel
theorem dX4_go_35 : decode cX4_go 35 = .ok (.getfield 178, 3) := by decide +kernel
theorem dX4_go_38 : decode cX4_go 38 = .ok (.bipush 100, 2) := by decide +kernel
theorem dX4_go_40 : decode cX4_go 40 = .ok (.if_icmp .ne 5, 3) := by decide +kernel
theorem dX4_go_43 : decode cX4_go 43 = .ok (.iconst 2, 1) := by decide +kernel
theorem dX4_go_44 : decode cX4_go 44 = .ok (.ireturn, 1) := by decide +kernel
theorem dX4_go_45 : decode cX4_go 45 = .ok (.aload_n 0, 1) := by decide +kernel
theorem dX4_go_46 : decode cX4_go 46 = .ok (.dup, 1) := by decide +kernel
theorem dX4_go_47 : decode cX4_go 47 = .ok (.getfield 178, 3) := by decide +kernel
theorem dX4_go_50 : decode cX4_go 50 = .ok (.iconst 1, 1) := by decide +kernel
theorem dX4_go_51 : decode cX4_go 51 = .ok (.iadd, 1) := by decide +kernel
theorem dX4_go_52 : decode cX4_go 52 = .ok (.putfield 178, 3) := by decide +kernel
theorem dX4_go_55 : decode cX4_go 55 = .ok (.aload_n 0, 1) := by decide +kernel
theorem dX4_go_56 : decode cX4_go 56 = .ok (.iload 5, 2) := by decide +kernel
theorem dX4_go_58 : decode cX4_go 58 = .ok (.aload_n 3, 1) := by decide +kernel
theorem dX4_go_59 : decode cX4_go 59 = .ok (.iload 4, 2) := by decide +kernel
theorem dX4_go_61 : decode cX4_go 61 = .ok (.invokevirtual 195, 3) := by decide +kernel
theorem dX4_go_64 : decode cX4_go 64 = .ok (.istore 6, 2) := by decide +kernel
theorem dX4_go_66 : decode cX4_go 66 = .ok (.iload 5, 2) := by decide +kernel
theorem dX4_go_68 : decode cX4_go 68 = .ok (.iload_n 2, 1) := by decide +kernel
theorem dX4_go_69 : decode cX4_go 69 = .ok (.if_icmp .ne 26, 3) := by decide +kernel
theorem dX4_go_72 : decode cX4_go 72 = .ok (.aload_n 0, 1) := by decide +kernel
theorem dX4_go_73 : decode cX4_go 73 = .ok (.getfield 75, 3) := by decide +kernel
theorem dX4_go_76 : decode cX4_go 76 = .ok (.aload_n 0, 1) := by decide +kernel
theorem dX4_go_77 : decode cX4_go 77 = .ok (.getfield 184, 3) := by decide +kernel
theorem dX4_go_80 : decode cX4_go 80 = .ok (.aload_n 0, 1) := by decide +kernel
theorem dX4_go_81 : decode cX4_go 81 = .ok (.getfield 188, 3) := by decide +kernel
theorem dX4_go_84 : decode cX4_go 84 = .ok (.iastore, 1) := by decide +kernel
theorem dX4_go_85 : decode cX4_go 85 = .ok (.aload_n 0, 1) := by decide +kernel
theorem dX4_go_86 : decode cX4_go 86 = .ok (.dup, 1) := by decide +kernel
theorem dX4_go_87 : decode cX4_go 87 = .ok (.getfield 184, 3) := by decide +kernel
theorem dX4_go_90 : decode cX4_go 90 = .ok (.iconst 1, 1) := by decide +kernel
theorem dX4_go_91 : decode cX4_go 91 = .ok (.iadd, 1) := by decide +kernel
theorem dX4_go_92 : decode cX4_go 92 = .ok (.putfield 184, 3) := by decide +kernel
theorem dX4_go_95 : decode cX4_go 95 = .ok (.iload 6, 2) := by decide +kernel
theorem dX4_go_97 : decode cX4_go 97 = .ok (.ifCond .ne 11, 3) := by decide +kernel
theorem dX4_go_100 : decode cX4_go 100 = .ok (.aload_n 0, 1) := by decide +kernel
theorem dX4_go_101 : decode cX4_go 101 = .ok (.iload 5, 2) := by decide +kernel
theorem dX4_go_103 : decode cX4_go 103 = .ok (.putfield 181, 3) := by decide +kernel
theorem dX4_go_106 : decode cX4_go 106 = .ok (.iconst 1, 1) := by decide +kernel
theorem dX4_go_107 : decode cX4_go 107 = .ok (.ireturn, 1) := by decide +kernel
theorem dX4_go_108 : decode cX4_go 108 = .ok (.aload_n 0, 1) := by decide +kernel
theorem dX4_go_109 : decode cX4_go 109 = .ok (.getfield 7, 3) := by decide +kernel
theorem dX4_go_112 : decode cX4_go 112 = .ok (.iload 5, 2) := by decide +kernel
theorem dX4_go_114 : decode cX4_go 114 = .ok (.iaload, 1) := by decide +kernel
theorem dX4_go_115 : decode cX4_go 115 = .ok (.bipush 12, 2) := by decide +kernel
theorem dX4_go_117 : decode cX4_go 117 = .ok (.if_icmp .eq 23, 3) := by decide +kernel
theorem dX4_go_120 : decode cX4_go 120 = .ok (.aload_n 0, 1) := by decide +kernel
theorem dX4_go_121 : decode cX4_go 121 = .ok (.getfield 7, 3) := by decide +kernel
theorem dX4_go_124 : decode cX4_go 124 = .ok (.iload 5, 2) := by decide +kernel
theorem dX4_go_126 : decode cX4_go 126 = .ok (.iaload, 1) := by decide +kernel
theorem dX4_go_127 : decode cX4_go 127 = .ok (.bipush 11, 2) := by decide +kernel
theorem dX4_go_129 : decode cX4_go 129 = .ok (.if_icmp .ne 15, 3) := by decide +kernel
theorem dX4_go_132 : decode cX4_go 132 = .ok (.aload_n 0, 1) := by decide +kernel
theorem dX4_go_133 : decode cX4_go 133 = .ok (.getfield 188, 3) := by decide +kernel
theorem dX4_go_136 : decode cX4_go 136 = .ok (.iconst 1, 1) := by decide +kernel
theorem dX4_go_137 : decode cX4_go 137 = .ok (.if_icmp .ne 7, 3) := by decide +kernel
theorem dX4_go_140 : decode cX4_go 140 = .ok (.iconst 1, 1) := by decide +kernel
theorem dX4_go_141 : decode cX4_go 141 = .ok (.goto 4, 3) := by decide +kernel
theorem dX4_go_144 : decode cX4_go 144 = .ok (.iconst 0, 1) := by decide +kernel
theorem dX4_go_145 : decode cX4_go 145 = .ok (.istore 7, 2) := by decide +kernel
theorem dX4_go_147 : decode cX4_go 147 = .ok (.aload_n 0, 1) := by decide +kernel
theorem dX4_go_148 : decode cX4_go 148 = .ok (.getfield 7, 3) := by decide +kernel
theorem dX4_go_151 : decode cX4_go 151 = .ok (.iload 5, 2) := by decide +kernel
theorem dX4_go_153 : decode cX4_go 153 = .ok (.iaload, 1) := by decide +kernel
theorem dX4_go_154 : decode cX4_go 154 = .ok (.bipush 13, 2) := by decide +kernel
theorem dX4_go_156 : decode cX4_go 156 = .ok (.if_icmp .ne 10, 3) := by decide +kernel
theorem dX4_go_159 : decode cX4_go 159 = .ok (.aload_n 0, 1) := by decide +kernel
theorem dX4_go_160 : decode cX4_go 160 = .ok (.getfield 81, 3) := by decide +kernel
theorem dX4_go_163 : decode cX4_go 163 = .ok (.goto 22, 3) := by decide +kernel
theorem dX4_go_166 : decode cX4_go 166 = .ok (.iload 7, 2) := by decide +kernel
theorem dX4_go_168 : decode cX4_go 168 = .ok (.ifCond .eq 13, 3) := by decide +kernel
theorem dX4_go_171 : decode cX4_go 171 = .ok (.aload_n 0, 1) := by decide +kernel
theorem dX4_go_172 : decode cX4_go 172 = .ok (.getfield 16, 3) := by decide +kernel
theorem dX4_go_175 : decode cX4_go 175 = .ok (.iload 5, 2) := by decide +kernel
theorem dX4_go_177 : decode cX4_go 177 = .ok (.iaload, 1) := by decide +kernel
theorem dX4_go_178 : decode cX4_go 178 = .ok (.goto 7, 3) := by decide +kernel
theorem dX4_go_181 : decode cX4_go 181 = .ok (.iload 5, 2) := by decide +kernel
theorem dX4_go_183 : decode cX4_go 183 = .ok (.iconst 1, 1) := by decide +kernel
theorem dX4_go_184 : decode cX4_go 184 = .ok (.iadd, 1) := by decide +kernel
theorem dX4_go_185 : decode cX4_go 185 = .ok (.istore 5, 2) := by decide +kernel
theorem dX4_go_187 : decode cX4_go 187 = .ok (.goto (-177), 3) := by decide +kernel
theorem dX4_go_190 : decode cX4_go 190 = .ok (.iconst 0, 1) := by decide +kernel
theorem dX4_go_191 : decode cX4_go 191 = .ok (.ireturn, 1) := by decide +kernel
theorem dX4_run_0 : decode cX4_run 0 = .ok (.iload_n 1, 1) := by decide +kernel
theorem dX4_run_1 : decode cX4_run 1 = .ok (.bipush (-4), 2) := by decide +kernel
theorem dX4_run_3 : decode cX4_run 3 = .ok (.if_icmp .eq 11, 3) := by decide +kernel
theorem dX4_run_6 : decode cX4_run 6 = .ok (.aload_n 0, 1) := by decide +kernel
theorem dX4_run_7 : decode cX4_run 7 = .ok (.iload_n 1, 1) := by decide +kernel
theorem dX4_run_8 : decode cX4_run 8 = .ok (.invokevirtual 110, 3) := by decide +kernel
theorem dX4_run_11 : decode cX4_run 11 = .ok (.ifCond .eq 11, 3) := by decide +kernel
theorem dX4_run_14 : decode cX4_run 14 = .ok (.aload_n 0, 1) := by decide +kernel
theorem dX4_run_15 : decode cX4_run 15 = .ok (.iload_n 2, 1) := by decide +kernel
theorem dX4_run_16 : decode cX4_run 16 = .ok (.invokevirtual 110, 3) := by decide +kernel
theorem dX4_run_19 : decode cX4_run 19 = .ok (.ifCond .ne 5, 3) := by decide +kernel
theorem dX4_run_22 : decode cX4_run 22 = .ok (.iconst (-1), 1) := by decide +kernel
theorem dX4_run_23 : decode cX4_run 23 = .ok (.ireturn, 1) := by decide +kernel
theorem dX4_run_24 : decode cX4_run 24 = .ok (.aload_n 0, 1) := by decide +kernel
theorem dX4_run_25 : decode cX4_run 25 = .ok (.invokevirtual 165, 3) := by decide +kernel
theorem dX4_run_28 : decode cX4_run 28 = .ok (.aload_n 0, 1) := by decide +kernel
theorem dX4_run_29 : decode cX4_run 29 = .ok (.dup, 1) := by decide +kernel
theorem dX4_run_30 : decode cX4_run 30 = .ok (.getfield 199, 3) := by decide +kernel
theorem dX4_run_33 : decode cX4_run 33 = .ok (.iconst 1, 1) := by decide +kernel
end
section
theorem dX4_run_34 : decode cX4_run 34 = .ok (.iadd, 1) := by decide +kernel
theorem dX4_run_35 : decode cX4_run 35 = .ok (.putfield 199, 3) := by decide +kernel
theorem dX4_run_38 : decode cX4_run 38 = .ok (.aload_n 0, 1) := by decide +kernel
theorem dX4_run_39 : decode cX4_run 39 = .ok (.iload_n 1, 1) := by decide +kernel
theorem dX4_run_40 : decode cX4_run 40 = .ok (.bipush (-4), 2) := by decide +kernel
theorem dX4_run_42 : decode cX4_run 42 = .ok (.if_icmp .ne 8, 3) := by decide +kernel
theorem dX4_run_45 : decode cX4_run 45 = .ok (.ldc 202, 2) := by decide +kernel
theorem dX4_run_47 : decode cX4_run 47 = .ok (.goto 9, 3) := by decide +kernel
theorem dX4_run_50 : decode cX4_run 50 = .ok (.aload_n 0, 1) := by decide +kernel
theorem dX4_run_51 : decode cX4_run 51 = .ok (.iload_n 1, 1) := by decide +kernel
theorem dX4_run_52 : decode cX4_run 52 = .ok (.iconst 0, 1) := by decide +kernel
theorem dX4_run_53 : decode cX4_run 53 = .ok (.invokevirtual 162, 3) := by decide +kernel
theorem dX4_run_56 : decode cX4_run 56 = .ok (.iload_n 2, 1) := by decide +kernel
theorem dX4_run_57 : decode cX4_run 57 = .ok (.aload_n 0, 1) := by decide +kernel
theorem dX4_run_58 : decode cX4_run 58 = .ok (.getfield 22, 3) := by decide +kernel
theorem dX4_run_61 : decode cX4_run 61 = .ok (.iconst 0, 1) := by decide +kernel
theorem dX4_run_62 : decode cX4_run 62 = .ok (.invokevirtual 203, 3) := by decide +kernel
theorem dX4_run_65 : decode cX4_run 65 = .ok (.istore_n 3, 1) := by decide +kernel
theorem dX4_run_66 : decode cX4_run 66 = .ok (.aload_n 0, 1) := by decide +kernel
theorem dX4_run_67 : decode cX4_run 67 = .ok (.aload_n 0, 1) := by decide +kernel
theorem dX4_run_68 : decode cX4_run 68 = .ok (.getfield 184, 3) := by decide +kernel
theorem dX4_run_71 : decode cX4_run 71 = .ok (.putfield 207, 3) := by decide +kernel
theorem dX4_run_74 : decode cX4_run 74 = .ok (.aload_n 0, 1) := by decide +kernel
theorem dX4_run_75 : decode cX4_run 75 = .ok (.aload_n 0, 1) := by decide +kernel
theorem dX4_run_76 : decode cX4_run 76 = .ok (.getfield 178, 3) := by decide +kernel
theorem dX4_run_79 : decode cX4_run 79 = .ok (.putfield 210, 3) := by decide +kernel
theorem dX4_run_82 : decode cX4_run 82 = .ok (.aload_n 0, 1) := by decide +kernel
theorem dX4_run_83 : decode cX4_run 83 = .ok (.aload_n 0, 1) := by decide +kernel
theorem dX4_run_84 : decode cX4_run 84 = .ok (.getfield 181, 3) := by decide +kernel
theorem dX4_run_87 : decode cX4_run 87 = .ok (.putfield 41, 3) := by decide +kernel
theorem dX4_run_90 : decode cX4_run 90 = .ok (.iconst 0, 1) := by decide +kernel
theorem dX4_run_91 : decode cX4_run 91 = .ok (.istore 4, 2) := by decide +kernel
theorem dX4_run_93 : decode cX4_run 93 = .ok (.iload 4, 2) := by decide +kernel
theorem dX4_run_95 : decode cX4_run 95 = .ok (.aload_n 0, 1) := by decide +kernel
theorem dX4_run_96 : decode cX4_run 96 = .ok (.getfield 184, 3) := by decide +kernel
theorem dX4_run_99 : decode cX4_run 99 = .ok (.if_icmp .ge 23, 3) := by decide +kernel
theorem dX4_run_102 : decode cX4_run 102 = .ok (.aload_n 0, 1) := by decide +kernel
theorem dX4_run_103 : decode cX4_run 103 = .ok (.getfield 38, 3) := by decide +kernel
theorem dX4_run_106 : decode cX4_run 106 = .ok (.iload 4, 2) := by decide +kernel
theorem dX4_run_108 : decode cX4_run 108 = .ok (.aload_n 0, 1) := by decide +kernel
theorem dX4_run_109 : decode cX4_run 109 = .ok (.getfield 75, 3) := by decide +kernel
theorem dX4_run_112 : decode cX4_run 112 = .ok (.iload 4, 2) := by decide +kernel
theorem dX4_run_114 : decode cX4_run 114 = .ok (.iaload, 1) := by decide +kernel
theorem dX4_run_115 : decode cX4_run 115 = .ok (.iastore, 1) := by decide +kernel
theorem dX4_run_116 : decode cX4_run 116 = .ok (.iinc 4 1, 3) := by decide +kernel
theorem dX4_run_119 : decode cX4_run 119 = .ok (.goto (-26), 3) := by decide +kernel
theorem dX4_run_122 : decode cX4_run 122 = .ok (.iconst 0, 1) := by decide +kernel
theorem dX4_run_123 : decode cX4_run 123 = .ok (.istore 4, 2) := by decide +kernel
theorem dX4_run_125 : decode cX4_run 125 = .ok (.iload 4, 2) := by decide +kernel
theorem dX4_run_127 : decode cX4_run 127 = .ok (.bipush 8, 2) := by decide +kernel
theorem dX4_run_129 : decode cX4_run 129 = .ok (.if_icmp .ge 23, 3) := by decide +kernel
theorem dX4_run_132 : decode cX4_run 132 = .ok (.aload_n 0, 1) := by decide +kernel
theorem dX4_run_133 : decode cX4_run 133 = .ok (.getfield 45, 3) := by decide +kernel
theorem dX4_run_136 : decode cX4_run 136 = .ok (.iload 4, 2) := by decide +kernel
theorem dX4_run_138 : decode cX4_run 138 = .ok (.aload_n 0, 1) := by decide +kernel
theorem dX4_run_139 : decode cX4_run 139 = .ok (.getfield 63, 3) := by decide +kernel
theorem dX4_run_142 : decode cX4_run 142 = .ok (.iload 4, 2) := by decide +kernel
theorem dX4_run_144 : decode cX4_run 144 = .ok (.iaload, 1) := by decide +kernel
theorem dX4_run_145 : decode cX4_run 145 = .ok (.iastore, 1) := by decide +kernel
theorem dX4_run_146 : decode cX4_run 146 = .ok (.iinc 4 1, 3) := by decide +kernel
theorem dX4_run_149 : decode cX4_run 149 = .ok (.goto (-24), 3) := by decide +kernel
theorem dX4_run_152 : decode cX4_run 152 = .ok (.iload_n 3, 1) := by decide +kernel
theorem dX4_run_153 : decode cX4_run 153 = .ok (.ireturn, 1) := by decide +kernel
theorem dX4_seen_0 : decode cX4_seen 0 = .ok (.aload_n 0, 1) := by decide +kernel
theorem dX4_seen_1 : decode cX4_seen 1 = .ok (.getfield 207, 3) := by decide +kernel
theorem dX4_seen_4 : decode cX4_seen 4 = .ok (.ireturn, 1) := by decide +kernel
theorem dX4_saw_0 : decode cX4_saw 0 = .ok (.iload_n 1, 1) := by decide +kernel
theorem dX4_saw_1 : decode cX4_saw 1 = .ok (.i2l, 1) := by decide +kernel
theorem dX4_saw_2 : decode cX4_saw 2 = .ok (.lconst 0, 1) := by decide +kernel
theorem dX4_saw_3 : decode cX4_saw 3 = .ok (.aload_n 0, 1) := by decide +kernel
theorem dX4_saw_4 : decode cX4_saw 4 = .ok (.getfield 207, 3) := by decide +kernel
theorem dX4_saw_7 : decode cX4_saw 7 = .ok (.iconst 1, 1) := by decide +kernel
theorem dX4_saw_8 : decode cX4_saw 8 = .ok (.isub, 1) := by decide +kernel
theorem dX4_saw_9 : decode cX4_saw 9 = .ok (.i2l, 1) := by decide +kernel
theorem dX4_saw_10 : decode cX4_saw 10 = .ok (.invokestatic 84, 3) := by decide +kernel
theorem dX4_saw_13 : decode cX4_saw 13 = .ok (.ifCond .eq 12, 3) := by decide +kernel
theorem dX4_saw_16 : decode cX4_saw 16 = .ok (.aload_n 0, 1) := by decide +kernel
theorem dX4_saw_17 : decode cX4_saw 17 = .ok (.getfield 38, 3) := by decide +kernel
theorem dX4_saw_20 : decode cX4_saw 20 = .ok (.iload_n 1, 1) := by decide +kernel
theorem dX4_saw_21 : decode cX4_saw 21 = .ok (.iaload, 1) := by decide +kernel
theorem dX4_saw_22 : decode cX4_saw 22 = .ok (.goto 4, 3) := by decide +kernel
theorem dX4_saw_25 : decode cX4_saw 25 = .ok (.iconst 0, 1) := by decide +kernel
theorem dX4_saw_26 : decode cX4_saw 26 = .ok (.ireturn, 1) := by decide +kernel
theorem dX4_left_0 : decode cX4_left 0 = .ok (.iload_n 1, 1) := by decide +kernel
theorem dX4_left_1 : decode cX4_left 1 = .ok (.ifCond .ne 10, 3) := by decide +kernel
theorem dX4_left_4 : decode cX4_left 4 = .ok (.aload_n 0, 1) := by decide +kernel
theorem dX4_left_5 : decode cX4_left 5 = .ok (.getfield 210, 3) := by decide +kernel
theorem dX4_left_8 : decode cX4_left 8 = .ok (.goto 41, 3) := by decide +kernel
theorem dX4_left_11 : decode cX4_left 11 = .ok (.iload_n 1, 1) := by decide +kernel
theorem dX4_left_12 : decode cX4_left 12 = .ok (.iconst 1, 1) := by decide +kernel
theorem dX4_left_13 : decode cX4_left 13 = .ok (.if_icmp .ne 10, 3) := by decide +kernel
theorem dX4_left_16 : decode cX4_left 16 = .ok (.aload_n 0, 1) := by decide +kernel
theorem dX4_left_17 : decode cX4_left 17 = .ok (.getfield 41, 3) := by decide +kernel
theorem dX4_left_20 : decode cX4_left 20 = .ok (.goto 29, 3) := by decide +kernel
theorem dX4_left_23 : decode cX4_left 23 = .ok (.iload_n 1, 1) := by decide +kernel
theorem dX4_left_24 : decode cX4_left 24 = .ok (.i2l, 1) := by decide +kernel
theorem dX4_left_25 : decode cX4_left 25 = .ok (.ldc2_w 213, 3) := by decide +kernel
theorem dX4_left_28 : decode cX4_left 28 = .ok (.ldc2_w 215, 3) := by decide +kernel
theorem dX4_left_31 : decode cX4_left 31 = .ok (.invokestatic 84, 3) := by decide +kernel
theorem dX4_left_34 : decode cX4_left 34 = .ok (.ifCond .eq 14, 3) := by decide +kernel
theorem dX4_left_37 : decode cX4_left 37 = .ok (.aload_n 0, 1) := by decide +kernel
theorem dX4_left_38 : decode cX4_left 38 = .ok (.getfield 45, 3) := by decide +kernel
theorem dX4_left_41 : decode cX4_left 41 = .ok (.iload_n 1, 1) := by decide +kernel
theorem dX4_left_42 : decode cX4_left 42 = .ok (.iconst 2, 1) := by decide +kernel
theorem dX4_left_43 : decode cX4_left 43 = .ok (.isub, 1) := by decide +kernel
theorem dX4_left_44 : decode cX4_left 44 = .ok (.iaload, 1) := by decide +kernel
theorem dX4_left_45 : decode cX4_left 45 = .ok (.goto 4, 3) := by decide +kernel
theorem dX4_left_48 : decode cX4_left 48 = .ok (.iconst 0, 1) := by decide +kernel
theorem dX4_left_49 : decode cX4_left 49 = .ok (.ireturn, 1) := by decide +kernel
theorem dX4_whole_0 : decode cX4_whole 0 = .ok (.aload_n 0, 1) := by decide +kernel
theorem dX4_whole_1 : decode cX4_whole 1 = .ok (.ldc 202, 2) := by decide +kernel
theorem dX4_whole_3 : decode cX4_whole 3 = .ok (.iload_n 1, 1) := by decide +kernel
theorem dX4_whole_4 : decode cX4_whole 4 = .ok (.aload_n 2, 1) := by decide +kernel
theorem dX4_whole_5 : decode cX4_whole 5 = .ok (.iload_n 3, 1) := by decide +kernel
theorem dX4_whole_6 : decode cX4_whole 6 = .ok (.invokevirtual 203, 3) := by decide +kernel
theorem dX4_whole_9 : decode cX4_whole 9 = .ok (.istore 4, 2) := by decide +kernel
theorem dX4_whole_11 : decode cX4_whole 11 = .ok (.aload_n 0, 1) := by decide +kernel
theorem dX4_whole_12 : decode cX4_whole 12 = .ok (.aload_n 0, 1) := by decide +kernel
theorem dX4_whole_13 : decode cX4_whole 13 = .ok (.getfield 184, 3) := by decide +kernel
theorem dX4_whole_16 : decode cX4_whole 16 = .ok (.putfield 217, 3) := by decide +kernel
theorem dX4_whole_19 : decode cX4_whole 19 = .ok (.iconst 0, 1) := by decide +kernel
theorem dX4_whole_20 : decode cX4_whole 20 = .ok (.istore 5, 2) := by decide +kernel
theorem dX4_whole_22 : decode cX4_whole 22 = .ok (.iload 5, 2) := by decide +kernel
theorem dX4_whole_24 : decode cX4_whole 24 = .ok (.aload_n 0, 1) := by decide +kernel
theorem dX4_whole_25 : decode cX4_whole 25 = .ok (.getfield 184, 3) := by decide +kernel
theorem dX4_whole_28 : decode cX4_whole 28 = .ok (.if_icmp .ge 23, 3) := by decide +kernel
theorem dX4_whole_31 : decode cX4_whole 31 = .ok (.aload_n 0, 1) := by decide +kernel
theorem dX4_whole_32 : decode cX4_whole 32 = .ok (.getfield 78, 3) := by decide +kernel
theorem dX4_whole_35 : decode cX4_whole 35 = .ok (.iload 5, 2) := by decide +kernel
theorem dX4_whole_37 : decode cX4_whole 37 = .ok (.aload_n 0, 1) := by decide +kernel
theorem dX4_whole_38 : decode cX4_whole 38 = .ok (.getfield 75, 3) := by decide +kernel
theorem dX4_whole_41 : decode cX4_whole 41 = .ok (.iload 5, 2) := by decide +kernel
theorem dX4_whole_43 : decode cX4_whole 43 = .ok (.iaload, 1) := by decide +kernel
theorem dX4_whole_44 : decode cX4_whole 44 = .ok (.iastore, 1) := by decide +kernel
theorem dX4_whole_45 : decode cX4_whole 45 = .ok (.iinc 5 1, 3) := by decide +kernel
theorem dX4_whole_48 : decode cX4_whole 48 = .ok (.goto (-26), 3) := by decide +kernel
theorem dX4_whole_51 : decode cX4_whole 51 = .ok (.iload 4, 2) := by decide +kernel
theorem dX4_whole_53 : decode cX4_whole 53 = .ok (.ireturn, 1) := by decide +kernel
theorem dX4_isSame_0 : decode cX4_isSame 0 = .ok (.aload_n 0, 1) := by decide +kernel
theorem dX4_isSame_1 : decode cX4_isSame 1 = .ok (.getfield 184, 3) := by decide +kernel
theorem dX4_isSame_4 : decode cX4_isSame 4 = .ok (.aload_n 0, 1) := by decide +kernel
theorem dX4_isSame_5 : decode cX4_isSame 5 = .ok (.getfield 217, 3) := by decide +kernel
theorem dX4_isSame_8 : decode cX4_isSame 8 = .ok (.if_icmp .ne 7, 3) := by decide +kernel
theorem dX4_isSame_11 : decode cX4_isSame 11 = .ok (.iconst 1, 1) := by decide +kernel
theorem dX4_isSame_12 : decode cX4_isSame 12 = .ok (.goto 4, 3) := by decide +kernel
theorem dX4_isSame_15 : decode cX4_isSame 15 = .ok (.iconst 0, 1) := by decide +kernel
theorem dX4_isSame_16 : decode cX4_isSame 16 = .ok (.istore_n 1, 1) := by decide +kernel
theorem dX4_isSame_17 : decode cX4_isSame 17 = .ok (.iconst 0, 1) := by decide +kernel
theorem dX4_isSame_18 : decode cX4_isSame 18 = .ok (.istore_n 2, 1) := by decide +kernel
theorem dX4_isSame_19 : decode cX4_isSame 19 = .ok (.iload_n 2, 1) := by decide +kernel
theorem dX4_isSame_20 : decode cX4_isSame 20 = .ok (.aload_n 0, 1) := by decide +kernel
theorem dX4_isSame_21 : decode cX4_isSame 21 = .ok (.getfield 184, 3) := by decide +kernel
theorem dX4_isSame_24 : decode cX4_isSame 24 = .ok (.if_icmp .ge 34, 3) := by decide +kernel
theorem dX4_isSame_27 : decode cX4_isSame 27 = .ok (.iload_n 1, 1) := by decide +kernel
theorem dX4_isSame_28 : decode cX4_isSame 28 = .ok (.ifCond .eq 30, 3) := by decide +kernel
theorem dX4_isSame_31 : decode cX4_isSame 31 = .ok (.aload_n 0, 1) := by decide +kernel
theorem dX4_isSame_32 : decode cX4_isSame 32 = .ok (.getfield 75, 3) := by decide +kernel
theorem dX4_isSame_35 : decode cX4_isSame 35 = .ok (.iload_n 2, 1) := by decide +kernel
theorem dX4_isSame_36 : decode cX4_isSame 36 = .ok (.iaload, 1) := by decide +kernel
theorem dX4_isSame_37 : decode cX4_isSame 37 = .ok (.aload_n 0, 1) := by decide +kernel
theorem dX4_isSame_38 : decode cX4_isSame 38 = .ok (.getfield 78, 3) := by decide +kernel
theorem dX4_isSame_41 : decode cX4_isSame 41 = .ok (.iload_n 2, 1) := by decide +kernel
theorem dX4_isSame_42 : decode cX4_isSame 42 = .ok (.iaload, 1) := by decide +kernel
theorem dX4_isSame_43 : decode cX4_isSame 43 = .ok (.if_icmp .ne 7, 3) := by decide +kernel
theorem dX4_isSame_46 : decode cX4_isSame 46 = .ok (.iconst 1, 1) := by decide +kernel
theorem dX4_isSame_47 : decode cX4_isSame 47 = .ok (.goto 4, 3) := by decide +kernel
theorem dX4_isSame_50 : decode cX4_isSame 50 = .ok (.iconst 0, 1) := by decide +kernel
theorem dX4_isSame_51 : decode cX4_isSame 51 = .ok (.istore_n 1, 1) := by decide +kernel
theorem dX4_isSame_52 : decode cX4_isSame 52 = .ok (.iinc 2 1, 3) := by decide +kernel
theorem dX4_isSame_55 : decode cX4_isSame 55 = .ok (.goto (-36), 3) := by decide +kernel
theorem dX4_isSame_58 : decode cX4_isSame 58 = .ok (.iload_n 1, 1) := by decide +kernel
theorem dX4_isSame_59 : decode cX4_isSame 59 = .ok (.ireturn, 1) := by decide +kernel
theorem dX4_same_0 : decode cX4_same 0 = .ok (.aload_n 0, 1) := by decide +kernel
theorem dX4_same_1 : decode cX4_same 1 = .ok (.iload_n 1, 1) := by decide +kernel
theorem dX4_same_2 : decode cX4_same 2 = .ok (.invokevirtual 110, 3) := by decide +kernel
theorem dX4_same_5 : decode cX4_same 5 = .ok (.ifCond .ne 5, 3) := by decide +kernel
theorem dX4_same_8 : decode cX4_same 8 = .ok (.iconst (-1), 1) := by decide +kernel
theorem dX4_same_9 : decode cX4_same 9 = .ok (.ireturn, 1) := by decide +kernel
theorem dX4_same_10 : decode cX4_same 10 = .ok (.aload_n 0, 1) := by decide +kernel
theorem dX4_same_11 : decode cX4_same 11 = .ok (.invokevirtual 165, 3) := by decide +kernel
theorem dX4_same_14 : decode cX4_same 14 = .ok (.aload_n 0, 1) := by decide +kernel
theorem dX4_same_15 : decode cX4_same 15 = .ok (.iload_n 1, 1) := by decide +kernel
theorem dX4_same_16 : decode cX4_same 16 = .ok (.aload_n 0, 1) := by decide +kernel
theorem dX4_same_17 : decode cX4_same 17 = .ok (.getfield 22, 3) := by decide +kernel
theorem dX4_same_20 : decode cX4_same 20 = .ok (.iconst 0, 1) := by decide +kernel
theorem dX4_same_21 : decode cX4_same 21 = .ok (.invokevirtual 220, 3) := by decide +kernel
theorem dX4_same_24 : decode cX4_same 24 = .ok (.iconst 2, 1) := by decide +kernel
theorem dX4_same_25 : decode cX4_same 25 = .ok (.if_icmp .ne 5, 3) := by decide +kernel
theorem dX4_same_28 : decode cX4_same 28 = .ok (.iconst 2, 1) := by decide +kernel
theorem dX4_same_29 : decode cX4_same 29 = .ok (.ireturn, 1) := by decide +kernel
theorem dX4_same_30 : decode cX4_same 30 = .ok (.aload_n 0, 1) := by decide +kernel
theorem dX4_same_31 : decode cX4_same 31 = .ok (.aload_n 0, 1) := by decide +kernel
theorem dX4_same_32 : decode cX4_same 32 = .ok (.iload_n 1, 1) := by decide +kernel
theorem dX4_same_33 : decode cX4_same 33 = .ok (.iconst 0, 1) := by decide +kernel
theorem dX4_same_34 : decode cX4_same 34 = .ok (.invokevirtual 162, 3) := by decide +kernel
theorem dX4_same_37 : decode cX4_same 37 = .ok (.iload_n 1, 1) := by decide +kernel
theorem dX4_same_38 : decode cX4_same 38 = .ok (.aload_n 0, 1) := by decide +kernel
theorem dX4_same_39 : decode cX4_same 39 = .ok (.getfield 22, 3) := by decide +kernel
theorem dX4_same_42 : decode cX4_same 42 = .ok (.iconst 0, 1) := by decide +kernel
theorem dX4_same_43 : decode cX4_same 43 = .ok (.invokevirtual 203, 3) := by decide +kernel
theorem dX4_same_46 : decode cX4_same 46 = .ok (.pop, 1) := by decide +kernel
theorem dX4_same_47 : decode cX4_same 47 = .ok (.aload_n 0, 1) := by decide +kernel
theorem dX4_same_48 : decode cX4_same 48 = .ok (.invokevirtual 224, 3) := by decide +kernel
theorem dX4_same_51 : decode cX4_same 51 = .ok (.ifCond .eq 7, 3) := by decide +kernel
theorem dX4_same_54 : decode cX4_same 54 = .ok (.iconst 1, 1) := by decide +kernel
theorem dX4_same_55 : decode cX4_same 55 = .ok (.goto 4, 3) := by decide +kernel
theorem dX4_same_58 : decode cX4_same 58 = .ok (.iconst 0, 1) := by decide +kernel
theorem dX4_same_59 : decode cX4_same 59 = .ok (.ireturn, 1) := by decide +kernel
theorem dX4_test_0 : decode cX4_test 0 = .ok (.aload_n 0, 1) := by decide +kernel
theorem dX4_test_1 : decode cX4_test 1 = .ok (.getfield 228, 3) := by decide +kernel
theorem dX4_test_4 : decode cX4_test 4 = .ok (.iconst 3, 1) := by decide +kernel
theorem dX4_test_5 : decode cX4_test 5 = .ok (.if_icmp .ne 6, 3) := by decide +kernel
theorem dX4_test_8 : decode cX4_test 8 = .ok (.bipush (-2), 2) := by decide +kernel
theorem dX4_test_10 : decode cX4_test 10 = .ok (.ireturn, 1) := by decide +kernel
theorem dX4_test_11 : decode cX4_test 11 = .ok (.iconst 0, 1) := by decide +kernel
theorem dX4_test_12 : decode cX4_test 12 = .ok (.istore_n 1, 1) := by decide +kernel
theorem dX4_test_13 : decode cX4_test 13 = .ok (.iload_n 1, 1) := by decide +kernel
theorem dX4_test_14 : decode cX4_test 14 = .ok (.iconst 4, 1) := by decide +kernel
theorem dX4_test_15 : decode cX4_test 15 = .ok (.if_icmp .ge 28, 3) := by decide +kernel
theorem dX4_test_18 : decode cX4_test 18 = .ok (.aload_n 0, 1) := by decide +kernel
theorem dX4_test_19 : decode cX4_test 19 = .ok (.getfield 35, 3) := by decide +kernel
theorem dX4_test_22 : decode cX4_test 22 = .ok (.iconst 4, 1) := by decide +kernel
theorem dX4_test_23 : decode cX4_test 23 = .ok (.aload_n 0, 1) := by decide +kernel
theorem dX4_test_24 : decode cX4_test 24 = .ok (.getfield 228, 3) := by decide +kernel
theorem dX4_test_27 : decode cX4_test 27 = .ok (.imul, 1) := by decide +kernel
theorem dX4_test_28 : decode cX4_test 28 = .ok (.iload_n 1, 1) := by decide +kernel
theorem dX4_test_29 : decode cX4_test 29 = .ok (.iadd, 1) := by decide +kernel
theorem dX4_test_30 : decode cX4_test 30 = .ok (.aload_n 0, 1) := by decide +kernel
theorem dX4_test_31 : decode cX4_test 31 = .ok (.getfield 22, 3) := by decide +kernel
theorem dX4_test_34 : decode cX4_test 34 = .ok (.iload_n 1, 1) := by decide +kernel
theorem dX4_test_35 : decode cX4_test 35 = .ok (.iaload, 1) := by decide +kernel
theorem dX4_test_36 : decode cX4_test 36 = .ok (.iastore, 1) := by decide +kernel
theorem dX4_test_37 : decode cX4_test 37 = .ok (.iinc 1 1, 3) := by decide +kernel
theorem dX4_test_40 : decode cX4_test 40 = .ok (.goto (-27), 3) := by decide +kernel
theorem dX4_test_43 : decode cX4_test 43 = .ok (.aload_n 0, 1) := by decide +kernel
theorem dX4_test_44 : decode cX4_test 44 = .ok (.dup, 1) := by decide +kernel
theorem dX4_test_45 : decode cX4_test 45 = .ok (.getfield 228, 3) := by decide +kernel
theorem dX4_test_48 : decode cX4_test 48 = .ok (.iconst 1, 1) := by decide +kernel
theorem dX4_test_49 : decode cX4_test 49 = .ok (.iadd, 1) := by decide +kernel
theorem dX4_test_50 : decode cX4_test 50 = .ok (.putfield 228, 3) := by decide +kernel
theorem dX4_test_53 : decode cX4_test 53 = .ok (.aload_n 0, 1) := by decide +kernel
theorem dX4_test_54 : decode cX4_test 54 = .ok (.getfield 228, 3) := by decide +kernel
theorem dX4_test_57 : decode cX4_test 57 = .ok (.iconst 1, 1) := by decide +kernel
theorem dX4_test_58 : decode cX4_test 58 = .ok (.isub, 1) := by decide +kernel
theorem dX4_test_59 : decode cX4_test 59 = .ok (.ireturn, 1) := by decide +kernel
theorem dX4_untest_0 : decode cX4_untest 0 = .ok (.aload_n 0, 1) := by decide +kernel
theorem dX4_untest_1 : decode cX4_untest 1 = .ok (.getfield 228, 3) := by decide +kernel
theorem dX4_untest_4 : decode cX4_untest 4 = .ok (.istore_n 1, 1) := by decide +kernel
theorem dX4_untest_5 : decode cX4_untest 5 = .ok (.aload_n 0, 1) := by decide +kernel
theorem dX4_untest_6 : decode cX4_untest 6 = .ok (.iconst 0, 1) := by decide +kernel
theorem dX4_untest_7 : decode cX4_untest 7 = .ok (.putfield 228, 3) := by decide +kernel
theorem dX4_untest_10 : decode cX4_untest 10 = .ok (.iload_n 1, 1) := by decide +kernel
theorem dX4_untest_11 : decode cX4_untest 11 = .ok (.ireturn, 1) := by decide +kernel
theorem dX4_agrees_0 : decode cX4_agrees 0 = .ok (.iconst 1, 1) := by decide +kernel
theorem dX4_agrees_1 : decode cX4_agrees 1 = .ok (.istore_n 3, 1) := by decide +kernel
theorem dX4_agrees_2 : decode cX4_agrees 2 = .ok (.iconst 0, 1) := by decide +kernel
theorem dX4_agrees_3 : decode cX4_agrees 3 = .ok (.istore 4, 2) := by decide +kernel
theorem dX4_agrees_5 : decode cX4_agrees 5 = .ok (.iload 4, 2) := by decide +kernel
theorem dX4_agrees_7 : decode cX4_agrees 7 = .ok (.aload_n 0, 1) := by decide +kernel
theorem dX4_agrees_8 : decode cX4_agrees 8 = .ok (.getfield 228, 3) := by decide +kernel
theorem dX4_agrees_11 : decode cX4_agrees 11 = .ok (.if_icmp .ge 62, 3) := by decide +kernel
theorem dX4_agrees_14 : decode cX4_agrees 14 = .ok (.iload_n 3, 1) := by decide +kernel
theorem dX4_agrees_15 : decode cX4_agrees 15 = .ok (.ifCond .eq 58, 3) := by decide +kernel
theorem dX4_agrees_18 : decode cX4_agrees 18 = .ok (.aload_n 0, 1) := by decide +kernel
theorem dX4_agrees_19 : decode cX4_agrees 19 = .ok (.iload_n 2, 1) := by decide +kernel
theorem dX4_agrees_20 : decode cX4_agrees 20 = .ok (.aload_n 0, 1) := by decide +kernel
theorem dX4_agrees_21 : decode cX4_agrees 21 = .ok (.getfield 35, 3) := by decide +kernel
theorem dX4_agrees_24 : decode cX4_agrees 24 = .ok (.iconst 4, 1) := by decide +kernel
theorem dX4_agrees_25 : decode cX4_agrees 25 = .ok (.iload 4, 2) := by decide +kernel
theorem dX4_agrees_27 : decode cX4_agrees 27 = .ok (.imul, 1) := by decide +kernel
theorem dX4_agrees_28 : decode cX4_agrees 28 = .ok (.invokevirtual 220, 3) := by decide +kernel
theorem dX4_agrees_31 : decode cX4_agrees 31 = .ok (.pop, 1) := by decide +kernel
theorem dX4_agrees_32 : decode cX4_agrees 32 = .ok (.aload_n 0, 1) := by decide +kernel
theorem dX4_agrees_33 : decode cX4_agrees 33 = .ok (.iload_n 1, 1) := by decide +kernel
theorem dX4_agrees_34 : decode cX4_agrees 34 = .ok (.iload_n 2, 1) := by decide +kernel
theorem dX4_agrees_35 : decode cX4_agrees 35 = .ok (.aload_n 0, 1) := by decide +kernel
theorem dX4_agrees_36 : decode cX4_agrees 36 = .ok (.getfield 35, 3) := by decide +kernel
theorem dX4_agrees_39 : decode cX4_agrees 39 = .ok (.iconst 4, 1) := by decide +kernel
theorem dX4_agrees_40 : decode cX4_agrees 40 = .ok (.iload 4, 2) := by decide +kernel
theorem dX4_agrees_42 : decode cX4_agrees 42 = .ok (.imul, 1) := by decide +kernel
theorem dX4_agrees_43 : decode cX4_agrees 43 = .ok (.invokevirtual 203, 3) := by decide +kernel
theorem dX4_agrees_46 : decode cX4_agrees 46 = .ok (.istore 5, 2) := by decide +kernel
theorem dX4_agrees_48 : decode cX4_agrees 48 = .ok (.iload 5, 2) := by decide +kernel
theorem dX4_agrees_50 : decode cX4_agrees 50 = .ok (.iconst 2, 1) := by decide +kernel
theorem dX4_agrees_51 : decode cX4_agrees 51 = .ok (.if_icmp .eq 14, 3) := by decide +kernel
theorem dX4_agrees_54 : decode cX4_agrees 54 = .ok (.aload_n 0, 1) := by decide +kernel
theorem dX4_agrees_55 : decode cX4_agrees 55 = .ok (.invokevirtual 224, 3) := by decide +kernel
theorem dX4_agrees_58 : decode cX4_agrees 58 = .ok (.ifCond .eq 7, 3) := by decide +kernel
theorem dX4_agrees_61 : decode cX4_agrees 61 = .ok (.iconst 1, 1) := by decide +kernel
theorem dX4_agrees_62 : decode cX4_agrees 62 = .ok (.goto 4, 3) := by decide +kernel
theorem dX4_agrees_65 : decode cX4_agrees 65 = .ok (.iconst 0, 1) := by decide +kernel
theorem dX4_agrees_66 : decode cX4_agrees 66 = .ok (.istore_n 3, 1) := by decide +kernel
theorem dX4_agrees_67 : decode cX4_agrees 67 = .ok (.iinc 4 1, 3) := by decide +kernel
theorem dX4_agrees_70 : decode cX4_agrees 70 = .ok (.goto (-65), 3) := by decide +kernel
theorem dX4_agrees_73 : decode cX4_agrees 73 = .ok (.iload_n 3, 1) := by decide +kernel
theorem dX4_agrees_74 : decode cX4_agrees 74 = .ok (.ireturn, 1) := by decide +kernel
theorem dX4_least_0 : decode cX4_least 0 = .ok (.aload_n 0, 1) := by decide +kernel
theorem dX4_least_1 : decode cX4_least 1 = .ok (.iload_n 1, 1) := by decide +kernel
theorem dX4_least_2 : decode cX4_least 2 = .ok (.invokevirtual 110, 3) := by decide +kernel
theorem dX4_least_5 : decode cX4_least 5 = .ok (.ifCond .ne 5, 3) := by decide +kernel
theorem dX4_least_8 : decode cX4_least 8 = .ok (.iconst (-1), 1) := by decide +kernel
theorem dX4_least_9 : decode cX4_least 9 = .ok (.ireturn, 1) := by decide +kernel
theorem dX4_least_10 : decode cX4_least 10 = .ok (.aload_n 0, 1) := by decide +kernel
theorem dX4_least_11 : decode cX4_least 11 = .ok (.getfield 228, 3) := by decide +kernel
theorem dX4_least_14 : decode cX4_least 14 = .ok (.ifCond .ne 7, 3) := by decide +kernel
theorem dX4_least_17 : decode cX4_least 17 = .ok (.iconst 1, 1) := by decide +kernel
theorem dX4_least_18 : decode cX4_least 18 = .ok (.goto 4, 3) := by decide +kernel
theorem dX4_least_21 : decode cX4_least 21 = .ok (.iconst 0, 1) := by decide +kernel
theorem dX4_least_22 : decode cX4_least 22 = .ok (.istore_n 2, 1) := by decide +kernel
theorem dX4_least_23 : decode cX4_least 23 = .ok (.iconst 0, 1) := by decide +kernel
theorem dX4_least_24 : decode cX4_least 24 = .ok (.istore_n 3, 1) := by decide +kernel
theorem dX4_least_25 : decode cX4_least 25 = .ok (.iload_n 3, 1) := by decide +kernel
theorem dX4_least_26 : decode cX4_least 26 = .ok (.aload_n 0, 1) := by decide +kernel
theorem dX4_least_27 : decode cX4_least 27 = .ok (.getfield 228, 3) := by decide +kernel
theorem dX4_least_30 : decode cX4_least 30 = .ok (.if_icmp .ge 35, 3) := by decide +kernel
theorem dX4_least_33 : decode cX4_least 33 = .ok (.iload_n 2, 1) := by decide +kernel
theorem dX4_least_34 : decode cX4_least 34 = .ok (.ifCond .ne 19, 3) := by decide +kernel
theorem dX4_least_37 : decode cX4_least 37 = .ok (.aload_n 0, 1) := by decide +kernel
theorem dX4_least_38 : decode cX4_least 38 = .ok (.iload_n 1, 1) := by decide +kernel
theorem dX4_least_39 : decode cX4_least 39 = .ok (.aload_n 0, 1) := by decide +kernel
theorem dX4_least_40 : decode cX4_least 40 = .ok (.getfield 35, 3) := by decide +kernel
theorem dX4_least_43 : decode cX4_least 43 = .ok (.iconst 4, 1) := by decide +kernel
theorem dX4_least_44 : decode cX4_least 44 = .ok (.iload_n 3, 1) := by decide +kernel
theorem dX4_least_45 : decode cX4_least 45 = .ok (.imul, 1) := by decide +kernel
theorem dX4_least_46 : decode cX4_least 46 = .ok (.invokevirtual 220, 3) := by decide +kernel
theorem dX4_least_49 : decode cX4_least 49 = .ok (.iconst 2, 1) := by decide +kernel
theorem dX4_least_50 : decode cX4_least 50 = .ok (.if_icmp .ne 7, 3) := by decide +kernel
theorem dX4_least_53 : decode cX4_least 53 = .ok (.iconst 1, 1) := by decide +kernel
theorem dX4_least_54 : decode cX4_least 54 = .ok (.goto 4, 3) := by decide +kernel
theorem dX4_least_57 : decode cX4_least 57 = .ok (.iconst 0, 1) := by decide +kernel
theorem dX4_least_58 : decode cX4_least 58 = .ok (.istore_n 2, 1) := by decide +kernel
theorem dX4_least_59 : decode cX4_least 59 = .ok (.iinc 3 1, 3) := by decide +kernel
theorem dX4_least_62 : decode cX4_least 62 = .ok (.goto (-37), 3) := by decide +kernel
theorem dX4_least_65 : decode cX4_least 65 = .ok (.iload_n 2, 1) := by decide +kernel
theorem dX4_least_66 : decode cX4_least 66 = .ok (.ifCond .eq 6, 3) := by decide +kernel
theorem dX4_least_69 : decode cX4_least 69 = .ok (.bipush (-3), 2) := by decide +kernel
theorem dX4_least_71 : decode cX4_least 71 = .ok (.ireturn, 1) := by decide +kernel
theorem dX4_least_72 : decode cX4_least 72 = .ok (.aload_n 0, 1) := by decide +kernel
theorem dX4_least_73 : decode cX4_least 73 = .ok (.invokevirtual 165, 3) := by decide +kernel
theorem dX4_least_76 : decode cX4_least 76 = .ok (.aload_n 0, 1) := by decide +kernel
theorem dX4_least_77 : decode cX4_least 77 = .ok (.iload_n 1, 1) := by decide +kernel
theorem dX4_least_78 : decode cX4_least 78 = .ok (.iconst 0, 1) := by decide +kernel
theorem dX4_least_79 : decode cX4_least 79 = .ok (.invokevirtual 162, 3) := by decide +kernel
theorem dX4_least_82 : decode cX4_least 82 = .ok (.istore_n 3, 1) := by decide +kernel
theorem dX4_least_83 : decode cX4_least 83 = .ok (.iconst 1, 1) := by decide +kernel
theorem dX4_least_84 : decode cX4_least 84 = .ok (.istore 4, 2) := by decide +kernel
theorem dX4_least_86 : decode cX4_least 86 = .ok (.iload 4, 2) := by decide +kernel
theorem dX4_least_88 : decode cX4_least 88 = .ok (.ifCond .eq 72, 3) := by decide +kernel
theorem dX4_least_91 : decode cX4_least 91 = .ok (.iconst 0, 1) := by decide +kernel
theorem dX4_least_92 : decode cX4_least 92 = .ok (.istore 4, 2) := by decide +kernel
theorem dX4_least_94 : decode cX4_least 94 = .ok (.aload_n 0, 1) := by decide +kernel
theorem dX4_least_95 : decode cX4_least 95 = .ok (.getfield 81, 3) := by decide +kernel
theorem dX4_least_98 : decode cX4_least 98 = .ok (.iconst 1, 1) := by decide +kernel
theorem dX4_least_99 : decode cX4_least 99 = .ok (.isub, 1) := by decide +kernel
theorem dX4_least_100 : decode cX4_least 100 = .ok (.istore 5, 2) := by decide +kernel
theorem dX4_least_102 : decode cX4_least 102 = .ok (.iload 5, 2) := by decide +kernel
theorem dX4_least_104 : decode cX4_least 104 = .ok (.ifCond .lt 53, 3) := by decide +kernel
theorem dX4_least_107 : decode cX4_least 107 = .ok (.iload 5, 2) := by decide +kernel
theorem dX4_least_109 : decode cX4_least 109 = .ok (.iload_n 1, 1) := by decide +kernel
theorem dX4_least_110 : decode cX4_least 110 = .ok (.if_icmp .eq 41, 3) := by decide +kernel
theorem dX4_least_113 : decode cX4_least 113 = .ok (.iload_n 3, 1) := by decide +kernel
theorem dX4_least_114 : decode cX4_least 114 = .ok (.iload 5, 2) := by decide +kernel
theorem dX4_least_116 : decode cX4_least 116 = .ok (.ishr, 1) := by decide +kernel
theorem dX4_least_117 : decode cX4_least 117 = .ok (.iconst 1, 1) := by decide +kernel
theorem dX4_least_118 : decode cX4_least 118 = .ok (.iand, 1) := by decide +kernel
theorem dX4_least_119 : decode cX4_least 119 = .ok (.iconst 1, 1) := by decide +kernel
theorem dX4_least_120 : decode cX4_least 120 = .ok (.if_icmp .ne 31, 3) := by decide +kernel
theorem dX4_least_123 : decode cX4_least 123 = .ok (.aload_n 0, 1) := by decide +kernel
theorem dX4_least_124 : decode cX4_least 124 = .ok (.iload_n 3, 1) := by decide +kernel
theorem dX4_least_125 : decode cX4_least 125 = .ok (.iconst 1, 1) := by decide +kernel
theorem dX4_least_126 : decode cX4_least 126 = .ok (.iload 5, 2) := by decide +kernel
theorem dX4_least_128 : decode cX4_least 128 = .ok (.ishl, 1) := by decide +kernel
theorem dX4_least_129 : decode cX4_least 129 = .ok (.iconst (-1), 1) := by decide +kernel
theorem dX4_least_130 : decode cX4_least 130 = .ok (.ixor, 1) := by decide +kernel
theorem dX4_least_131 : decode cX4_least 131 = .ok (.iand, 1) := by decide +kernel
theorem dX4_least_132 : decode cX4_least 132 = .ok (.iload_n 1, 1) := by decide +kernel
theorem dX4_least_133 : decode cX4_least 133 = .ok (.invokevirtual 231, 3) := by decide +kernel
theorem dX4_least_136 : decode cX4_least 136 = .ok (.ifCond .eq 15, 3) := by decide +kernel
theorem dX4_least_139 : decode cX4_least 139 = .ok (.iload_n 3, 1) := by decide +kernel
theorem dX4_least_140 : decode cX4_least 140 = .ok (.iconst 1, 1) := by decide +kernel
theorem dX4_least_141 : decode cX4_least 141 = .ok (.iload 5, 2) := by decide +kernel
theorem dX4_least_143 : decode cX4_least 143 = .ok (.ishl, 1) := by decide +kernel
theorem dX4_least_144 : decode cX4_least 144 = .ok (.iconst (-1), 1) := by decide +kernel
theorem dX4_least_145 : decode cX4_least 145 = .ok (.ixor, 1) := by decide +kernel
theorem dX4_least_146 : decode cX4_least 146 = .ok (.iand, 1) := by decide +kernel
theorem dX4_least_147 : decode cX4_least 147 = .ok (.istore_n 3, 1) := by decide +kernel
theorem dX4_least_148 : decode cX4_least 148 = .ok (.iconst 1, 1) := by decide +kernel
theorem dX4_least_149 : decode cX4_least 149 = .ok (.istore 4, 2) := by decide +kernel
theorem dX4_least_151 : decode cX4_least 151 = .ok (.iinc 5 (-1), 3) := by decide +kernel
theorem dX4_least_154 : decode cX4_least 154 = .ok (.goto (-52), 3) := by decide +kernel
theorem dX4_least_157 : decode cX4_least 157 = .ok (.goto (-71), 3) := by decide +kernel
theorem dX4_least_160 : decode cX4_least 160 = .ok (.iload_n 3, 1) := by decide +kernel
theorem dX4_least_161 : decode cX4_least 161 = .ok (.ireturn, 1) := by decide +kernel
theorem dX4_count_0 : decode cX4_count 0 = .ok (.iload_n 1, 1) := by decide +kernel
theorem dX4_count_1 : decode cX4_count 1 = .ok (.ifCond .ne 10, 3) := by decide +kernel
theorem dX4_count_4 : decode cX4_count 4 = .ok (.aload_n 0, 1) := by decide +kernel
theorem dX4_count_5 : decode cX4_count 5 = .ok (.getfield 81, 3) := by decide +kernel
theorem dX4_count_8 : decode cX4_count 8 = .ok (.goto 28, 3) := by decide +kernel
theorem dX4_count_11 : decode cX4_count 11 = .ok (.iload_n 1, 1) := by decide +kernel
theorem dX4_count_12 : decode cX4_count 12 = .ok (.iconst 1, 1) := by decide +kernel
theorem dX4_count_13 : decode cX4_count 13 = .ok (.if_icmp .ne 10, 3) := by decide +kernel
theorem dX4_count_16 : decode cX4_count 16 = .ok (.aload_n 0, 1) := by decide +kernel
theorem dX4_count_17 : decode cX4_count 17 = .ok (.getfield 228, 3) := by decide +kernel
theorem dX4_count_20 : decode cX4_count 20 = .ok (.goto 16, 3) := by decide +kernel
theorem dX4_count_23 : decode cX4_count 23 = .ok (.iload_n 1, 1) := by decide +kernel
theorem dX4_count_24 : decode cX4_count 24 = .ok (.iconst 2, 1) := by decide +kernel
theorem dX4_count_25 : decode cX4_count 25 = .ok (.if_icmp .ne 10, 3) := by decide +kernel
theorem dX4_count_28 : decode cX4_count 28 = .ok (.aload_n 0, 1) := by decide +kernel
theorem dX4_count_29 : decode cX4_count 29 = .ok (.getfield 199, 3) := by decide +kernel
theorem dX4_count_32 : decode cX4_count 32 = .ok (.goto 4, 3) := by decide +kernel
theorem dX4_count_35 : decode cX4_count 35 = .ok (.iconst (-1), 1) := by decide +kernel
theorem dX4_count_36 : decode cX4_count 36 = .ok (.ireturn, 1) := by decide +kernel
end
section
/-! Base: one list of words for all methods; a world's facts in one; contracts of methods that make nothing; calls; loads and stores -/
abbrev St : Type := Nat → Nat → Int32
def Gw : List Cond := lw_tbl.filter goodWord
theorem Gw_in (i : Nat) {w : Cond} (h : lw_tbl[i]? = some w) (hg : goodWord w = true) : w ∈ Gw := List.mem_filter.mpr ⟨List.mem_of_getElem? h, hg⟩
theorem Gw_good {w : Cond} (h : w ∈ Gw) : goodWord w = true := (List.mem_filter.mp h).2
theorem Gw_GoodIn {cd : Cond} (h : cd ∈ Gw) : GoodIn Gw (cd :: Gw) := fun w hw => by
  rcases List.mem_cons.mp hw with rfl | hw
  · exact ⟨h, good_of_word (Gw_good h)⟩
  · exact ⟨hw, good_of_word (Gw_good hw)⟩
def isNest : Cond → Bool
  | .fieldLinkNest _ _ _ _ _ _ => true
  | .methodLinkNest _ _ _ _ => true
  | _ => false
def NstU (U : State) : Prop := ∀ w ∈ lw_tbl, isNest w = true → va_Nw w U
theorem NstU.warm {s U : State} (h : NstU s) (hW : s.WarmedH U.vm) : NstU U := fun w hw hi => by
  have h1 := h w hw hi
  clear hw
  cases w <;> first | (exact va_Nw.warmF hW h1) | (exact va_Nw.warmM hW h1) | (cases hi)
theorem isNest_on {w : Cond} (h : isNest w = true) : w.onTables = true := by
  cases w <;> first | rfl | cases h
theorem NstU.same {s U : State} (h : NstU s) (hv : s.vm = U.vm) : NstU U := fun w hw hi => va_Nw.same (isNest_on hi) hv (h w hw hi)
theorem NstU.at {s : State} {args : Array Value} (h : NstU s) (i : Nat) {w : Cond} (hw : lw_tbl[i]? = some w) (hi : isNest w = true) : w.before args s = true := va_Nw.use (isNest_on hi) (h w (List.mem_of_getElem? hw) hi)
theorem NstU.nw {s : State} (h : NstU s) (i : Nat) {w : Cond} (hw : lw_tbl[i]? = some w) (hi : isNest w = true) : va_Nw w s := h w (List.mem_of_getElem? hw) hi
def Hd (D : va_G) (A : Nat → Prop) (w : va_W) (H0 H : Heap) (locs : List Loc) : Prop := va_P D vwCl w H ∧ va_D A w ∧ va_S A H0 H locs
def Pre (D : va_G) (tys : List (ClassId × FieldType)) (w : va_W) (sz : Nat) (X : State → Prop) (U : State) : Prop := U.heap.size = sz ∧ va_P D vwCl w U.heap ∧ va_K D vwCl tys U ∧ va_D (fun _ => True) w ∧ NstU U ∧ X U
def Aft (D : va_G) (w : va_W) (A : Nat → Prop) (t : State) : Prop := va_P D vwCl w t.heap ∧ va_D A w
/-- a contract of a method that makes nothing: w its world before, Wd u behind -/
def CtX (X : State → Prop) (l : Launch) (y : MethodName) (bytes : ByteArray) (maxL : Nat) (ret : Option FieldType) (rm : Room) (D : va_G) (tys : List (ClassId × FieldType)) (w : va_W) (av : List Value) (Qc : (Nat → Prop) → Array Value → State → Outcome → State → Prop) : Prop :=
  ∀ sz : Nat, Met l y (Cond.code y bytes maxL ret :: Gw) rm (va_Pc av (Pre D tys w sz X)) (Qc (va_A w sz)) 0 0 (va_A w sz)
abbrev noX : State → Prop := fun _ => True
abbrev qI (D : va_G) {S : Type} (Wd : S → va_W) (post : Int32 → S → Prop) : (Nat → Prop) → Array Value → State → Outcome → State → Prop := fun A => va_Qi post (fun u t => Aft D (Wd u) A t) A
abbrev qV (D : va_G) {S : Type} (Wd : S → va_W) (post : S → Prop) : (Nat → Prop) → Array Value → State → Outcome → State → Prop := fun A => va_Qv post (fun u t => Aft D (Wd u) A t) A
theorem CtX.mk {X : State → Prop} {l : Launch} {y : MethodName} {bytes : ByteArray} {maxL : Nat} {ret : Option FieldType} {rm : Room} {D : va_G} {tys : List (ClassId × FieldType)} {w : va_W} {av : List Value} {Qc : (Nat → Prop) → Array Value → State → Outcome → State → Prop}
    (hy : plainName y.cls = true) (hlen : (lg_sl av).length ≤ maxL)
    (body : ∀ (p : Program) (e : Env) (s : State) (m : MethodId) (below : List Frame) (meth : Method) (c : Code), p.tables.exec = Jvm.exec → c.code = bytes → c.maxLocals = maxL → s.vm.findClass y.cls = some m.cls → (∀ w ∈ Gw, w.before av.toArray s = true) → meth.sig.returnType = ret → meth.locks = false → va_K D vwCl tys s → NstU s →
      ∀ A : Nat → Prop, (∀ q, s.heap.size ≤ q → A q) → X s → Hd D A w s.heap s.heap [] → ∀ ls : Array Slot, lv_has ls maxL (lv_args 0 av) →
      W p l e rm s m av.toArray below meth c s.heap [] 0 0 (MQ below (Qc A) av.toArray s 0 0 A) (F0 m 0 ls [])) : CtX X l y bytes maxL ret rm D tys w av Qc := by
  intro sz
  refine Met.ofW (cc := bytes) (maxL := maxL) (ret := ret) hy rfl ?_
  intro p e s m args below meth c s₁ B hml hv
  obtain ⟨rfl, hsz, hP, hK, hD0, hN, hX⟩ := hv
  subst hsz
  have hts := atoms_spec (ws := Cond.code y bytes maxL ret :: Gw) B.pre
  have hl := lv_entry av (n := maxL) hlen
  rw [lg_entry_eq]
  exact body p e s m below meth c B.exec B.bytes hml (findClass_of_methodNamed B.named) (fun w hw => hts w (List.mem_cons_of_mem _ hw)) B.returns B.notSynchronized hK hN _ (fun q h => Or.inr h) hX ⟨hP, hD0.self (sz := s.heap.size), va_S.rf⟩ _ hl
section B1
variable {p : Program} {l : Launch} {e : Env} {R : Room} {s : State} {m : MethodId} {args : Array Value} {below : List Frame} {meth : Method} {c : Code} {H : Heap} {locs : List Loc} {cells slots : Nat} {Q : State → Prop}
variable {cc : ByteArray} {pc : Nat} {ls : Array Slot} {rest : List Value} {D : va_G} {A : Nat → Prop} {a : Nat} {tys : List (ClassId × FieldType)} {w : va_W} {H0 : Heap}
theorem gfl (hx : p.tables.exec = Jvm.exec) (hb : c.code = cc) (hg : ∀ w ∈ Gw, w.before args s = true) {own C : String} {T : u_T} {N ci index : Nat} (hin : ∀ w ∈ u_ws C T N, w ∈ Gw) (hown : s.vm.findClass own = some m.cls) (hK : va_K D vwCl tys s) (hP : va_P D vwCl w H) (q0 : Nat) {fs : List Value} (he : w[q0]? = some (a, .inr (ci, fs))) (hc : vwCl[ci]? = some (C, T, N)) (k : Nat) (hk : k < N)
    (hlink : Cond.fieldLink own index (T k).1 (T k).2.1 (T k).2.2.1 ∈ Gw) {v : Value} (hv : fs[k]? = some v) (hdg : decode cc pc = .ok (.getfield index, 3)) (kk : W p l e R s m args below meth c H locs cells slots Q (F0 m (pc + 3) ls (v :: rest))) : W p l e R s m args below meth c H locs cells slots Q (F0 m pc ls (.ref a :: rest)) :=
  va_get hx hb hg hin hown hK hP q0 he hc k hk (hg _ hlink) (fun _ h => h) hv hdg kk
theorem gflN (hx : p.tables.exec = Jvm.exec) (hb : c.code = cc) (hg : ∀ w ∈ Gw, w.before args s = true) (hN : NstU s) {own C host : String} {T : u_T} {N ci index : Nat} (hin : ∀ w ∈ u_ws C T N, w ∈ Gw) (hown : s.vm.findClass own = some m.cls) (hK : va_K D vwCl tys s) (hP : va_P D vwCl w H) (q0 : Nat) {fs : List Value} (he : w[q0]? = some (a, .inr (ci, fs))) (hc : vwCl[ci]? = some (C, T, N)) (k : Nat) (hk : k < N)
    (i : Nat) (hlink : lw_tbl[i]? = some (Cond.fieldLinkNest own index (T k).1 (T k).2.1 (T k).2.2.1 host)) {v : Value} (hv : fs[k]? = some v) (hdg : decode cc pc = .ok (.getfield index, 3)) (kk : W p l e R s m args below meth c H locs cells slots Q (F0 m (pc + 3) ls (v :: rest))) : W p l e R s m args below meth c H locs cells slots Q (F0 m pc ls (.ref a :: rest)) :=
  va_getN hx hb hg hin hown hK hP q0 he hc k hk (hN.at i hlink rfl) (fun _ h => h) hv hdg kk
theorem pfl (hx : p.tables.exec = Jvm.exec) (hb : c.code = cc) (hg : ∀ w ∈ Gw, w.before args s = true) {own C : String} {T : u_T} {N ci index : Nat} (hin : ∀ w ∈ u_ws C T N, w ∈ Gw) (ty0 : Nat → FieldType) (hty : ∀ k, k < N → parseFieldDescriptor (T k).2.2.1 = some (ty0 k)) (hnm : ∀ a, a < N → ∀ b, b < N → a ≠ b → (T a).2.1 ≠ (T b).2.1) (hown : s.vm.findClass own = some m.cls) (hK : va_K D vwCl tys s) (hh : Hd D A w H0 H locs) (q0 : Nat) {fs : List Value} (he : w[q0]? = some (a, .inr (ci, fs))) (hc : vwCl[ci]? = some (C, T, N)) (k : Nat) (hk : k < N)
    (hlink : Cond.fieldLink own index (T k).1 (T k).2.1 (T k).2.2.1 ∈ Gw) (hfin : (T k).2.2.2 = false) {v : Value} (hn : narrow (ty0 k) v = v) (hfit : fits (ty0 k) v = true) (hl : k < fs.length) (hdg : decode cc pc = .ok (.putfield index, 3)) (w' : va_W) (hw' : w.set q0 (a, .inr (ci, fs.set k v)) = w')
    (kk : ∀ (H1 : Heap) (locs1 : List Loc), Hd D A w' H0 H1 locs1 → W p l e R s m args below meth c H1 locs1 cells slots Q (F0 m (pc + 3) ls rest)) : W p l e R s m args below meth c H locs cells slots Q (F0 m pc ls (v :: .ref a :: rest)) :=
  va_put hx hb hg hin ty0 hty hnm hown hK hh.1 hh.2.1 hh.2.2 q0 he hc k hk (hg _ hlink) (fun _ h => h) hfin (hty k hk) hn hfit hl hdg (fun H1 locs1 h1 h2 h3 => kk H1 locs1 (hw' ▸ ⟨h1, h2, h3⟩))
theorem pflN (hx : p.tables.exec = Jvm.exec) (hb : c.code = cc) (hg : ∀ w ∈ Gw, w.before args s = true) (hN : NstU s) {own C host : String} {T : u_T} {N ci index : Nat} (hin : ∀ w ∈ u_ws C T N, w ∈ Gw) (ty0 : Nat → FieldType) (hty : ∀ k, k < N → parseFieldDescriptor (T k).2.2.1 = some (ty0 k)) (hnm : ∀ a, a < N → ∀ b, b < N → a ≠ b → (T a).2.1 ≠ (T b).2.1) (hown : s.vm.findClass own = some m.cls) (hK : va_K D vwCl tys s) (hh : Hd D A w H0 H locs) (q0 : Nat) {fs : List Value} (he : w[q0]? = some (a, .inr (ci, fs))) (hc : vwCl[ci]? = some (C, T, N)) (k : Nat) (hk : k < N)
    (i : Nat) (hlink : lw_tbl[i]? = some (Cond.fieldLinkNest own index (T k).1 (T k).2.1 (T k).2.2.1 host)) (hfin : (T k).2.2.2 = false) {v : Value} (hn : narrow (ty0 k) v = v) (hfit : fits (ty0 k) v = true) (hl : k < fs.length) (hdg : decode cc pc = .ok (.putfield index, 3)) (w' : va_W) (hw' : w.set q0 (a, .inr (ci, fs.set k v)) = w')
    (kk : ∀ (H1 : Heap) (locs1 : List Loc), Hd D A w' H0 H1 locs1 → W p l e R s m args below meth c H1 locs1 cells slots Q (F0 m (pc + 3) ls rest)) : W p l e R s m args below meth c H locs cells slots Q (F0 m pc ls (v :: .ref a :: rest)) :=
  va_putN hx hb hg hin ty0 hty hnm hown hK hh.1 hh.2.1 hh.2.2 q0 he hc k hk (hN.at i hlink rfl) (fun _ h => h) hfin (hty k hk) hn hfit hl hdg (fun H1 locs1 h1 h2 h3 => kk H1 locs1 (hw' ▸ ⟨h1, h2, h3⟩))
theorem ldx (hx : p.tables.exec = Jvm.exec) (hb : c.code = cc) (hK : va_K D vwCl tys s) (hP : va_P D vwCl w H) (q0 t0 : Nat) {cA : ClassId} {n : Nat} {f : Nat → Int32} (ha : w[q0]? = some (a, .inl (cA, n, .inl f))) (ht : tys[t0]? = some (cA, .int)) {i : Int32} (hin : vp_in i n) (hdg : decode cc pc = .ok (.iaload, 1))
    (kk : W p l e R s m args below meth c H locs cells slots Q (F0 m (pc + 1) ls (.int (f i.toNatClampNeg) :: rest))) : W p l e R s m args below meth c H locs cells slots Q (F0 m pc ls (.int i :: .ref a :: rest)) :=
  va_iald hx hb hK hP q0 t0 ha ht hin hdg kk
theorem ldn (hx : p.tables.exec = Jvm.exec) (hb : c.code = cc) (hK : va_K D vwCl tys s) (hP : va_P D vwCl w H) (q0 t0 : Nat) {cA : ClassId} {n : Nat} {f : Nat → Int32} (ha : w[q0]? = some (a, .inl (cA, n, .inl f))) (ht : tys[t0]? = some (cA, .int)) {j : Nat} (hj : j < n) (hn : n < 2 ^ 31) (hdg : decode cc pc = .ok (.iaload, 1))
    (kk : W p l e R s m args below meth c H locs cells slots Q (F0 m (pc + 1) ls (.int (f j) :: rest))) : W p l e R s m args below meth c H locs cells slots Q (F0 m pc ls (.int (nI j) :: .ref a :: rest)) := by
  refine va_iald hx hb hK hP q0 t0 ha ht (vp_in_nI hj hn) hdg ?_
  rw [nI_clamp (Nat.lt_trans hj hn)]
  exact kk
theorem ldzx (hx : p.tables.exec = Jvm.exec) (hb : c.code = cc) (hK : va_K D vwCl tys s) (hP : va_P D vwCl w H) (q0 t0 : Nat) {cA : ClassId} {n : Nat} {f : Nat → Int32} (ha : w[q0]? = some (a, .inl (cA, n, .inl f))) (ht : tys[t0]? = some (cA, .boolean)) {i : Int32} (hin : vp_in i n) (hdg : decode cc pc = .ok (.baload, 1))
    (kk : W p l e R s m args below meth c H locs cells slots Q (F0 m (pc + 1) ls (.int (f i.toNatClampNeg) :: rest))) : W p l e R s m args below meth c H locs cells slots Q (F0 m pc ls (.int i :: .ref a :: rest)) :=
  va_zald hx hb hK hP q0 t0 ha ht hin hdg kk
theorem stx (hx : p.tables.exec = Jvm.exec) (hb : c.code = cc) (hK : va_K D vwCl tys s) (hh : Hd D A w H0 H locs) (q0 t0 : Nat) {cA : ClassId} {n : Nat} {f : Nat → Int32} (ha : w[q0]? = some (a, .inl (cA, n, .inl f))) (ht : tys[t0]? = some (cA, .int)) {i x : Int32} (hin : vp_in i n) (hdg : decode cc pc = .ok (.iastore, 1)) (w' : va_W) (hw' : w.set q0 (a, .inl (cA, n, .inl (upd f i.toNatClampNeg x))) = w')
    (kk : ∀ (H1 : Heap) (locs1 : List Loc), Hd D A w' H0 H1 locs1 → W p l e R s m args below meth c H1 locs1 cells slots Q (F0 m (pc + 1) ls rest)) : W p l e R s m args below meth c H locs cells slots Q (F0 m pc ls (.int x :: .int i :: .ref a :: rest)) :=
  va_iast hx hb hK hh.1 hh.2.1 hh.2.2 q0 t0 ha ht hin hdg (fun H1 locs1 h1 h2 h3 => kk H1 locs1 (hw' ▸ ⟨h1, h2, h3⟩))
theorem stn (hx : p.tables.exec = Jvm.exec) (hb : c.code = cc) (hK : va_K D vwCl tys s) (hh : Hd D A w H0 H locs) (q0 t0 : Nat) {cA : ClassId} {n : Nat} {f : Nat → Int32} (ha : w[q0]? = some (a, .inl (cA, n, .inl f))) (ht : tys[t0]? = some (cA, .int)) {j : Nat} {x : Int32} (hj : j < n) (hn : n < 2 ^ 31) (hdg : decode cc pc = .ok (.iastore, 1)) (w' : va_W) (hw' : w.set q0 (a, .inl (cA, n, .inl (upd f j x))) = w')
    (kk : ∀ (H1 : Heap) (locs1 : List Loc), Hd D A w' H0 H1 locs1 → W p l e R s m args below meth c H1 locs1 cells slots Q (F0 m (pc + 1) ls rest)) : W p l e R s m args below meth c H locs cells slots Q (F0 m pc ls (.int x :: .int (nI j) :: .ref a :: rest)) := by
  refine stx hx hb hK hh q0 t0 ha ht (vp_in_nI hj hn) hdg w' ?_ kk
  rw [nI_clamp (Nat.lt_trans hj hn)]
  exact hw'
theorem retI {S : Type} {Wd : S → va_W} {post : Int32 → S → Prop} {v : Int32} (u : S) (hx : p.tables.exec = Jvm.exec) (hb : c.code = cc) (hr : meth.sig.returnType = some .int) (hlocks : meth.locks = false) (hdg : decode cc pc = .ok (.ireturn, 1)) (hh : Hd D A (Wd u) s.heap H locs) (hp : post v u) : W p l e R s m args below meth c H locs 0 0 (MQ below (qI D Wd post A) args s 0 0 A) (F0 m pc ls [.int v]) :=
  W.iret (v := v) hx hb hr (fun t ht _ => ⟨⟨v, u, rfl, hp, by rw [ht]; exact hh.1, hh.2.1⟩, hh.2.2.F ht⟩) hh.2.2.2.2 hdg hlocks
theorem retZ {S : Type} {Wd : S → va_W} {post : Int32 → S → Prop} {v : Int32} (u : S) (hx : p.tables.exec = Jvm.exec) (hb : c.code = cc) (hr : meth.sig.returnType = some .boolean) (hlocks : meth.locks = false) (hn : narrow .boolean (.int v) = .int v) (hdg : decode cc pc = .ok (.ireturn, 1)) (hh : Hd D A (Wd u) s.heap H locs) (hp : post v u) : W p l e R s m args below meth c H locs 0 0 (MQ below (qI D Wd post A) args s 0 0 A) (F0 m pc ls [.int v]) :=
  W.zret (v := v) hx hb hr hn (fun t ht _ => ⟨⟨v, u, rfl, hp, by rw [ht]; exact hh.1, hh.2.1⟩, hh.2.2.F ht⟩) hh.2.2.2.2 hdg hlocks
theorem retV {S : Type} {Wd : S → va_W} {post : S → Prop} (u : S) (hx : p.tables.exec = Jvm.exec) (hb : c.code = cc) (hr : meth.sig.returnType = none) (hlocks : meth.locks = false) (hdg : decode cc pc = .ok (.return_, 1)) (hh : Hd D A (Wd u) s.heap H locs) (hp : post u) : W p l e R s m args below meth c H locs 0 0 (MQ below (qV D Wd post A) args s 0 0 A) (F0 m pc ls []) :=
  W.vret hx hb hr (fun t ht _ => ⟨⟨u, rfl, hp, by rw [ht]; exact hh.1, hh.2.1⟩, hh.2.2.F ht⟩) hh.2.2.2.2 hdg hlocks
/-- a loop: a head's facts I for every state x, a measure that falls -/
theorem loopW {σ : Type} (I : σ → Heap → List Loc → Array Slot → Prop) (μ : σ → Nat) {stk : List Value}
    (body : ∀ (x : σ) (H : Heap) (locs : List Loc) (ls : Array Slot), I x H locs ls → (∀ (y : σ) (H1 : Heap) (locs1 : List Loc) (ls1 : Array Slot), I y H1 locs1 ls1 → μ y < μ x → W p l e R s m args below meth c H1 locs1 cells slots Q (F0 m pc ls1 stk)) → W p l e R s m args below meth c H locs cells slots Q (F0 m pc ls stk))
    (x : σ) (h : I x H locs ls) : W p l e R s m args below meth c H locs cells slots Q (F0 m pc ls stk) := by
  have key : ∀ (n : Nat) (x : σ) (H : Heap) (locs : List Loc) (ls : Array Slot), μ x < n → I x H locs ls → W p l e R s m args below meth c H locs cells slots Q (F0 m pc ls stk) := by
    intro n
    induction n with
    | zero => intro x H locs ls h; exact absurd h (Nat.not_lt_zero _)
    | succ n ih => intro x H locs ls hn hI; exact body x H locs ls hI (fun y H1 locs1 ls1 hy hlt => ih y H1 locs1 ls1 (by omega) hy)
  exact key _ x H locs ls (Nat.lt_succ_self _) h
theorem Hd.free {wc : va_W} (hh : Hd D A w H0 H locs) (hA : ∀ q, H0.size ≤ q → A q) (isC : List Nat) (hC : isC.map (fun i => w[i]?) = wc.map some) : ∀ q, va_A wc H.size q → A q := va_free hh.2.1 hh.2.2 hA isC hC
theorem va_D.sub' {A : Nat → Prop} {ws ws' : va_W} (hD : va_D A ws) (is : List Nat) (hn : va_nd is = true) (hs : is.map (fun i => ws[i]?) = ws'.map some) : va_D A ws' := hD.sub is hn hs
theorem mapSome_sub {D : va_G} {w w' : va_W} {H : Heap} (h : va_P D vwCl w H) (is : List Nat) (hs : is.map (fun i => w[i]?) = w'.map some) : va_P D vwCl w' H := by
  intro k q hk
  have h1 : (w'.map some)[k]? = some (some q) := by rw [List.getElem?_map, hk]; rfl
  rw [← hs, List.getElem?_map] at h1
  obtain ⟨i, hi, he⟩ := Option.map_eq_some_iff.mp h1
  exact h i q he
/-- what a call leaves: the callee's cells as it says, the others as they were; laid out anew -/
theorem Hd.join {wc wr w1 wn : va_W} {H1 : Heap} {locs1 : List Loc} (hh : Hd D A w H0 H locs) (hA : ∀ q, H0.size ≤ q → A q) (isC isR pm : List Nat) (hC : isC.map (fun i => w[i]?) = wc.map some) (hR : isR.map (fun i => w[i]?) = wr.map some) (hn : va_nd isR = true) (hdis : ∀ i ∈ isR, i ∉ isC) (hpn : va_nd pm = true) (hpm : pm.map (fun i => (wr ++ w1)[i]?) = wn.map some)
    (hk : ∀ q : Nat, q < H.size → ¬ va_A wc H.size q → H1[q]? = H[q]?) (hP1 : va_P D vwCl w1 H1) (hD1 : va_D (va_A wc H.size) w1) (hS1 : va_S A H0 H1 locs1) : Hd D A wn H0 H1 locs1 := by
  obtain ⟨h1, h2⟩ := va_join (wr := wr) (w1 := w1) hh.1 hh.2.1 isC isR hC hR hn hdis hk (hh.free hA isC hC) hP1 hD1
  exact ⟨mapSome_sub h1 pm hpm, h2.sub pm hpn hpm, hS1⟩
end B1
end
section
/-! Read-only contracts, and calls -/
def PreR (D : va_G) (tys : List (ClassId × FieldType)) (w : va_W) (X : State → Prop) (U : State) : Prop := va_P D vwCl w U.heap ∧ va_K D vwCl tys U ∧ NstU U ∧ X U
abbrev qR (post : Int32 → Prop) : Array Value → State → Outcome → State → Prop := fun _ st oc t => (∃ r : Int32, oc = .returned (some (.int r)) ∧ post r) ∧ t.heap = st.heap
def CtR (X : State → Prop) (l : Launch) (y : MethodName) (bytes : ByteArray) (maxL : Nat) (ret : Option FieldType) (rm : Room) (D : va_G) (tys : List (ClassId × FieldType)) (w : va_W) (av : List Value) (post : Int32 → Prop) : Prop :=
  Met l y (Cond.code y bytes maxL ret :: Gw) rm (va_Pc av (PreR D tys w X)) (qR post) 0 0 (fun _ => False)
theorem CtR.mk {X : State → Prop} {l : Launch} {y : MethodName} {bytes : ByteArray} {maxL : Nat} {ret : Option FieldType} {rm : Room} {D : va_G} {tys : List (ClassId × FieldType)} {w : va_W} {av : List Value} {post : Int32 → Prop}
    (hy : plainName y.cls = true) (hlen : (lg_sl av).length ≤ maxL)
    (body : ∀ (p : Program) (e : Env) (s : State) (m : MethodId) (below : List Frame) (meth : Method) (c : Code), p.tables.exec = Jvm.exec → c.code = bytes → c.maxLocals = maxL → s.vm.findClass y.cls = some m.cls → (∀ w ∈ Gw, w.before av.toArray s = true) → meth.sig.returnType = ret → meth.locks = false → va_K D vwCl tys s → NstU s → X s → ∀ H : Heap, s.heap = H → va_P D vwCl w H → ∀ ls : Array Slot, lv_has ls maxL (lv_args 0 av) →
      W p l e rm s m av.toArray below meth c H [] 0 0 (MQ below (qR post) av.toArray s 0 0 (fun _ => False)) (F0 m 0 ls [])) : CtR X l y bytes maxL ret rm D tys w av post := by
  refine Met.ofW (cc := bytes) (maxL := maxL) (ret := ret) hy rfl ?_
  intro p e s m args below meth c s₁ B hml hv
  obtain ⟨rfl, hP, hK, hN, hX⟩ := hv
  have hts := atoms_spec (ws := Cond.code y bytes maxL ret :: Gw) B.pre
  have hl := lv_entry av (n := maxL) hlen
  rw [lg_entry_eq]
  exact body p e s m below meth c B.exec B.bytes hml (findClass_of_methodNamed B.named) (fun w hw => hts w (List.mem_cons_of_mem _ hw)) B.returns B.notSynchronized hK hN hX s.heap rfl hP _ hl
theorem CtR.weaken {X : State → Prop} {l : Launch} {y : MethodName} {bytes : ByteArray} {maxL : Nat} {ret : Option FieldType} {rm : Room} {D : va_G} {tys : List (ClassId × FieldType)} {w : va_W} {av : List Value} {post post' : Int32 → Prop} (h : CtR X l y bytes maxL ret rm D tys w av post) (hp : ∀ r, post r → post' r) : CtR X l y bytes maxL ret rm D tys w av post' := by
  intro p e h1 h2 h3 s m args below h4 h5 h6 h7
  obtain ⟨k, o, a1, a2, a3, ⟨⟨⟨r, e1, e2⟩, e3⟩, e4⟩⟩ := h p e h1 h2 h3 s m args below h4 h5 h6 h7
  exact ⟨k, o, a1, a2, a3, ⟨⟨r, e1, hp r e2⟩, e3⟩, e4⟩
section B2
variable {p : Program} {l : Launch} {e : Env} {R : Room} {s : State} {m : MethodId} {args : Array Value} {below : List Frame} {meth : Method} {c : Code} {H : Heap} {locs : List Loc} {cells slots : Nat} {Q : State → Prop}
variable {cc : ByteArray} {pc : Nat} {ls : Array Slot} {D : va_G} {A : Nat → Prop} {a : Nat} {tys : List (ClassId × FieldType)} {w : va_W} {H0 : Heap} {X : State → Prop}
variable {y : MethodName} {bytes : ByteArray} {maxL nL index : Nat} {ret : Option FieldType} {rm : Room} {Pc : Array Value → State → Prop} {Qc : Array Value → State → Outcome → State → Prop} {free : Addr → Prop} {own C : String} {b : Addr} {st0 : List Value}
theorem retRI {post : Int32 → Prop} {v : Int32} (hx : p.tables.exec = Jvm.exec) (hb : c.code = cc) (hr : meth.sig.returnType = some .int) (hlocks : meth.locks = false) (hH : s.heap = H) (hdg : decode cc pc = .ok (.ireturn, 1)) (hp : post v) : W p l e R s m args below meth c H [] 0 0 (MQ below (qR post) args s 0 0 (fun _ => False)) (F0 m pc ls [.int v]) :=
  W.iret (v := v) hx hb hr (fun t ht _ => ⟨⟨v, rfl, hp⟩, ht.trans hH.symm⟩) (fun _ h => by cases h) hdg hlocks
theorem retRZ {post : Int32 → Prop} {v : Int32} (hx : p.tables.exec = Jvm.exec) (hb : c.code = cc) (hr : meth.sig.returnType = some .boolean) (hlocks : meth.locks = false) (hH : s.heap = H) (hn : narrow .boolean (.int v) = .int v) (hdg : decode cc pc = .ok (.ireturn, 1)) (hp : post v) : W p l e R s m args below meth c H [] 0 0 (MQ below (qR post) args s 0 0 (fun _ => False)) (F0 m pc ls [.int v]) :=
  W.zret (v := v) hx hb hr hn (fun t ht _ => ⟨⟨v, rfl, hp⟩, ht.trans hH.symm⟩) (fun _ h => by cases h) hdg hlocks
abbrev Lk (y : MethodName) (n : Nat) : Prop := y.cls ≠ "java/lang/invoke/MethodHandle" ∧ y.cls ≠ "java/lang/invoke/VarHandle" ∧ (parseMethodDescriptor y.desc).map (fun d => d.parameters.length) = some n
theorem runV (hx : p.tables.exec = Jvm.exec) (hb : c.code = cc) (hg : ∀ w ∈ Gw, w.before args s = true) (hown : s.vm.findClass own = some m.cls) (hml : c.maxLocals = nL) (hls : ls.size = nL)
    (hM : Met l y (Cond.code y bytes maxL ret :: Gw) rm Pc Qc 0 0 free) (As rest : List Value) (hpc : FrameBlind Pc ∧ ∀ U : State, U.heap = H → s.WarmedH U.vm → Pc (Value.ref b :: As).toArray U) (hrecv : ∃ cellB : Cell, H[b]? = some cellB ∧ cellB.vm.isStatics = false ∧ s.vm.findClass C = some cellB.cls)
    (ml : Cond.methodLink own index y ∈ Gw) (im : Cond.instanceMethod y ∈ Gw) (sel : Cond.selects C y y ∈ Gw) (ini : Cond.initialized y.cls ∈ Gw) (cd : Cond.code y bytes maxL ret ∈ Gw) (hd : Lk y As.length) (hrm : rm.cells = 0 ∧ rm.slots = 0) (hR : rm.frames + 1 ≤ R.frames ∧ 8 + (maxL + 11) + rm.locals ≤ R.locals) (hcs : cells ≤ R.cells ∧ slots ≤ R.slots)
    (hst : st0 = As.reverse ++ .ref b :: rest) (hrest : (rest.map fun v => v.category).sum ≤ 8) (hdg : decode cc pc = .ok (.invokevirtual index, 3)) :
    va_Run p l e R s m args below meth c H locs cells slots 0 0 (F0 m pc ls st0) rest (Qc (Value.ref b :: As).toArray) free :=
  va_runV (n := As.length) (C := C) (Ts := Gw) (own := own) ⟨hx, hb, hml, hown, hg⟩ hM ⟨callB_of As.length hg (Gw_GoodIn cd) rfl hrm.1 hrm.2 (hg _ ini) (hg _ ml) hd hR, hg _ im, hg _ sel⟩ ⟨hpc.1, hrecv, hpc.2⟩ rfl rfl hls hst (lv_room hrest) hdg hcs
theorem runS (hx : p.tables.exec = Jvm.exec) (hb : c.code = cc) (hg : ∀ w ∈ Gw, w.before args s = true) (hown : s.vm.findClass own = some m.cls) (hml : c.maxLocals = nL) (hls : ls.size = nL)
    (hM : Met l y (Cond.code y bytes maxL ret :: Gw) rm Pc Qc 0 0 free) (As rest : List Value) (hpc : FrameBlind Pc ∧ ∀ U : State, U.heap = H → s.WarmedH U.vm → Pc As.toArray U)
    (ml : Cond.methodLink own index y ∈ Gw) (im : Cond.static y ∈ Gw) (ini : Cond.initialized y.cls ∈ Gw) (cd : Cond.code y bytes maxL ret ∈ Gw) (hd : Lk y As.length) (hrm : rm.cells = 0 ∧ rm.slots = 0) (hR : rm.frames + 1 ≤ R.frames ∧ 8 + (maxL + 11) + rm.locals ≤ R.locals) (hcs : cells ≤ R.cells ∧ slots ≤ R.slots)
    (hst : st0 = As.reverse ++ rest) (hrest : (rest.map fun v => v.category).sum ≤ 8) (hdg : decode cc pc = .ok (.invokestatic index, 3)) :
    va_Run p l e R s m args below meth c H locs cells slots 0 0 (F0 m pc ls st0) rest (Qc As.toArray) free :=
  va_runS (n := As.length) (Ts := Gw) (own := own) ⟨hx, hb, hml, hown, hg⟩ hM ⟨callB_of As.length hg (Gw_GoodIn cd) rfl hrm.1 hrm.2 (hg _ ini) (hg _ ml) hd hR, hg _ im⟩ hpc rfl rfl hls hst (lv_room hrest) hdg hcs
theorem runSN {host : String} (hx : p.tables.exec = Jvm.exec) (hb : c.code = cc) (hg : ∀ w ∈ Gw, w.before args s = true) (hown : s.vm.findClass own = some m.cls) (hml : c.maxLocals = nL) (hls : ls.size = nL) (hN : NstU s)
    (hM : Met l y (Cond.code y bytes maxL ret :: Gw) rm Pc Qc 0 0 free) (As rest : List Value) (hpc : FrameBlind Pc ∧ ∀ U : State, U.heap = H → s.WarmedH U.vm → Pc As.toArray U)
    (i : Nat) (ml : lw_tbl[i]? = some (Cond.methodLinkNest own index y host)) (im : Cond.static y ∈ Gw) (ini : Cond.initialized y.cls ∈ Gw) (cd : Cond.code y bytes maxL ret ∈ Gw) (hd : Lk y As.length) (hrm : rm.cells = 0 ∧ rm.slots = 0) (hR : rm.frames + 1 ≤ R.frames ∧ 8 + (maxL + 11) + rm.locals ≤ R.locals) (hcs : cells ≤ R.cells ∧ slots ≤ R.slots)
    (hst : st0 = As.reverse ++ rest) (hrest : (rest.map fun v => v.category).sum ≤ 8) (hdg : decode cc pc = .ok (.invokestatic index, 3)) :
    va_Run p l e R s m args below meth c H locs cells slots 0 0 (F0 m pc ls st0) rest (Qc As.toArray) free :=
  va_runSN (n := As.length) (Ts := Gw) (own := own) (host := host) ⟨hx, hb, hml, hown, hg⟩ hM ⟨va_cnB As.length hg (Gw_GoodIn cd) rfl hrm.1 hrm.2 (hN.nw i ml rfl) (hg _ ini) hd hR, hg _ im, trivial⟩ hpc rfl rfl hls hst (lv_room hrest) hdg hcs
theorem preR {av : List Value} (hP : va_P D vwCl w H) (hK : va_K D vwCl tys s) (hN : NstU s) (hXb : ∀ (U : State) (g : JFrame) (mk : MethodId) (a : Array Value), X U → X (U.calling g mk a)) (hX : ∀ U : State, U.heap = H → s.WarmedH U.vm → X U) : FrameBlind (va_Pc av (PreR D tys w X)) ∧ ∀ U : State, U.heap = H → s.WarmedH U.vm → va_Pc av (PreR D tys w X) av.toArray U :=
  ⟨fun a U g mk q => by
    obtain ⟨q0, qP, qK, qN, qX⟩ := q
    exact ⟨q0, qP, va_K.moved (u := U) (U := U.calling g mk a) (Vm.Alike.refl U.vm) qK, qN.same rfl, hXb _ _ _ _ qX⟩,
   fun U hU hW => ⟨rfl, by rw [hU]; exact hP, va_K.moved hW.alike hK, hN.warm hW, hX U hU hW⟩⟩
theorem preX {av : List Value} (hP : va_P D vwCl w H) (hD : va_D A w) (hK : va_K D vwCl tys s) (hN : NstU s) (hXb : ∀ (U : State) (g : JFrame) (mk : MethodId) (a : Array Value), X U → X (U.calling g mk a)) (hX : ∀ U : State, U.heap = H → s.WarmedH U.vm → X U) : FrameBlind (va_Pc av (Pre D tys w H.size X)) ∧ ∀ U : State, U.heap = H → s.WarmedH U.vm → va_Pc av (Pre D tys w H.size X) av.toArray U :=
  ⟨fun a U g mk q => by
    obtain ⟨q0, q1, qP, qK, qD, qN, qX⟩ := q
    exact ⟨q0, q1, qP, va_K.moved (u := U) (U := U.calling g mk a) (Vm.Alike.refl U.vm) qK, qD, qN.same rfl, hXb _ _ _ _ qX⟩,
   fun U hU hW => ⟨rfl, by rw [hU], by rw [hU]; exact hP, va_K.moved hW.alike hK, hD.weaken (fun _ _ _ _ => trivial), hN.warm hW, hX U hU hW⟩⟩
theorem xb0 : ∀ (U : State) (g : JFrame) (mk : MethodId) (a : Array Value), noX U → noX (U.calling g mk a) := fun _ _ _ _ h => h
theorem x0 {s : State} {H : Heap} : ∀ U : State, U.heap = H → s.WarmedH U.vm → noX U := fun _ _ _ => trivial
/-- behind a read-only call nothing has changed -/
theorem callR {post : Int32 → Prop} {rest : List Value} {av : Array Value} (hr : va_Run p l e R s m args below meth c H locs cells slots 0 0 (F0 m pc ls st0) rest (qR post av) (fun _ => False))
    (kk : ∀ r : Int32, post r → W p l e R s m args below meth c H locs cells slots Q (F0 m (pc + 3) ls (.int r :: rest))) : W p l e R s m args below meth c H locs cells slots Q (F0 m pc ls st0) := by
  intro T hT X
  obtain ⟨v, st₀, t, T', L, h0, X', hL, e1, e2, ⟨⟨r, hv, hp⟩, hz⟩, st⟩ := hr T hT X
  cases hv
  have hL0 : L = [] := by
    cases L with
    | nil => rfl
    | cons q L => exact (hL q List.mem_cons_self).elim
  subst hL0
  rw [List.append_nil] at X'
  obtain ⟨t2, a1, b1⟩ := kk r hp T' (e1.trans (hz.trans h0)) X'
  exact ⟨t2, st t2 a1, b1⟩
/-- behind a call that writes: the callee's cells as it says, the others as they were -/
theorem callWI {S : Type} {Wd : S → va_W} {post : Int32 → S → Prop} {rest : List Value} {av : Array Value} {wc wr : va_W} {wn : S → va_W} (hr : va_Run p l e R s m args below meth c H locs cells slots 0 0 (F0 m pc ls st0) rest (qI D Wd post (va_A wc H.size) av) (va_A wc H.size))
    (hA : ∀ q, s.heap.size ≤ q → A q) (hh : Hd D A w s.heap H locs) (isC isR pm : List Nat) (hC : isC.map (fun i => w[i]?) = wc.map some) (hR : isR.map (fun i => w[i]?) = wr.map some) (hn : va_nd isR = true) (hdis : ∀ i ∈ isR, i ∉ isC) (hpn : va_nd pm = true) (hpm : ∀ u, pm.map (fun i => (wr ++ Wd u)[i]?) = (wn u).map some)
    (kk : ∀ (r : Int32) (u : S) (H1 : Heap) (locs1 : List Loc), post r u → Hd D A (wn u) s.heap H1 locs1 → W p l e R s m args below meth c H1 locs1 cells slots Q (F0 m (pc + 3) ls (.int r :: rest))) : W p l e R s m args below meth c H locs cells slots Q (F0 m pc ls st0) :=
  va_calli hr hh.2.2 (fun q _ h => hh.free hA isC hC q h) (hh.free hA isC hC) (fun r u t H1 locs1 ht _ hp hB _ hk hS => kk r u H1 locs1 hp (hh.join hA isC isR pm hC hR hn hdis hpn (hpm u) hk (ht ▸ hB.1) hB.2 hS))
theorem callWV {S : Type} {Wd : S → va_W} {post : S → Prop} {rest : List Value} {av : Array Value} {wc wr : va_W} {wn : S → va_W} (hr : va_Run p l e R s m args below meth c H locs cells slots 0 0 (F0 m pc ls st0) rest (qV D Wd post (va_A wc H.size) av) (va_A wc H.size))
    (hA : ∀ q, s.heap.size ≤ q → A q) (hh : Hd D A w s.heap H locs) (isC isR pm : List Nat) (hC : isC.map (fun i => w[i]?) = wc.map some) (hR : isR.map (fun i => w[i]?) = wr.map some) (hn : va_nd isR = true) (hdis : ∀ i ∈ isR, i ∉ isC) (hpn : va_nd pm = true) (hpm : ∀ u, pm.map (fun i => (wr ++ Wd u)[i]?) = (wn u).map some)
    (kk : ∀ (u : S) (H1 : Heap) (locs1 : List Loc), post u → Hd D A (wn u) s.heap H1 locs1 → W p l e R s m args below meth c H1 locs1 cells slots Q (F0 m (pc + 3) ls rest)) : W p l e R s m args below meth c H locs cells slots Q (F0 m pc ls st0) :=
  va_callv hr hh.2.2 (fun q _ h => hh.free hA isC hC q h) (hh.free hA isC hC) (fun u t H1 locs1 ht _ hp hB _ hk hS => kk u H1 locs1 hp (hh.join hA isC isR pm hC hR hn hdis hpn (hpm u) hk (ht ▸ hB.1) hB.2 hS))
end B2
end
section
/-! the words of the tables by their places -/
theorem wd_0 : (Jvm.Cond.selects "SliceWhy" ({ cls := "SliceWhy", name := "reasonsNow", desc := "()LSliceWhy$Reasons;" } : Jvm.MethodName) ({ cls := "SliceWhy", name := "reasonsNow", desc := "()LSliceWhy$Reasons;" } : Jvm.MethodName)) ∈ Gw := Gw_in 0 (by decide +kernel) rfl
theorem wd_1 : (Jvm.Cond.selects "SliceWhy$Reasons" ({ cls := "SliceWhy$Reasons", name := "takeNexts", desc := "(LSliceWhy$Program;)V" } : Jvm.MethodName) ({ cls := "SliceWhy$Reasons", name := "takeNexts", desc := "(LSliceWhy$Program;)V" } : Jvm.MethodName)) ∈ Gw := Gw_in 1 (by decide +kernel) rfl
theorem wd_2 : (Jvm.Cond.selects "SliceWhy$Program" ({ cls := "SliceWhy$Program", name := "bitOf", desc := "(I)I" } : Jvm.MethodName) ({ cls := "SliceWhy$Program", name := "bitOf", desc := "(I)I" } : Jvm.MethodName)) ∈ Gw := Gw_in 2 (by decide +kernel) rfl
theorem wd_3 : (Jvm.Cond.selects "SliceWhy$Reasons" ({ cls := "SliceWhy$Reasons", name := "forgetHanging", desc := "()V" } : Jvm.MethodName) ({ cls := "SliceWhy$Reasons", name := "forgetHanging", desc := "()V" } : Jvm.MethodName)) ∈ Gw := Gw_in 3 (by decide +kernel) rfl
theorem wd_4 : (Jvm.Cond.selects "SliceWhy$Reasons" ({ cls := "SliceWhy$Reasons", name := "findFollowers", desc := "()V" } : Jvm.MethodName) ({ cls := "SliceWhy$Reasons", name := "findFollowers", desc := "()V" } : Jvm.MethodName)) ∈ Gw := Gw_in 4 (by decide +kernel) rfl
theorem wd_5 : (Jvm.Cond.selects "SliceWhy$Reasons" ({ cls := "SliceWhy$Reasons", name := "endReachedWithout", desc := "(I)I" } : Jvm.MethodName) ({ cls := "SliceWhy$Reasons", name := "endReachedWithout", desc := "(I)I" } : Jvm.MethodName)) ∈ Gw := Gw_in 5 (by decide +kernel) rfl
theorem wd_6 : (Jvm.Cond.selects "SliceWhy$Reasons" ({ cls := "SliceWhy$Reasons", name := "findHangingByData", desc := "(LSliceWhy$Program;I)V" } : Jvm.MethodName) ({ cls := "SliceWhy$Reasons", name := "findHangingByData", desc := "(LSliceWhy$Program;I)V" } : Jvm.MethodName)) ∈ Gw := Gw_in 6 (by decide +kernel) rfl
theorem wd_7 : (Jvm.Cond.selects "SliceWhy$Reasons" ({ cls := "SliceWhy$Reasons", name := "settersOf", desc := "(LSliceWhy$Program;I)I" } : Jvm.MethodName) ({ cls := "SliceWhy$Reasons", name := "settersOf", desc := "(LSliceWhy$Program;I)I" } : Jvm.MethodName)) ∈ Gw := Gw_in 7 (by decide +kernel) rfl
theorem wd_8 : (Jvm.Cond.selects "SliceWhy$Reasons" ({ cls := "SliceWhy$Reasons", name := "reachedFrom", desc := "(II)I" } : Jvm.MethodName) ({ cls := "SliceWhy$Reasons", name := "reachedFrom", desc := "(II)I" } : Jvm.MethodName)) ∈ Gw := Gw_in 8 (by decide +kernel) rfl
theorem wd_9 : (Jvm.Cond.selects "SliceWhy$Reasons" ({ cls := "SliceWhy$Reasons", name := "findHangingByNames", desc := "(LSliceWhy$Program;I)V" } : Jvm.MethodName) ({ cls := "SliceWhy$Reasons", name := "findHangingByNames", desc := "(LSliceWhy$Program;I)V" } : Jvm.MethodName)) ∈ Gw := Gw_in 9 (by decide +kernel) rfl
theorem wd_10 : (Jvm.Cond.selects "SliceWhy$Reasons" ({ cls := "SliceWhy$Reasons", name := "findHangingByControl", desc := "(I)V" } : Jvm.MethodName) ({ cls := "SliceWhy$Reasons", name := "findHangingByControl", desc := "(I)V" } : Jvm.MethodName)) ∈ Gw := Gw_in 10 (by decide +kernel) rfl
theorem wd_11 : (Jvm.Cond.selects "SliceWhy$Reasons" ({ cls := "SliceWhy$Reasons", name := "closeHanging", desc := "()V" } : Jvm.MethodName) ({ cls := "SliceWhy$Reasons", name := "closeHanging", desc := "()V" } : Jvm.MethodName)) ∈ Gw := Gw_in 11 (by decide +kernel) rfl
theorem wd_12 : (Jvm.Cond.selects "SliceWhy$Reasons" ({ cls := "SliceWhy$Reasons", name := "withAllBehind", desc := "(I[I)I" } : Jvm.MethodName) ({ cls := "SliceWhy$Reasons", name := "withAllBehind", desc := "(I[I)I" } : Jvm.MethodName)) ∈ Gw := Gw_in 12 (by decide +kernel) rfl
theorem wd_13 : (Jvm.Cond.selects "SliceWhy$Machine" ({ cls := "SliceWhy$Machine", name := "begin", desc := "(LSliceWhy$Program;[I)V" } : Jvm.MethodName) ({ cls := "SliceWhy$Machine", name := "begin", desc := "(LSliceWhy$Program;[I)V" } : Jvm.MethodName)) ∈ Gw := Gw_in 13 (by decide +kernel) rfl
theorem wd_14 : (Jvm.Cond.selects "SliceWhy$Machine" ({ cls := "SliceWhy$Machine", name := "step", desc := "(LSliceWhy$Program;[II)I" } : Jvm.MethodName) ({ cls := "SliceWhy$Machine", name := "step", desc := "(LSliceWhy$Program;[II)I" } : Jvm.MethodName)) ∈ Gw := Gw_in 14 (by decide +kernel) rfl
theorem wd_15 : (Jvm.Cond.selects "SliceWhy$Machine" ({ cls := "SliceWhy$Machine", name := "failsAt", desc := "(LSliceWhy$Program;I)Z" } : Jvm.MethodName) ({ cls := "SliceWhy$Machine", name := "failsAt", desc := "(LSliceWhy$Program;I)Z" } : Jvm.MethodName)) ∈ Gw := Gw_in 15 (by decide +kernel) rfl
theorem wd_16 : (Jvm.Cond.selects "SliceWhy$Machine" ({ cls := "SliceWhy$Machine", name := "itemOf", desc := "(II)I" } : Jvm.MethodName) ({ cls := "SliceWhy$Machine", name := "itemOf", desc := "(II)I" } : Jvm.MethodName)) ∈ Gw := Gw_in 16 (by decide +kernel) rfl
theorem wd_17 : (Jvm.Cond.selects "SliceWhy$Machine" ({ cls := "SliceWhy$Machine", name := "valueOf", desc := "(III[I)I" } : Jvm.MethodName) ({ cls := "SliceWhy$Machine", name := "valueOf", desc := "(III[I)I" } : Jvm.MethodName)) ∈ Gw := Gw_in 17 (by decide +kernel) rfl
theorem wd_18 : (Jvm.Cond.selects "SliceWhy$Reasons" ({ cls := "SliceWhy$Reasons", name := "whoseSetHolds", desc := "(I[I)I" } : Jvm.MethodName) ({ cls := "SliceWhy$Reasons", name := "whoseSetHolds", desc := "(I[I)I" } : Jvm.MethodName)) ∈ Gw := Gw_in 18 (by decide +kernel) rfl
theorem wd_19 : (Jvm.Cond.selects "SliceWhy$Reasons" ({ cls := "SliceWhy$Reasons", name := "measureWays", desc := "(II)I" } : Jvm.MethodName) ({ cls := "SliceWhy$Reasons", name := "measureWays", desc := "(II)I" } : Jvm.MethodName)) ∈ Gw := Gw_in 19 (by decide +kernel) rfl
theorem wd_20 : (Jvm.Cond.selects "SliceWhy$Reasons" ({ cls := "SliceWhy$Reasons", name := "allThatHangOn", desc := "(I)I" } : Jvm.MethodName) ({ cls := "SliceWhy$Reasons", name := "allThatHangOn", desc := "(I)I" } : Jvm.MethodName)) ∈ Gw := Gw_in 20 (by decide +kernel) rfl
theorem wd_21 : (Jvm.Cond.selects "SliceWhy" ({ cls := "SliceWhy", name := "wholeIsSpentInATest", desc := "(I)Z" } : Jvm.MethodName) ({ cls := "SliceWhy", name := "wholeIsSpentInATest", desc := "(I)Z" } : Jvm.MethodName)) ∈ Gw := Gw_in 21 (by decide +kernel) rfl
theorem wd_22 : (Jvm.Cond.selects "SliceWhy" ({ cls := "SliceWhy", name := "withoutNeedless", desc := "(II)I" } : Jvm.MethodName) ({ cls := "SliceWhy", name := "withoutNeedless", desc := "(II)I" } : Jvm.MethodName)) ∈ Gw := Gw_in 22 (by decide +kernel) rfl
theorem wd_23 : (Jvm.Cond.selects "SliceWhy" ({ cls := "SliceWhy", name := "testsAgree", desc := "(II)Z" } : Jvm.MethodName) ({ cls := "SliceWhy", name := "testsAgree", desc := "(II)Z" } : Jvm.MethodName)) ∈ Gw := Gw_in 23 (by decide +kernel) rfl
theorem wd_24 : (Jvm.Cond.selects "SliceWhyModel" ({ cls := "SliceWhyModel", name := "write", desc := "(IIIII)V" } : Jvm.MethodName) ({ cls := "SliceWhyModel", name := "write", desc := "(IIIII)V" } : Jvm.MethodName)) ∈ Gw := Gw_in 24 (by decide +kernel) rfl
theorem wd_25 : (Jvm.Cond.selects "SliceWhyModel" ({ cls := "SliceWhyModel", name := "isPlace", desc := "(I)Z" } : Jvm.MethodName) ({ cls := "SliceWhyModel", name := "isPlace", desc := "(I)Z" } : Jvm.MethodName)) ∈ Gw := Gw_in 25 (by decide +kernel) rfl
theorem wd_26 : (Jvm.Cond.selects "SliceWhyModel" ({ cls := "SliceWhyModel", name := "followers", desc := "(I)I" } : Jvm.MethodName) ({ cls := "SliceWhyModel", name := "followers", desc := "(I)I" } : Jvm.MethodName)) ∈ Gw := Gw_in 26 (by decide +kernel) rfl
theorem wd_27 : (Jvm.Cond.selects "SliceWhyModel" ({ cls := "SliceWhyModel", name := "reach", desc := "(IIZ)I" } : Jvm.MethodName) ({ cls := "SliceWhyModel", name := "reach", desc := "(IIZ)I" } : Jvm.MethodName)) ∈ Gw := Gw_in 27 (by decide +kernel) rfl
theorem wd_28 : (Jvm.Cond.selects "SliceWhyModel" ({ cls := "SliceWhyModel", name := "nexts", desc := "(IZ)I" } : Jvm.MethodName) ({ cls := "SliceWhyModel", name := "nexts", desc := "(IZ)I" } : Jvm.MethodName)) ∈ Gw := Gw_in 28 (by decide +kernel) rfl
theorem wd_29 : (Jvm.Cond.selects "SliceWhyModel" ({ cls := "SliceWhyModel", name := "place", desc := "(I)I" } : Jvm.MethodName) ({ cls := "SliceWhyModel", name := "place", desc := "(I)I" } : Jvm.MethodName)) ∈ Gw := Gw_in 29 (by decide +kernel) rfl
theorem wd_30 : (Jvm.Cond.selects "SliceWhyModel" ({ cls := "SliceWhyModel", name := "canFail", desc := "(I)Z" } : Jvm.MethodName) ({ cls := "SliceWhyModel", name := "canFail", desc := "(I)Z" } : Jvm.MethodName)) ∈ Gw := Gw_in 30 (by decide +kernel) rfl
theorem wd_31 : (Jvm.Cond.selects "SliceWhyModel" ({ cls := "SliceWhyModel", name := "look", desc := "()V" } : Jvm.MethodName) ({ cls := "SliceWhyModel", name := "look", desc := "()V" } : Jvm.MethodName)) ∈ Gw := Gw_in 31 (by decide +kernel) rfl
theorem wd_32 : (Jvm.Cond.selects "SliceWhyModel" ({ cls := "SliceWhyModel", name := "hangs", desc := "(IIZ)I" } : Jvm.MethodName) ({ cls := "SliceWhyModel", name := "hangs", desc := "(IIZ)I" } : Jvm.MethodName)) ∈ Gw := Gw_in 32 (by decide +kernel) rfl
theorem wd_33 : (Jvm.Cond.selects "SliceWhyModel" ({ cls := "SliceWhyModel", name := "reads", desc := "(IZ)I" } : Jvm.MethodName) ({ cls := "SliceWhyModel", name := "reads", desc := "(IZ)I" } : Jvm.MethodName)) ∈ Gw := Gw_in 33 (by decide +kernel) rfl
theorem wd_34 : (Jvm.Cond.selects "SliceWhyModel" ({ cls := "SliceWhyModel", name := "settersOf", desc := "(II)I" } : Jvm.MethodName) ({ cls := "SliceWhyModel", name := "settersOf", desc := "(II)I" } : Jvm.MethodName)) ∈ Gw := Gw_in 34 (by decide +kernel) rfl
theorem wd_35 : (Jvm.Cond.selects "SliceWhyModel" ({ cls := "SliceWhyModel", name := "sources", desc := "(II)I" } : Jvm.MethodName) ({ cls := "SliceWhyModel", name := "sources", desc := "(II)I" } : Jvm.MethodName)) ∈ Gw := Gw_in 35 (by decide +kernel) rfl
theorem wd_36 : (Jvm.Cond.selects "SliceWhyModel" ({ cls := "SliceWhyModel", name := "setsIt", desc := "(II)Z" } : Jvm.MethodName) ({ cls := "SliceWhyModel", name := "setsIt", desc := "(II)Z" } : Jvm.MethodName)) ∈ Gw := Gw_in 36 (by decide +kernel) rfl
theorem wd_37 : (Jvm.Cond.selects "SliceWhyModel" ({ cls := "SliceWhyModel", name := "sets", desc := "(I)I" } : Jvm.MethodName) ({ cls := "SliceWhyModel", name := "sets", desc := "(I)I" } : Jvm.MethodName)) ∈ Gw := Gw_in 37 (by decide +kernel) rfl
theorem wd_38 : (Jvm.Cond.selects "SliceWhyModel" ({ cls := "SliceWhyModel", name := "controls", desc := "(I)I" } : Jvm.MethodName) ({ cls := "SliceWhyModel", name := "controls", desc := "(I)I" } : Jvm.MethodName)) ∈ Gw := Gw_in 38 (by decide +kernel) rfl
theorem wd_39 : (Jvm.Cond.selects "SliceWhyModel" ({ cls := "SliceWhyModel", name := "back", desc := "(IZ)I" } : Jvm.MethodName) ({ cls := "SliceWhyModel", name := "back", desc := "(IZ)I" } : Jvm.MethodName)) ∈ Gw := Gw_in 39 (by decide +kernel) rfl
theorem wd_40 : (Jvm.Cond.selects "SliceWhyModel" ({ cls := "SliceWhyModel", name := "on", desc := "(IZ)I" } : Jvm.MethodName) ({ cls := "SliceWhyModel", name := "on", desc := "(IZ)I" } : Jvm.MethodName)) ∈ Gw := Gw_in 40 (by decide +kernel) rfl
theorem wd_41 : (Jvm.Cond.selects "SliceWhyModel" ({ cls := "SliceWhyModel", name := "forward", desc := "(IZ)I" } : Jvm.MethodName) ({ cls := "SliceWhyModel", name := "forward", desc := "(IZ)I" } : Jvm.MethodName)) ∈ Gw := Gw_in 41 (by decide +kernel) rfl
theorem wd_42 : (Jvm.Cond.selects "SliceWhyModel" ({ cls := "SliceWhyModel", name := "go", desc := "(II[II)I" } : Jvm.MethodName) ({ cls := "SliceWhyModel", name := "go", desc := "(II[II)I" } : Jvm.MethodName)) ∈ Gw := Gw_in 42 (by decide +kernel) rfl
theorem wd_43 : (Jvm.Cond.selects "SliceWhyModel" ({ cls := "SliceWhyModel", name := "begin", desc := "([II)V" } : Jvm.MethodName) ({ cls := "SliceWhyModel", name := "begin", desc := "([II)V" } : Jvm.MethodName)) ∈ Gw := Gw_in 43 (by decide +kernel) rfl
theorem wd_44 : (Jvm.Cond.selects "SliceWhyModel" ({ cls := "SliceWhyModel", name := "does", desc := "(I[II)Z" } : Jvm.MethodName) ({ cls := "SliceWhyModel", name := "does", desc := "(I[II)Z" } : Jvm.MethodName)) ∈ Gw := Gw_in 44 (by decide +kernel) rfl
theorem wd_45 : (Jvm.Cond.selects "SliceWhyModel" ({ cls := "SliceWhyModel", name := "whole", desc := "(I[II)I" } : Jvm.MethodName) ({ cls := "SliceWhyModel", name := "whole", desc := "(I[II)I" } : Jvm.MethodName)) ∈ Gw := Gw_in 45 (by decide +kernel) rfl
theorem wd_46 : (Jvm.Cond.selects "SliceWhyModel" ({ cls := "SliceWhyModel", name := "isSame", desc := "()Z" } : Jvm.MethodName) ({ cls := "SliceWhyModel", name := "isSame", desc := "()Z" } : Jvm.MethodName)) ∈ Gw := Gw_in 46 (by decide +kernel) rfl
theorem wd_47 : (Jvm.Cond.selects "SliceWhyModel" ({ cls := "SliceWhyModel", name := "agrees", desc := "(II)Z" } : Jvm.MethodName) ({ cls := "SliceWhyModel", name := "agrees", desc := "(II)Z" } : Jvm.MethodName)) ∈ Gw := Gw_in 47 (by decide +kernel) rfl
theorem wd_48 : (Jvm.Cond.initialized "SliceWhyLaw") ∈ Gw := Gw_in 48 (by decide +kernel) rfl
theorem wd_49 : (Jvm.Cond.initialized "SliceWhy") ∈ Gw := Gw_in 49 (by decide +kernel) rfl
theorem wd_50 : (Jvm.Cond.initialized "SliceWhy$Program") ∈ Gw := Gw_in 50 (by decide +kernel) rfl
theorem wd_51 : (Jvm.Cond.initialized "SliceWhy$Reasons") ∈ Gw := Gw_in 51 (by decide +kernel) rfl
theorem wd_52 : (Jvm.Cond.initialized "SliceWhy$Machine") ∈ Gw := Gw_in 52 (by decide +kernel) rfl
theorem wd_53 : (Jvm.Cond.initialized "SliceWhyModel") ∈ Gw := Gw_in 53 (by decide +kernel) rfl
theorem wd_54 : (Jvm.Cond.initialized "java/lang/Integer") ∈ Gw := Gw_in 54 (by decide +kernel) rfl
theorem wd_55 : (Jvm.Cond.initialized "java/lang/System") ∈ Gw := Gw_in 55 (by decide +kernel) rfl
theorem wd_56 : (Jvm.Cond.classLink "SliceWhyLaw" (7 : Nat) "SliceWhy") ∈ Gw := Gw_in 56 (by decide +kernel) rfl
theorem wd_57 : (Jvm.Cond.instantiable "SliceWhy" (12 : Nat)) ∈ Gw := Gw_in 57 (by decide +kernel) rfl
theorem wd_58 : (Jvm.Cond.methodLink "SliceWhyLaw" (9 : Nat) ({ cls := "SliceWhy", name := "<init>", desc := "()V" } : Jvm.MethodName)) ∈ Gw := Gw_in 58 (by decide +kernel) rfl
theorem wd_59 : (Jvm.Cond.instanceMethod ({ cls := "SliceWhy", name := "<init>", desc := "()V" } : Jvm.MethodName)) ∈ Gw := Gw_in 59 (by decide +kernel) rfl
theorem wd_60 : (Jvm.Cond.code ({ cls := "SliceWhy", name := "<init>", desc := "()V" } : Jvm.MethodName) prog_1_method_1_code (2 : Nat) (Option.none : Option Jvm.ClassFile.FieldType)) ∈ Gw := Gw_in 60 (by decide +kernel) rfl
theorem wd_61 : (Jvm.Cond.methodLink "SliceWhy" (3 : Nat) ({ cls := "java/lang/Object", name := "<init>", desc := "()V" } : Jvm.MethodName)) ∈ Gw := Gw_in 61 (by decide +kernel) rfl
theorem wd_62 : (Jvm.Cond.instanceMethod ({ cls := "java/lang/Object", name := "<init>", desc := "()V" } : Jvm.MethodName)) ∈ Gw := Gw_in 62 (by decide +kernel) rfl
theorem wd_63 : (Jvm.Cond.code ({ cls := "java/lang/Object", name := "<init>", desc := "()V" } : Jvm.MethodName) object_method_1_code (1 : Nat) (Option.none : Option Jvm.ClassFile.FieldType)) ∈ Gw := Gw_in 63 (by decide +kernel) rfl
theorem wd_64 : (Jvm.Cond.classLink "SliceWhy" (9 : Nat) "SliceWhy$Program") ∈ Gw := Gw_in 64 (by decide +kernel) rfl
theorem wd_65 : (Jvm.Cond.instantiable "SliceWhy$Program" (8 : Nat)) ∈ Gw := Gw_in 65 (by decide +kernel) rfl
theorem wd_66 : (Jvm.Cond.methodLink "SliceWhy" (11 : Nat) ({ cls := "SliceWhy$Program", name := "<init>", desc := "()V" } : Jvm.MethodName)) ∈ Gw := Gw_in 66 (by decide +kernel) rfl
theorem wd_67 : (Jvm.Cond.instanceMethod ({ cls := "SliceWhy$Program", name := "<init>", desc := "()V" } : Jvm.MethodName)) ∈ Gw := Gw_in 67 (by decide +kernel) rfl
theorem wd_68 : (Jvm.Cond.code ({ cls := "SliceWhy$Program", name := "<init>", desc := "()V" } : Jvm.MethodName) prog_3_method_1_code (2 : Nat) (Option.none : Option Jvm.ClassFile.FieldType)) ∈ Gw := Gw_in 68 (by decide +kernel) rfl
theorem wd_69 : (Jvm.Cond.methodLink "SliceWhy$Program" (3 : Nat) ({ cls := "java/lang/Object", name := "<init>", desc := "()V" } : Jvm.MethodName)) ∈ Gw := Gw_in 69 (by decide +kernel) rfl
theorem wd_70 : (Jvm.Cond.fieldLink "SliceWhy$Program" (9 : Nat) "SliceWhy$Program" "kinds" "[I") ∈ Gw := Gw_in 70 (by decide +kernel) rfl
theorem nst_71 : lw_tbl[71]? = some (Jvm.Cond.fieldLinkNest "SliceWhy" (69 : Nat) "SliceWhy$Program" "kinds" "[I" "SliceWhy") := by decide +kernel
theorem nst_72 : lw_tbl[72]? = some (Jvm.Cond.fieldLinkNest "SliceWhy$Machine" (89 : Nat) "SliceWhy$Program" "kinds" "[I" "SliceWhy") := by decide +kernel
theorem nst_73 : lw_tbl[73]? = some (Jvm.Cond.fieldLinkNest "SliceWhy$Reasons" (125 : Nat) "SliceWhy$Program" "kinds" "[I" "SliceWhy") := by decide +kernel
theorem wd_74 : (Jvm.Cond.fieldLink "SliceWhy$Program" (15 : Nat) "SliceWhy$Program" "as" "[I") ∈ Gw := Gw_in 74 (by decide +kernel) rfl
theorem nst_75 : lw_tbl[75]? = some (Jvm.Cond.fieldLinkNest "SliceWhy$Machine" (78 : Nat) "SliceWhy$Program" "as" "[I" "SliceWhy") := by decide +kernel
theorem wd_76 : (Jvm.Cond.fieldLink "SliceWhy$Program" (18 : Nat) "SliceWhy$Program" "bs" "[I") ∈ Gw := Gw_in 76 (by decide +kernel) rfl
theorem nst_77 : lw_tbl[77]? = some (Jvm.Cond.fieldLinkNest "SliceWhy$Machine" (81 : Nat) "SliceWhy$Program" "bs" "[I" "SliceWhy") := by decide +kernel
theorem wd_78 : (Jvm.Cond.fieldLink "SliceWhy$Program" (21 : Nat) "SliceWhy$Program" "cs" "[I") ∈ Gw := Gw_in 78 (by decide +kernel) rfl
theorem nst_79 : lw_tbl[79]? = some (Jvm.Cond.fieldLinkNest "SliceWhy$Machine" (92 : Nat) "SliceWhy$Program" "cs" "[I" "SliceWhy") := by decide +kernel
theorem wd_80 : (Jvm.Cond.fieldLink "SliceWhy$Program" (24 : Nat) "SliceWhy$Program" "starts" "[I") ∈ Gw := Gw_in 80 (by decide +kernel) rfl
theorem nst_81 : lw_tbl[81]? = some (Jvm.Cond.fieldLinkNest "SliceWhy$Machine" (57 : Nat) "SliceWhy$Program" "starts" "[I" "SliceWhy") := by decide +kernel
theorem nst_82 : lw_tbl[82]? = some (Jvm.Cond.fieldLinkNest "SliceWhy" (72 : Nat) "SliceWhy$Program" "starts" "[I" "SliceWhy") := by decide +kernel
theorem wd_83 : (Jvm.Cond.fieldLink "SliceWhy$Program" (27 : Nat) "SliceWhy$Program" "failing" "[Z") ∈ Gw := Gw_in 83 (by decide +kernel) rfl
theorem nst_84 : lw_tbl[84]? = some (Jvm.Cond.fieldLinkNest "SliceWhy" (75 : Nat) "SliceWhy$Program" "failing" "[Z" "SliceWhy") := by decide +kernel
theorem wd_85 : (Jvm.Cond.fieldLink "SliceWhy$Program" (31 : Nat) "SliceWhy$Program" "mayBe" "[I") ∈ Gw := Gw_in 85 (by decide +kernel) rfl
theorem nst_86 : lw_tbl[86]? = some (Jvm.Cond.fieldLinkNest "SliceWhy$Machine" (60 : Nat) "SliceWhy$Program" "mayBe" "[I" "SliceWhy") := by decide +kernel
theorem nst_87 : lw_tbl[87]? = some (Jvm.Cond.fieldLinkNest "SliceWhy" (79 : Nat) "SliceWhy$Program" "mayBe" "[I" "SliceWhy") := by decide +kernel
theorem nst_88 : lw_tbl[88]? = some (Jvm.Cond.fieldLinkNest "SliceWhy$Machine" (35 : Nat) "SliceWhy$Program" "size" "I" "SliceWhy") := by decide +kernel
theorem nst_89 : lw_tbl[89]? = some (Jvm.Cond.fieldLinkNest "SliceWhy" (57 : Nat) "SliceWhy$Program" "size" "I" "SliceWhy") := by decide +kernel
theorem wd_90 : (Jvm.Cond.fieldLink "SliceWhy$Program" (47 : Nat) "SliceWhy$Program" "size" "I") ∈ Gw := Gw_in 90 (by decide +kernel) rfl
theorem nst_91 : lw_tbl[91]? = some (Jvm.Cond.fieldLinkNest "SliceWhy$Reasons" (69 : Nat) "SliceWhy$Program" "size" "I" "SliceWhy") := by decide +kernel
theorem wd_92 : (Jvm.Cond.laysFinal "SliceWhy$Program" "SliceWhy$Program" "kinds" "[I") ∈ Gw := Gw_in 92 (by decide +kernel) rfl
theorem wd_94 : (Jvm.Cond.laysFinal "SliceWhy$Program" "SliceWhy$Program" "as" "[I") ∈ Gw := Gw_in 94 (by decide +kernel) rfl
theorem wd_96 : (Jvm.Cond.laysFinal "SliceWhy$Program" "SliceWhy$Program" "bs" "[I") ∈ Gw := Gw_in 96 (by decide +kernel) rfl
theorem wd_98 : (Jvm.Cond.laysFinal "SliceWhy$Program" "SliceWhy$Program" "cs" "[I") ∈ Gw := Gw_in 98 (by decide +kernel) rfl
theorem wd_100 : (Jvm.Cond.laysFinal "SliceWhy$Program" "SliceWhy$Program" "starts" "[I") ∈ Gw := Gw_in 100 (by decide +kernel) rfl
theorem wd_102 : (Jvm.Cond.laysFinal "SliceWhy$Program" "SliceWhy$Program" "failing" "[Z") ∈ Gw := Gw_in 102 (by decide +kernel) rfl
theorem wd_104 : (Jvm.Cond.laysFinal "SliceWhy$Program" "SliceWhy$Program" "mayBe" "[I") ∈ Gw := Gw_in 104 (by decide +kernel) rfl
theorem wd_106 : (Jvm.Cond.lays "SliceWhy$Program" "SliceWhy$Program" "size" "I") ∈ Gw := Gw_in 106 (by decide +kernel) rfl
theorem wd_109 : (Jvm.Cond.arrayClass Jvm.ClassFile.FieldType.int) ∈ Gw := Gw_in 109 (by decide +kernel) rfl
theorem wd_110 : (Jvm.Cond.arrayClass Jvm.ClassFile.FieldType.boolean) ∈ Gw := Gw_in 110 (by decide +kernel) rfl
theorem wd_111 : (Jvm.Cond.classLink "SliceWhy" (16 : Nat) "SliceWhy$Reasons") ∈ Gw := Gw_in 111 (by decide +kernel) rfl
theorem wd_112 : (Jvm.Cond.instantiable "SliceWhy$Reasons" (10 : Nat)) ∈ Gw := Gw_in 112 (by decide +kernel) rfl
theorem nst_113 : lw_tbl[113]? = some (Jvm.Cond.methodLinkNest "SliceWhy" (18 : Nat) ({ cls := "SliceWhy$Reasons", name := "<init>", desc := "()V" } : Jvm.MethodName) "SliceWhy") := by decide +kernel
theorem wd_114 : (Jvm.Cond.instanceMethod ({ cls := "SliceWhy$Reasons", name := "<init>", desc := "()V" } : Jvm.MethodName)) ∈ Gw := Gw_in 114 (by decide +kernel) rfl
theorem wd_115 : (Jvm.Cond.code ({ cls := "SliceWhy$Reasons", name := "<init>", desc := "()V" } : Jvm.MethodName) prog_4_method_1_code (1 : Nat) (Option.none : Option Jvm.ClassFile.FieldType)) ∈ Gw := Gw_in 115 (by decide +kernel) rfl
theorem wd_116 : (Jvm.Cond.methodLink "SliceWhy$Reasons" (3 : Nat) ({ cls := "java/lang/Object", name := "<init>", desc := "()V" } : Jvm.MethodName)) ∈ Gw := Gw_in 116 (by decide +kernel) rfl
theorem wd_117 : (Jvm.Cond.classLink "SliceWhy$Reasons" (21 : Nat) "[[I") ∈ Gw := Gw_in 117 (by decide +kernel) rfl
theorem nst_118 : lw_tbl[118]? = some (Jvm.Cond.arrayOver (Jvm.ClassFile.FieldType.array Jvm.ClassFile.FieldType.int)) := by decide +kernel
theorem wd_119 : (Jvm.Cond.fieldLink "SliceWhy$Reasons" (51 : Nat) "SliceWhy$Reasons" "size" "I") ∈ Gw := Gw_in 119 (by decide +kernel) rfl
theorem wd_120 : (Jvm.Cond.fieldLink "SliceWhy$Reasons" (9 : Nat) "SliceWhy$Reasons" "nexts" "[I") ∈ Gw := Gw_in 120 (by decide +kernel) rfl
theorem wd_121 : (Jvm.Cond.fieldLink "SliceWhy$Reasons" (15 : Nat) "SliceWhy$Reasons" "widerNexts" "[I") ∈ Gw := Gw_in 121 (by decide +kernel) rfl
theorem wd_122 : (Jvm.Cond.fieldLink "SliceWhy$Reasons" (18 : Nat) "SliceWhy$Reasons" "followers" "[I") ∈ Gw := Gw_in 122 (by decide +kernel) rfl
theorem wd_123 : (Jvm.Cond.fieldLink "SliceWhy$Reasons" (23 : Nat) "SliceWhy$Reasons" "hangs" "[[I") ∈ Gw := Gw_in 123 (by decide +kernel) rfl
theorem wd_124 : (Jvm.Cond.fieldLink "SliceWhy$Reasons" (26 : Nat) "SliceWhy$Reasons" "hangsAtAll" "[I") ∈ Gw := Gw_in 124 (by decide +kernel) rfl
theorem wd_125 : (Jvm.Cond.fieldLink "SliceWhy$Reasons" (29 : Nat) "SliceWhy$Reasons" "hangsThin" "[I") ∈ Gw := Gw_in 125 (by decide +kernel) rfl
theorem wd_126 : (Jvm.Cond.fieldLink "SliceWhy$Reasons" (32 : Nat) "SliceWhy$Reasons" "back" "[I") ∈ Gw := Gw_in 126 (by decide +kernel) rfl
theorem wd_127 : (Jvm.Cond.fieldLink "SliceWhy$Reasons" (35 : Nat) "SliceWhy$Reasons" "thin" "[I") ∈ Gw := Gw_in 127 (by decide +kernel) rfl
theorem wd_128 : (Jvm.Cond.fieldLink "SliceWhy$Reasons" (38 : Nat) "SliceWhy$Reasons" "away" "[I") ∈ Gw := Gw_in 128 (by decide +kernel) rfl
theorem wd_129 : (Jvm.Cond.lays "SliceWhy$Reasons" "SliceWhy$Reasons" "size" "I") ∈ Gw := Gw_in 129 (by decide +kernel) rfl
theorem wd_131 : (Jvm.Cond.laysFinal "SliceWhy$Reasons" "SliceWhy$Reasons" "nexts" "[I") ∈ Gw := Gw_in 131 (by decide +kernel) rfl
theorem wd_133 : (Jvm.Cond.laysFinal "SliceWhy$Reasons" "SliceWhy$Reasons" "widerNexts" "[I") ∈ Gw := Gw_in 133 (by decide +kernel) rfl
theorem wd_135 : (Jvm.Cond.laysFinal "SliceWhy$Reasons" "SliceWhy$Reasons" "followers" "[I") ∈ Gw := Gw_in 135 (by decide +kernel) rfl
theorem wd_137 : (Jvm.Cond.laysFinal "SliceWhy$Reasons" "SliceWhy$Reasons" "hangs" "[[I") ∈ Gw := Gw_in 137 (by decide +kernel) rfl
theorem wd_139 : (Jvm.Cond.laysFinal "SliceWhy$Reasons" "SliceWhy$Reasons" "hangsAtAll" "[I") ∈ Gw := Gw_in 139 (by decide +kernel) rfl
theorem wd_141 : (Jvm.Cond.laysFinal "SliceWhy$Reasons" "SliceWhy$Reasons" "hangsThin" "[I") ∈ Gw := Gw_in 141 (by decide +kernel) rfl
theorem wd_143 : (Jvm.Cond.laysFinal "SliceWhy$Reasons" "SliceWhy$Reasons" "back" "[I") ∈ Gw := Gw_in 143 (by decide +kernel) rfl
theorem wd_145 : (Jvm.Cond.laysFinal "SliceWhy$Reasons" "SliceWhy$Reasons" "thin" "[I") ∈ Gw := Gw_in 145 (by decide +kernel) rfl
theorem wd_147 : (Jvm.Cond.laysFinal "SliceWhy$Reasons" "SliceWhy$Reasons" "away" "[I") ∈ Gw := Gw_in 147 (by decide +kernel) rfl
theorem wd_150 : (Jvm.Cond.classLink "SliceWhy" (31 : Nat) "[[I") ∈ Gw := Gw_in 150 (by decide +kernel) rfl
theorem wd_151 : (Jvm.Cond.classLink "SliceWhy" (36 : Nat) "SliceWhy$Machine") ∈ Gw := Gw_in 151 (by decide +kernel) rfl
theorem wd_152 : (Jvm.Cond.instantiable "SliceWhy$Machine" (9 : Nat)) ∈ Gw := Gw_in 152 (by decide +kernel) rfl
theorem nst_153 : lw_tbl[153]? = some (Jvm.Cond.methodLinkNest "SliceWhy" (38 : Nat) ({ cls := "SliceWhy$Machine", name := "<init>", desc := "()V" } : Jvm.MethodName) "SliceWhy") := by decide +kernel
theorem wd_154 : (Jvm.Cond.instanceMethod ({ cls := "SliceWhy$Machine", name := "<init>", desc := "()V" } : Jvm.MethodName)) ∈ Gw := Gw_in 154 (by decide +kernel) rfl
theorem wd_155 : (Jvm.Cond.code ({ cls := "SliceWhy$Machine", name := "<init>", desc := "()V" } : Jvm.MethodName) prog_2_method_1_code (1 : Nat) (Option.none : Option Jvm.ClassFile.FieldType)) ∈ Gw := Gw_in 155 (by decide +kernel) rfl
theorem wd_156 : (Jvm.Cond.methodLink "SliceWhy$Machine" (3 : Nat) ({ cls := "java/lang/Object", name := "<init>", desc := "()V" } : Jvm.MethodName)) ∈ Gw := Gw_in 156 (by decide +kernel) rfl
theorem wd_157 : (Jvm.Cond.fieldLink "SliceWhy$Machine" (9 : Nat) "SliceWhy$Machine" "registers" "[I") ∈ Gw := Gw_in 157 (by decide +kernel) rfl
theorem nst_158 : lw_tbl[158]? = some (Jvm.Cond.fieldLinkNest "SliceWhy" (113 : Nat) "SliceWhy$Machine" "registers" "[I" "SliceWhy") := by decide +kernel
theorem wd_159 : (Jvm.Cond.fieldLink "SliceWhy$Machine" (15 : Nat) "SliceWhy$Machine" "items" "[I") ∈ Gw := Gw_in 159 (by decide +kernel) rfl
theorem wd_160 : (Jvm.Cond.fieldLink "SliceWhy$Machine" (18 : Nat) "SliceWhy$Machine" "globals" "[I") ∈ Gw := Gw_in 160 (by decide +kernel) rfl
theorem wd_161 : (Jvm.Cond.fieldLink "SliceWhy$Machine" (21 : Nat) "SliceWhy$Machine" "rowOf" "[I") ∈ Gw := Gw_in 161 (by decide +kernel) rfl
theorem wd_162 : (Jvm.Cond.fieldLink "SliceWhy$Machine" (24 : Nat) "SliceWhy$Machine" "told" "[I") ∈ Gw := Gw_in 162 (by decide +kernel) rfl
theorem nst_163 : lw_tbl[163]? = some (Jvm.Cond.fieldLinkNest "SliceWhy" (104 : Nat) "SliceWhy$Machine" "told" "[I" "SliceWhy") := by decide +kernel
theorem wd_164 : (Jvm.Cond.fieldLink "SliceWhy$Machine" (51 : Nat) "SliceWhy$Machine" "toldCount" "I") ∈ Gw := Gw_in 164 (by decide +kernel) rfl
theorem nst_165 : lw_tbl[165]? = some (Jvm.Cond.fieldLinkNest "SliceWhy" (101 : Nat) "SliceWhy$Machine" "toldCount" "I" "SliceWhy") := by decide +kernel
theorem wd_166 : (Jvm.Cond.fieldLink "SliceWhy$Machine" (54 : Nat) "SliceWhy$Machine" "toldNow" "I") ∈ Gw := Gw_in 166 (by decide +kernel) rfl
theorem wd_167 : (Jvm.Cond.fieldLink "SliceWhy$Machine" (44 : Nat) "SliceWhy$Machine" "steps" "I") ∈ Gw := Gw_in 167 (by decide +kernel) rfl
theorem nst_168 : lw_tbl[168]? = some (Jvm.Cond.fieldLinkNest "SliceWhy" (107 : Nat) "SliceWhy$Machine" "steps" "I" "SliceWhy") := by decide +kernel
theorem wd_169 : (Jvm.Cond.fieldLink "SliceWhy$Machine" (27 : Nat) "SliceWhy$Machine" "failedAt" "I") ∈ Gw := Gw_in 169 (by decide +kernel) rfl
theorem nst_170 : lw_tbl[170]? = some (Jvm.Cond.fieldLinkNest "SliceWhy" (110 : Nat) "SliceWhy$Machine" "failedAt" "I" "SliceWhy") := by decide +kernel
theorem wd_171 : (Jvm.Cond.laysFinal "SliceWhy$Machine" "SliceWhy$Machine" "registers" "[I") ∈ Gw := Gw_in 171 (by decide +kernel) rfl
theorem wd_173 : (Jvm.Cond.laysFinal "SliceWhy$Machine" "SliceWhy$Machine" "items" "[I") ∈ Gw := Gw_in 173 (by decide +kernel) rfl
theorem wd_175 : (Jvm.Cond.laysFinal "SliceWhy$Machine" "SliceWhy$Machine" "globals" "[I") ∈ Gw := Gw_in 175 (by decide +kernel) rfl
theorem wd_177 : (Jvm.Cond.laysFinal "SliceWhy$Machine" "SliceWhy$Machine" "rowOf" "[I") ∈ Gw := Gw_in 177 (by decide +kernel) rfl
theorem wd_179 : (Jvm.Cond.laysFinal "SliceWhy$Machine" "SliceWhy$Machine" "told" "[I") ∈ Gw := Gw_in 179 (by decide +kernel) rfl
theorem wd_181 : (Jvm.Cond.lays "SliceWhy$Machine" "SliceWhy$Machine" "toldCount" "I") ∈ Gw := Gw_in 181 (by decide +kernel) rfl
theorem wd_183 : (Jvm.Cond.lays "SliceWhy$Machine" "SliceWhy$Machine" "toldNow" "I") ∈ Gw := Gw_in 183 (by decide +kernel) rfl
theorem wd_185 : (Jvm.Cond.lays "SliceWhy$Machine" "SliceWhy$Machine" "steps" "I") ∈ Gw := Gw_in 185 (by decide +kernel) rfl
theorem wd_187 : (Jvm.Cond.lays "SliceWhy$Machine" "SliceWhy$Machine" "failedAt" "I") ∈ Gw := Gw_in 187 (by decide +kernel) rfl
theorem nst_190 : lw_tbl[190]? = some (Jvm.Cond.arrayOver (Jvm.ClassFile.FieldType.object "SliceWhy$Machine")) := by decide +kernel
theorem wd_191 : (Jvm.Cond.fieldLink "SliceWhy" (12 : Nat) "SliceWhy" "program" "LSliceWhy$Program;") ∈ Gw := Gw_in 191 (by decide +kernel) rfl
theorem wd_192 : (Jvm.Cond.fieldLink "SliceWhy" (19 : Nat) "SliceWhy" "reasons" "LSliceWhy$Reasons;") ∈ Gw := Gw_in 192 (by decide +kernel) rfl
theorem wd_193 : (Jvm.Cond.fieldLink "SliceWhy" (23 : Nat) "SliceWhy" "reasonsAreOld" "Z") ∈ Gw := Gw_in 193 (by decide +kernel) rfl
theorem wd_194 : (Jvm.Cond.fieldLink "SliceWhy" (27 : Nat) "SliceWhy" "inputs" "[I") ∈ Gw := Gw_in 194 (by decide +kernel) rfl
theorem wd_195 : (Jvm.Cond.fieldLink "SliceWhy" (33 : Nat) "SliceWhy" "tests" "[[I") ∈ Gw := Gw_in 195 (by decide +kernel) rfl
theorem wd_196 : (Jvm.Cond.fieldLink "SliceWhy" (150 : Nat) "SliceWhy" "testCount" "I") ∈ Gw := Gw_in 196 (by decide +kernel) rfl
theorem wd_197 : (Jvm.Cond.fieldLink "SliceWhy" (39 : Nat) "SliceWhy" "latest" "LSliceWhy$Machine;") ∈ Gw := Gw_in 197 (by decide +kernel) rfl
theorem wd_198 : (Jvm.Cond.fieldLink "SliceWhy" (82 : Nat) "SliceWhy" "runCount" "I") ∈ Gw := Gw_in 198 (by decide +kernel) rfl
theorem wd_199 : (Jvm.Cond.fieldLink "SliceWhy" (43 : Nat) "SliceWhy" "wholes" "[LSliceWhy$Machine;") ∈ Gw := Gw_in 199 (by decide +kernel) rfl
theorem wd_200 : (Jvm.Cond.fieldLink "SliceWhy" (47 : Nat) "SliceWhy" "part" "LSliceWhy$Machine;") ∈ Gw := Gw_in 200 (by decide +kernel) rfl
theorem wd_201 : (Jvm.Cond.fieldLink "SliceWhy" (50 : Nat) "SliceWhy" "wayPlaces" "[I") ∈ Gw := Gw_in 201 (by decide +kernel) rfl
theorem wd_202 : (Jvm.Cond.fieldLink "SliceWhy" (143 : Nat) "SliceWhy" "wayLength" "I") ∈ Gw := Gw_in 202 (by decide +kernel) rfl
theorem wd_203 : (Jvm.Cond.laysFinal "SliceWhy" "SliceWhy" "program" "LSliceWhy$Program;") ∈ Gw := Gw_in 203 (by decide +kernel) rfl
theorem wd_205 : (Jvm.Cond.laysFinal "SliceWhy" "SliceWhy" "reasons" "LSliceWhy$Reasons;") ∈ Gw := Gw_in 205 (by decide +kernel) rfl
theorem wd_207 : (Jvm.Cond.lays "SliceWhy" "SliceWhy" "reasonsAreOld" "Z") ∈ Gw := Gw_in 207 (by decide +kernel) rfl
theorem wd_209 : (Jvm.Cond.laysFinal "SliceWhy" "SliceWhy" "inputs" "[I") ∈ Gw := Gw_in 209 (by decide +kernel) rfl
theorem wd_211 : (Jvm.Cond.laysFinal "SliceWhy" "SliceWhy" "tests" "[[I") ∈ Gw := Gw_in 211 (by decide +kernel) rfl
theorem wd_213 : (Jvm.Cond.lays "SliceWhy" "SliceWhy" "testCount" "I") ∈ Gw := Gw_in 213 (by decide +kernel) rfl
theorem wd_215 : (Jvm.Cond.laysFinal "SliceWhy" "SliceWhy" "latest" "LSliceWhy$Machine;") ∈ Gw := Gw_in 215 (by decide +kernel) rfl
theorem wd_217 : (Jvm.Cond.lays "SliceWhy" "SliceWhy" "runCount" "I") ∈ Gw := Gw_in 217 (by decide +kernel) rfl
theorem wd_219 : (Jvm.Cond.laysFinal "SliceWhy" "SliceWhy" "wholes" "[LSliceWhy$Machine;") ∈ Gw := Gw_in 219 (by decide +kernel) rfl
theorem wd_221 : (Jvm.Cond.laysFinal "SliceWhy" "SliceWhy" "part" "LSliceWhy$Machine;") ∈ Gw := Gw_in 221 (by decide +kernel) rfl
theorem wd_223 : (Jvm.Cond.laysFinal "SliceWhy" "SliceWhy" "wayPlaces" "[I") ∈ Gw := Gw_in 223 (by decide +kernel) rfl
theorem wd_225 : (Jvm.Cond.lays "SliceWhy" "SliceWhy" "wayLength" "I") ∈ Gw := Gw_in 225 (by decide +kernel) rfl
theorem wd_228 : (Jvm.Cond.methodLink "SliceWhyLaw" (13 : Nat) ({ cls := "SliceWhy", name := "line", desc := "(IIII)I" } : Jvm.MethodName)) ∈ Gw := Gw_in 228 (by decide +kernel) rfl
theorem wd_229 : (Jvm.Cond.instanceMethod ({ cls := "SliceWhy", name := "line", desc := "(IIII)I" } : Jvm.MethodName)) ∈ Gw := Gw_in 229 (by decide +kernel) rfl
theorem wd_230 : (Jvm.Cond.selects "SliceWhy" ({ cls := "SliceWhy", name := "line", desc := "(IIII)I" } : Jvm.MethodName) ({ cls := "SliceWhy", name := "line", desc := "(IIII)I" } : Jvm.MethodName)) ∈ Gw := Gw_in 230 (by decide +kernel) rfl
theorem wd_231 : (Jvm.Cond.code ({ cls := "SliceWhy", name := "line", desc := "(IIII)I" } : Jvm.MethodName) prog_1_method_2_code (6 : Nat) (Option.some Jvm.ClassFile.FieldType.int)) ∈ Gw := Gw_in 231 (by decide +kernel) rfl
theorem wd_232 : (Jvm.Cond.methodLink "SliceWhy" (53 : Nat) ({ cls := "SliceWhy$Program", name := "allows", desc := "(IIII)Z" } : Jvm.MethodName)) ∈ Gw := Gw_in 232 (by decide +kernel) rfl
theorem wd_233 : (Jvm.Cond.static ({ cls := "SliceWhy$Program", name := "allows", desc := "(IIII)Z" } : Jvm.MethodName)) ∈ Gw := Gw_in 233 (by decide +kernel) rfl
theorem wd_234 : (Jvm.Cond.code ({ cls := "SliceWhy$Program", name := "allows", desc := "(IIII)Z" } : Jvm.MethodName) prog_3_method_2_code (4 : Nat) (Option.some Jvm.ClassFile.FieldType.boolean)) ∈ Gw := Gw_in 234 (by decide +kernel) rfl
theorem nst_235 : lw_tbl[235]? = some (Jvm.Cond.fieldLinkNest "SliceWhy$Program" (34 : Nat) "SliceWhy" "A_LIMITS" "[I" "SliceWhy") := by decide +kernel
theorem wd_237 : (Jvm.Cond.methodLink "SliceWhy$Program" (37 : Nat) ({ cls := "SliceWhy$Program", name := "isBelow", desc := "(II)Z" } : Jvm.MethodName)) ∈ Gw := Gw_in 237 (by decide +kernel) rfl
theorem wd_238 : (Jvm.Cond.static ({ cls := "SliceWhy$Program", name := "isBelow", desc := "(II)Z" } : Jvm.MethodName)) ∈ Gw := Gw_in 238 (by decide +kernel) rfl
theorem wd_239 : (Jvm.Cond.code ({ cls := "SliceWhy$Program", name := "isBelow", desc := "(II)Z" } : Jvm.MethodName) prog_3_method_3_code (2 : Nat) (Option.some Jvm.ClassFile.FieldType.boolean)) ∈ Gw := Gw_in 239 (by decide +kernel) rfl
theorem nst_240 : lw_tbl[240]? = some (Jvm.Cond.fieldLinkNest "SliceWhy$Program" (41 : Nat) "SliceWhy" "B_LIMITS" "[I" "SliceWhy") := by decide +kernel
theorem nst_242 : lw_tbl[242]? = some (Jvm.Cond.fieldLinkNest "SliceWhy$Program" (44 : Nat) "SliceWhy" "C_LIMITS" "[I" "SliceWhy") := by decide +kernel
theorem wd_244 : (Jvm.Cond.methodLink "SliceWhy" (61 : Nat) ({ cls := "SliceWhy$Program", name := "write", desc := "(IIIII)V" } : Jvm.MethodName)) ∈ Gw := Gw_in 244 (by decide +kernel) rfl
theorem wd_245 : (Jvm.Cond.instanceMethod ({ cls := "SliceWhy$Program", name := "write", desc := "(IIIII)V" } : Jvm.MethodName)) ∈ Gw := Gw_in 245 (by decide +kernel) rfl
theorem wd_246 : (Jvm.Cond.selects "SliceWhy$Program" ({ cls := "SliceWhy$Program", name := "write", desc := "(IIIII)V" } : Jvm.MethodName) ({ cls := "SliceWhy$Program", name := "write", desc := "(IIIII)V" } : Jvm.MethodName)) ∈ Gw := Gw_in 246 (by decide +kernel) rfl
theorem wd_247 : (Jvm.Cond.code ({ cls := "SliceWhy$Program", name := "write", desc := "(IIIII)V" } : Jvm.MethodName) prog_3_method_6_code (6 : Nat) (Option.none : Option Jvm.ClassFile.FieldType)) ∈ Gw := Gw_in 247 (by decide +kernel) rfl
theorem wd_248 : (Jvm.Cond.methodLink "SliceWhyLaw" (18 : Nat) ({ cls := "SliceWhy", name := "change", desc := "(IIIII)I" } : Jvm.MethodName)) ∈ Gw := Gw_in 248 (by decide +kernel) rfl
theorem wd_249 : (Jvm.Cond.instanceMethod ({ cls := "SliceWhy", name := "change", desc := "(IIIII)I" } : Jvm.MethodName)) ∈ Gw := Gw_in 249 (by decide +kernel) rfl
theorem wd_250 : (Jvm.Cond.selects "SliceWhy" ({ cls := "SliceWhy", name := "change", desc := "(IIIII)I" } : Jvm.MethodName) ({ cls := "SliceWhy", name := "change", desc := "(IIIII)I" } : Jvm.MethodName)) ∈ Gw := Gw_in 250 (by decide +kernel) rfl
theorem wd_251 : (Jvm.Cond.code ({ cls := "SliceWhy", name := "change", desc := "(IIIII)I" } : Jvm.MethodName) prog_1_method_3_code (7 : Nat) (Option.some Jvm.ClassFile.FieldType.int)) ∈ Gw := Gw_in 251 (by decide +kernel) rfl
theorem wd_252 : (Jvm.Cond.methodLink "SliceWhy" (65 : Nat) ({ cls := "SliceWhy$Program", name := "has", desc := "(I)Z" } : Jvm.MethodName)) ∈ Gw := Gw_in 252 (by decide +kernel) rfl
theorem wd_253 : (Jvm.Cond.instanceMethod ({ cls := "SliceWhy$Program", name := "has", desc := "(I)Z" } : Jvm.MethodName)) ∈ Gw := Gw_in 253 (by decide +kernel) rfl
theorem wd_254 : (Jvm.Cond.selects "SliceWhy$Program" ({ cls := "SliceWhy$Program", name := "has", desc := "(I)Z" } : Jvm.MethodName) ({ cls := "SliceWhy$Program", name := "has", desc := "(I)Z" } : Jvm.MethodName)) ∈ Gw := Gw_in 254 (by decide +kernel) rfl
theorem wd_255 : (Jvm.Cond.code ({ cls := "SliceWhy$Program", name := "has", desc := "(I)Z" } : Jvm.MethodName) prog_3_method_4_code (2 : Nat) (Option.some Jvm.ClassFile.FieldType.boolean)) ∈ Gw := Gw_in 255 (by decide +kernel) rfl
theorem wd_256 : (Jvm.Cond.methodLink "SliceWhyLaw" (23 : Nat) ({ cls := "SliceWhy", name := "drop", desc := "()I" } : Jvm.MethodName)) ∈ Gw := Gw_in 256 (by decide +kernel) rfl
theorem wd_257 : (Jvm.Cond.instanceMethod ({ cls := "SliceWhy", name := "drop", desc := "()I" } : Jvm.MethodName)) ∈ Gw := Gw_in 257 (by decide +kernel) rfl
theorem wd_258 : (Jvm.Cond.selects "SliceWhy" ({ cls := "SliceWhy", name := "drop", desc := "()I" } : Jvm.MethodName) ({ cls := "SliceWhy", name := "drop", desc := "()I" } : Jvm.MethodName)) ∈ Gw := Gw_in 258 (by decide +kernel) rfl
theorem wd_259 : (Jvm.Cond.code ({ cls := "SliceWhy", name := "drop", desc := "()I" } : Jvm.MethodName) prog_1_method_4_code (1 : Nat) (Option.some Jvm.ClassFile.FieldType.int)) ∈ Gw := Gw_in 259 (by decide +kernel) rfl
theorem wd_260 : (Jvm.Cond.methodLink "SliceWhyLaw" (28 : Nat) ({ cls := "SliceWhy", name := "start", desc := "(IIZ)I" } : Jvm.MethodName)) ∈ Gw := Gw_in 260 (by decide +kernel) rfl
theorem wd_261 : (Jvm.Cond.instanceMethod ({ cls := "SliceWhy", name := "start", desc := "(IIZ)I" } : Jvm.MethodName)) ∈ Gw := Gw_in 261 (by decide +kernel) rfl
theorem wd_262 : (Jvm.Cond.selects "SliceWhy" ({ cls := "SliceWhy", name := "start", desc := "(IIZ)I" } : Jvm.MethodName) ({ cls := "SliceWhy", name := "start", desc := "(IIZ)I" } : Jvm.MethodName)) ∈ Gw := Gw_in 262 (by decide +kernel) rfl
theorem wd_263 : (Jvm.Cond.code ({ cls := "SliceWhy", name := "start", desc := "(IIZ)I" } : Jvm.MethodName) prog_1_method_5_code (4 : Nat) (Option.some Jvm.ClassFile.FieldType.int)) ∈ Gw := Gw_in 263 (by decide +kernel) rfl
theorem wd_264 : (Jvm.Cond.methodLink "SliceWhyLaw" (33 : Nat) ({ cls := "SliceWhy", name := "points", desc := "(II)I" } : Jvm.MethodName)) ∈ Gw := Gw_in 264 (by decide +kernel) rfl
theorem wd_265 : (Jvm.Cond.instanceMethod ({ cls := "SliceWhy", name := "points", desc := "(II)I" } : Jvm.MethodName)) ∈ Gw := Gw_in 265 (by decide +kernel) rfl
theorem wd_266 : (Jvm.Cond.selects "SliceWhy" ({ cls := "SliceWhy", name := "points", desc := "(II)I" } : Jvm.MethodName) ({ cls := "SliceWhy", name := "points", desc := "(II)I" } : Jvm.MethodName)) ∈ Gw := Gw_in 266 (by decide +kernel) rfl
theorem wd_267 : (Jvm.Cond.code ({ cls := "SliceWhy", name := "points", desc := "(II)I" } : Jvm.MethodName) prog_1_method_6_code (4 : Nat) (Option.some Jvm.ClassFile.FieldType.int)) ∈ Gw := Gw_in 267 (by decide +kernel) rfl
theorem wd_268 : (Jvm.Cond.methodLink "SliceWhyLaw" (38 : Nat) ({ cls := "SliceWhy", name := "input", desc := "(II)I" } : Jvm.MethodName)) ∈ Gw := Gw_in 268 (by decide +kernel) rfl
theorem wd_269 : (Jvm.Cond.instanceMethod ({ cls := "SliceWhy", name := "input", desc := "(II)I" } : Jvm.MethodName)) ∈ Gw := Gw_in 269 (by decide +kernel) rfl
theorem wd_270 : (Jvm.Cond.selects "SliceWhy" ({ cls := "SliceWhy", name := "input", desc := "(II)I" } : Jvm.MethodName) ({ cls := "SliceWhy", name := "input", desc := "(II)I" } : Jvm.MethodName)) ∈ Gw := Gw_in 270 (by decide +kernel) rfl
theorem wd_271 : (Jvm.Cond.code ({ cls := "SliceWhy", name := "input", desc := "(II)I" } : Jvm.MethodName) prog_1_method_7_code (3 : Nat) (Option.some Jvm.ClassFile.FieldType.int)) ∈ Gw := Gw_in 271 (by decide +kernel) rfl
theorem wd_272 : (Jvm.Cond.methodLink "SliceWhyLaw" (42 : Nat) ({ cls := "SliceWhy", name := "run", desc := "(II)I" } : Jvm.MethodName)) ∈ Gw := Gw_in 272 (by decide +kernel) rfl
theorem wd_273 : (Jvm.Cond.instanceMethod ({ cls := "SliceWhy", name := "run", desc := "(II)I" } : Jvm.MethodName)) ∈ Gw := Gw_in 273 (by decide +kernel) rfl
theorem wd_274 : (Jvm.Cond.selects "SliceWhy" ({ cls := "SliceWhy", name := "run", desc := "(II)I" } : Jvm.MethodName) ({ cls := "SliceWhy", name := "run", desc := "(II)I" } : Jvm.MethodName)) ∈ Gw := Gw_in 274 (by decide +kernel) rfl
theorem wd_275 : (Jvm.Cond.code ({ cls := "SliceWhy", name := "run", desc := "(II)I" } : Jvm.MethodName) prog_1_method_8_code (4 : Nat) (Option.some Jvm.ClassFile.FieldType.int)) ∈ Gw := Gw_in 275 (by decide +kernel) rfl
theorem wd_276 : (Jvm.Cond.methodLink "SliceWhy" (85 : Nat) ({ cls := "SliceWhy$Program", name := "all", desc := "()I" } : Jvm.MethodName)) ∈ Gw := Gw_in 276 (by decide +kernel) rfl
theorem wd_277 : (Jvm.Cond.instanceMethod ({ cls := "SliceWhy$Program", name := "all", desc := "()I" } : Jvm.MethodName)) ∈ Gw := Gw_in 277 (by decide +kernel) rfl
theorem wd_278 : (Jvm.Cond.selects "SliceWhy$Program" ({ cls := "SliceWhy$Program", name := "all", desc := "()I" } : Jvm.MethodName) ({ cls := "SliceWhy$Program", name := "all", desc := "()I" } : Jvm.MethodName)) ∈ Gw := Gw_in 278 (by decide +kernel) rfl
theorem wd_279 : (Jvm.Cond.code ({ cls := "SliceWhy$Program", name := "all", desc := "()I" } : Jvm.MethodName) prog_3_method_5_code (1 : Nat) (Option.some Jvm.ClassFile.FieldType.int)) ∈ Gw := Gw_in 279 (by decide +kernel) rfl
theorem wd_280 : (Jvm.Cond.methodLink "SliceWhy" (89 : Nat) ({ cls := "SliceWhy", name := "reasonsNow", desc := "()LSliceWhy$Reasons;" } : Jvm.MethodName)) ∈ Gw := Gw_in 280 (by decide +kernel) rfl
theorem wd_282 : (Jvm.Cond.instanceMethod ({ cls := "SliceWhy", name := "reasonsNow", desc := "()LSliceWhy$Reasons;" } : Jvm.MethodName)) ∈ Gw := Gw_in 282 (by decide +kernel) rfl
theorem wd_283 : (Jvm.Cond.code ({ cls := "SliceWhy", name := "reasonsNow", desc := "()LSliceWhy$Reasons;" } : Jvm.MethodName) prog_1_method_24_code (1 : Nat) (Option.some (Jvm.ClassFile.FieldType.object "SliceWhy$Reasons"))) ∈ Gw := Gw_in 283 (by decide +kernel) rfl
theorem wd_284 : (Jvm.Cond.methodLink "SliceWhy" (166 : Nat) ({ cls := "SliceWhy$Reasons", name := "findAll", desc := "(LSliceWhy$Program;)V" } : Jvm.MethodName)) ∈ Gw := Gw_in 284 (by decide +kernel) rfl
theorem wd_285 : (Jvm.Cond.instanceMethod ({ cls := "SliceWhy$Reasons", name := "findAll", desc := "(LSliceWhy$Program;)V" } : Jvm.MethodName)) ∈ Gw := Gw_in 285 (by decide +kernel) rfl
theorem wd_286 : (Jvm.Cond.selects "SliceWhy$Reasons" ({ cls := "SliceWhy$Reasons", name := "findAll", desc := "(LSliceWhy$Program;)V" } : Jvm.MethodName) ({ cls := "SliceWhy$Reasons", name := "findAll", desc := "(LSliceWhy$Program;)V" } : Jvm.MethodName)) ∈ Gw := Gw_in 286 (by decide +kernel) rfl
theorem wd_287 : (Jvm.Cond.code ({ cls := "SliceWhy$Reasons", name := "findAll", desc := "(LSliceWhy$Program;)V" } : Jvm.MethodName) prog_4_method_14_code (3 : Nat) (Option.none : Option Jvm.ClassFile.FieldType)) ∈ Gw := Gw_in 287 (by decide +kernel) rfl
theorem wd_288 : (Jvm.Cond.methodLink "SliceWhy$Reasons" (72 : Nat) ({ cls := "SliceWhy$Reasons", name := "takeNexts", desc := "(LSliceWhy$Program;)V" } : Jvm.MethodName)) ∈ Gw := Gw_in 288 (by decide +kernel) rfl
theorem wd_290 : (Jvm.Cond.instanceMethod ({ cls := "SliceWhy$Reasons", name := "takeNexts", desc := "(LSliceWhy$Program;)V" } : Jvm.MethodName)) ∈ Gw := Gw_in 290 (by decide +kernel) rfl
theorem wd_291 : (Jvm.Cond.code ({ cls := "SliceWhy$Reasons", name := "takeNexts", desc := "(LSliceWhy$Program;)V" } : Jvm.MethodName) prog_4_method_16_code (3 : Nat) (Option.none : Option Jvm.ClassFile.FieldType)) ∈ Gw := Gw_in 291 (by decide +kernel) rfl
theorem wd_292 : (Jvm.Cond.methodLink "SliceWhy$Reasons" (99 : Nat) ({ cls := "SliceWhy$Program", name := "nextsOf", desc := "(I)I" } : Jvm.MethodName)) ∈ Gw := Gw_in 292 (by decide +kernel) rfl
theorem wd_293 : (Jvm.Cond.instanceMethod ({ cls := "SliceWhy$Program", name := "nextsOf", desc := "(I)I" } : Jvm.MethodName)) ∈ Gw := Gw_in 293 (by decide +kernel) rfl
theorem wd_294 : (Jvm.Cond.selects "SliceWhy$Program" ({ cls := "SliceWhy$Program", name := "nextsOf", desc := "(I)I" } : Jvm.MethodName) ({ cls := "SliceWhy$Program", name := "nextsOf", desc := "(I)I" } : Jvm.MethodName)) ∈ Gw := Gw_in 294 (by decide +kernel) rfl
theorem wd_295 : (Jvm.Cond.code ({ cls := "SliceWhy$Program", name := "nextsOf", desc := "(I)I" } : Jvm.MethodName) prog_3_method_9_code (3 : Nat) (Option.some Jvm.ClassFile.FieldType.int)) ∈ Gw := Gw_in 295 (by decide +kernel) rfl
theorem wd_296 : (Jvm.Cond.methodLink "SliceWhy$Program" (51 : Nat) ({ cls := "SliceWhy$Program", name := "bitOf", desc := "(I)I" } : Jvm.MethodName)) ∈ Gw := Gw_in 296 (by decide +kernel) rfl
theorem wd_298 : (Jvm.Cond.instanceMethod ({ cls := "SliceWhy$Program", name := "bitOf", desc := "(I)I" } : Jvm.MethodName)) ∈ Gw := Gw_in 298 (by decide +kernel) rfl
theorem wd_299 : (Jvm.Cond.code ({ cls := "SliceWhy$Program", name := "bitOf", desc := "(I)I" } : Jvm.MethodName) prog_3_method_8_code (2 : Nat) (Option.some Jvm.ClassFile.FieldType.int)) ∈ Gw := Gw_in 299 (by decide +kernel) rfl
theorem wd_300 : (Jvm.Cond.constant "SliceWhy$Program" (55 : Nat) (16777216 : Int32)) ∈ Gw := Gw_in 300 (by decide +kernel) rfl
theorem wd_301 : (Jvm.Cond.methodLink "SliceWhy$Program" (56 : Nat) ({ cls := "SliceWhy$Program", name := "isOfFailingGlobal", desc := "(I)Z" } : Jvm.MethodName)) ∈ Gw := Gw_in 301 (by decide +kernel) rfl
theorem wd_302 : (Jvm.Cond.instanceMethod ({ cls := "SliceWhy$Program", name := "isOfFailingGlobal", desc := "(I)Z" } : Jvm.MethodName)) ∈ Gw := Gw_in 302 (by decide +kernel) rfl
theorem wd_303 : (Jvm.Cond.selects "SliceWhy$Program" ({ cls := "SliceWhy$Program", name := "isOfFailingGlobal", desc := "(I)Z" } : Jvm.MethodName) ({ cls := "SliceWhy$Program", name := "isOfFailingGlobal", desc := "(I)Z" } : Jvm.MethodName)) ∈ Gw := Gw_in 303 (by decide +kernel) rfl
theorem wd_304 : (Jvm.Cond.code ({ cls := "SliceWhy$Program", name := "isOfFailingGlobal", desc := "(I)Z" } : Jvm.MethodName) prog_3_method_7_code (2 : Nat) (Option.some Jvm.ClassFile.FieldType.boolean)) ∈ Gw := Gw_in 304 (by decide +kernel) rfl
theorem wd_305 : (Jvm.Cond.methodLink "SliceWhy$Reasons" (102 : Nat) ({ cls := "SliceWhy$Program", name := "widerNextsOf", desc := "(I)I" } : Jvm.MethodName)) ∈ Gw := Gw_in 305 (by decide +kernel) rfl
theorem wd_306 : (Jvm.Cond.instanceMethod ({ cls := "SliceWhy$Program", name := "widerNextsOf", desc := "(I)I" } : Jvm.MethodName)) ∈ Gw := Gw_in 306 (by decide +kernel) rfl
theorem wd_307 : (Jvm.Cond.selects "SliceWhy$Program" ({ cls := "SliceWhy$Program", name := "widerNextsOf", desc := "(I)I" } : Jvm.MethodName) ({ cls := "SliceWhy$Program", name := "widerNextsOf", desc := "(I)I" } : Jvm.MethodName)) ∈ Gw := Gw_in 307 (by decide +kernel) rfl
theorem wd_308 : (Jvm.Cond.code ({ cls := "SliceWhy$Program", name := "widerNextsOf", desc := "(I)I" } : Jvm.MethodName) prog_3_method_10_code (2 : Nat) (Option.some Jvm.ClassFile.FieldType.int)) ∈ Gw := Gw_in 308 (by decide +kernel) rfl
theorem wd_309 : (Jvm.Cond.methodLink "SliceWhy$Program" (60 : Nat) ({ cls := "SliceWhy$Program", name := "nextsOf", desc := "(I)I" } : Jvm.MethodName)) ∈ Gw := Gw_in 309 (by decide +kernel) rfl
theorem wd_310 : (Jvm.Cond.methodLink "SliceWhy$Reasons" (76 : Nat) ({ cls := "SliceWhy$Reasons", name := "forgetHanging", desc := "()V" } : Jvm.MethodName)) ∈ Gw := Gw_in 310 (by decide +kernel) rfl
theorem wd_312 : (Jvm.Cond.instanceMethod ({ cls := "SliceWhy$Reasons", name := "forgetHanging", desc := "()V" } : Jvm.MethodName)) ∈ Gw := Gw_in 312 (by decide +kernel) rfl
theorem wd_313 : (Jvm.Cond.code ({ cls := "SliceWhy$Reasons", name := "forgetHanging", desc := "()V" } : Jvm.MethodName) prog_4_method_17_code (3 : Nat) (Option.none : Option Jvm.ClassFile.FieldType)) ∈ Gw := Gw_in 313 (by decide +kernel) rfl
theorem wd_314 : (Jvm.Cond.methodLink "SliceWhy$Reasons" (79 : Nat) ({ cls := "SliceWhy$Reasons", name := "findFollowers", desc := "()V" } : Jvm.MethodName)) ∈ Gw := Gw_in 314 (by decide +kernel) rfl
theorem wd_316 : (Jvm.Cond.instanceMethod ({ cls := "SliceWhy$Reasons", name := "findFollowers", desc := "()V" } : Jvm.MethodName)) ∈ Gw := Gw_in 316 (by decide +kernel) rfl
theorem wd_317 : (Jvm.Cond.code ({ cls := "SliceWhy$Reasons", name := "findFollowers", desc := "()V" } : Jvm.MethodName) prog_4_method_18_code (4 : Nat) (Option.none : Option Jvm.ClassFile.FieldType)) ∈ Gw := Gw_in 317 (by decide +kernel) rfl
theorem wd_318 : (Jvm.Cond.methodLink "SliceWhy$Reasons" (105 : Nat) ({ cls := "SliceWhy$Reasons", name := "endReachedWithout", desc := "(I)I" } : Jvm.MethodName)) ∈ Gw := Gw_in 318 (by decide +kernel) rfl
theorem wd_320 : (Jvm.Cond.instanceMethod ({ cls := "SliceWhy$Reasons", name := "endReachedWithout", desc := "(I)I" } : Jvm.MethodName)) ∈ Gw := Gw_in 320 (by decide +kernel) rfl
theorem wd_321 : (Jvm.Cond.code ({ cls := "SliceWhy$Reasons", name := "endReachedWithout", desc := "(I)I" } : Jvm.MethodName) prog_4_method_19_code (6 : Nat) (Option.some Jvm.ClassFile.FieldType.int)) ∈ Gw := Gw_in 321 (by decide +kernel) rfl
theorem wd_322 : (Jvm.Cond.constant "SliceWhy$Reasons" (108 : Nat) (16777216 : Int32)) ∈ Gw := Gw_in 322 (by decide +kernel) rfl
theorem nst_323 : lw_tbl[323]? = some (Jvm.Cond.methodLinkNest "SliceWhy$Reasons" (55 : Nat) ({ cls := "SliceWhy", name := "holds", desc := "(II)Z" } : Jvm.MethodName) "SliceWhy") := by decide +kernel
theorem wd_324 : (Jvm.Cond.static ({ cls := "SliceWhy", name := "holds", desc := "(II)Z" } : Jvm.MethodName)) ∈ Gw := Gw_in 324 (by decide +kernel) rfl
theorem wd_325 : (Jvm.Cond.code ({ cls := "SliceWhy", name := "holds", desc := "(II)Z" } : Jvm.MethodName) prog_1_method_28_code (2 : Nat) (Option.some Jvm.ClassFile.FieldType.boolean)) ∈ Gw := Gw_in 325 (by decide +kernel) rfl
theorem wd_326 : (Jvm.Cond.methodLink "SliceWhy$Reasons" (82 : Nat) ({ cls := "SliceWhy$Reasons", name := "findHangingByData", desc := "(LSliceWhy$Program;I)V" } : Jvm.MethodName)) ∈ Gw := Gw_in 326 (by decide +kernel) rfl
theorem wd_328 : (Jvm.Cond.instanceMethod ({ cls := "SliceWhy$Reasons", name := "findHangingByData", desc := "(LSliceWhy$Program;I)V" } : Jvm.MethodName)) ∈ Gw := Gw_in 328 (by decide +kernel) rfl
theorem wd_329 : (Jvm.Cond.code ({ cls := "SliceWhy$Reasons", name := "findHangingByData", desc := "(LSliceWhy$Program;I)V" } : Jvm.MethodName) prog_4_method_20_code (7 : Nat) (Option.none : Option Jvm.ClassFile.FieldType)) ∈ Gw := Gw_in 329 (by decide +kernel) rfl
theorem wd_330 : (Jvm.Cond.methodLink "SliceWhy$Reasons" (109 : Nat) ({ cls := "SliceWhy$Program", name := "setBy", desc := "(I)I" } : Jvm.MethodName)) ∈ Gw := Gw_in 330 (by decide +kernel) rfl
theorem wd_331 : (Jvm.Cond.instanceMethod ({ cls := "SliceWhy$Program", name := "setBy", desc := "(I)I" } : Jvm.MethodName)) ∈ Gw := Gw_in 331 (by decide +kernel) rfl
theorem wd_332 : (Jvm.Cond.selects "SliceWhy$Program" ({ cls := "SliceWhy$Program", name := "setBy", desc := "(I)I" } : Jvm.MethodName) ({ cls := "SliceWhy$Program", name := "setBy", desc := "(I)I" } : Jvm.MethodName)) ∈ Gw := Gw_in 332 (by decide +kernel) rfl
theorem wd_333 : (Jvm.Cond.code ({ cls := "SliceWhy$Program", name := "setBy", desc := "(I)I" } : Jvm.MethodName) prog_3_method_13_code (2 : Nat) (Option.some Jvm.ClassFile.FieldType.int)) ∈ Gw := Gw_in 333 (by decide +kernel) rfl
theorem wd_334 : (Jvm.Cond.methodLink "SliceWhy$Program" (63 : Nat) ({ cls := "SliceWhy$Program", name := "registerBit", desc := "(I)I" } : Jvm.MethodName)) ∈ Gw := Gw_in 334 (by decide +kernel) rfl
theorem wd_335 : (Jvm.Cond.static ({ cls := "SliceWhy$Program", name := "registerBit", desc := "(I)I" } : Jvm.MethodName)) ∈ Gw := Gw_in 335 (by decide +kernel) rfl
theorem wd_336 : (Jvm.Cond.code ({ cls := "SliceWhy$Program", name := "registerBit", desc := "(I)I" } : Jvm.MethodName) prog_3_method_11_code (1 : Nat) (Option.some Jvm.ClassFile.FieldType.int)) ∈ Gw := Gw_in 336 (by decide +kernel) rfl
theorem wd_337 : (Jvm.Cond.methodLink "SliceWhy$Program" (66 : Nat) ({ cls := "SliceWhy$Program", name := "globalBit", desc := "(I)I" } : Jvm.MethodName)) ∈ Gw := Gw_in 337 (by decide +kernel) rfl
theorem wd_338 : (Jvm.Cond.static ({ cls := "SliceWhy$Program", name := "globalBit", desc := "(I)I" } : Jvm.MethodName)) ∈ Gw := Gw_in 338 (by decide +kernel) rfl
theorem wd_339 : (Jvm.Cond.code ({ cls := "SliceWhy$Program", name := "globalBit", desc := "(I)I" } : Jvm.MethodName) prog_3_method_12_code (1 : Nat) (Option.some Jvm.ClassFile.FieldType.int)) ∈ Gw := Gw_in 339 (by decide +kernel) rfl
theorem wd_340 : (Jvm.Cond.methodLink "SliceWhy$Reasons" (112 : Nat) ({ cls := "SliceWhy$Reasons", name := "settersOf", desc := "(LSliceWhy$Program;I)I" } : Jvm.MethodName)) ∈ Gw := Gw_in 340 (by decide +kernel) rfl
theorem wd_342 : (Jvm.Cond.instanceMethod ({ cls := "SliceWhy$Reasons", name := "settersOf", desc := "(LSliceWhy$Program;I)I" } : Jvm.MethodName)) ∈ Gw := Gw_in 342 (by decide +kernel) rfl
theorem wd_343 : (Jvm.Cond.code ({ cls := "SliceWhy$Reasons", name := "settersOf", desc := "(LSliceWhy$Program;I)I" } : Jvm.MethodName) prog_4_method_21_code (5 : Nat) (Option.some Jvm.ClassFile.FieldType.int)) ∈ Gw := Gw_in 343 (by decide +kernel) rfl
theorem wd_344 : (Jvm.Cond.methodLink "SliceWhy$Reasons" (116 : Nat) ({ cls := "SliceWhy$Reasons", name := "reachedFrom", desc := "(II)I" } : Jvm.MethodName)) ∈ Gw := Gw_in 344 (by decide +kernel) rfl
theorem wd_346 : (Jvm.Cond.instanceMethod ({ cls := "SliceWhy$Reasons", name := "reachedFrom", desc := "(II)I" } : Jvm.MethodName)) ∈ Gw := Gw_in 346 (by decide +kernel) rfl
theorem wd_347 : (Jvm.Cond.code ({ cls := "SliceWhy$Reasons", name := "reachedFrom", desc := "(II)I" } : Jvm.MethodName) prog_4_method_24_code (7 : Nat) (Option.some Jvm.ClassFile.FieldType.int)) ∈ Gw := Gw_in 347 (by decide +kernel) rfl
theorem wd_348 : (Jvm.Cond.methodLink "SliceWhy$Reasons" (119 : Nat) ({ cls := "SliceWhy$Program", name := "readBy", desc := "(I)I" } : Jvm.MethodName)) ∈ Gw := Gw_in 348 (by decide +kernel) rfl
theorem wd_349 : (Jvm.Cond.instanceMethod ({ cls := "SliceWhy$Program", name := "readBy", desc := "(I)I" } : Jvm.MethodName)) ∈ Gw := Gw_in 349 (by decide +kernel) rfl
theorem wd_350 : (Jvm.Cond.selects "SliceWhy$Program" ({ cls := "SliceWhy$Program", name := "readBy", desc := "(I)I" } : Jvm.MethodName) ({ cls := "SliceWhy$Program", name := "readBy", desc := "(I)I" } : Jvm.MethodName)) ∈ Gw := Gw_in 350 (by decide +kernel) rfl
theorem wd_351 : (Jvm.Cond.code ({ cls := "SliceWhy$Program", name := "readBy", desc := "(I)I" } : Jvm.MethodName) prog_3_method_14_code (2 : Nat) (Option.some Jvm.ClassFile.FieldType.int)) ∈ Gw := Gw_in 351 (by decide +kernel) rfl
theorem wd_352 : (Jvm.Cond.methodLink "SliceWhy$Program" (69 : Nat) ({ cls := "SliceWhy$Program", name := "thinlyReadBy", desc := "(I)I" } : Jvm.MethodName)) ∈ Gw := Gw_in 352 (by decide +kernel) rfl
theorem wd_353 : (Jvm.Cond.instanceMethod ({ cls := "SliceWhy$Program", name := "thinlyReadBy", desc := "(I)I" } : Jvm.MethodName)) ∈ Gw := Gw_in 353 (by decide +kernel) rfl
theorem wd_354 : (Jvm.Cond.selects "SliceWhy$Program" ({ cls := "SliceWhy$Program", name := "thinlyReadBy", desc := "(I)I" } : Jvm.MethodName) ({ cls := "SliceWhy$Program", name := "thinlyReadBy", desc := "(I)I" } : Jvm.MethodName)) ∈ Gw := Gw_in 354 (by decide +kernel) rfl
theorem wd_355 : (Jvm.Cond.code ({ cls := "SliceWhy$Program", name := "thinlyReadBy", desc := "(I)I" } : Jvm.MethodName) prog_3_method_15_code (2 : Nat) (Option.some Jvm.ClassFile.FieldType.int)) ∈ Gw := Gw_in 355 (by decide +kernel) rfl
theorem wd_356 : (Jvm.Cond.methodLink "SliceWhy$Reasons" (122 : Nat) ({ cls := "SliceWhy$Program", name := "thinlyReadBy", desc := "(I)I" } : Jvm.MethodName)) ∈ Gw := Gw_in 356 (by decide +kernel) rfl
theorem wd_357 : (Jvm.Cond.methodLink "SliceWhy$Reasons" (86 : Nat) ({ cls := "SliceWhy$Reasons", name := "findHangingByNames", desc := "(LSliceWhy$Program;I)V" } : Jvm.MethodName)) ∈ Gw := Gw_in 357 (by decide +kernel) rfl
theorem wd_359 : (Jvm.Cond.instanceMethod ({ cls := "SliceWhy$Reasons", name := "findHangingByNames", desc := "(LSliceWhy$Program;I)V" } : Jvm.MethodName)) ∈ Gw := Gw_in 359 (by decide +kernel) rfl
theorem wd_360 : (Jvm.Cond.code ({ cls := "SliceWhy$Reasons", name := "findHangingByNames", desc := "(LSliceWhy$Program;I)V" } : Jvm.MethodName) prog_4_method_22_code (5 : Nat) (Option.none : Option Jvm.ClassFile.FieldType)) ∈ Gw := Gw_in 360 (by decide +kernel) rfl
theorem wd_361 : (Jvm.Cond.methodLink "SliceWhy$Reasons" (128 : Nat) ({ cls := "SliceWhy$Program", name := "mayShareRow", desc := "(II)Z" } : Jvm.MethodName)) ∈ Gw := Gw_in 361 (by decide +kernel) rfl
theorem wd_362 : (Jvm.Cond.instanceMethod ({ cls := "SliceWhy$Program", name := "mayShareRow", desc := "(II)Z" } : Jvm.MethodName)) ∈ Gw := Gw_in 362 (by decide +kernel) rfl
theorem wd_363 : (Jvm.Cond.selects "SliceWhy$Program" ({ cls := "SliceWhy$Program", name := "mayShareRow", desc := "(II)Z" } : Jvm.MethodName) ({ cls := "SliceWhy$Program", name := "mayShareRow", desc := "(II)Z" } : Jvm.MethodName)) ∈ Gw := Gw_in 363 (by decide +kernel) rfl
theorem wd_364 : (Jvm.Cond.code ({ cls := "SliceWhy$Program", name := "mayShareRow", desc := "(II)Z" } : Jvm.MethodName) prog_3_method_16_code (3 : Nat) (Option.some Jvm.ClassFile.FieldType.boolean)) ∈ Gw := Gw_in 364 (by decide +kernel) rfl
theorem wd_365 : (Jvm.Cond.methodLink "SliceWhy$Reasons" (89 : Nat) ({ cls := "SliceWhy$Reasons", name := "findHangingByControl", desc := "(I)V" } : Jvm.MethodName)) ∈ Gw := Gw_in 365 (by decide +kernel) rfl
theorem wd_367 : (Jvm.Cond.instanceMethod ({ cls := "SliceWhy$Reasons", name := "findHangingByControl", desc := "(I)V" } : Jvm.MethodName)) ∈ Gw := Gw_in 367 (by decide +kernel) rfl
theorem wd_368 : (Jvm.Cond.code ({ cls := "SliceWhy$Reasons", name := "findHangingByControl", desc := "(I)V" } : Jvm.MethodName) prog_4_method_23_code (4 : Nat) (Option.none : Option Jvm.ClassFile.FieldType)) ∈ Gw := Gw_in 368 (by decide +kernel) rfl
theorem wd_369 : (Jvm.Cond.methodLink "SliceWhy$Reasons" (93 : Nat) ({ cls := "SliceWhy$Reasons", name := "closeHanging", desc := "()V" } : Jvm.MethodName)) ∈ Gw := Gw_in 369 (by decide +kernel) rfl
theorem wd_371 : (Jvm.Cond.instanceMethod ({ cls := "SliceWhy$Reasons", name := "closeHanging", desc := "()V" } : Jvm.MethodName)) ∈ Gw := Gw_in 371 (by decide +kernel) rfl
theorem wd_372 : (Jvm.Cond.code ({ cls := "SliceWhy$Reasons", name := "closeHanging", desc := "()V" } : Jvm.MethodName) prog_4_method_15_code (2 : Nat) (Option.none : Option Jvm.ClassFile.FieldType)) ∈ Gw := Gw_in 372 (by decide +kernel) rfl
theorem wd_373 : (Jvm.Cond.methodLink "SliceWhy$Reasons" (96 : Nat) ({ cls := "SliceWhy$Reasons", name := "withAllBehind", desc := "(I[I)I" } : Jvm.MethodName)) ∈ Gw := Gw_in 373 (by decide +kernel) rfl
theorem wd_375 : (Jvm.Cond.instanceMethod ({ cls := "SliceWhy$Reasons", name := "withAllBehind", desc := "(I[I)I" } : Jvm.MethodName)) ∈ Gw := Gw_in 375 (by decide +kernel) rfl
theorem wd_376 : (Jvm.Cond.code ({ cls := "SliceWhy$Reasons", name := "withAllBehind", desc := "(I[I)I" } : Jvm.MethodName) prog_4_method_25_code (7 : Nat) (Option.some Jvm.ClassFile.FieldType.int)) ∈ Gw := Gw_in 376 (by decide +kernel) rfl
theorem wd_377 : (Jvm.Cond.methodLink "SliceWhy" (93 : Nat) ({ cls := "SliceWhy$Reasons", name := "backOf", desc := "(I)I" } : Jvm.MethodName)) ∈ Gw := Gw_in 377 (by decide +kernel) rfl
theorem wd_378 : (Jvm.Cond.instanceMethod ({ cls := "SliceWhy$Reasons", name := "backOf", desc := "(I)I" } : Jvm.MethodName)) ∈ Gw := Gw_in 378 (by decide +kernel) rfl
theorem wd_379 : (Jvm.Cond.selects "SliceWhy$Reasons" ({ cls := "SliceWhy$Reasons", name := "backOf", desc := "(I)I" } : Jvm.MethodName) ({ cls := "SliceWhy$Reasons", name := "backOf", desc := "(I)I" } : Jvm.MethodName)) ∈ Gw := Gw_in 379 (by decide +kernel) rfl
theorem wd_380 : (Jvm.Cond.code ({ cls := "SliceWhy$Reasons", name := "backOf", desc := "(I)I" } : Jvm.MethodName) prog_4_method_2_code (2 : Nat) (Option.some Jvm.ClassFile.FieldType.int)) ∈ Gw := Gw_in 380 (by decide +kernel) rfl
theorem wd_381 : (Jvm.Cond.methodLink "SliceWhy" (97 : Nat) ({ cls := "SliceWhy$Machine", name := "perform", desc := "(LSliceWhy$Program;[III)I" } : Jvm.MethodName)) ∈ Gw := Gw_in 381 (by decide +kernel) rfl
theorem wd_382 : (Jvm.Cond.instanceMethod ({ cls := "SliceWhy$Machine", name := "perform", desc := "(LSliceWhy$Program;[III)I" } : Jvm.MethodName)) ∈ Gw := Gw_in 382 (by decide +kernel) rfl
theorem wd_383 : (Jvm.Cond.selects "SliceWhy$Machine" ({ cls := "SliceWhy$Machine", name := "perform", desc := "(LSliceWhy$Program;[III)I" } : Jvm.MethodName) ({ cls := "SliceWhy$Machine", name := "perform", desc := "(LSliceWhy$Program;[III)I" } : Jvm.MethodName)) ∈ Gw := Gw_in 383 (by decide +kernel) rfl
theorem wd_384 : (Jvm.Cond.code ({ cls := "SliceWhy$Machine", name := "perform", desc := "(LSliceWhy$Program;[III)I" } : Jvm.MethodName) prog_2_method_2_code (7 : Nat) (Option.some Jvm.ClassFile.FieldType.int)) ∈ Gw := Gw_in 384 (by decide +kernel) rfl
theorem wd_385 : (Jvm.Cond.methodLink "SliceWhy$Machine" (31 : Nat) ({ cls := "SliceWhy$Machine", name := "begin", desc := "(LSliceWhy$Program;[I)V" } : Jvm.MethodName)) ∈ Gw := Gw_in 385 (by decide +kernel) rfl
theorem wd_387 : (Jvm.Cond.instanceMethod ({ cls := "SliceWhy$Machine", name := "begin", desc := "(LSliceWhy$Program;[I)V" } : Jvm.MethodName)) ∈ Gw := Gw_in 387 (by decide +kernel) rfl
theorem wd_388 : (Jvm.Cond.code ({ cls := "SliceWhy$Machine", name := "begin", desc := "(LSliceWhy$Program;[I)V" } : Jvm.MethodName) prog_2_method_3_code (4 : Nat) (Option.none : Option Jvm.ClassFile.FieldType)) ∈ Gw := Gw_in 388 (by decide +kernel) rfl
theorem wd_389 : (Jvm.Cond.constant "SliceWhy$Machine" (65 : Nat) (2147483647 : Int32)) ∈ Gw := Gw_in 389 (by decide +kernel) rfl
theorem wd_390 : (Jvm.Cond.methodLink "SliceWhy$Machine" (66 : Nat) ({ cls := "SliceWhy$Machine", name := "chosenRow", desc := "(II)I" } : Jvm.MethodName)) ∈ Gw := Gw_in 390 (by decide +kernel) rfl
theorem wd_391 : (Jvm.Cond.static ({ cls := "SliceWhy$Machine", name := "chosenRow", desc := "(II)I" } : Jvm.MethodName)) ∈ Gw := Gw_in 391 (by decide +kernel) rfl
theorem wd_392 : (Jvm.Cond.code ({ cls := "SliceWhy$Machine", name := "chosenRow", desc := "(II)I" } : Jvm.MethodName) prog_2_method_4_code (5 : Nat) (Option.some Jvm.ClassFile.FieldType.int)) ∈ Gw := Gw_in 392 (by decide +kernel) rfl
theorem wd_393 : (Jvm.Cond.methodLink "SliceWhy$Machine" (70 : Nat) ({ cls := "java/lang/Integer", name := "bitCount", desc := "(I)I" } : Jvm.MethodName)) ∈ Gw := Gw_in 393 (by decide +kernel) rfl
theorem wd_394 : (Jvm.Cond.static ({ cls := "java/lang/Integer", name := "bitCount", desc := "(I)I" } : Jvm.MethodName)) ∈ Gw := Gw_in 394 (by decide +kernel) rfl
theorem wd_395 : (Jvm.Cond.code ({ cls := "java/lang/Integer", name := "bitCount", desc := "(I)I" } : Jvm.MethodName) prog_7_method_49_code (1 : Nat) (Option.some Jvm.ClassFile.FieldType.int)) ∈ Gw := Gw_in 395 (by decide +kernel) rfl
theorem wd_396 : (Jvm.Cond.constant "java/lang/Integer" (265 : Nat) (1431655765 : Int32)) ∈ Gw := Gw_in 396 (by decide +kernel) rfl
theorem wd_397 : (Jvm.Cond.constant "java/lang/Integer" (266 : Nat) (858993459 : Int32)) ∈ Gw := Gw_in 397 (by decide +kernel) rfl
theorem wd_398 : (Jvm.Cond.constant "java/lang/Integer" (267 : Nat) (252645135 : Int32)) ∈ Gw := Gw_in 398 (by decide +kernel) rfl
theorem nst_399 : lw_tbl[399]? = some (Jvm.Cond.methodLinkNest "SliceWhy$Machine" (74 : Nat) ({ cls := "SliceWhy", name := "holds", desc := "(II)Z" } : Jvm.MethodName) "SliceWhy") := by decide +kernel
theorem wd_400 : (Jvm.Cond.methodLink "SliceWhy$Machine" (40 : Nat) ({ cls := "SliceWhy$Machine", name := "firstFrom", desc := "(III)I" } : Jvm.MethodName)) ∈ Gw := Gw_in 400 (by decide +kernel) rfl
theorem wd_401 : (Jvm.Cond.static ({ cls := "SliceWhy$Machine", name := "firstFrom", desc := "(III)I" } : Jvm.MethodName)) ∈ Gw := Gw_in 401 (by decide +kernel) rfl
theorem wd_402 : (Jvm.Cond.code ({ cls := "SliceWhy$Machine", name := "firstFrom", desc := "(III)I" } : Jvm.MethodName) prog_2_method_5_code (4 : Nat) (Option.some Jvm.ClassFile.FieldType.int)) ∈ Gw := Gw_in 402 (by decide +kernel) rfl
theorem wd_403 : (Jvm.Cond.methodLink "SliceWhy$Machine" (47 : Nat) ({ cls := "SliceWhy$Machine", name := "step", desc := "(LSliceWhy$Program;[II)I" } : Jvm.MethodName)) ∈ Gw := Gw_in 403 (by decide +kernel) rfl
theorem wd_405 : (Jvm.Cond.instanceMethod ({ cls := "SliceWhy$Machine", name := "step", desc := "(LSliceWhy$Program;[II)I" } : Jvm.MethodName)) ∈ Gw := Gw_in 405 (by decide +kernel) rfl
theorem wd_406 : (Jvm.Cond.code ({ cls := "SliceWhy$Machine", name := "step", desc := "(LSliceWhy$Program;[II)I" } : Jvm.MethodName) prog_2_method_6_code (6 : Nat) (Option.some Jvm.ClassFile.FieldType.int)) ∈ Gw := Gw_in 406 (by decide +kernel) rfl
theorem wd_407 : (Jvm.Cond.methodLink "SliceWhy$Machine" (84 : Nat) ({ cls := "SliceWhy$Machine", name := "failsAt", desc := "(LSliceWhy$Program;I)Z" } : Jvm.MethodName)) ∈ Gw := Gw_in 407 (by decide +kernel) rfl
theorem wd_409 : (Jvm.Cond.instanceMethod ({ cls := "SliceWhy$Machine", name := "failsAt", desc := "(LSliceWhy$Program;I)Z" } : Jvm.MethodName)) ∈ Gw := Gw_in 409 (by decide +kernel) rfl
theorem wd_410 : (Jvm.Cond.code ({ cls := "SliceWhy$Machine", name := "failsAt", desc := "(LSliceWhy$Program;I)Z" } : Jvm.MethodName) prog_2_method_7_code (3 : Nat) (Option.some Jvm.ClassFile.FieldType.boolean)) ∈ Gw := Gw_in 410 (by decide +kernel) rfl
theorem wd_411 : (Jvm.Cond.methodLink "SliceWhy$Machine" (102 : Nat) ({ cls := "SliceWhy$Program", name := "isOfFailingGlobal", desc := "(I)Z" } : Jvm.MethodName)) ∈ Gw := Gw_in 411 (by decide +kernel) rfl
theorem wd_412 : (Jvm.Cond.constant "SliceWhy$Machine" (88 : Nat) (1000000007 : Int32)) ∈ Gw := Gw_in 412 (by decide +kernel) rfl
theorem wd_413 : (Jvm.Cond.methodLink "SliceWhy$Machine" (95 : Nat) ({ cls := "SliceWhy$Machine", name := "itemOf", desc := "(II)I" } : Jvm.MethodName)) ∈ Gw := Gw_in 413 (by decide +kernel) rfl
theorem wd_415 : (Jvm.Cond.instanceMethod ({ cls := "SliceWhy$Machine", name := "itemOf", desc := "(II)I" } : Jvm.MethodName)) ∈ Gw := Gw_in 415 (by decide +kernel) rfl
theorem wd_416 : (Jvm.Cond.code ({ cls := "SliceWhy$Machine", name := "itemOf", desc := "(II)I" } : Jvm.MethodName) prog_2_method_8_code (3 : Nat) (Option.some Jvm.ClassFile.FieldType.int)) ∈ Gw := Gw_in 416 (by decide +kernel) rfl
theorem wd_417 : (Jvm.Cond.methodLink "SliceWhy$Machine" (98 : Nat) ({ cls := "SliceWhy$Machine", name := "valueOf", desc := "(III[I)I" } : Jvm.MethodName)) ∈ Gw := Gw_in 417 (by decide +kernel) rfl
theorem wd_419 : (Jvm.Cond.instanceMethod ({ cls := "SliceWhy$Machine", name := "valueOf", desc := "(III[I)I" } : Jvm.MethodName)) ∈ Gw := Gw_in 419 (by decide +kernel) rfl
theorem wd_420 : (Jvm.Cond.code ({ cls := "SliceWhy$Machine", name := "valueOf", desc := "(III[I)I" } : Jvm.MethodName) prog_2_method_9_code (6 : Nat) (Option.some Jvm.ClassFile.FieldType.int)) ∈ Gw := Gw_in 420 (by decide +kernel) rfl
theorem wd_421 : (Jvm.Cond.methodLink "SliceWhyLaw" (46 : Nat) ({ cls := "SliceWhy", name := "seen", desc := "()I" } : Jvm.MethodName)) ∈ Gw := Gw_in 421 (by decide +kernel) rfl
theorem wd_422 : (Jvm.Cond.instanceMethod ({ cls := "SliceWhy", name := "seen", desc := "()I" } : Jvm.MethodName)) ∈ Gw := Gw_in 422 (by decide +kernel) rfl
theorem wd_423 : (Jvm.Cond.selects "SliceWhy" ({ cls := "SliceWhy", name := "seen", desc := "()I" } : Jvm.MethodName) ({ cls := "SliceWhy", name := "seen", desc := "()I" } : Jvm.MethodName)) ∈ Gw := Gw_in 423 (by decide +kernel) rfl
theorem wd_424 : (Jvm.Cond.code ({ cls := "SliceWhy", name := "seen", desc := "()I" } : Jvm.MethodName) prog_1_method_9_code (1 : Nat) (Option.some Jvm.ClassFile.FieldType.int)) ∈ Gw := Gw_in 424 (by decide +kernel) rfl
theorem wd_425 : (Jvm.Cond.methodLink "SliceWhyLaw" (50 : Nat) ({ cls := "SliceWhy", name := "saw", desc := "(I)I" } : Jvm.MethodName)) ∈ Gw := Gw_in 425 (by decide +kernel) rfl
theorem wd_426 : (Jvm.Cond.instanceMethod ({ cls := "SliceWhy", name := "saw", desc := "(I)I" } : Jvm.MethodName)) ∈ Gw := Gw_in 426 (by decide +kernel) rfl
theorem wd_427 : (Jvm.Cond.selects "SliceWhy" ({ cls := "SliceWhy", name := "saw", desc := "(I)I" } : Jvm.MethodName) ({ cls := "SliceWhy", name := "saw", desc := "(I)I" } : Jvm.MethodName)) ∈ Gw := Gw_in 427 (by decide +kernel) rfl
theorem wd_428 : (Jvm.Cond.code ({ cls := "SliceWhy", name := "saw", desc := "(I)I" } : Jvm.MethodName) prog_1_method_10_code (2 : Nat) (Option.some Jvm.ClassFile.FieldType.int)) ∈ Gw := Gw_in 428 (by decide +kernel) rfl
theorem wd_429 : (Jvm.Cond.methodLink "SliceWhyLaw" (55 : Nat) ({ cls := "SliceWhy", name := "left", desc := "(I)I" } : Jvm.MethodName)) ∈ Gw := Gw_in 429 (by decide +kernel) rfl
theorem wd_430 : (Jvm.Cond.instanceMethod ({ cls := "SliceWhy", name := "left", desc := "(I)I" } : Jvm.MethodName)) ∈ Gw := Gw_in 430 (by decide +kernel) rfl
theorem wd_431 : (Jvm.Cond.selects "SliceWhy" ({ cls := "SliceWhy", name := "left", desc := "(I)I" } : Jvm.MethodName) ({ cls := "SliceWhy", name := "left", desc := "(I)I" } : Jvm.MethodName)) ∈ Gw := Gw_in 431 (by decide +kernel) rfl
theorem wd_432 : (Jvm.Cond.code ({ cls := "SliceWhy", name := "left", desc := "(I)I" } : Jvm.MethodName) prog_1_method_11_code (2 : Nat) (Option.some Jvm.ClassFile.FieldType.int)) ∈ Gw := Gw_in 432 (by decide +kernel) rfl
theorem wd_433 : (Jvm.Cond.methodLink "SliceWhyLaw" (59 : Nat) ({ cls := "SliceWhy", name := "slice", desc := "(II)I" } : Jvm.MethodName)) ∈ Gw := Gw_in 433 (by decide +kernel) rfl
theorem wd_434 : (Jvm.Cond.instanceMethod ({ cls := "SliceWhy", name := "slice", desc := "(II)I" } : Jvm.MethodName)) ∈ Gw := Gw_in 434 (by decide +kernel) rfl
theorem wd_435 : (Jvm.Cond.selects "SliceWhy" ({ cls := "SliceWhy", name := "slice", desc := "(II)I" } : Jvm.MethodName) ({ cls := "SliceWhy", name := "slice", desc := "(II)I" } : Jvm.MethodName)) ∈ Gw := Gw_in 435 (by decide +kernel) rfl
theorem wd_436 : (Jvm.Cond.code ({ cls := "SliceWhy", name := "slice", desc := "(II)I" } : Jvm.MethodName) prog_1_method_12_code (3 : Nat) (Option.some Jvm.ClassFile.FieldType.int)) ∈ Gw := Gw_in 436 (by decide +kernel) rfl
theorem wd_437 : (Jvm.Cond.methodLink "SliceWhy" (116 : Nat) ({ cls := "SliceWhy$Reasons", name := "thinOf", desc := "(I)I" } : Jvm.MethodName)) ∈ Gw := Gw_in 437 (by decide +kernel) rfl
theorem wd_438 : (Jvm.Cond.instanceMethod ({ cls := "SliceWhy$Reasons", name := "thinOf", desc := "(I)I" } : Jvm.MethodName)) ∈ Gw := Gw_in 438 (by decide +kernel) rfl
theorem wd_439 : (Jvm.Cond.selects "SliceWhy$Reasons" ({ cls := "SliceWhy$Reasons", name := "thinOf", desc := "(I)I" } : Jvm.MethodName) ({ cls := "SliceWhy$Reasons", name := "thinOf", desc := "(I)I" } : Jvm.MethodName)) ∈ Gw := Gw_in 439 (by decide +kernel) rfl
theorem wd_440 : (Jvm.Cond.code ({ cls := "SliceWhy$Reasons", name := "thinOf", desc := "(I)I" } : Jvm.MethodName) prog_4_method_3_code (2 : Nat) (Option.some Jvm.ClassFile.FieldType.int)) ∈ Gw := Gw_in 440 (by decide +kernel) rfl
theorem wd_441 : (Jvm.Cond.methodLink "SliceWhy" (119 : Nat) ({ cls := "SliceWhy$Reasons", name := "forwardOf", desc := "(I)I" } : Jvm.MethodName)) ∈ Gw := Gw_in 441 (by decide +kernel) rfl
theorem wd_442 : (Jvm.Cond.instanceMethod ({ cls := "SliceWhy$Reasons", name := "forwardOf", desc := "(I)I" } : Jvm.MethodName)) ∈ Gw := Gw_in 442 (by decide +kernel) rfl
theorem wd_443 : (Jvm.Cond.selects "SliceWhy$Reasons" ({ cls := "SliceWhy$Reasons", name := "forwardOf", desc := "(I)I" } : Jvm.MethodName) ({ cls := "SliceWhy$Reasons", name := "forwardOf", desc := "(I)I" } : Jvm.MethodName)) ∈ Gw := Gw_in 443 (by decide +kernel) rfl
theorem wd_444 : (Jvm.Cond.code ({ cls := "SliceWhy$Reasons", name := "forwardOf", desc := "(I)I" } : Jvm.MethodName) prog_4_method_4_code (2 : Nat) (Option.some Jvm.ClassFile.FieldType.int)) ∈ Gw := Gw_in 444 (by decide +kernel) rfl
theorem wd_445 : (Jvm.Cond.methodLink "SliceWhy$Reasons" (41 : Nat) ({ cls := "SliceWhy$Reasons", name := "whoseSetHolds", desc := "(I[I)I" } : Jvm.MethodName)) ∈ Gw := Gw_in 445 (by decide +kernel) rfl
theorem wd_447 : (Jvm.Cond.instanceMethod ({ cls := "SliceWhy$Reasons", name := "whoseSetHolds", desc := "(I[I)I" } : Jvm.MethodName)) ∈ Gw := Gw_in 447 (by decide +kernel) rfl
theorem wd_448 : (Jvm.Cond.code ({ cls := "SliceWhy$Reasons", name := "whoseSetHolds", desc := "(I[I)I" } : Jvm.MethodName) prog_4_method_13_code (5 : Nat) (Option.some Jvm.ClassFile.FieldType.int)) ∈ Gw := Gw_in 448 (by decide +kernel) rfl
theorem wd_449 : (Jvm.Cond.methodLink "SliceWhy" (122 : Nat) ({ cls := "SliceWhy$Reasons", name := "thinlyOf", desc := "(I)I" } : Jvm.MethodName)) ∈ Gw := Gw_in 449 (by decide +kernel) rfl
theorem wd_450 : (Jvm.Cond.instanceMethod ({ cls := "SliceWhy$Reasons", name := "thinlyOf", desc := "(I)I" } : Jvm.MethodName)) ∈ Gw := Gw_in 450 (by decide +kernel) rfl
theorem wd_451 : (Jvm.Cond.selects "SliceWhy$Reasons" ({ cls := "SliceWhy$Reasons", name := "thinlyOf", desc := "(I)I" } : Jvm.MethodName) ({ cls := "SliceWhy$Reasons", name := "thinlyOf", desc := "(I)I" } : Jvm.MethodName)) ∈ Gw := Gw_in 451 (by decide +kernel) rfl
theorem wd_452 : (Jvm.Cond.code ({ cls := "SliceWhy$Reasons", name := "thinlyOf", desc := "(I)I" } : Jvm.MethodName) prog_4_method_5_code (2 : Nat) (Option.some Jvm.ClassFile.FieldType.int)) ∈ Gw := Gw_in 452 (by decide +kernel) rfl
theorem wd_453 : (Jvm.Cond.methodLink "SliceWhyLaw" (63 : Nat) ({ cls := "SliceWhy", name := "follows", desc := "(I)I" } : Jvm.MethodName)) ∈ Gw := Gw_in 453 (by decide +kernel) rfl
theorem wd_454 : (Jvm.Cond.instanceMethod ({ cls := "SliceWhy", name := "follows", desc := "(I)I" } : Jvm.MethodName)) ∈ Gw := Gw_in 454 (by decide +kernel) rfl
theorem wd_455 : (Jvm.Cond.selects "SliceWhy" ({ cls := "SliceWhy", name := "follows", desc := "(I)I" } : Jvm.MethodName) ({ cls := "SliceWhy", name := "follows", desc := "(I)I" } : Jvm.MethodName)) ∈ Gw := Gw_in 455 (by decide +kernel) rfl
theorem wd_456 : (Jvm.Cond.code ({ cls := "SliceWhy", name := "follows", desc := "(I)I" } : Jvm.MethodName) prog_1_method_13_code (2 : Nat) (Option.some Jvm.ClassFile.FieldType.int)) ∈ Gw := Gw_in 456 (by decide +kernel) rfl
theorem wd_457 : (Jvm.Cond.methodLink "SliceWhy" (125 : Nat) ({ cls := "SliceWhy$Reasons", name := "followersOf", desc := "(I)I" } : Jvm.MethodName)) ∈ Gw := Gw_in 457 (by decide +kernel) rfl
theorem wd_458 : (Jvm.Cond.instanceMethod ({ cls := "SliceWhy$Reasons", name := "followersOf", desc := "(I)I" } : Jvm.MethodName)) ∈ Gw := Gw_in 458 (by decide +kernel) rfl
theorem wd_459 : (Jvm.Cond.selects "SliceWhy$Reasons" ({ cls := "SliceWhy$Reasons", name := "followersOf", desc := "(I)I" } : Jvm.MethodName) ({ cls := "SliceWhy$Reasons", name := "followersOf", desc := "(I)I" } : Jvm.MethodName)) ∈ Gw := Gw_in 459 (by decide +kernel) rfl
theorem wd_460 : (Jvm.Cond.code ({ cls := "SliceWhy$Reasons", name := "followersOf", desc := "(I)I" } : Jvm.MethodName) prog_4_method_6_code (2 : Nat) (Option.some Jvm.ClassFile.FieldType.int)) ∈ Gw := Gw_in 460 (by decide +kernel) rfl
theorem wd_461 : (Jvm.Cond.methodLink "SliceWhyLaw" (67 : Nat) ({ cls := "SliceWhy", name := "causes", desc := "(I)I" } : Jvm.MethodName)) ∈ Gw := Gw_in 461 (by decide +kernel) rfl
theorem wd_462 : (Jvm.Cond.instanceMethod ({ cls := "SliceWhy", name := "causes", desc := "(I)I" } : Jvm.MethodName)) ∈ Gw := Gw_in 462 (by decide +kernel) rfl
theorem wd_463 : (Jvm.Cond.selects "SliceWhy" ({ cls := "SliceWhy", name := "causes", desc := "(I)I" } : Jvm.MethodName) ({ cls := "SliceWhy", name := "causes", desc := "(I)I" } : Jvm.MethodName)) ∈ Gw := Gw_in 463 (by decide +kernel) rfl
theorem wd_464 : (Jvm.Cond.code ({ cls := "SliceWhy", name := "causes", desc := "(I)I" } : Jvm.MethodName) prog_1_method_14_code (2 : Nat) (Option.some Jvm.ClassFile.FieldType.int)) ∈ Gw := Gw_in 464 (by decide +kernel) rfl
theorem wd_465 : (Jvm.Cond.methodLink "SliceWhy" (128 : Nat) ({ cls := "SliceWhy$Reasons", name := "howManyCauses", desc := "(I)I" } : Jvm.MethodName)) ∈ Gw := Gw_in 465 (by decide +kernel) rfl
theorem wd_466 : (Jvm.Cond.instanceMethod ({ cls := "SliceWhy$Reasons", name := "howManyCauses", desc := "(I)I" } : Jvm.MethodName)) ∈ Gw := Gw_in 466 (by decide +kernel) rfl
theorem wd_467 : (Jvm.Cond.selects "SliceWhy$Reasons" ({ cls := "SliceWhy$Reasons", name := "howManyCauses", desc := "(I)I" } : Jvm.MethodName) ({ cls := "SliceWhy$Reasons", name := "howManyCauses", desc := "(I)I" } : Jvm.MethodName)) ∈ Gw := Gw_in 467 (by decide +kernel) rfl
theorem wd_468 : (Jvm.Cond.code ({ cls := "SliceWhy$Reasons", name := "howManyCauses", desc := "(I)I" } : Jvm.MethodName) prog_4_method_7_code (4 : Nat) (Option.some Jvm.ClassFile.FieldType.int)) ∈ Gw := Gw_in 468 (by decide +kernel) rfl
theorem wd_469 : (Jvm.Cond.methodLink "SliceWhy$Reasons" (45 : Nat) ({ cls := "java/lang/Integer", name := "bitCount", desc := "(I)I" } : Jvm.MethodName)) ∈ Gw := Gw_in 469 (by decide +kernel) rfl
theorem wd_470 : (Jvm.Cond.methodLink "SliceWhyLaw" (71 : Nat) ({ cls := "SliceWhy", name := "cause", desc := "(III)I" } : Jvm.MethodName)) ∈ Gw := Gw_in 470 (by decide +kernel) rfl
theorem wd_471 : (Jvm.Cond.instanceMethod ({ cls := "SliceWhy", name := "cause", desc := "(III)I" } : Jvm.MethodName)) ∈ Gw := Gw_in 471 (by decide +kernel) rfl
theorem wd_472 : (Jvm.Cond.selects "SliceWhy" ({ cls := "SliceWhy", name := "cause", desc := "(III)I" } : Jvm.MethodName) ({ cls := "SliceWhy", name := "cause", desc := "(III)I" } : Jvm.MethodName)) ∈ Gw := Gw_in 472 (by decide +kernel) rfl
theorem wd_473 : (Jvm.Cond.code ({ cls := "SliceWhy", name := "cause", desc := "(III)I" } : Jvm.MethodName) prog_1_method_15_code (4 : Nat) (Option.some Jvm.ClassFile.FieldType.int)) ∈ Gw := Gw_in 473 (by decide +kernel) rfl
theorem wd_474 : (Jvm.Cond.methodLink "SliceWhy" (131 : Nat) ({ cls := "SliceWhy$Reasons", name := "kthCause", desc := "(IIZ)I" } : Jvm.MethodName)) ∈ Gw := Gw_in 474 (by decide +kernel) rfl
theorem wd_475 : (Jvm.Cond.instanceMethod ({ cls := "SliceWhy$Reasons", name := "kthCause", desc := "(IIZ)I" } : Jvm.MethodName)) ∈ Gw := Gw_in 475 (by decide +kernel) rfl
theorem wd_476 : (Jvm.Cond.selects "SliceWhy$Reasons" ({ cls := "SliceWhy$Reasons", name := "kthCause", desc := "(IIZ)I" } : Jvm.MethodName) ({ cls := "SliceWhy$Reasons", name := "kthCause", desc := "(IIZ)I" } : Jvm.MethodName)) ∈ Gw := Gw_in 476 (by decide +kernel) rfl
theorem wd_477 : (Jvm.Cond.code ({ cls := "SliceWhy$Reasons", name := "kthCause", desc := "(IIZ)I" } : Jvm.MethodName) prog_4_method_8_code (7 : Nat) (Option.some Jvm.ClassFile.FieldType.int)) ∈ Gw := Gw_in 477 (by decide +kernel) rfl
theorem wd_478 : (Jvm.Cond.methodLink "SliceWhyLaw" (76 : Nat) ({ cls := "SliceWhy", name := "chop", desc := "(II)I" } : Jvm.MethodName)) ∈ Gw := Gw_in 478 (by decide +kernel) rfl
theorem wd_479 : (Jvm.Cond.instanceMethod ({ cls := "SliceWhy", name := "chop", desc := "(II)I" } : Jvm.MethodName)) ∈ Gw := Gw_in 479 (by decide +kernel) rfl
theorem wd_480 : (Jvm.Cond.selects "SliceWhy" ({ cls := "SliceWhy", name := "chop", desc := "(II)I" } : Jvm.MethodName) ({ cls := "SliceWhy", name := "chop", desc := "(II)I" } : Jvm.MethodName)) ∈ Gw := Gw_in 480 (by decide +kernel) rfl
theorem wd_481 : (Jvm.Cond.code ({ cls := "SliceWhy", name := "chop", desc := "(II)I" } : Jvm.MethodName) prog_1_method_16_code (3 : Nat) (Option.some Jvm.ClassFile.FieldType.int)) ∈ Gw := Gw_in 481 (by decide +kernel) rfl
theorem wd_482 : (Jvm.Cond.methodLink "SliceWhyLaw" (80 : Nat) ({ cls := "SliceWhy", name := "way", desc := "(II)I" } : Jvm.MethodName)) ∈ Gw := Gw_in 482 (by decide +kernel) rfl
theorem wd_483 : (Jvm.Cond.instanceMethod ({ cls := "SliceWhy", name := "way", desc := "(II)I" } : Jvm.MethodName)) ∈ Gw := Gw_in 483 (by decide +kernel) rfl
theorem wd_484 : (Jvm.Cond.selects "SliceWhy" ({ cls := "SliceWhy", name := "way", desc := "(II)I" } : Jvm.MethodName) ({ cls := "SliceWhy", name := "way", desc := "(II)I" } : Jvm.MethodName)) ∈ Gw := Gw_in 484 (by decide +kernel) rfl
theorem wd_485 : (Jvm.Cond.code ({ cls := "SliceWhy", name := "way", desc := "(II)I" } : Jvm.MethodName) prog_1_method_17_code (3 : Nat) (Option.some Jvm.ClassFile.FieldType.int)) ∈ Gw := Gw_in 485 (by decide +kernel) rfl
theorem wd_486 : (Jvm.Cond.methodLink "SliceWhy" (135 : Nat) ({ cls := "SliceWhy", name := "holds", desc := "(II)Z" } : Jvm.MethodName)) ∈ Gw := Gw_in 486 (by decide +kernel) rfl
theorem wd_487 : (Jvm.Cond.methodLink "SliceWhy" (139 : Nat) ({ cls := "SliceWhy$Reasons", name := "shortestWay", desc := "(II[I)I" } : Jvm.MethodName)) ∈ Gw := Gw_in 487 (by decide +kernel) rfl
theorem wd_488 : (Jvm.Cond.instanceMethod ({ cls := "SliceWhy$Reasons", name := "shortestWay", desc := "(II[I)I" } : Jvm.MethodName)) ∈ Gw := Gw_in 488 (by decide +kernel) rfl
theorem wd_489 : (Jvm.Cond.selects "SliceWhy$Reasons" ({ cls := "SliceWhy$Reasons", name := "shortestWay", desc := "(II[I)I" } : Jvm.MethodName) ({ cls := "SliceWhy$Reasons", name := "shortestWay", desc := "(II[I)I" } : Jvm.MethodName)) ∈ Gw := Gw_in 489 (by decide +kernel) rfl
theorem wd_490 : (Jvm.Cond.code ({ cls := "SliceWhy$Reasons", name := "shortestWay", desc := "(II[I)I" } : Jvm.MethodName) prog_4_method_9_code (7 : Nat) (Option.some Jvm.ClassFile.FieldType.int)) ∈ Gw := Gw_in 490 (by decide +kernel) rfl
theorem wd_491 : (Jvm.Cond.methodLink "SliceWhy$Reasons" (59 : Nat) ({ cls := "SliceWhy$Reasons", name := "measureWays", desc := "(II)I" } : Jvm.MethodName)) ∈ Gw := Gw_in 491 (by decide +kernel) rfl
theorem wd_493 : (Jvm.Cond.instanceMethod ({ cls := "SliceWhy$Reasons", name := "measureWays", desc := "(II)I" } : Jvm.MethodName)) ∈ Gw := Gw_in 493 (by decide +kernel) rfl
theorem wd_494 : (Jvm.Cond.code ({ cls := "SliceWhy$Reasons", name := "measureWays", desc := "(II)I" } : Jvm.MethodName) prog_4_method_10_code (4 : Nat) (Option.some Jvm.ClassFile.FieldType.int)) ∈ Gw := Gw_in 494 (by decide +kernel) rfl
theorem wd_495 : (Jvm.Cond.methodLink "SliceWhy$Reasons" (66 : Nat) ({ cls := "SliceWhy$Reasons", name := "allThatHangOn", desc := "(I)I" } : Jvm.MethodName)) ∈ Gw := Gw_in 495 (by decide +kernel) rfl
theorem wd_497 : (Jvm.Cond.instanceMethod ({ cls := "SliceWhy$Reasons", name := "allThatHangOn", desc := "(I)I" } : Jvm.MethodName)) ∈ Gw := Gw_in 497 (by decide +kernel) rfl
theorem wd_498 : (Jvm.Cond.code ({ cls := "SliceWhy$Reasons", name := "allThatHangOn", desc := "(I)I" } : Jvm.MethodName) prog_4_method_11_code (4 : Nat) (Option.some Jvm.ClassFile.FieldType.int)) ∈ Gw := Gw_in 498 (by decide +kernel) rfl
theorem wd_499 : (Jvm.Cond.methodLink "SliceWhy$Reasons" (63 : Nat) ({ cls := "SliceWhy$Reasons", name := "leastOf", desc := "(I)I" } : Jvm.MethodName)) ∈ Gw := Gw_in 499 (by decide +kernel) rfl
theorem wd_500 : (Jvm.Cond.static ({ cls := "SliceWhy$Reasons", name := "leastOf", desc := "(I)I" } : Jvm.MethodName)) ∈ Gw := Gw_in 500 (by decide +kernel) rfl
theorem wd_501 : (Jvm.Cond.code ({ cls := "SliceWhy$Reasons", name := "leastOf", desc := "(I)I" } : Jvm.MethodName) prog_4_method_12_code (2 : Nat) (Option.some Jvm.ClassFile.FieldType.int)) ∈ Gw := Gw_in 501 (by decide +kernel) rfl
theorem wd_502 : (Jvm.Cond.methodLink "SliceWhyLaw" (84 : Nat) ({ cls := "SliceWhy", name := "on", desc := "(I)I" } : Jvm.MethodName)) ∈ Gw := Gw_in 502 (by decide +kernel) rfl
theorem wd_503 : (Jvm.Cond.instanceMethod ({ cls := "SliceWhy", name := "on", desc := "(I)I" } : Jvm.MethodName)) ∈ Gw := Gw_in 503 (by decide +kernel) rfl
theorem wd_504 : (Jvm.Cond.selects "SliceWhy" ({ cls := "SliceWhy", name := "on", desc := "(I)I" } : Jvm.MethodName) ({ cls := "SliceWhy", name := "on", desc := "(I)I" } : Jvm.MethodName)) ∈ Gw := Gw_in 504 (by decide +kernel) rfl
theorem wd_505 : (Jvm.Cond.code ({ cls := "SliceWhy", name := "on", desc := "(I)I" } : Jvm.MethodName) prog_1_method_18_code (2 : Nat) (Option.some Jvm.ClassFile.FieldType.int)) ∈ Gw := Gw_in 505 (by decide +kernel) rfl
theorem wd_506 : (Jvm.Cond.methodLink "SliceWhyLaw" (88 : Nat) ({ cls := "SliceWhy", name := "same", desc := "(I)I" } : Jvm.MethodName)) ∈ Gw := Gw_in 506 (by decide +kernel) rfl
theorem wd_507 : (Jvm.Cond.instanceMethod ({ cls := "SliceWhy", name := "same", desc := "(I)I" } : Jvm.MethodName)) ∈ Gw := Gw_in 507 (by decide +kernel) rfl
theorem wd_508 : (Jvm.Cond.selects "SliceWhy" ({ cls := "SliceWhy", name := "same", desc := "(I)I" } : Jvm.MethodName) ({ cls := "SliceWhy", name := "same", desc := "(I)I" } : Jvm.MethodName)) ∈ Gw := Gw_in 508 (by decide +kernel) rfl
theorem wd_509 : (Jvm.Cond.code ({ cls := "SliceWhy", name := "same", desc := "(I)I" } : Jvm.MethodName) prog_1_method_19_code (2 : Nat) (Option.some Jvm.ClassFile.FieldType.int)) ∈ Gw := Gw_in 509 (by decide +kernel) rfl
theorem wd_510 : (Jvm.Cond.methodLink "SliceWhy" (146 : Nat) ({ cls := "SliceWhy$Machine", name := "toldLike", desc := "(LSliceWhy$Machine;)Z" } : Jvm.MethodName)) ∈ Gw := Gw_in 510 (by decide +kernel) rfl
theorem wd_511 : (Jvm.Cond.instanceMethod ({ cls := "SliceWhy$Machine", name := "toldLike", desc := "(LSliceWhy$Machine;)Z" } : Jvm.MethodName)) ∈ Gw := Gw_in 511 (by decide +kernel) rfl
theorem wd_512 : (Jvm.Cond.selects "SliceWhy$Machine" ({ cls := "SliceWhy$Machine", name := "toldLike", desc := "(LSliceWhy$Machine;)Z" } : Jvm.MethodName) ({ cls := "SliceWhy$Machine", name := "toldLike", desc := "(LSliceWhy$Machine;)Z" } : Jvm.MethodName)) ∈ Gw := Gw_in 512 (by decide +kernel) rfl
theorem wd_513 : (Jvm.Cond.code ({ cls := "SliceWhy$Machine", name := "toldLike", desc := "(LSliceWhy$Machine;)Z" } : Jvm.MethodName) prog_2_method_10_code (3 : Nat) (Option.some Jvm.ClassFile.FieldType.boolean)) ∈ Gw := Gw_in 513 (by decide +kernel) rfl
theorem wd_514 : (Jvm.Cond.methodLink "SliceWhyLaw" (92 : Nat) ({ cls := "SliceWhy", name := "test", desc := "()I" } : Jvm.MethodName)) ∈ Gw := Gw_in 514 (by decide +kernel) rfl
theorem wd_515 : (Jvm.Cond.instanceMethod ({ cls := "SliceWhy", name := "test", desc := "()I" } : Jvm.MethodName)) ∈ Gw := Gw_in 515 (by decide +kernel) rfl
theorem wd_516 : (Jvm.Cond.selects "SliceWhy" ({ cls := "SliceWhy", name := "test", desc := "()I" } : Jvm.MethodName) ({ cls := "SliceWhy", name := "test", desc := "()I" } : Jvm.MethodName)) ∈ Gw := Gw_in 516 (by decide +kernel) rfl
theorem wd_517 : (Jvm.Cond.code ({ cls := "SliceWhy", name := "test", desc := "()I" } : Jvm.MethodName) prog_1_method_20_code (1 : Nat) (Option.some Jvm.ClassFile.FieldType.int)) ∈ Gw := Gw_in 517 (by decide +kernel) rfl
theorem wd_518 : (Jvm.Cond.methodLink "SliceWhy" (153 : Nat) ({ cls := "java/lang/System", name := "arraycopy", desc := "(Ljava/lang/Object;ILjava/lang/Object;II)V" } : Jvm.MethodName)) ∈ Gw := Gw_in 518 (by decide +kernel) rfl
theorem wd_519 : (Jvm.Cond.static ({ cls := "java/lang/System", name := "arraycopy", desc := "(Ljava/lang/Object;ILjava/lang/Object;II)V" } : Jvm.MethodName)) ∈ Gw := Gw_in 519 (by decide +kernel) rfl
theorem wd_520 : (Jvm.Cond.native ({ cls := "java/lang/System", name := "arraycopy", desc := "(Ljava/lang/Object;ILjava/lang/Object;II)V" } : Jvm.MethodName)) ∈ Gw := Gw_in 520 (by decide +kernel) rfl
theorem wd_521 : (Jvm.Cond.methodLink "SliceWhyLaw" (96 : Nat) ({ cls := "SliceWhy", name := "untest", desc := "()I" } : Jvm.MethodName)) ∈ Gw := Gw_in 521 (by decide +kernel) rfl
theorem wd_522 : (Jvm.Cond.instanceMethod ({ cls := "SliceWhy", name := "untest", desc := "()I" } : Jvm.MethodName)) ∈ Gw := Gw_in 522 (by decide +kernel) rfl
theorem wd_523 : (Jvm.Cond.selects "SliceWhy" ({ cls := "SliceWhy", name := "untest", desc := "()I" } : Jvm.MethodName) ({ cls := "SliceWhy", name := "untest", desc := "()I" } : Jvm.MethodName)) ∈ Gw := Gw_in 523 (by decide +kernel) rfl
theorem wd_524 : (Jvm.Cond.code ({ cls := "SliceWhy", name := "untest", desc := "()I" } : Jvm.MethodName) prog_1_method_21_code (2 : Nat) (Option.some Jvm.ClassFile.FieldType.int)) ∈ Gw := Gw_in 524 (by decide +kernel) rfl
theorem wd_525 : (Jvm.Cond.methodLink "SliceWhyLaw" (100 : Nat) ({ cls := "SliceWhy", name := "least", desc := "(I)I" } : Jvm.MethodName)) ∈ Gw := Gw_in 525 (by decide +kernel) rfl
theorem wd_526 : (Jvm.Cond.instanceMethod ({ cls := "SliceWhy", name := "least", desc := "(I)I" } : Jvm.MethodName)) ∈ Gw := Gw_in 526 (by decide +kernel) rfl
theorem wd_527 : (Jvm.Cond.selects "SliceWhy" ({ cls := "SliceWhy", name := "least", desc := "(I)I" } : Jvm.MethodName) ({ cls := "SliceWhy", name := "least", desc := "(I)I" } : Jvm.MethodName)) ∈ Gw := Gw_in 527 (by decide +kernel) rfl
theorem wd_528 : (Jvm.Cond.code ({ cls := "SliceWhy", name := "least", desc := "(I)I" } : Jvm.MethodName) prog_1_method_22_code (6 : Nat) (Option.some Jvm.ClassFile.FieldType.int)) ∈ Gw := Gw_in 528 (by decide +kernel) rfl
theorem wd_529 : (Jvm.Cond.methodLink "SliceWhy" (159 : Nat) ({ cls := "SliceWhy", name := "wholeIsSpentInATest", desc := "(I)Z" } : Jvm.MethodName)) ∈ Gw := Gw_in 529 (by decide +kernel) rfl
theorem wd_531 : (Jvm.Cond.instanceMethod ({ cls := "SliceWhy", name := "wholeIsSpentInATest", desc := "(I)Z" } : Jvm.MethodName)) ∈ Gw := Gw_in 531 (by decide +kernel) rfl
theorem wd_532 : (Jvm.Cond.code ({ cls := "SliceWhy", name := "wholeIsSpentInATest", desc := "(I)Z" } : Jvm.MethodName) prog_1_method_25_code (4 : Nat) (Option.some Jvm.ClassFile.FieldType.boolean)) ∈ Gw := Gw_in 532 (by decide +kernel) rfl
theorem wd_533 : (Jvm.Cond.methodLink "SliceWhy" (162 : Nat) ({ cls := "SliceWhy", name := "withoutNeedless", desc := "(II)I" } : Jvm.MethodName)) ∈ Gw := Gw_in 533 (by decide +kernel) rfl
theorem wd_535 : (Jvm.Cond.instanceMethod ({ cls := "SliceWhy", name := "withoutNeedless", desc := "(II)I" } : Jvm.MethodName)) ∈ Gw := Gw_in 535 (by decide +kernel) rfl
theorem wd_536 : (Jvm.Cond.code ({ cls := "SliceWhy", name := "withoutNeedless", desc := "(II)I" } : Jvm.MethodName) prog_1_method_26_code (5 : Nat) (Option.some Jvm.ClassFile.FieldType.int)) ∈ Gw := Gw_in 536 (by decide +kernel) rfl
theorem wd_537 : (Jvm.Cond.methodLink "SliceWhy" (170 : Nat) ({ cls := "SliceWhy", name := "testsAgree", desc := "(II)Z" } : Jvm.MethodName)) ∈ Gw := Gw_in 537 (by decide +kernel) rfl
theorem wd_539 : (Jvm.Cond.instanceMethod ({ cls := "SliceWhy", name := "testsAgree", desc := "(II)Z" } : Jvm.MethodName)) ∈ Gw := Gw_in 539 (by decide +kernel) rfl
theorem wd_540 : (Jvm.Cond.code ({ cls := "SliceWhy", name := "testsAgree", desc := "(II)Z" } : Jvm.MethodName) prog_1_method_27_code (5 : Nat) (Option.some Jvm.ClassFile.FieldType.boolean)) ∈ Gw := Gw_in 540 (by decide +kernel) rfl
theorem wd_541 : (Jvm.Cond.methodLink "SliceWhyLaw" (104 : Nat) ({ cls := "SliceWhy", name := "count", desc := "(I)I" } : Jvm.MethodName)) ∈ Gw := Gw_in 541 (by decide +kernel) rfl
theorem wd_542 : (Jvm.Cond.instanceMethod ({ cls := "SliceWhy", name := "count", desc := "(I)I" } : Jvm.MethodName)) ∈ Gw := Gw_in 542 (by decide +kernel) rfl
theorem wd_543 : (Jvm.Cond.selects "SliceWhy" ({ cls := "SliceWhy", name := "count", desc := "(I)I" } : Jvm.MethodName) ({ cls := "SliceWhy", name := "count", desc := "(I)I" } : Jvm.MethodName)) ∈ Gw := Gw_in 543 (by decide +kernel) rfl
theorem wd_544 : (Jvm.Cond.code ({ cls := "SliceWhy", name := "count", desc := "(I)I" } : Jvm.MethodName) prog_1_method_23_code (2 : Nat) (Option.some Jvm.ClassFile.FieldType.int)) ∈ Gw := Gw_in 544 (by decide +kernel) rfl
theorem wd_545 : (Jvm.Cond.classLink "SliceWhyLaw" (10 : Nat) "SliceWhyModel") ∈ Gw := Gw_in 545 (by decide +kernel) rfl
theorem wd_546 : (Jvm.Cond.instantiable "SliceWhyModel" (35 : Nat)) ∈ Gw := Gw_in 546 (by decide +kernel) rfl
theorem wd_547 : (Jvm.Cond.methodLink "SliceWhyLaw" (12 : Nat) ({ cls := "SliceWhyModel", name := "<init>", desc := "()V" } : Jvm.MethodName)) ∈ Gw := Gw_in 547 (by decide +kernel) rfl
theorem wd_548 : (Jvm.Cond.instanceMethod ({ cls := "SliceWhyModel", name := "<init>", desc := "()V" } : Jvm.MethodName)) ∈ Gw := Gw_in 548 (by decide +kernel) rfl
theorem wd_549 : (Jvm.Cond.code ({ cls := "SliceWhyModel", name := "<init>", desc := "()V" } : Jvm.MethodName) prog_6_method_1_code (2 : Nat) (Option.none : Option Jvm.ClassFile.FieldType)) ∈ Gw := Gw_in 549 (by decide +kernel) rfl
theorem wd_550 : (Jvm.Cond.methodLink "SliceWhyModel" (1 : Nat) ({ cls := "java/lang/Object", name := "<init>", desc := "()V" } : Jvm.MethodName)) ∈ Gw := Gw_in 550 (by decide +kernel) rfl
theorem wd_551 : (Jvm.Cond.fieldLink "SliceWhyModel" (81 : Nat) "SliceWhyModel" "places" "I") ∈ Gw := Gw_in 551 (by decide +kernel) rfl
theorem wd_552 : (Jvm.Cond.fieldLink "SliceWhyModel" (7 : Nat) "SliceWhyModel" "kinds" "[I") ∈ Gw := Gw_in 552 (by decide +kernel) rfl
theorem wd_553 : (Jvm.Cond.fieldLink "SliceWhyModel" (13 : Nat) "SliceWhyModel" "as" "[I") ∈ Gw := Gw_in 553 (by decide +kernel) rfl
theorem wd_554 : (Jvm.Cond.fieldLink "SliceWhyModel" (16 : Nat) "SliceWhyModel" "bs" "[I") ∈ Gw := Gw_in 554 (by decide +kernel) rfl
theorem wd_555 : (Jvm.Cond.fieldLink "SliceWhyModel" (19 : Nat) "SliceWhyModel" "cs" "[I") ∈ Gw := Gw_in 555 (by decide +kernel) rfl
theorem wd_556 : (Jvm.Cond.fieldLink "SliceWhyModel" (22 : Nat) "SliceWhyModel" "inputs" "[I") ∈ Gw := Gw_in 556 (by decide +kernel) rfl
theorem wd_557 : (Jvm.Cond.fieldLink "SliceWhyModel" (25 : Nat) "SliceWhyModel" "starts" "[I") ∈ Gw := Gw_in 557 (by decide +kernel) rfl
theorem wd_558 : (Jvm.Cond.fieldLink "SliceWhyModel" (28 : Nat) "SliceWhyModel" "failing" "[Z") ∈ Gw := Gw_in 558 (by decide +kernel) rfl
theorem wd_559 : (Jvm.Cond.fieldLink "SliceWhyModel" (32 : Nat) "SliceWhyModel" "maybe" "[I") ∈ Gw := Gw_in 559 (by decide +kernel) rfl
theorem wd_560 : (Jvm.Cond.fieldLink "SliceWhyModel" (228 : Nat) "SliceWhyModel" "tests" "I") ∈ Gw := Gw_in 560 (by decide +kernel) rfl
theorem wd_561 : (Jvm.Cond.fieldLink "SliceWhyModel" (35 : Nat) "SliceWhyModel" "tested" "[I") ∈ Gw := Gw_in 561 (by decide +kernel) rfl
theorem wd_562 : (Jvm.Cond.fieldLink "SliceWhyModel" (199 : Nat) "SliceWhyModel" "runs" "I") ∈ Gw := Gw_in 562 (by decide +kernel) rfl
theorem wd_563 : (Jvm.Cond.fieldLink "SliceWhyModel" (207 : Nat) "SliceWhyModel" "seen" "I") ∈ Gw := Gw_in 563 (by decide +kernel) rfl
theorem wd_564 : (Jvm.Cond.fieldLink "SliceWhyModel" (38 : Nat) "SliceWhyModel" "saw" "[I") ∈ Gw := Gw_in 564 (by decide +kernel) rfl
theorem wd_565 : (Jvm.Cond.fieldLink "SliceWhyModel" (210 : Nat) "SliceWhyModel" "steps" "I") ∈ Gw := Gw_in 565 (by decide +kernel) rfl
theorem wd_566 : (Jvm.Cond.fieldLink "SliceWhyModel" (41 : Nat) "SliceWhyModel" "failedAt" "I") ∈ Gw := Gw_in 566 (by decide +kernel) rfl
theorem wd_567 : (Jvm.Cond.fieldLink "SliceWhyModel" (45 : Nat) "SliceWhyModel" "registers" "[I") ∈ Gw := Gw_in 567 (by decide +kernel) rfl
theorem wd_568 : (Jvm.Cond.fieldLink "SliceWhyModel" (171 : Nat) "SliceWhyModel" "onWay" "I") ∈ Gw := Gw_in 568 (by decide +kernel) rfl
theorem wd_569 : (Jvm.Cond.fieldLink "SliceWhyModel" (48 : Nat) "SliceWhyModel" "wayAt" "[I") ∈ Gw := Gw_in 569 (by decide +kernel) rfl
theorem wd_570 : (Jvm.Cond.fieldLink "SliceWhyModel" (51 : Nat) "SliceWhyModel" "behind" "[I") ∈ Gw := Gw_in 570 (by decide +kernel) rfl
theorem wd_571 : (Jvm.Cond.fieldLink "SliceWhyModel" (54 : Nat) "SliceWhyModel" "fat" "[I") ∈ Gw := Gw_in 571 (by decide +kernel) rfl
theorem wd_572 : (Jvm.Cond.fieldLink "SliceWhyModel" (57 : Nat) "SliceWhyModel" "slim" "[I") ∈ Gw := Gw_in 572 (by decide +kernel) rfl
theorem wd_573 : (Jvm.Cond.fieldLink "SliceWhyModel" (98 : Nat) "SliceWhyModel" "isLooked" "Z") ∈ Gw := Gw_in 573 (by decide +kernel) rfl
theorem wd_574 : (Jvm.Cond.fieldLink "SliceWhyModel" (60 : Nat) "SliceWhyModel" "far" "[I") ∈ Gw := Gw_in 574 (by decide +kernel) rfl
theorem wd_575 : (Jvm.Cond.fieldLink "SliceWhyModel" (63 : Nat) "SliceWhyModel" "\x72" "[I") ∈ Gw := Gw_in 575 (by decide +kernel) rfl
theorem wd_576 : (Jvm.Cond.fieldLink "SliceWhyModel" (66 : Nat) "SliceWhyModel" "items" "[I") ∈ Gw := Gw_in 576 (by decide +kernel) rfl
theorem wd_577 : (Jvm.Cond.fieldLink "SliceWhyModel" (69 : Nat) "SliceWhyModel" "globals" "[I") ∈ Gw := Gw_in 577 (by decide +kernel) rfl
theorem wd_578 : (Jvm.Cond.fieldLink "SliceWhyModel" (72 : Nat) "SliceWhyModel" "rowOf" "[I") ∈ Gw := Gw_in 578 (by decide +kernel) rfl
theorem wd_579 : (Jvm.Cond.fieldLink "SliceWhyModel" (178 : Nat) "SliceWhyModel" "done" "I") ∈ Gw := Gw_in 579 (by decide +kernel) rfl
theorem wd_580 : (Jvm.Cond.fieldLink "SliceWhyModel" (181 : Nat) "SliceWhyModel" "wrongAt" "I") ∈ Gw := Gw_in 580 (by decide +kernel) rfl
theorem wd_581 : (Jvm.Cond.fieldLink "SliceWhyModel" (184 : Nat) "SliceWhyModel" "looks" "I") ∈ Gw := Gw_in 581 (by decide +kernel) rfl
theorem wd_582 : (Jvm.Cond.fieldLink "SliceWhyModel" (75 : Nat) "SliceWhyModel" "looked" "[I") ∈ Gw := Gw_in 582 (by decide +kernel) rfl
theorem wd_583 : (Jvm.Cond.fieldLink "SliceWhyModel" (188 : Nat) "SliceWhyModel" "tells" "I") ∈ Gw := Gw_in 583 (by decide +kernel) rfl
theorem wd_584 : (Jvm.Cond.fieldLink "SliceWhyModel" (217 : Nat) "SliceWhyModel" "dueMany" "I") ∈ Gw := Gw_in 584 (by decide +kernel) rfl
theorem wd_585 : (Jvm.Cond.fieldLink "SliceWhyModel" (78 : Nat) "SliceWhyModel" "due" "[I") ∈ Gw := Gw_in 585 (by decide +kernel) rfl
theorem wd_586 : (Jvm.Cond.lays "SliceWhyModel" "SliceWhyModel" "places" "I") ∈ Gw := Gw_in 586 (by decide +kernel) rfl
theorem wd_588 : (Jvm.Cond.laysFinal "SliceWhyModel" "SliceWhyModel" "kinds" "[I") ∈ Gw := Gw_in 588 (by decide +kernel) rfl
theorem wd_590 : (Jvm.Cond.laysFinal "SliceWhyModel" "SliceWhyModel" "as" "[I") ∈ Gw := Gw_in 590 (by decide +kernel) rfl
theorem wd_592 : (Jvm.Cond.laysFinal "SliceWhyModel" "SliceWhyModel" "bs" "[I") ∈ Gw := Gw_in 592 (by decide +kernel) rfl
theorem wd_594 : (Jvm.Cond.laysFinal "SliceWhyModel" "SliceWhyModel" "cs" "[I") ∈ Gw := Gw_in 594 (by decide +kernel) rfl
theorem wd_596 : (Jvm.Cond.laysFinal "SliceWhyModel" "SliceWhyModel" "inputs" "[I") ∈ Gw := Gw_in 596 (by decide +kernel) rfl
theorem wd_598 : (Jvm.Cond.laysFinal "SliceWhyModel" "SliceWhyModel" "starts" "[I") ∈ Gw := Gw_in 598 (by decide +kernel) rfl
theorem wd_600 : (Jvm.Cond.laysFinal "SliceWhyModel" "SliceWhyModel" "failing" "[Z") ∈ Gw := Gw_in 600 (by decide +kernel) rfl
theorem wd_602 : (Jvm.Cond.laysFinal "SliceWhyModel" "SliceWhyModel" "maybe" "[I") ∈ Gw := Gw_in 602 (by decide +kernel) rfl
theorem wd_604 : (Jvm.Cond.lays "SliceWhyModel" "SliceWhyModel" "tests" "I") ∈ Gw := Gw_in 604 (by decide +kernel) rfl
theorem wd_606 : (Jvm.Cond.laysFinal "SliceWhyModel" "SliceWhyModel" "tested" "[I") ∈ Gw := Gw_in 606 (by decide +kernel) rfl
theorem wd_608 : (Jvm.Cond.lays "SliceWhyModel" "SliceWhyModel" "runs" "I") ∈ Gw := Gw_in 608 (by decide +kernel) rfl
theorem wd_610 : (Jvm.Cond.lays "SliceWhyModel" "SliceWhyModel" "seen" "I") ∈ Gw := Gw_in 610 (by decide +kernel) rfl
theorem wd_612 : (Jvm.Cond.laysFinal "SliceWhyModel" "SliceWhyModel" "saw" "[I") ∈ Gw := Gw_in 612 (by decide +kernel) rfl
theorem wd_614 : (Jvm.Cond.lays "SliceWhyModel" "SliceWhyModel" "steps" "I") ∈ Gw := Gw_in 614 (by decide +kernel) rfl
theorem wd_616 : (Jvm.Cond.lays "SliceWhyModel" "SliceWhyModel" "failedAt" "I") ∈ Gw := Gw_in 616 (by decide +kernel) rfl
theorem wd_618 : (Jvm.Cond.laysFinal "SliceWhyModel" "SliceWhyModel" "registers" "[I") ∈ Gw := Gw_in 618 (by decide +kernel) rfl
theorem wd_620 : (Jvm.Cond.lays "SliceWhyModel" "SliceWhyModel" "onWay" "I") ∈ Gw := Gw_in 620 (by decide +kernel) rfl
theorem wd_622 : (Jvm.Cond.laysFinal "SliceWhyModel" "SliceWhyModel" "wayAt" "[I") ∈ Gw := Gw_in 622 (by decide +kernel) rfl
theorem wd_624 : (Jvm.Cond.laysFinal "SliceWhyModel" "SliceWhyModel" "behind" "[I") ∈ Gw := Gw_in 624 (by decide +kernel) rfl
theorem wd_626 : (Jvm.Cond.laysFinal "SliceWhyModel" "SliceWhyModel" "fat" "[I") ∈ Gw := Gw_in 626 (by decide +kernel) rfl
theorem wd_628 : (Jvm.Cond.laysFinal "SliceWhyModel" "SliceWhyModel" "slim" "[I") ∈ Gw := Gw_in 628 (by decide +kernel) rfl
theorem wd_630 : (Jvm.Cond.lays "SliceWhyModel" "SliceWhyModel" "isLooked" "Z") ∈ Gw := Gw_in 630 (by decide +kernel) rfl
theorem wd_632 : (Jvm.Cond.laysFinal "SliceWhyModel" "SliceWhyModel" "far" "[I") ∈ Gw := Gw_in 632 (by decide +kernel) rfl
theorem wd_634 : (Jvm.Cond.laysFinal "SliceWhyModel" "SliceWhyModel" "\x72" "[I") ∈ Gw := Gw_in 634 (by decide +kernel) rfl
theorem wd_636 : (Jvm.Cond.laysFinal "SliceWhyModel" "SliceWhyModel" "items" "[I") ∈ Gw := Gw_in 636 (by decide +kernel) rfl
theorem wd_638 : (Jvm.Cond.laysFinal "SliceWhyModel" "SliceWhyModel" "globals" "[I") ∈ Gw := Gw_in 638 (by decide +kernel) rfl
theorem wd_640 : (Jvm.Cond.laysFinal "SliceWhyModel" "SliceWhyModel" "rowOf" "[I") ∈ Gw := Gw_in 640 (by decide +kernel) rfl
theorem wd_642 : (Jvm.Cond.lays "SliceWhyModel" "SliceWhyModel" "done" "I") ∈ Gw := Gw_in 642 (by decide +kernel) rfl
theorem wd_644 : (Jvm.Cond.lays "SliceWhyModel" "SliceWhyModel" "wrongAt" "I") ∈ Gw := Gw_in 644 (by decide +kernel) rfl
theorem wd_646 : (Jvm.Cond.lays "SliceWhyModel" "SliceWhyModel" "looks" "I") ∈ Gw := Gw_in 646 (by decide +kernel) rfl
theorem wd_648 : (Jvm.Cond.laysFinal "SliceWhyModel" "SliceWhyModel" "looked" "[I") ∈ Gw := Gw_in 648 (by decide +kernel) rfl
theorem wd_650 : (Jvm.Cond.lays "SliceWhyModel" "SliceWhyModel" "tells" "I") ∈ Gw := Gw_in 650 (by decide +kernel) rfl
theorem wd_652 : (Jvm.Cond.lays "SliceWhyModel" "SliceWhyModel" "dueMany" "I") ∈ Gw := Gw_in 652 (by decide +kernel) rfl
theorem wd_654 : (Jvm.Cond.laysFinal "SliceWhyModel" "SliceWhyModel" "due" "[I") ∈ Gw := Gw_in 654 (by decide +kernel) rfl
theorem wd_657 : (Jvm.Cond.methodLink "SliceWhyLaw" (17 : Nat) ({ cls := "SliceWhyModel", name := "line", desc := "(IIII)I" } : Jvm.MethodName)) ∈ Gw := Gw_in 657 (by decide +kernel) rfl
theorem wd_658 : (Jvm.Cond.instanceMethod ({ cls := "SliceWhyModel", name := "line", desc := "(IIII)I" } : Jvm.MethodName)) ∈ Gw := Gw_in 658 (by decide +kernel) rfl
theorem wd_659 : (Jvm.Cond.selects "SliceWhyModel" ({ cls := "SliceWhyModel", name := "line", desc := "(IIII)I" } : Jvm.MethodName) ({ cls := "SliceWhyModel", name := "line", desc := "(IIII)I" } : Jvm.MethodName)) ∈ Gw := Gw_in 659 (by decide +kernel) rfl
theorem wd_660 : (Jvm.Cond.code ({ cls := "SliceWhyModel", name := "line", desc := "(IIII)I" } : Jvm.MethodName) prog_6_method_7_code (5 : Nat) (Option.some Jvm.ClassFile.FieldType.int)) ∈ Gw := Gw_in 660 (by decide +kernel) rfl
theorem wd_661 : (Jvm.Cond.methodLink "SliceWhyModel" (102 : Nat) ({ cls := "SliceWhyModel", name := "fits", desc := "(IIII)Z" } : Jvm.MethodName)) ∈ Gw := Gw_in 661 (by decide +kernel) rfl
theorem wd_662 : (Jvm.Cond.static ({ cls := "SliceWhyModel", name := "fits", desc := "(IIII)Z" } : Jvm.MethodName)) ∈ Gw := Gw_in 662 (by decide +kernel) rfl
theorem wd_663 : (Jvm.Cond.code ({ cls := "SliceWhyModel", name := "fits", desc := "(IIII)Z" } : Jvm.MethodName) prog_6_method_5_code (4 : Nat) (Option.some Jvm.ClassFile.FieldType.boolean)) ∈ Gw := Gw_in 663 (by decide +kernel) rfl
theorem wd_664 : (Jvm.Cond.methodLink "SliceWhyModel" (90 : Nat) ({ cls := "SliceWhyModel", name := "isRegister", desc := "(I)Z" } : Jvm.MethodName)) ∈ Gw := Gw_in 664 (by decide +kernel) rfl
theorem wd_665 : (Jvm.Cond.static ({ cls := "SliceWhyModel", name := "isRegister", desc := "(I)Z" } : Jvm.MethodName)) ∈ Gw := Gw_in 665 (by decide +kernel) rfl
theorem wd_666 : (Jvm.Cond.code ({ cls := "SliceWhyModel", name := "isRegister", desc := "(I)Z" } : Jvm.MethodName) prog_6_method_4_code (1 : Nat) (Option.some Jvm.ClassFile.FieldType.boolean)) ∈ Gw := Gw_in 666 (by decide +kernel) rfl
theorem wd_667 : (Jvm.Cond.constantLong "SliceWhyModel" (88 : Nat) (7 : Int64)) ∈ Gw := Gw_in 667 (by decide +kernel) rfl
theorem wd_668 : (Jvm.Cond.methodLink "SliceWhyModel" (84 : Nat) ({ cls := "SliceWhyModel", name := "in", desc := "(JJJ)Z" } : Jvm.MethodName)) ∈ Gw := Gw_in 668 (by decide +kernel) rfl
theorem wd_669 : (Jvm.Cond.static ({ cls := "SliceWhyModel", name := "in", desc := "(JJJ)Z" } : Jvm.MethodName)) ∈ Gw := Gw_in 669 (by decide +kernel) rfl
theorem wd_670 : (Jvm.Cond.code ({ cls := "SliceWhyModel", name := "in", desc := "(JJJ)Z" } : Jvm.MethodName) prog_6_method_2_code (6 : Nat) (Option.some Jvm.ClassFile.FieldType.boolean)) ∈ Gw := Gw_in 670 (by decide +kernel) rfl
theorem wd_671 : (Jvm.Cond.constantLong "SliceWhyModel" (94 : Nat) (3 : Int64)) ∈ Gw := Gw_in 671 (by decide +kernel) rfl
theorem wd_672 : (Jvm.Cond.constantLong "SliceWhyModel" (96 : Nat) (24 : Int64)) ∈ Gw := Gw_in 672 (by decide +kernel) rfl
theorem wd_673 : (Jvm.Cond.methodLink "SliceWhyModel" (106 : Nat) ({ cls := "SliceWhyModel", name := "write", desc := "(IIIII)V" } : Jvm.MethodName)) ∈ Gw := Gw_in 673 (by decide +kernel) rfl
theorem wd_675 : (Jvm.Cond.instanceMethod ({ cls := "SliceWhyModel", name := "write", desc := "(IIIII)V" } : Jvm.MethodName)) ∈ Gw := Gw_in 675 (by decide +kernel) rfl
theorem wd_676 : (Jvm.Cond.code ({ cls := "SliceWhyModel", name := "write", desc := "(IIIII)V" } : Jvm.MethodName) prog_6_method_6_code (6 : Nat) (Option.none : Option Jvm.ClassFile.FieldType)) ∈ Gw := Gw_in 676 (by decide +kernel) rfl
theorem wd_677 : (Jvm.Cond.methodLink "SliceWhyLaw" (22 : Nat) ({ cls := "SliceWhyModel", name := "change", desc := "(IIIII)I" } : Jvm.MethodName)) ∈ Gw := Gw_in 677 (by decide +kernel) rfl
theorem wd_678 : (Jvm.Cond.instanceMethod ({ cls := "SliceWhyModel", name := "change", desc := "(IIIII)I" } : Jvm.MethodName)) ∈ Gw := Gw_in 678 (by decide +kernel) rfl
theorem wd_679 : (Jvm.Cond.selects "SliceWhyModel" ({ cls := "SliceWhyModel", name := "change", desc := "(IIIII)I" } : Jvm.MethodName) ({ cls := "SliceWhyModel", name := "change", desc := "(IIIII)I" } : Jvm.MethodName)) ∈ Gw := Gw_in 679 (by decide +kernel) rfl
theorem wd_680 : (Jvm.Cond.code ({ cls := "SliceWhyModel", name := "change", desc := "(IIIII)I" } : Jvm.MethodName) prog_6_method_8_code (7 : Nat) (Option.some Jvm.ClassFile.FieldType.int)) ∈ Gw := Gw_in 680 (by decide +kernel) rfl
theorem wd_681 : (Jvm.Cond.methodLink "SliceWhyModel" (110 : Nat) ({ cls := "SliceWhyModel", name := "isPlace", desc := "(I)Z" } : Jvm.MethodName)) ∈ Gw := Gw_in 681 (by decide +kernel) rfl
theorem wd_683 : (Jvm.Cond.instanceMethod ({ cls := "SliceWhyModel", name := "isPlace", desc := "(I)Z" } : Jvm.MethodName)) ∈ Gw := Gw_in 683 (by decide +kernel) rfl
theorem wd_684 : (Jvm.Cond.code ({ cls := "SliceWhyModel", name := "isPlace", desc := "(I)Z" } : Jvm.MethodName) prog_6_method_3_code (2 : Nat) (Option.some Jvm.ClassFile.FieldType.boolean)) ∈ Gw := Gw_in 684 (by decide +kernel) rfl
theorem wd_685 : (Jvm.Cond.methodLink "SliceWhyLaw" (27 : Nat) ({ cls := "SliceWhyModel", name := "drop", desc := "()I" } : Jvm.MethodName)) ∈ Gw := Gw_in 685 (by decide +kernel) rfl
theorem wd_686 : (Jvm.Cond.instanceMethod ({ cls := "SliceWhyModel", name := "drop", desc := "()I" } : Jvm.MethodName)) ∈ Gw := Gw_in 686 (by decide +kernel) rfl
theorem wd_687 : (Jvm.Cond.selects "SliceWhyModel" ({ cls := "SliceWhyModel", name := "drop", desc := "()I" } : Jvm.MethodName) ({ cls := "SliceWhyModel", name := "drop", desc := "()I" } : Jvm.MethodName)) ∈ Gw := Gw_in 687 (by decide +kernel) rfl
theorem wd_688 : (Jvm.Cond.code ({ cls := "SliceWhyModel", name := "drop", desc := "()I" } : Jvm.MethodName) prog_6_method_9_code (1 : Nat) (Option.some Jvm.ClassFile.FieldType.int)) ∈ Gw := Gw_in 688 (by decide +kernel) rfl
theorem wd_689 : (Jvm.Cond.methodLink "SliceWhyLaw" (32 : Nat) ({ cls := "SliceWhyModel", name := "start", desc := "(IIZ)I" } : Jvm.MethodName)) ∈ Gw := Gw_in 689 (by decide +kernel) rfl
theorem wd_690 : (Jvm.Cond.instanceMethod ({ cls := "SliceWhyModel", name := "start", desc := "(IIZ)I" } : Jvm.MethodName)) ∈ Gw := Gw_in 690 (by decide +kernel) rfl
theorem wd_691 : (Jvm.Cond.selects "SliceWhyModel" ({ cls := "SliceWhyModel", name := "start", desc := "(IIZ)I" } : Jvm.MethodName) ({ cls := "SliceWhyModel", name := "start", desc := "(IIZ)I" } : Jvm.MethodName)) ∈ Gw := Gw_in 691 (by decide +kernel) rfl
theorem wd_692 : (Jvm.Cond.code ({ cls := "SliceWhyModel", name := "start", desc := "(IIZ)I" } : Jvm.MethodName) prog_6_method_10_code (4 : Nat) (Option.some Jvm.ClassFile.FieldType.int)) ∈ Gw := Gw_in 692 (by decide +kernel) rfl
theorem wd_693 : (Jvm.Cond.methodLink "SliceWhyLaw" (37 : Nat) ({ cls := "SliceWhyModel", name := "points", desc := "(II)I" } : Jvm.MethodName)) ∈ Gw := Gw_in 693 (by decide +kernel) rfl
theorem wd_694 : (Jvm.Cond.instanceMethod ({ cls := "SliceWhyModel", name := "points", desc := "(II)I" } : Jvm.MethodName)) ∈ Gw := Gw_in 694 (by decide +kernel) rfl
theorem wd_695 : (Jvm.Cond.selects "SliceWhyModel" ({ cls := "SliceWhyModel", name := "points", desc := "(II)I" } : Jvm.MethodName) ({ cls := "SliceWhyModel", name := "points", desc := "(II)I" } : Jvm.MethodName)) ∈ Gw := Gw_in 695 (by decide +kernel) rfl
theorem wd_696 : (Jvm.Cond.code ({ cls := "SliceWhyModel", name := "points", desc := "(II)I" } : Jvm.MethodName) prog_6_method_11_code (4 : Nat) (Option.some Jvm.ClassFile.FieldType.int)) ∈ Gw := Gw_in 696 (by decide +kernel) rfl
theorem wd_697 : (Jvm.Cond.constantLong "SliceWhyModel" (113 : Nat) (15 : Int64)) ∈ Gw := Gw_in 697 (by decide +kernel) rfl
theorem wd_698 : (Jvm.Cond.methodLink "SliceWhyLaw" (41 : Nat) ({ cls := "SliceWhyModel", name := "input", desc := "(II)I" } : Jvm.MethodName)) ∈ Gw := Gw_in 698 (by decide +kernel) rfl
theorem wd_699 : (Jvm.Cond.instanceMethod ({ cls := "SliceWhyModel", name := "input", desc := "(II)I" } : Jvm.MethodName)) ∈ Gw := Gw_in 699 (by decide +kernel) rfl
theorem wd_700 : (Jvm.Cond.selects "SliceWhyModel" ({ cls := "SliceWhyModel", name := "input", desc := "(II)I" } : Jvm.MethodName) ({ cls := "SliceWhyModel", name := "input", desc := "(II)I" } : Jvm.MethodName)) ∈ Gw := Gw_in 700 (by decide +kernel) rfl
theorem wd_701 : (Jvm.Cond.code ({ cls := "SliceWhyModel", name := "input", desc := "(II)I" } : Jvm.MethodName) prog_6_method_12_code (3 : Nat) (Option.some Jvm.ClassFile.FieldType.int)) ∈ Gw := Gw_in 701 (by decide +kernel) rfl
theorem wd_702 : (Jvm.Cond.methodLink "SliceWhyLaw" (66 : Nat) ({ cls := "SliceWhyModel", name := "follows", desc := "(I)I" } : Jvm.MethodName)) ∈ Gw := Gw_in 702 (by decide +kernel) rfl
theorem wd_703 : (Jvm.Cond.instanceMethod ({ cls := "SliceWhyModel", name := "follows", desc := "(I)I" } : Jvm.MethodName)) ∈ Gw := Gw_in 703 (by decide +kernel) rfl
theorem wd_704 : (Jvm.Cond.selects "SliceWhyModel" ({ cls := "SliceWhyModel", name := "follows", desc := "(I)I" } : Jvm.MethodName) ({ cls := "SliceWhyModel", name := "follows", desc := "(I)I" } : Jvm.MethodName)) ∈ Gw := Gw_in 704 (by decide +kernel) rfl
theorem wd_705 : (Jvm.Cond.code ({ cls := "SliceWhyModel", name := "follows", desc := "(I)I" } : Jvm.MethodName) prog_6_method_18_code (2 : Nat) (Option.some Jvm.ClassFile.FieldType.int)) ∈ Gw := Gw_in 705 (by decide +kernel) rfl
theorem wd_706 : (Jvm.Cond.methodLink "SliceWhyModel" (131 : Nat) ({ cls := "SliceWhyModel", name := "followers", desc := "(I)I" } : Jvm.MethodName)) ∈ Gw := Gw_in 706 (by decide +kernel) rfl
theorem wd_708 : (Jvm.Cond.instanceMethod ({ cls := "SliceWhyModel", name := "followers", desc := "(I)I" } : Jvm.MethodName)) ∈ Gw := Gw_in 708 (by decide +kernel) rfl
theorem wd_709 : (Jvm.Cond.code ({ cls := "SliceWhyModel", name := "followers", desc := "(I)I" } : Jvm.MethodName) prog_6_method_17_code (5 : Nat) (Option.some Jvm.ClassFile.FieldType.int)) ∈ Gw := Gw_in 709 (by decide +kernel) rfl
theorem wd_710 : (Jvm.Cond.methodLink "SliceWhyModel" (127 : Nat) ({ cls := "SliceWhyModel", name := "reach", desc := "(IIZ)I" } : Jvm.MethodName)) ∈ Gw := Gw_in 710 (by decide +kernel) rfl
theorem wd_712 : (Jvm.Cond.instanceMethod ({ cls := "SliceWhyModel", name := "reach", desc := "(IIZ)I" } : Jvm.MethodName)) ∈ Gw := Gw_in 712 (by decide +kernel) rfl
theorem wd_713 : (Jvm.Cond.code ({ cls := "SliceWhyModel", name := "reach", desc := "(IIZ)I" } : Jvm.MethodName) prog_6_method_16_code (7 : Nat) (Option.some Jvm.ClassFile.FieldType.int)) ∈ Gw := Gw_in 713 (by decide +kernel) rfl
theorem wd_714 : (Jvm.Cond.methodLink "SliceWhyModel" (123 : Nat) ({ cls := "SliceWhyModel", name := "nexts", desc := "(IZ)I" } : Jvm.MethodName)) ∈ Gw := Gw_in 714 (by decide +kernel) rfl
theorem wd_716 : (Jvm.Cond.instanceMethod ({ cls := "SliceWhyModel", name := "nexts", desc := "(IZ)I" } : Jvm.MethodName)) ∈ Gw := Gw_in 716 (by decide +kernel) rfl
theorem wd_717 : (Jvm.Cond.code ({ cls := "SliceWhyModel", name := "nexts", desc := "(IZ)I" } : Jvm.MethodName) prog_6_method_15_code (5 : Nat) (Option.some Jvm.ClassFile.FieldType.int)) ∈ Gw := Gw_in 717 (by decide +kernel) rfl
theorem wd_718 : (Jvm.Cond.methodLink "SliceWhyModel" (116 : Nat) ({ cls := "SliceWhyModel", name := "place", desc := "(I)I" } : Jvm.MethodName)) ∈ Gw := Gw_in 718 (by decide +kernel) rfl
theorem wd_720 : (Jvm.Cond.instanceMethod ({ cls := "SliceWhyModel", name := "place", desc := "(I)I" } : Jvm.MethodName)) ∈ Gw := Gw_in 720 (by decide +kernel) rfl
theorem wd_721 : (Jvm.Cond.code ({ cls := "SliceWhyModel", name := "place", desc := "(I)I" } : Jvm.MethodName) prog_6_method_13_code (2 : Nat) (Option.some Jvm.ClassFile.FieldType.int)) ∈ Gw := Gw_in 721 (by decide +kernel) rfl
theorem wd_722 : (Jvm.Cond.constant "SliceWhyModel" (115 : Nat) (16777216 : Int32)) ∈ Gw := Gw_in 722 (by decide +kernel) rfl
theorem wd_723 : (Jvm.Cond.methodLink "SliceWhyModel" (120 : Nat) ({ cls := "SliceWhyModel", name := "canFail", desc := "(I)Z" } : Jvm.MethodName)) ∈ Gw := Gw_in 723 (by decide +kernel) rfl
theorem wd_725 : (Jvm.Cond.instanceMethod ({ cls := "SliceWhyModel", name := "canFail", desc := "(I)Z" } : Jvm.MethodName)) ∈ Gw := Gw_in 725 (by decide +kernel) rfl
theorem wd_726 : (Jvm.Cond.code ({ cls := "SliceWhyModel", name := "canFail", desc := "(I)Z" } : Jvm.MethodName) prog_6_method_14_code (2 : Nat) (Option.some Jvm.ClassFile.FieldType.boolean)) ∈ Gw := Gw_in 726 (by decide +kernel) rfl
theorem wd_727 : (Jvm.Cond.methodLink "SliceWhyLaw" (62 : Nat) ({ cls := "SliceWhyModel", name := "slice", desc := "(II)I" } : Jvm.MethodName)) ∈ Gw := Gw_in 727 (by decide +kernel) rfl
theorem wd_728 : (Jvm.Cond.instanceMethod ({ cls := "SliceWhyModel", name := "slice", desc := "(II)I" } : Jvm.MethodName)) ∈ Gw := Gw_in 728 (by decide +kernel) rfl
theorem wd_729 : (Jvm.Cond.selects "SliceWhyModel" ({ cls := "SliceWhyModel", name := "slice", desc := "(II)I" } : Jvm.MethodName) ({ cls := "SliceWhyModel", name := "slice", desc := "(II)I" } : Jvm.MethodName)) ∈ Gw := Gw_in 729 (by decide +kernel) rfl
theorem wd_730 : (Jvm.Cond.code ({ cls := "SliceWhyModel", name := "slice", desc := "(II)I" } : Jvm.MethodName) prog_6_method_30_code (3 : Nat) (Option.some Jvm.ClassFile.FieldType.int)) ∈ Gw := Gw_in 730 (by decide +kernel) rfl
theorem wd_731 : (Jvm.Cond.methodLink "SliceWhyModel" (165 : Nat) ({ cls := "SliceWhyModel", name := "look", desc := "()V" } : Jvm.MethodName)) ∈ Gw := Gw_in 731 (by decide +kernel) rfl
theorem wd_733 : (Jvm.Cond.instanceMethod ({ cls := "SliceWhyModel", name := "look", desc := "()V" } : Jvm.MethodName)) ∈ Gw := Gw_in 733 (by decide +kernel) rfl
theorem wd_734 : (Jvm.Cond.code ({ cls := "SliceWhyModel", name := "look", desc := "()V" } : Jvm.MethodName) prog_6_method_26_code (3 : Nat) (Option.none : Option Jvm.ClassFile.FieldType)) ∈ Gw := Gw_in 734 (by decide +kernel) rfl
theorem wd_735 : (Jvm.Cond.methodLink "SliceWhyModel" (156 : Nat) ({ cls := "SliceWhyModel", name := "hangs", desc := "(IIZ)I" } : Jvm.MethodName)) ∈ Gw := Gw_in 735 (by decide +kernel) rfl
theorem wd_737 : (Jvm.Cond.instanceMethod ({ cls := "SliceWhyModel", name := "hangs", desc := "(IIZ)I" } : Jvm.MethodName)) ∈ Gw := Gw_in 737 (by decide +kernel) rfl
theorem wd_738 : (Jvm.Cond.code ({ cls := "SliceWhyModel", name := "hangs", desc := "(IIZ)I" } : Jvm.MethodName) prog_6_method_24_code (8 : Nat) (Option.some Jvm.ClassFile.FieldType.int)) ∈ Gw := Gw_in 738 (by decide +kernel) rfl
theorem wd_739 : (Jvm.Cond.methodLink "SliceWhyModel" (147 : Nat) ({ cls := "SliceWhyModel", name := "reads", desc := "(IZ)I" } : Jvm.MethodName)) ∈ Gw := Gw_in 739 (by decide +kernel) rfl
theorem wd_741 : (Jvm.Cond.instanceMethod ({ cls := "SliceWhyModel", name := "reads", desc := "(IZ)I" } : Jvm.MethodName)) ∈ Gw := Gw_in 741 (by decide +kernel) rfl
theorem wd_742 : (Jvm.Cond.code ({ cls := "SliceWhyModel", name := "reads", desc := "(IZ)I" } : Jvm.MethodName) prog_6_method_20_code (3 : Nat) (Option.some Jvm.ClassFile.FieldType.int)) ∈ Gw := Gw_in 742 (by decide +kernel) rfl
theorem wd_743 : (Jvm.Cond.methodLink "SliceWhyModel" (150 : Nat) ({ cls := "SliceWhyModel", name := "settersOf", desc := "(II)I" } : Jvm.MethodName)) ∈ Gw := Gw_in 743 (by decide +kernel) rfl
theorem wd_745 : (Jvm.Cond.instanceMethod ({ cls := "SliceWhyModel", name := "settersOf", desc := "(II)I" } : Jvm.MethodName)) ∈ Gw := Gw_in 745 (by decide +kernel) rfl
theorem wd_746 : (Jvm.Cond.code ({ cls := "SliceWhyModel", name := "settersOf", desc := "(II)I" } : Jvm.MethodName) prog_6_method_23_code (6 : Nat) (Option.some Jvm.ClassFile.FieldType.int)) ∈ Gw := Gw_in 746 (by decide +kernel) rfl
theorem wd_747 : (Jvm.Cond.methodLink "SliceWhyModel" (143 : Nat) ({ cls := "SliceWhyModel", name := "sources", desc := "(II)I" } : Jvm.MethodName)) ∈ Gw := Gw_in 747 (by decide +kernel) rfl
theorem wd_749 : (Jvm.Cond.instanceMethod ({ cls := "SliceWhyModel", name := "sources", desc := "(II)I" } : Jvm.MethodName)) ∈ Gw := Gw_in 749 (by decide +kernel) rfl
theorem wd_750 : (Jvm.Cond.code ({ cls := "SliceWhyModel", name := "sources", desc := "(II)I" } : Jvm.MethodName) prog_6_method_21_code (9 : Nat) (Option.some Jvm.ClassFile.FieldType.int)) ∈ Gw := Gw_in 750 (by decide +kernel) rfl
theorem wd_751 : (Jvm.Cond.methodLink "SliceWhyModel" (136 : Nat) ({ cls := "SliceWhyModel", name := "setsIt", desc := "(II)Z" } : Jvm.MethodName)) ∈ Gw := Gw_in 751 (by decide +kernel) rfl
theorem wd_753 : (Jvm.Cond.instanceMethod ({ cls := "SliceWhyModel", name := "setsIt", desc := "(II)Z" } : Jvm.MethodName)) ∈ Gw := Gw_in 753 (by decide +kernel) rfl
theorem wd_754 : (Jvm.Cond.code ({ cls := "SliceWhyModel", name := "setsIt", desc := "(II)Z" } : Jvm.MethodName) prog_6_method_22_code (3 : Nat) (Option.some Jvm.ClassFile.FieldType.boolean)) ∈ Gw := Gw_in 754 (by decide +kernel) rfl
theorem wd_755 : (Jvm.Cond.methodLink "SliceWhyModel" (140 : Nat) ({ cls := "SliceWhyModel", name := "sets", desc := "(I)I" } : Jvm.MethodName)) ∈ Gw := Gw_in 755 (by decide +kernel) rfl
theorem wd_757 : (Jvm.Cond.instanceMethod ({ cls := "SliceWhyModel", name := "sets", desc := "(I)I" } : Jvm.MethodName)) ∈ Gw := Gw_in 757 (by decide +kernel) rfl
theorem wd_758 : (Jvm.Cond.code ({ cls := "SliceWhyModel", name := "sets", desc := "(I)I" } : Jvm.MethodName) prog_6_method_19_code (3 : Nat) (Option.some Jvm.ClassFile.FieldType.int)) ∈ Gw := Gw_in 758 (by decide +kernel) rfl
theorem wd_759 : (Jvm.Cond.constantLong "SliceWhyModel" (134 : Nat) (6 : Int64)) ∈ Gw := Gw_in 759 (by decide +kernel) rfl
theorem wd_760 : (Jvm.Cond.methodLink "SliceWhyModel" (153 : Nat) ({ cls := "SliceWhyModel", name := "controls", desc := "(I)I" } : Jvm.MethodName)) ∈ Gw := Gw_in 760 (by decide +kernel) rfl
theorem wd_762 : (Jvm.Cond.instanceMethod ({ cls := "SliceWhyModel", name := "controls", desc := "(I)I" } : Jvm.MethodName)) ∈ Gw := Gw_in 762 (by decide +kernel) rfl
theorem wd_763 : (Jvm.Cond.code ({ cls := "SliceWhyModel", name := "controls", desc := "(I)I" } : Jvm.MethodName) prog_6_method_25_code (6 : Nat) (Option.some Jvm.ClassFile.FieldType.int)) ∈ Gw := Gw_in 763 (by decide +kernel) rfl
theorem wd_764 : (Jvm.Cond.methodLink "SliceWhyModel" (162 : Nat) ({ cls := "SliceWhyModel", name := "back", desc := "(IZ)I" } : Jvm.MethodName)) ∈ Gw := Gw_in 764 (by decide +kernel) rfl
theorem wd_766 : (Jvm.Cond.instanceMethod ({ cls := "SliceWhyModel", name := "back", desc := "(IZ)I" } : Jvm.MethodName)) ∈ Gw := Gw_in 766 (by decide +kernel) rfl
theorem wd_767 : (Jvm.Cond.code ({ cls := "SliceWhyModel", name := "back", desc := "(IZ)I" } : Jvm.MethodName) prog_6_method_28_code (6 : Nat) (Option.some Jvm.ClassFile.FieldType.int)) ∈ Gw := Gw_in 767 (by decide +kernel) rfl
theorem wd_768 : (Jvm.Cond.methodLink "SliceWhyModel" (159 : Nat) ({ cls := "SliceWhyModel", name := "on", desc := "(IZ)I" } : Jvm.MethodName)) ∈ Gw := Gw_in 768 (by decide +kernel) rfl
theorem wd_770 : (Jvm.Cond.instanceMethod ({ cls := "SliceWhyModel", name := "on", desc := "(IZ)I" } : Jvm.MethodName)) ∈ Gw := Gw_in 770 (by decide +kernel) rfl
theorem wd_771 : (Jvm.Cond.code ({ cls := "SliceWhyModel", name := "on", desc := "(IZ)I" } : Jvm.MethodName) prog_6_method_27_code (5 : Nat) (Option.some Jvm.ClassFile.FieldType.int)) ∈ Gw := Gw_in 771 (by decide +kernel) rfl
theorem wd_772 : (Jvm.Cond.methodLink "SliceWhyModel" (168 : Nat) ({ cls := "SliceWhyModel", name := "forward", desc := "(IZ)I" } : Jvm.MethodName)) ∈ Gw := Gw_in 772 (by decide +kernel) rfl
theorem wd_774 : (Jvm.Cond.instanceMethod ({ cls := "SliceWhyModel", name := "forward", desc := "(IZ)I" } : Jvm.MethodName)) ∈ Gw := Gw_in 774 (by decide +kernel) rfl
theorem wd_775 : (Jvm.Cond.code ({ cls := "SliceWhyModel", name := "forward", desc := "(IZ)I" } : Jvm.MethodName) prog_6_method_29_code (5 : Nat) (Option.some Jvm.ClassFile.FieldType.int)) ∈ Gw := Gw_in 775 (by decide +kernel) rfl
theorem wd_776 : (Jvm.Cond.methodLink "SliceWhyLaw" (70 : Nat) ({ cls := "SliceWhyModel", name := "causes", desc := "(I)I" } : Jvm.MethodName)) ∈ Gw := Gw_in 776 (by decide +kernel) rfl
theorem wd_777 : (Jvm.Cond.instanceMethod ({ cls := "SliceWhyModel", name := "causes", desc := "(I)I" } : Jvm.MethodName)) ∈ Gw := Gw_in 777 (by decide +kernel) rfl
theorem wd_778 : (Jvm.Cond.selects "SliceWhyModel" ({ cls := "SliceWhyModel", name := "causes", desc := "(I)I" } : Jvm.MethodName) ({ cls := "SliceWhyModel", name := "causes", desc := "(I)I" } : Jvm.MethodName)) ∈ Gw := Gw_in 778 (by decide +kernel) rfl
theorem wd_779 : (Jvm.Cond.code ({ cls := "SliceWhyModel", name := "causes", desc := "(I)I" } : Jvm.MethodName) prog_6_method_31_code (4 : Nat) (Option.some Jvm.ClassFile.FieldType.int)) ∈ Gw := Gw_in 779 (by decide +kernel) rfl
theorem wd_780 : (Jvm.Cond.methodLink "SliceWhyLaw" (75 : Nat) ({ cls := "SliceWhyModel", name := "cause", desc := "(III)I" } : Jvm.MethodName)) ∈ Gw := Gw_in 780 (by decide +kernel) rfl
theorem wd_781 : (Jvm.Cond.instanceMethod ({ cls := "SliceWhyModel", name := "cause", desc := "(III)I" } : Jvm.MethodName)) ∈ Gw := Gw_in 781 (by decide +kernel) rfl
theorem wd_782 : (Jvm.Cond.selects "SliceWhyModel" ({ cls := "SliceWhyModel", name := "cause", desc := "(III)I" } : Jvm.MethodName) ({ cls := "SliceWhyModel", name := "cause", desc := "(III)I" } : Jvm.MethodName)) ∈ Gw := Gw_in 782 (by decide +kernel) rfl
theorem wd_783 : (Jvm.Cond.code ({ cls := "SliceWhyModel", name := "cause", desc := "(III)I" } : Jvm.MethodName) prog_6_method_32_code (6 : Nat) (Option.some Jvm.ClassFile.FieldType.int)) ∈ Gw := Gw_in 783 (by decide +kernel) rfl
theorem wd_784 : (Jvm.Cond.methodLink "SliceWhyLaw" (79 : Nat) ({ cls := "SliceWhyModel", name := "chop", desc := "(II)I" } : Jvm.MethodName)) ∈ Gw := Gw_in 784 (by decide +kernel) rfl
theorem wd_785 : (Jvm.Cond.instanceMethod ({ cls := "SliceWhyModel", name := "chop", desc := "(II)I" } : Jvm.MethodName)) ∈ Gw := Gw_in 785 (by decide +kernel) rfl
theorem wd_786 : (Jvm.Cond.selects "SliceWhyModel" ({ cls := "SliceWhyModel", name := "chop", desc := "(II)I" } : Jvm.MethodName) ({ cls := "SliceWhyModel", name := "chop", desc := "(II)I" } : Jvm.MethodName)) ∈ Gw := Gw_in 786 (by decide +kernel) rfl
theorem wd_787 : (Jvm.Cond.code ({ cls := "SliceWhyModel", name := "chop", desc := "(II)I" } : Jvm.MethodName) prog_6_method_33_code (3 : Nat) (Option.some Jvm.ClassFile.FieldType.int)) ∈ Gw := Gw_in 787 (by decide +kernel) rfl
theorem wd_788 : (Jvm.Cond.methodLink "SliceWhyLaw" (83 : Nat) ({ cls := "SliceWhyModel", name := "way", desc := "(II)I" } : Jvm.MethodName)) ∈ Gw := Gw_in 788 (by decide +kernel) rfl
theorem wd_789 : (Jvm.Cond.instanceMethod ({ cls := "SliceWhyModel", name := "way", desc := "(II)I" } : Jvm.MethodName)) ∈ Gw := Gw_in 789 (by decide +kernel) rfl
theorem wd_790 : (Jvm.Cond.selects "SliceWhyModel" ({ cls := "SliceWhyModel", name := "way", desc := "(II)I" } : Jvm.MethodName) ({ cls := "SliceWhyModel", name := "way", desc := "(II)I" } : Jvm.MethodName)) ∈ Gw := Gw_in 790 (by decide +kernel) rfl
theorem wd_791 : (Jvm.Cond.code ({ cls := "SliceWhyModel", name := "way", desc := "(II)I" } : Jvm.MethodName) prog_6_method_34_code (7 : Nat) (Option.some Jvm.ClassFile.FieldType.int)) ∈ Gw := Gw_in 791 (by decide +kernel) rfl
theorem wd_792 : (Jvm.Cond.methodLink "SliceWhyLaw" (87 : Nat) ({ cls := "SliceWhyModel", name := "on", desc := "(I)I" } : Jvm.MethodName)) ∈ Gw := Gw_in 792 (by decide +kernel) rfl
theorem wd_793 : (Jvm.Cond.instanceMethod ({ cls := "SliceWhyModel", name := "on", desc := "(I)I" } : Jvm.MethodName)) ∈ Gw := Gw_in 793 (by decide +kernel) rfl
theorem wd_794 : (Jvm.Cond.selects "SliceWhyModel" ({ cls := "SliceWhyModel", name := "on", desc := "(I)I" } : Jvm.MethodName) ({ cls := "SliceWhyModel", name := "on", desc := "(I)I" } : Jvm.MethodName)) ∈ Gw := Gw_in 794 (by decide +kernel) rfl
theorem wd_795 : (Jvm.Cond.code ({ cls := "SliceWhyModel", name := "on", desc := "(I)I" } : Jvm.MethodName) prog_6_method_35_code (2 : Nat) (Option.some Jvm.ClassFile.FieldType.int)) ∈ Gw := Gw_in 795 (by decide +kernel) rfl
theorem wd_796 : (Jvm.Cond.methodLink "SliceWhyLaw" (45 : Nat) ({ cls := "SliceWhyModel", name := "run", desc := "(II)I" } : Jvm.MethodName)) ∈ Gw := Gw_in 796 (by decide +kernel) rfl
theorem wd_797 : (Jvm.Cond.instanceMethod ({ cls := "SliceWhyModel", name := "run", desc := "(II)I" } : Jvm.MethodName)) ∈ Gw := Gw_in 797 (by decide +kernel) rfl
theorem wd_798 : (Jvm.Cond.selects "SliceWhyModel" ({ cls := "SliceWhyModel", name := "run", desc := "(II)I" } : Jvm.MethodName) ({ cls := "SliceWhyModel", name := "run", desc := "(II)I" } : Jvm.MethodName)) ∈ Gw := Gw_in 798 (by decide +kernel) rfl
theorem wd_799 : (Jvm.Cond.code ({ cls := "SliceWhyModel", name := "run", desc := "(II)I" } : Jvm.MethodName) prog_6_method_40_code (5 : Nat) (Option.some Jvm.ClassFile.FieldType.int)) ∈ Gw := Gw_in 799 (by decide +kernel) rfl
theorem wd_800 : (Jvm.Cond.constant "SliceWhyModel" (202 : Nat) (16777215 : Int32)) ∈ Gw := Gw_in 800 (by decide +kernel) rfl
theorem wd_801 : (Jvm.Cond.methodLink "SliceWhyModel" (203 : Nat) ({ cls := "SliceWhyModel", name := "go", desc := "(II[II)I" } : Jvm.MethodName)) ∈ Gw := Gw_in 801 (by decide +kernel) rfl
theorem wd_803 : (Jvm.Cond.instanceMethod ({ cls := "SliceWhyModel", name := "go", desc := "(II[II)I" } : Jvm.MethodName)) ∈ Gw := Gw_in 803 (by decide +kernel) rfl
theorem wd_804 : (Jvm.Cond.code ({ cls := "SliceWhyModel", name := "go", desc := "(II[II)I" } : Jvm.MethodName) prog_6_method_39_code (8 : Nat) (Option.some Jvm.ClassFile.FieldType.int)) ∈ Gw := Gw_in 804 (by decide +kernel) rfl
theorem wd_805 : (Jvm.Cond.methodLink "SliceWhyModel" (191 : Nat) ({ cls := "SliceWhyModel", name := "begin", desc := "([II)V" } : Jvm.MethodName)) ∈ Gw := Gw_in 805 (by decide +kernel) rfl
theorem wd_807 : (Jvm.Cond.instanceMethod ({ cls := "SliceWhyModel", name := "begin", desc := "([II)V" } : Jvm.MethodName)) ∈ Gw := Gw_in 807 (by decide +kernel) rfl
theorem wd_808 : (Jvm.Cond.code ({ cls := "SliceWhyModel", name := "begin", desc := "([II)V" } : Jvm.MethodName) prog_6_method_37_code (6 : Nat) (Option.none : Option Jvm.ClassFile.FieldType)) ∈ Gw := Gw_in 808 (by decide +kernel) rfl
theorem wd_809 : (Jvm.Cond.constant "SliceWhyModel" (174 : Nat) (2147483647 : Int32)) ∈ Gw := Gw_in 809 (by decide +kernel) rfl
theorem wd_810 : (Jvm.Cond.methodLink "SliceWhyModel" (175 : Nat) ({ cls := "SliceWhyModel", name := "many", desc := "(I)I" } : Jvm.MethodName)) ∈ Gw := Gw_in 810 (by decide +kernel) rfl
theorem wd_811 : (Jvm.Cond.static ({ cls := "SliceWhyModel", name := "many", desc := "(I)I" } : Jvm.MethodName)) ∈ Gw := Gw_in 811 (by decide +kernel) rfl
theorem wd_812 : (Jvm.Cond.code ({ cls := "SliceWhyModel", name := "many", desc := "(I)I" } : Jvm.MethodName) prog_6_method_36_code (3 : Nat) (Option.some Jvm.ClassFile.FieldType.int)) ∈ Gw := Gw_in 812 (by decide +kernel) rfl
theorem wd_813 : (Jvm.Cond.methodLink "SliceWhyModel" (195 : Nat) ({ cls := "SliceWhyModel", name := "does", desc := "(I[II)Z" } : Jvm.MethodName)) ∈ Gw := Gw_in 813 (by decide +kernel) rfl
theorem wd_815 : (Jvm.Cond.instanceMethod ({ cls := "SliceWhyModel", name := "does", desc := "(I[II)Z" } : Jvm.MethodName)) ∈ Gw := Gw_in 815 (by decide +kernel) rfl
theorem wd_816 : (Jvm.Cond.code ({ cls := "SliceWhyModel", name := "does", desc := "(I[II)Z" } : Jvm.MethodName) prog_6_method_38_code (8 : Nat) (Option.some Jvm.ClassFile.FieldType.boolean)) ∈ Gw := Gw_in 816 (by decide +kernel) rfl
theorem wd_817 : (Jvm.Cond.constant "SliceWhyModel" (187 : Nat) (1000000007 : Int32)) ∈ Gw := Gw_in 817 (by decide +kernel) rfl
theorem wd_818 : (Jvm.Cond.methodLink "SliceWhyLaw" (49 : Nat) ({ cls := "SliceWhyModel", name := "seen", desc := "()I" } : Jvm.MethodName)) ∈ Gw := Gw_in 818 (by decide +kernel) rfl
theorem wd_819 : (Jvm.Cond.instanceMethod ({ cls := "SliceWhyModel", name := "seen", desc := "()I" } : Jvm.MethodName)) ∈ Gw := Gw_in 819 (by decide +kernel) rfl
theorem wd_820 : (Jvm.Cond.selects "SliceWhyModel" ({ cls := "SliceWhyModel", name := "seen", desc := "()I" } : Jvm.MethodName) ({ cls := "SliceWhyModel", name := "seen", desc := "()I" } : Jvm.MethodName)) ∈ Gw := Gw_in 820 (by decide +kernel) rfl
theorem wd_821 : (Jvm.Cond.code ({ cls := "SliceWhyModel", name := "seen", desc := "()I" } : Jvm.MethodName) prog_6_method_41_code (1 : Nat) (Option.some Jvm.ClassFile.FieldType.int)) ∈ Gw := Gw_in 821 (by decide +kernel) rfl
theorem wd_822 : (Jvm.Cond.methodLink "SliceWhyLaw" (54 : Nat) ({ cls := "SliceWhyModel", name := "saw", desc := "(I)I" } : Jvm.MethodName)) ∈ Gw := Gw_in 822 (by decide +kernel) rfl
theorem wd_823 : (Jvm.Cond.instanceMethod ({ cls := "SliceWhyModel", name := "saw", desc := "(I)I" } : Jvm.MethodName)) ∈ Gw := Gw_in 823 (by decide +kernel) rfl
theorem wd_824 : (Jvm.Cond.selects "SliceWhyModel" ({ cls := "SliceWhyModel", name := "saw", desc := "(I)I" } : Jvm.MethodName) ({ cls := "SliceWhyModel", name := "saw", desc := "(I)I" } : Jvm.MethodName)) ∈ Gw := Gw_in 824 (by decide +kernel) rfl
theorem wd_825 : (Jvm.Cond.code ({ cls := "SliceWhyModel", name := "saw", desc := "(I)I" } : Jvm.MethodName) prog_6_method_42_code (2 : Nat) (Option.some Jvm.ClassFile.FieldType.int)) ∈ Gw := Gw_in 825 (by decide +kernel) rfl
theorem wd_826 : (Jvm.Cond.methodLink "SliceWhyLaw" (58 : Nat) ({ cls := "SliceWhyModel", name := "left", desc := "(I)I" } : Jvm.MethodName)) ∈ Gw := Gw_in 826 (by decide +kernel) rfl
theorem wd_827 : (Jvm.Cond.instanceMethod ({ cls := "SliceWhyModel", name := "left", desc := "(I)I" } : Jvm.MethodName)) ∈ Gw := Gw_in 827 (by decide +kernel) rfl
theorem wd_828 : (Jvm.Cond.selects "SliceWhyModel" ({ cls := "SliceWhyModel", name := "left", desc := "(I)I" } : Jvm.MethodName) ({ cls := "SliceWhyModel", name := "left", desc := "(I)I" } : Jvm.MethodName)) ∈ Gw := Gw_in 828 (by decide +kernel) rfl
theorem wd_829 : (Jvm.Cond.code ({ cls := "SliceWhyModel", name := "left", desc := "(I)I" } : Jvm.MethodName) prog_6_method_43_code (2 : Nat) (Option.some Jvm.ClassFile.FieldType.int)) ∈ Gw := Gw_in 829 (by decide +kernel) rfl
theorem wd_830 : (Jvm.Cond.constantLong "SliceWhyModel" (213 : Nat) (2 : Int64)) ∈ Gw := Gw_in 830 (by decide +kernel) rfl
theorem wd_831 : (Jvm.Cond.constantLong "SliceWhyModel" (215 : Nat) (9 : Int64)) ∈ Gw := Gw_in 831 (by decide +kernel) rfl
theorem wd_832 : (Jvm.Cond.methodLink "SliceWhyLaw" (91 : Nat) ({ cls := "SliceWhyModel", name := "same", desc := "(I)I" } : Jvm.MethodName)) ∈ Gw := Gw_in 832 (by decide +kernel) rfl
theorem wd_833 : (Jvm.Cond.instanceMethod ({ cls := "SliceWhyModel", name := "same", desc := "(I)I" } : Jvm.MethodName)) ∈ Gw := Gw_in 833 (by decide +kernel) rfl
theorem wd_834 : (Jvm.Cond.selects "SliceWhyModel" ({ cls := "SliceWhyModel", name := "same", desc := "(I)I" } : Jvm.MethodName) ({ cls := "SliceWhyModel", name := "same", desc := "(I)I" } : Jvm.MethodName)) ∈ Gw := Gw_in 834 (by decide +kernel) rfl
theorem wd_835 : (Jvm.Cond.code ({ cls := "SliceWhyModel", name := "same", desc := "(I)I" } : Jvm.MethodName) prog_6_method_46_code (2 : Nat) (Option.some Jvm.ClassFile.FieldType.int)) ∈ Gw := Gw_in 835 (by decide +kernel) rfl
theorem wd_836 : (Jvm.Cond.methodLink "SliceWhyModel" (220 : Nat) ({ cls := "SliceWhyModel", name := "whole", desc := "(I[II)I" } : Jvm.MethodName)) ∈ Gw := Gw_in 836 (by decide +kernel) rfl
theorem wd_838 : (Jvm.Cond.instanceMethod ({ cls := "SliceWhyModel", name := "whole", desc := "(I[II)I" } : Jvm.MethodName)) ∈ Gw := Gw_in 838 (by decide +kernel) rfl
theorem wd_839 : (Jvm.Cond.code ({ cls := "SliceWhyModel", name := "whole", desc := "(I[II)I" } : Jvm.MethodName) prog_6_method_44_code (6 : Nat) (Option.some Jvm.ClassFile.FieldType.int)) ∈ Gw := Gw_in 839 (by decide +kernel) rfl
theorem wd_840 : (Jvm.Cond.methodLink "SliceWhyModel" (224 : Nat) ({ cls := "SliceWhyModel", name := "isSame", desc := "()Z" } : Jvm.MethodName)) ∈ Gw := Gw_in 840 (by decide +kernel) rfl
theorem wd_842 : (Jvm.Cond.instanceMethod ({ cls := "SliceWhyModel", name := "isSame", desc := "()Z" } : Jvm.MethodName)) ∈ Gw := Gw_in 842 (by decide +kernel) rfl
theorem wd_843 : (Jvm.Cond.code ({ cls := "SliceWhyModel", name := "isSame", desc := "()Z" } : Jvm.MethodName) prog_6_method_45_code (3 : Nat) (Option.some Jvm.ClassFile.FieldType.boolean)) ∈ Gw := Gw_in 843 (by decide +kernel) rfl
theorem wd_844 : (Jvm.Cond.methodLink "SliceWhyLaw" (95 : Nat) ({ cls := "SliceWhyModel", name := "test", desc := "()I" } : Jvm.MethodName)) ∈ Gw := Gw_in 844 (by decide +kernel) rfl
theorem wd_845 : (Jvm.Cond.instanceMethod ({ cls := "SliceWhyModel", name := "test", desc := "()I" } : Jvm.MethodName)) ∈ Gw := Gw_in 845 (by decide +kernel) rfl
theorem wd_846 : (Jvm.Cond.selects "SliceWhyModel" ({ cls := "SliceWhyModel", name := "test", desc := "()I" } : Jvm.MethodName) ({ cls := "SliceWhyModel", name := "test", desc := "()I" } : Jvm.MethodName)) ∈ Gw := Gw_in 846 (by decide +kernel) rfl
theorem wd_847 : (Jvm.Cond.code ({ cls := "SliceWhyModel", name := "test", desc := "()I" } : Jvm.MethodName) prog_6_method_47_code (2 : Nat) (Option.some Jvm.ClassFile.FieldType.int)) ∈ Gw := Gw_in 847 (by decide +kernel) rfl
theorem wd_848 : (Jvm.Cond.methodLink "SliceWhyLaw" (99 : Nat) ({ cls := "SliceWhyModel", name := "untest", desc := "()I" } : Jvm.MethodName)) ∈ Gw := Gw_in 848 (by decide +kernel) rfl
theorem wd_849 : (Jvm.Cond.instanceMethod ({ cls := "SliceWhyModel", name := "untest", desc := "()I" } : Jvm.MethodName)) ∈ Gw := Gw_in 849 (by decide +kernel) rfl
theorem wd_850 : (Jvm.Cond.selects "SliceWhyModel" ({ cls := "SliceWhyModel", name := "untest", desc := "()I" } : Jvm.MethodName) ({ cls := "SliceWhyModel", name := "untest", desc := "()I" } : Jvm.MethodName)) ∈ Gw := Gw_in 850 (by decide +kernel) rfl
theorem wd_851 : (Jvm.Cond.code ({ cls := "SliceWhyModel", name := "untest", desc := "()I" } : Jvm.MethodName) prog_6_method_48_code (2 : Nat) (Option.some Jvm.ClassFile.FieldType.int)) ∈ Gw := Gw_in 851 (by decide +kernel) rfl
theorem wd_852 : (Jvm.Cond.methodLink "SliceWhyLaw" (103 : Nat) ({ cls := "SliceWhyModel", name := "least", desc := "(I)I" } : Jvm.MethodName)) ∈ Gw := Gw_in 852 (by decide +kernel) rfl
theorem wd_853 : (Jvm.Cond.instanceMethod ({ cls := "SliceWhyModel", name := "least", desc := "(I)I" } : Jvm.MethodName)) ∈ Gw := Gw_in 853 (by decide +kernel) rfl
theorem wd_854 : (Jvm.Cond.selects "SliceWhyModel" ({ cls := "SliceWhyModel", name := "least", desc := "(I)I" } : Jvm.MethodName) ({ cls := "SliceWhyModel", name := "least", desc := "(I)I" } : Jvm.MethodName)) ∈ Gw := Gw_in 854 (by decide +kernel) rfl
theorem wd_855 : (Jvm.Cond.code ({ cls := "SliceWhyModel", name := "least", desc := "(I)I" } : Jvm.MethodName) prog_6_method_50_code (6 : Nat) (Option.some Jvm.ClassFile.FieldType.int)) ∈ Gw := Gw_in 855 (by decide +kernel) rfl
theorem wd_856 : (Jvm.Cond.methodLink "SliceWhyModel" (231 : Nat) ({ cls := "SliceWhyModel", name := "agrees", desc := "(II)Z" } : Jvm.MethodName)) ∈ Gw := Gw_in 856 (by decide +kernel) rfl
theorem wd_858 : (Jvm.Cond.instanceMethod ({ cls := "SliceWhyModel", name := "agrees", desc := "(II)Z" } : Jvm.MethodName)) ∈ Gw := Gw_in 858 (by decide +kernel) rfl
theorem wd_859 : (Jvm.Cond.code ({ cls := "SliceWhyModel", name := "agrees", desc := "(II)Z" } : Jvm.MethodName) prog_6_method_49_code (6 : Nat) (Option.some Jvm.ClassFile.FieldType.boolean)) ∈ Gw := Gw_in 859 (by decide +kernel) rfl
theorem wd_860 : (Jvm.Cond.methodLink "SliceWhyLaw" (107 : Nat) ({ cls := "SliceWhyModel", name := "count", desc := "(I)I" } : Jvm.MethodName)) ∈ Gw := Gw_in 860 (by decide +kernel) rfl
theorem wd_861 : (Jvm.Cond.instanceMethod ({ cls := "SliceWhyModel", name := "count", desc := "(I)I" } : Jvm.MethodName)) ∈ Gw := Gw_in 861 (by decide +kernel) rfl
theorem wd_862 : (Jvm.Cond.selects "SliceWhyModel" ({ cls := "SliceWhyModel", name := "count", desc := "(I)I" } : Jvm.MethodName) ({ cls := "SliceWhyModel", name := "count", desc := "(I)I" } : Jvm.MethodName)) ∈ Gw := Gw_in 862 (by decide +kernel) rfl
theorem wd_863 : (Jvm.Cond.code ({ cls := "SliceWhyModel", name := "count", desc := "(I)I" } : Jvm.MethodName) prog_6_method_51_code (2 : Nat) (Option.some Jvm.ClassFile.FieldType.int)) ∈ Gw := Gw_in 863 (by decide +kernel) rfl
set_option maxRecDepth 20000 in
theorem inX0 : ∀ w ∈ u_ws RX0 TX0 9, w ∈ Gw := by decide +kernel
set_option maxRecDepth 20000 in
theorem inX1 : ∀ w ∈ u_ws RX1 TX1 8, w ∈ Gw := by decide +kernel
set_option maxRecDepth 20000 in
theorem inX2 : ∀ w ∈ u_ws RX2 TX2 10, w ∈ Gw := by decide +kernel
set_option maxRecDepth 20000 in
theorem inX3 : ∀ w ∈ u_ws RX3 TX3 12, w ∈ Gw := by decide +kernel
set_option maxRecDepth 20000 in
theorem inX4 : ∀ w ∈ u_ws RX4 TX4 35, w ∈ Gw := by decide +kernel
end
section
/-! bits (first family pasted), worlds, a few more rows -/
def bt (x : Int32) (i : Nat) : Bool := x.toBitVec.getLsbD i
theorem b_ext {x y : Int32} (h : ∀ i, i < 32 → bt x i = bt y i) : x = y := Int32.toBitVec_inj.mp (BitVec.eq_of_getLsbD_eq (fun i hi => h i hi))
theorem b_or (x y : Int32) (i : Nat) : bt (x ||| y) i = (bt x i || bt y i) := by unfold bt; rw [Int32.toBitVec_or, BitVec.getLsbD_or]
theorem b_and (x y : Int32) (i : Nat) : bt (x &&& y) i = (bt x i && bt y i) := by unfold bt; rw [Int32.toBitVec_and, BitVec.getLsbD_and]
theorem b_xor (x y : Int32) (i : Nat) : bt (x ^^^ y) i = (bt x i ^^ bt y i) := by unfold bt; rw [Int32.toBitVec_xor, BitVec.getLsbD_xor]
theorem b_big {x : Int32} {i : Nat} (h : 32 ≤ i) : bt x i = false := BitVec.getLsbD_of_ge _ _ h
theorem b_255 (i : Nat) : bt 255 i = decide (i < 8) := by
  rcases Nat.lt_or_ge i 32 with h | h
  · exact (by decide +kernel : ∀ i, i < 32 → bt 255 i = decide (i < 8)) i h
  · rw [b_big h, decide_eq_false (by omega)]
theorem b_65535 (i : Nat) : bt 65535 i = decide (i < 16) := by
  rcases Nat.lt_or_ge i 32 with h | h
  · exact (by decide +kernel : ∀ i, i < 32 → bt 65535 i = decide (i < 16)) i h
  · rw [b_big h, decide_eq_false (by omega)]
theorem b_m1 : ∀ i, i < 32 → bt (-1) i = true := by decide +kernel
theorem b_0 (i : Nat) : bt 0 i = false := BitVec.getLsbD_zero
theorem s_l : ∀ n, n < 32 → ((nI n &&& 31).toBitVec.smod 32).toNat = n := by decide +kernel
theorem s_u : ∀ n, n < 32 → (((nI n).toUInt32 &&& Int32.toUInt32 31).toBitVec % 32).toNat = n := by decide +kernel
theorem b_shl (n : Nat) (hn : n < 32) (x : Int32) {i : Nat} (hi : i < 32) : bt (x <<< (nI n &&& 31)) i = (decide (n ≤ i) && bt x (i - n)) := by
  unfold bt
  rw [Int32.toBitVec_shiftLeft]
  show (x.toBitVec <<< ((nI n &&& 31).toBitVec.smod 32).toNat).getLsbD i = _
  rw [s_l n hn, BitVec.getLsbD_shiftLeft]
  rcases Nat.lt_or_ge i n with h | h
  · simp [h, Nat.not_le.mpr h]
  · simp [hi, h, Nat.not_lt.mpr h]
theorem b_ushr (n : Nat) (hn : n < 32) (x : Int32) (i : Nat) : bt ((x.toUInt32 >>> ((nI n).toUInt32 &&& Int32.toUInt32 31)).toInt32) i = bt x (n + i) := by
  show (x.toUInt32 >>> ((nI n).toUInt32 &&& Int32.toUInt32 31)).toBitVec.getLsbD i = x.toUInt32.toBitVec.getLsbD (n + i)
  rw [UInt32.toBitVec_shiftRight]
  show (x.toUInt32.toBitVec >>> (((nI n).toUInt32 &&& Int32.toUInt32 31).toBitVec % 32).toNat).getLsbD i = _
  rw [s_u n hn, BitVec.getLsbD_ushiftRight]
theorem b_sshr (n : Nat) (hn : n < 32) (x : Int32) {i : Nat} (hi : i < 32) : bt (x >>> (nI n &&& 31)) i = if n + i < 32 then bt x (n + i) else bt x 31 := by
  unfold bt
  rw [Int32.toBitVec_shiftRight]
  show (x.toBitVec.sshiftRight ((nI n &&& 31).toBitVec.smod 32).toNat).getLsbD i = _
  rw [s_l n hn, BitVec.getLsbD_sshiftRight, BitVec.msb_eq_getLsbD_last]
  simp [hi]
theorem b_shl8 (x : Int32) {i : Nat} (hi : i < 32) : bt (x <<< ((8 : Int32) &&& 31)) i = (decide (8 ≤ i) && bt x (i - 8)) := b_shl 8 (by omega) x hi
theorem b_shl16 (x : Int32) {i : Nat} (hi : i < 32) : bt (x <<< ((16 : Int32) &&& 31)) i = (decide (16 ≤ i) && bt x (i - 16)) := b_shl 16 (by omega) x hi
theorem b_shl24 (x : Int32) {i : Nat} (hi : i < 32) : bt (x <<< ((24 : Int32) &&& 31)) i = (decide (24 ≤ i) && bt x (i - 24)) := b_shl 24 (by omega) x hi
theorem b_sshr8 (x : Int32) {i : Nat} (hi : i < 32) : bt (x >>> ((8 : Int32) &&& 31)) i = if 8 + i < 32 then bt x (8 + i) else bt x 31 := b_sshr 8 (by omega) x hi
def bitI (p : Nat) : Int32 := (1 : Int32) <<< (nI p &&& 31)
theorem bt_one : ∀ i, i < 32 → bt 1 i = decide (i = 0) := by decide +kernel
theorem b_bit {p i : Nat} (hp : p < 32) : bt (bitI p) i = decide (i = p) := by
  rcases Nat.lt_or_ge i 32 with hi | hi
  · unfold bitI
    rw [b_shl p hp 1 hi, bt_one _ (by omega)]
    by_cases h : i = p
    · subst h; simp
    · rcases Nat.lt_or_ge i p with h1 | h1
      · simp [h, Nat.not_le.mpr h1]
      · simp [h, h1, show i - p ≠ 0 by omega]
  · rw [b_big hi, decide_eq_false (by omega)]
theorem b_not {x : Int32} {i : Nat} (hi : i < 32) : bt (x ^^^ (-1)) i = !bt x i := by rw [b_xor, b_m1 i hi]; simp
theorem and1_iff {x : Int32} : (x &&& 1 = 0 ↔ bt x 0 = false) ∧ (x &&& 1 = 1 ↔ bt x 0 = true) := by
  have h : ∀ i, i < 32 → bt (x &&& 1) i = (bt x i && decide (i = 0)) := fun i hi => by rw [b_and, bt_one i hi]
  cases hb : bt x 0 with
  | false =>
    have e : x &&& 1 = 0 := b_ext fun i hi => by
      rw [h i hi, b_0]
      by_cases h0 : i = 0
      · subst h0; simp [hb]
      · simp [h0]
    rw [e]; decide
  | true =>
    have e : x &&& 1 = 1 := b_ext fun i hi => by
      rw [h i hi, bt_one i hi]
      by_cases h0 : i = 0
      · subst h0; simp [hb]
      · simp [h0]
    rw [e]; decide
theorem tU (x : Int32) {p : Nat} (hp : p < 32) : (((x.toUInt32 >>> ((nI p).toUInt32 &&& Int32.toUInt32 31)).toInt32 &&& 1 = 0) ↔ bt x p = false) := by
  rw [and1_iff.1, b_ushr p hp x 0]; rfl
theorem tS0 (x : Int32) {p : Nat} (hp : p < 32) : ((x >>> (nI p &&& 31)) &&& 1 = 0 ↔ bt x p = false) := by
  rw [and1_iff.1, b_sshr p hp x (by omega)]; simp [hp]
theorem tS1 (x : Int32) {p : Nat} (hp : p < 32) : ((x >>> (nI p &&& 31)) &&& 1 = 1 ↔ bt x p = true) := by
  rw [and1_iff.2, b_sshr p hp x (by omega)]; simp [hp]
def zI (b : Bool) : Int32 := if b then 1 else 0
theorem zI_nar (b : Bool) : narrow .boolean (.int (zI b)) = .int (zI b) := by cases b <;> rfl
theorem zI_0 {b : Bool} : zI b = 0 ↔ b = false := by cases b <;> decide
-- worlds
abbrev sh {α : Type} (b : Nat) (f : Nat → α) : Nat → α := fun i => f (b + i)
abbrev tyL (k : Nat → ClassId) : List (ClassId × FieldType) := [(k 0, .int), (k 1, .boolean), (k 2, .array .int), (k 3, .object RX0)]
abbrev aI (k : Nat → ClassId) (n : Nat) (f : Nat → Int32) : va_E := .inl (k 0, n, .inl f)
abbrev aZ (k : Nat → ClassId) (n : Nat) (f : Nat → Int32) : va_E := .inl (k 1, n, .inl f)
abbrev aR (c : ClassId) (n : Nat) (f : Nat → Option Nat) : va_E := .inl (c, n, .inr (.inr (.inr (.inr f))))
abbrev wM (k : Nat → ClassId) (ad : Nat → Nat) (V : St) : va_W := [(ad 0, .inr (0, [.ref (ad 1), .ref (ad 2), .ref (ad 3), .ref (ad 4), .ref (ad 5), .int (V 0 5), .int (V 0 6), .int (V 0 7), .int (V 0 8)])), (ad 1, aI k 8 (V 1)), (ad 2, aI k 32 (V 2)), (ad 3, aI k 4 (V 3)), (ad 4, aI k 4 (V 4)), (ad 5, aI k 100 (V 5))]
abbrev wP (k : Nat → ClassId) (ad : Nat → Nat) (V : St) : va_W := [(ad 0, .inr (1, [.ref (ad 1), .ref (ad 2), .ref (ad 3), .ref (ad 4), .ref (ad 5), .ref (ad 6), .ref (ad 7), .int (V 0 7)])), (ad 1, aI k 24 (V 1)), (ad 2, aI k 24 (V 2)), (ad 3, aI k 24 (V 3)), (ad 4, aI k 24 (V 4)), (ad 5, aI k 4 (V 5)), (ad 6, aZ k 4 (V 6)), (ad 7, aI k 4 (V 7))]
abbrev wR (k : Nat → ClassId) (ad : Nat → Nat) (V : St) : va_W := [(ad 0, .inr (2, [.int (V 0 0), .ref (ad 1), .ref (ad 2), .ref (ad 3), .ref (ad 4), .ref (ad 5), .ref (ad 6), .ref (ad 7), .ref (ad 8), .ref (ad 9)])), (ad 1, aI k 24 (V 1)), (ad 2, aI k 24 (V 2)), (ad 3, aI k 24 (V 3)), (ad 4, aR (k 2) 5 (fun i => some (ad (10 + i)))), (ad 5, aI k 24 (V 5)), (ad 6, aI k 24 (V 6)), (ad 7, aI k 24 (V 7)), (ad 8, aI k 24 (V 8)), (ad 9, aI k 24 (V 9)), (ad 10, aI k 24 (V 10)), (ad 11, aI k 24 (V 11)), (ad 12, aI k 24 (V 12)), (ad 13, aI k 24 (V 13)), (ad 14, aI k 24 (V 14))]
abbrev wS0 (k : Nat → ClassId) (ad : Nat → Nat) (V : St) : va_W := [(ad 0, .inr (3, [.ref (ad 8), .ref (ad 16), .int (V 0 2), .ref (ad 1), .ref (ad 2), .int (V 0 5), .ref (ad 31), .int (V 0 7), .ref (ad 3), .ref (ad 55), .ref (ad 4), .int (V 0 11)])), (ad 1, aI k 4 (V 1)), (ad 2, aR (k 2) 3 (fun i => some (ad (5 + i)))), (ad 3, aR (k 3) 3 (fun i => some (ad (37 + 6 * i)))), (ad 4, aI k 24 (V 4)), (ad 5, aI k 4 (V 5)), (ad 6, aI k 4 (V 6)), (ad 7, aI k 4 (V 7))]
abbrev wS (k : Nat → ClassId) (ad : Nat → Nat) (V : St) : va_W := wS0 k ad V ++ (wP k (sh 8 ad) (sh 8 V) ++ (wR k (sh 16 ad) (sh 16 V) ++ (wM k (sh 31 ad) (sh 31 V) ++ (wM k (sh 37 ad) (sh 37 V) ++ (wM k (sh 43 ad) (sh 43 V) ++ (wM k (sh 49 ad) (sh 49 V) ++ wM k (sh 55 ad) (sh 55 V)))))))
abbrev wQ (k : Nat → ClassId) (ad : Nat → Nat) (V : St) : va_W := [(ad 0, .inr (4, [.int (V 0 0), .ref (ad 1), .ref (ad 2), .ref (ad 3), .ref (ad 4), .ref (ad 5), .ref (ad 6), .ref (ad 7), .ref (ad 8), .int (V 0 9), .ref (ad 9), .int (V 0 11), .int (V 0 12), .ref (ad 10), .int (V 0 14), .int (V 0 15), .ref (ad 11), .int (V 0 17), .ref (ad 12), .ref (ad 13), .ref (ad 14), .ref (ad 15), .int (V 0 22), .ref (ad 16), .ref (ad 17), .ref (ad 18), .ref (ad 19), .ref (ad 20), .int (V 0 28), .int (V 0 29), .int (V 0 30), .ref (ad 21), .int (V 0 32), .int (V 0 33), .ref (ad 22)])), (ad 1, aI k 24 (V 1)), (ad 2, aI k 24 (V 2)), (ad 3, aI k 24 (V 3)), (ad 4, aI k 24 (V 4)), (ad 5, aI k 4 (V 5)), (ad 6, aI k 4 (V 6)), (ad 7, aZ k 4 (V 7)), (ad 8, aI k 4 (V 8)), (ad 9, aI k 12 (V 9)), (ad 10, aI k 100 (V 10)), (ad 11, aI k 8 (V 11)), (ad 12, aI k 24 (V 12)), (ad 13, aI k 24 (V 13)), (ad 14, aI k 96 (V 14)), (ad 15, aI k 72 (V 15)), (ad 16, aI k 24 (V 16)), (ad 17, aI k 8 (V 17)), (ad 18, aI k 32 (V 18)), (ad 19, aI k 4 (V 19)), (ad 20, aI k 4 (V 20)), (ad 21, aI k 100 (V 21)), (ad 22, aI k 100 (V 22))]
section B3
variable {p : Program} {l : Launch} {e : Env} {R : Room} {s : State} {m : MethodId} {args : Array Value} {below : List Frame} {meth : Method} {c : Code} {H : Heap} {locs : List Loc} {cells slots : Nat} {Q : State → Prop}
variable {cc : ByteArray} {pc : Nat} {ls : Array Slot} {rest : List Value} {D : va_G} {A : Nat → Prop} {a : Nat} {tys : List (ClassId × FieldType)} {w : va_W} {H0 : Heap}
theorem topv {x : Int32} (v : Int32) (h : x = v) (k : W p l e R s m args below meth c H locs cells slots Q (F0 m pc ls (.int v :: rest))) : W p l e R s m args below meth c H locs cells slots Q (F0 m pc ls (.int x :: rest)) := by
  rw [h]; exact k
theorem ldq (hx : p.tables.exec = Jvm.exec) (hb : c.code = cc) (hK : va_K D vwCl tys s) (hP : va_P D vwCl w H) (q0 t0 : Nat) {cA : ClassId} {ty : FieldType} (hty : ty.isReference = true) {n : Nat} {f : Nat → Option Nat} (ha : w[q0]? = some (a, .inl (cA, n, .inr (.inr (.inr (.inr f)))))) (ht : tys[t0]? = some (cA, ty)) {j x : Nat} (hj : j < n) (hn : n < 2 ^ 31) (hf : f j = some x) (hdg : decode cc pc = .ok (.aaload, 1))
    (kk : W p l e R s m args below meth c H locs cells slots Q (F0 m (pc + 1) ls (.ref x :: rest))) : W p l e R s m args below meth c H locs cells slots Q (F0 m pc ls (.int (nI j) :: .ref a :: rest)) := by
  have hlt : (nI j).toNatClampNeg < n := by rw [nI_clamp (Nat.lt_trans hj hn)]; exact hj
  refine W.aald (v := .ref x) (ty := ty) hx hb (hP q0 _ ha) ((hK.2 t0 _ ht).1 n (fun j => va_rf (f j))) hty (fun q => by cases q) (by show ¬ (nI j < 0 ∨ (arrV _ _ _).slots.size ≤ _); rw [arrV_size]; exact vp_in_nI hj hn) (by show (arrV _ _ _).slots[_]? = _; rw [arrV_read _ _ hlt, nI_clamp (Nat.lt_trans hj hn), hf]; rfl) rfl rfl hdg kk
/-- a loop of a read-only method -/
theorem loopR {σ : Type} (I : σ → Array Slot → Prop) (μ : σ → Nat) {stk : List Value}
    (body : ∀ (x : σ) (ls : Array Slot), I x ls → (∀ (y : σ) (ls1 : Array Slot), I y ls1 → μ y < μ x → W p l e R s m args below meth c H locs cells slots Q (F0 m pc ls1 stk)) → W p l e R s m args below meth c H locs cells slots Q (F0 m pc ls stk))
    (x : σ) (h : I x ls) : W p l e R s m args below meth c H locs cells slots Q (F0 m pc ls stk) := by
  have key : ∀ (n : Nat) (x : σ) (ls : Array Slot), μ x < n → I x ls → W p l e R s m args below meth c H locs cells slots Q (F0 m pc ls stk) := by
    intro n
    induction n with
    | zero => intro x ls h; exact absurd h (Nat.not_lt_zero _)
    | succ n ih => intro x ls hn hI; exact body x ls hI (fun y ls1 hy hlt => ih y ls1 (by omega) hy)
  exact key _ x ls (Nat.lt_succ_self _) h
/-- a place where ways meet -/
theorem cutR {σ : Type} (pcJ : Nat) (I : σ → Array Slot → Prop) (stk : σ → List Value) (body : ∀ (x : σ) (ls : Array Slot), I x ls → W p l e R s m args below meth c H locs cells slots Q (F0 m pcJ ls (stk x)))
    (kk : (∀ (x : σ) (ls : Array Slot), I x ls → W p l e R s m args below meth c H locs cells slots Q (F0 m pcJ ls (stk x))) → W p l e R s m args below meth c H locs cells slots Q (F0 m pc ls rest)) : W p l e R s m args below meth c H locs cells slots Q (F0 m pc ls rest) := kk body
theorem cutW {σ : Type} (pcJ : Nat) (I : σ → Heap → List Loc → Array Slot → Prop) (stk : σ → List Value) (body : ∀ (x : σ) (H : Heap) (locs : List Loc) (ls : Array Slot), I x H locs ls → W p l e R s m args below meth c H locs cells slots Q (F0 m pcJ ls (stk x)))
    (kk : (∀ (x : σ) (H : Heap) (locs : List Loc) (ls : Array Slot), I x H locs ls → W p l e R s m args below meth c H locs cells slots Q (F0 m pcJ ls (stk x))) → W p l e R s m args below meth c H locs cells slots Q (F0 m pc ls rest)) : W p l e R s m args below meth c H locs cells slots Q (F0 m pc ls rest) := kk body
end B3
end
section
/-! What a program is, in numbers: the cells of wP: 0 (slot 7: how many places), 1 kinds, 2 as, 3 bs, 4 cs, 5 starts, 6 failing, 7 mayBe -/
abbrev ix (x : Int32) : Nat := x.toNatClampNeg
def lim (n : Nat) (x : Int32) : Prop := n = 0 ∨ ∃ i, i < n ∧ x = nI i
def LA : List Nat := [0, 8, 8, 8, 8, 8, 8, 8, 8, 8, 8, 8, 0, 0]
def LB : List Nat := [0, 0, 4, 8, 8, 8, 8, 8, 8, 4, 4, 25, 25, 0]
def LC : List Nat := [0, 0, 0, 8, 8, 8, 8, 4, 4, 0, 0, 0, 0, 0]
/-- a place's numbers are as told -/
def okN (j : Nat) (a b c : Int32) : Prop := j < 14 ∧ lim (LA.getD j 0) a ∧ lim (LB.getD j 0) b ∧ lim (LC.getD j 0) c
def okQ (V : St) (q : Nat) : Prop := ∃ j, V 1 q = nI j ∧ okN j (V 2 q) (V 3 q) (V 4 q)
/-- a program as it must be: n places, each as told; failing 0 or 1; mayBe 1 .. 15 -/
def okV (n : Nat) (V : St) : Prop := n ≤ 24 ∧ V 0 7 = nI n ∧ (∀ q, q < 24 → okQ V q) ∧ (∀ g, g < 4 → ∃ b : Bool, V 6 g = zI b) ∧ (∀ g, g < 4 → ∃ x, 1 ≤ x ∧ x ≤ 15 ∧ V 7 g = nI x)
def kd (V : St) (q : Nat) : Nat := ix (V 1 q)
theorem ix_nI {j : Nat} (h : j < 2 ^ 31) : ix (nI j) = j := nI_clamp h
theorem kd_of {V : St} {q j : Nat} (h : V 1 q = nI j) (hj : j < 14) : kd V q = j := by unfold kd; rw [h]; exact ix_nI (by omega)
def plI (n p : Nat) : Int32 := if p < n then bitI p else bitI 24
def fgB (V : St) (q : Nat) : Bool := (kd V q == 9 || kd V q == 10) && decide (V 6 (ix (V 3 q)) ≠ 0)
def nxI (n : Nat) (V : St) (q : Nat) : Int32 := if kd V q = 11 then plI n (q + 1) ||| plI n (ix (V 3 q)) else if kd V q = 12 then plI n (ix (V 3 q)) else if kd V q = 13 then bitI 24 else if kd V q = 6 ∨ fgB V q = true then plI n (q + 1) ||| bitI 24 else plI n (q + 1)
def wnI (n : Nat) (V : St) (q : Nat) : Int32 := nxI n V q ||| plI n (q + 1)
/-- the bit of what a place sets: registers 0 .. 7, globals 8 .. 11; 0 none -/
def setI (V : St) (q : Nat) : Int32 := if (1 ≤ kd V q ∧ kd V q ≤ 6) ∨ kd V q = 8 ∨ kd V q = 9 then bitI (ix (V 2 q)) else if kd V q = 10 then bitI (8 + ix (V 3 q)) else 0
def thrI (V : St) (q : Nat) : Int32 := if 3 ≤ kd V q ∧ kd V q ≤ 6 then bitI (ix (V 3 q)) ||| bitI (ix (V 4 q)) else if kd V q = 7 ∨ kd V q = 10 then bitI (ix (V 2 q)) else if kd V q = 9 then bitI (8 + ix (V 3 q)) else 0
def rdI (V : St) (q : Nat) : Int32 := if kd V q = 7 then bitI (ix (V 2 q)) ||| bitI (ix (V 3 q)) else if kd V q = 8 then bitI (ix (V 3 q)) else if kd V q = 11 then bitI (ix (V 2 q)) else thrI V q
def shB (V : St) (q v : Nat) : Bool := decide (V 7 (ix (V 4 q)) &&& V 7 (ix (V 4 v)) ≠ 0)
theorem vp_lim {x : Int32} {n : Nat} (h : lim n x) (h0 : 0 < n) (hn : n < 2 ^ 31) : vp_in x n := by
  rcases h with h | ⟨i, hi, rfl⟩
  · omega
  · exact vp_in_nI hi hn
theorem lim_nI {x : Int32} {n : Nat} (h : lim n x) (h0 : 0 < n) : ∃ i, i < n ∧ x = nI i := by
  rcases h with h | h
  · omega
  · exact h
theorem in_iff {p : Int32} {n : Nat} (hn : n < 2 ^ 31) : (0 ≤ p ∧ p < nI n) ↔ ∃ q, q < n ∧ p = nI q := by
  constructor
  · rintro ⟨h1, h2⟩
    obtain ⟨j, hj, rfl⟩ := nI_of (x := p) (by rw [Int32.lt_iff_toInt_lt]; rw [Int32.le_iff_toInt_le] at h1; omega)
    exact ⟨j, (nI_ltI hj hn).mp h2, rfl⟩
  · rintro ⟨q, h, rfl⟩
    exact ⟨nI_pos' (by omega), nI_lt h hn⟩
section B4
variable {p : Program} {l : Launch} {e : Env} {R : Room} {s : State} {m : MethodId} {args : Array Value} {below : List Frame} {meth : Method} {c : Code} {H : Heap} {locs : List Loc} {cells slots : Nat} {Q : State → Prop}
variable {cc : ByteArray} {pc : Nat} {ls : Array Slot} {rest : List Value} {D : va_G} {A : Nat → Prop} {a : Nat} {tys : List (ClassId × FieldType)} {w : va_W} {H0 : Heap}
theorem stzx (hx : p.tables.exec = Jvm.exec) (hb : c.code = cc) (hK : va_K D vwCl tys s) (hh : Hd D A w H0 H locs) (q0 t0 : Nat) {cA : ClassId} {n : Nat} {f : Nat → Int32} (ha : w[q0]? = some (a, .inl (cA, n, .inl f))) (ht : tys[t0]? = some (cA, .boolean)) {i x : Int32} (hin : vp_in i n) (hdg : decode cc pc = .ok (.bastore, 1)) (w' : va_W) (hw' : w.set q0 (a, .inl (cA, n, .inl (upd f i.toNatClampNeg (vp_nar .boolean x)))) = w')
    (kk : ∀ (H1 : Heap) (locs1 : List Loc), Hd D A w' H0 H1 locs1 → W p l e R s m args below meth c H1 locs1 cells slots Q (F0 m (pc + 1) ls rest)) : W p l e R s m args below meth c H locs cells slots Q (F0 m pc ls (.int x :: .int i :: .ref a :: rest)) :=
  va_zast hx hb hK hh.1 hh.2.1 hh.2.2 q0 t0 ha ht hin hdg (fun H1 locs1 h1 h2 h3 => kk H1 locs1 (hw' ▸ ⟨h1, h2, h3⟩))
end B4
theorem zI_ne {b : Bool} (h : ¬ zI b = 0) : b = true := by cases b with | false => exact absurd rfl h | true => rfl
end
section
/-! holds; the class Program -/
abbrev rmX3_holds : Room := { frames := 0, cells := 0, slots := 0, locals := 0 }
theorem lk_X3_holds : Lk yX3_holds 2 := by decide +kernel
set_option maxHeartbeats 4000000 in
set_option maxRecDepth 100000 in
/-- holds(set, p) -/
theorem c_X3_holds (l : Launch) (D : va_G) (k : Nat → ClassId) (x : Int32) {q : Nat} (hq : q < 32) : CtR noX l yX3_holds cX3_holds 2 (some .boolean) rmX3_holds D (tyL k) ([]) [.int x, .int (nI q)] (fun r => r = zI (bt x q)) := by
  refine CtR.mk (by decide) (Nat.le_of_ble_eq_true rfl) ?_
  intro p e s m below meth c hx hb hml hown hg hr hlocks hK hN hX H hH hP ls hl
  have hl : lv_has ls 2 [(0, .int x), (1, .int (nI q))] := hl
  refine lv_iload_n hx hb dX3_holds_0 rfl (lv_at hl 0 rfl) ?_
  refine lv_iload_n hx hb dX3_holds_1 rfl (lv_at hl 1 rfl) ?_
  refine lv_iushr (v := (x.toUInt32 >>> ((nI q).toUInt32 &&& Int32.toUInt32 31)).toInt32) hx hb dX3_holds_2 rfl ?_
  refine lv_iconst (v := 1) hx hb dX3_holds_3 (by decide) ?_
  refine lv_iand hx hb dX3_holds_4 ?_
  refine lv_if_eq (tgt := 12) hx hb dX3_holds_5 (by decide) (fun c_5 => ?_) (fun c_5 => ?_)
  · refine lv_iconst (v := 0) hx hb dX3_holds_12 (by decide) ?_
    exact retRZ (v := 0) hx hb hr hlocks hH rfl dX3_holds_13 (by first | (rw [show bt x q = true by cases h : bt x q with | false => exact absurd ((tU x hq).mpr h) c_5 | true => rfl]; rfl) | (rw [(tU x hq).mp c_5]; rfl))
  · refine lv_iconst (v := 1) hx hb dX3_holds_8 (by decide) ?_
    refine lv_goto (tgt := 13) hx hb dX3_holds_9 (by decide) ?_
    exact retRZ (v := 1) hx hb hr hlocks hH rfl dX3_holds_13 (by first | (rw [show bt x q = true by cases h : bt x q with | false => exact absurd ((tU x hq).mpr h) c_5 | true => rfl]; rfl) | (rw [(tU x hq).mp c_5]; rfl))
abbrev rmX1_has : Room := { frames := 0, cells := 0, slots := 0, locals := 0 }
theorem lk_X1_has : Lk yX1_has 1 := by decide +kernel
set_option maxHeartbeats 4000000 in
set_option maxRecDepth 100000 in
/-- has(p) -/
theorem c_X1_has (l : Launch) (D : va_G) (k : Nat → ClassId) (ad : Nat → Nat) (V : St) (x : Int32) : CtR noX l yX1_has cX1_has 2 (some .boolean) rmX1_has D (tyL k) (wP k ad V) [.ref (ad 0), .int x] (fun r => r = zI (decide (0 ≤ x ∧ x < V 0 7))) := by
  refine CtR.mk (by decide) (Nat.le_of_ble_eq_true rfl) ?_
  intro p e s m below meth c hx hb hml hown hg hr hlocks hK hN hX H hH hP ls hl
  have hl : lv_has ls 2 [(0, .ref (ad 0)), (1, .int x)] := hl
  refine lv_iload_n hx hb dX1_has_0 rfl (lv_at hl 1 rfl) ?_
  refine lv_if_lt (tgt := 16) hx hb dX1_has_1 (by decide) (fun c_1 => ?_) (fun c_1 => ?_)
  · refine lv_iconst (v := 0) hx hb dX1_has_16 (by decide) ?_
    exact retRZ (v := 0) hx hb hr hlocks hH rfl dX1_has_17 (by first | (rw [decide_eq_true ⟨by rw [Int32.le_iff_toInt_le]; rw [Int32.lt_iff_toInt_lt] at c_1; exact Int.not_lt.mp c_1, by first | exact c_9 | (rw [Int32.lt_iff_toInt_lt]; rw [Int32.le_iff_toInt_le] at c_9; exact Int.not_le.mp c_9)⟩]; rfl) | (rw [decide_eq_false (fun z => absurd z.1 (by rw [Int32.le_iff_toInt_le]; rw [Int32.lt_iff_toInt_lt] at c_1; exact Int.not_le.mpr c_1))]; rfl) | (rw [decide_eq_false (fun z => absurd z.2 (by rw [Int32.lt_iff_toInt_lt]; rw [Int32.le_iff_toInt_le] at c_9; exact Int.not_lt.mpr c_9))]; rfl))
  · refine lv_iload_n hx hb dX1_has_4 rfl (lv_at hl 1 rfl) ?_
    refine lv_aload_n hx hb dX1_has_5 rfl (lv_at hl 0 rfl) ?_
    refine gfl hx hb hg inX1 hown hK hP 0 (ci := 1) rfl rfl 7 (by decide) wd_90 rfl dX1_has_6 ?_
    refine lv_icmp_ge (tgt := 16) hx hb dX1_has_9 (by decide) (fun c_9 => ?_) (fun c_9 => ?_)
    · refine lv_iconst (v := 0) hx hb dX1_has_16 (by decide) ?_
      exact retRZ (v := 0) hx hb hr hlocks hH rfl dX1_has_17 (by first | (rw [decide_eq_true ⟨by rw [Int32.le_iff_toInt_le]; rw [Int32.lt_iff_toInt_lt] at c_1; exact Int.not_lt.mp c_1, by first | exact c_9 | (rw [Int32.lt_iff_toInt_lt]; rw [Int32.le_iff_toInt_le] at c_9; exact Int.not_le.mp c_9)⟩]; rfl) | (rw [decide_eq_false (fun z => absurd z.1 (by rw [Int32.le_iff_toInt_le]; rw [Int32.lt_iff_toInt_lt] at c_1; exact Int.not_le.mpr c_1))]; rfl) | (rw [decide_eq_false (fun z => absurd z.2 (by rw [Int32.lt_iff_toInt_lt]; rw [Int32.le_iff_toInt_le] at c_9; exact Int.not_lt.mpr c_9))]; rfl))
    · refine lv_iconst (v := 1) hx hb dX1_has_12 (by decide) ?_
      refine lv_goto (tgt := 17) hx hb dX1_has_13 (by decide) ?_
      exact retRZ (v := 1) hx hb hr hlocks hH rfl dX1_has_17 (by first | (rw [decide_eq_true ⟨by rw [Int32.le_iff_toInt_le]; rw [Int32.lt_iff_toInt_lt] at c_1; exact Int.not_lt.mp c_1, by first | exact c_9 | (rw [Int32.lt_iff_toInt_lt]; rw [Int32.le_iff_toInt_le] at c_9; exact Int.not_le.mp c_9)⟩]; rfl) | (rw [decide_eq_false (fun z => absurd z.1 (by rw [Int32.le_iff_toInt_le]; rw [Int32.lt_iff_toInt_lt] at c_1; exact Int.not_le.mpr c_1))]; rfl) | (rw [decide_eq_false (fun z => absurd z.2 (by rw [Int32.lt_iff_toInt_lt]; rw [Int32.le_iff_toInt_le] at c_9; exact Int.not_lt.mpr c_9))]; rfl))
abbrev rmX1_all : Room := { frames := 0, cells := 0, slots := 0, locals := 0 }
theorem lk_X1_all : Lk yX1_all 0 := by decide +kernel
set_option maxHeartbeats 4000000 in
set_option maxRecDepth 100000 in
/-- all() -/
theorem c_X1_all (l : Launch) (D : va_G) (k : Nat → ClassId) (ad : Nat → Nat) (V : St) {n : Nat} (hv : okV n V) : CtR noX l yX1_all cX1_all 1 (some .int) rmX1_all D (tyL k) (wP k ad V) [.ref (ad 0)] (fun r => r = bitI n - 1) := by
  refine CtR.mk (by decide) (Nat.le_of_ble_eq_true rfl) ?_
  intro p e s m below meth c hx hb hml hown hg hr hlocks hK hN hX H hH hP ls hl
  have hl : lv_has ls 1 [(0, .ref (ad 0))] := hl
  refine lv_iconst (v := 1) hx hb dX1_all_0 (by decide) ?_
  refine lv_aload_n hx hb dX1_all_1 rfl (lv_at hl 0 rfl) ?_
  refine gfl hx hb hg inX1 hown hK hP 0 (ci := 1) rfl rfl 7 (by decide) wd_90 rfl dX1_all_2 ?_
  refine topv (nI n) hv.2.1 ?_
  refine lv_ishl hx hb dX1_all_5 ?_
  refine topv (bitI n) rfl ?_
  refine lv_iconst (v := 1) hx hb dX1_all_6 (by decide) ?_
  refine lv_isub hx hb dX1_all_7 ?_
  exact retRI (v := (bitI n) - 1) hx hb hr hlocks hH dX1_all_8 (rfl)
abbrev rmX1_write : Room := { frames := 0, cells := 0, slots := 0, locals := 0 }
theorem lk_X1_write : Lk yX1_write 5 := by decide +kernel
set_option maxHeartbeats 4000000 in
set_option maxRecDepth 100000 in
/-- write(p, kind, a, b, c) -/
theorem c_X1_write (l : Launch) (D : va_G) (k : Nat → ClassId) (ad : Nat → Nat) (V : St) {q : Nat} (hq : q < 24) (x1 x2 x3 x4 : Int32) : CtX noX l yX1_write cX1_write 6 none rmX1_write D (tyL k) (wP k ad V) [.ref (ad 0), .int (nI q), .int x1, .int x2, .int x3, .int x4] (qV D (wP k ad) (fun V' => V' = va_up (va_up (va_up (va_up V 1 (upd (V 1) q x1)) 2 (upd (V 2) q x2)) 3 (upd (V 3) q x3)) 4 (upd (V 4) q x4))) := by
  refine CtX.mk (by decide) (Nat.le_of_ble_eq_true rfl) ?_
  intro p e s m below meth c hx hb hml hown hg hr hlocks hK hN A hA hX hh ls hl
  have hh : Hd D A (wP k ad V) s.heap s.heap [] := hh
  have hl : lv_has ls 6 [(0, .ref (ad 0)), (1, .int (nI q)), (2, .int x1), (3, .int x2), (4, .int x3), (5, .int x4)] := hl
  refine lv_aload_n hx hb dX1_write_0 rfl (lv_at hl 0 rfl) ?_
  refine gfl hx hb hg inX1 hown hK hh.1 0 (ci := 1) rfl rfl 0 (by decide) wd_70 rfl dX1_write_1 ?_
  refine lv_iload_n hx hb dX1_write_4 rfl (lv_at hl 1 rfl) ?_
  refine lv_iload_n hx hb dX1_write_5 rfl (lv_at hl 2 rfl) ?_
  refine stn (j := q) hx hb hK hh 1 0 rfl rfl (by omega) (by decide) dX1_write_6 (wP k ad (va_up V 1 (upd (V 1) q x1))) rfl (fun H locs hh => ?_)
  refine lv_aload_n hx hb dX1_write_7 rfl (lv_at hl 0 rfl) ?_
  refine gfl hx hb hg inX1 hown hK hh.1 0 (ci := 1) rfl rfl 1 (by decide) wd_74 rfl dX1_write_8 ?_
  refine lv_iload_n hx hb dX1_write_11 rfl (lv_at hl 1 rfl) ?_
  refine lv_iload_n hx hb dX1_write_12 rfl (lv_at hl 3 rfl) ?_
  refine stn (j := q) hx hb hK hh 2 0 rfl rfl (by omega) (by decide) dX1_write_13 (wP k ad (va_up (va_up V 1 (upd (V 1) q x1)) 2 (upd (V 2) q x2))) rfl (fun H locs hh => ?_)
  refine lv_aload_n hx hb dX1_write_14 rfl (lv_at hl 0 rfl) ?_
  refine gfl hx hb hg inX1 hown hK hh.1 0 (ci := 1) rfl rfl 2 (by decide) wd_76 rfl dX1_write_15 ?_
  refine lv_iload_n hx hb dX1_write_18 rfl (lv_at hl 1 rfl) ?_
  refine lv_iload hx hb dX1_write_19 (lv_at hl 4 rfl) ?_
  refine stn (j := q) hx hb hK hh 3 0 rfl rfl (by omega) (by decide) dX1_write_21 (wP k ad (va_up (va_up (va_up V 1 (upd (V 1) q x1)) 2 (upd (V 2) q x2)) 3 (upd (V 3) q x3))) rfl (fun H locs hh => ?_)
  refine lv_aload_n hx hb dX1_write_22 rfl (lv_at hl 0 rfl) ?_
  refine gfl hx hb hg inX1 hown hK hh.1 0 (ci := 1) rfl rfl 3 (by decide) wd_78 rfl dX1_write_23 ?_
  refine lv_iload_n hx hb dX1_write_26 rfl (lv_at hl 1 rfl) ?_
  refine lv_iload hx hb dX1_write_27 (lv_at hl 5 rfl) ?_
  refine stn (j := q) hx hb hK hh 4 0 rfl rfl (by omega) (by decide) dX1_write_29 (wP k ad (va_up (va_up (va_up (va_up V 1 (upd (V 1) q x1)) 2 (upd (V 2) q x2)) 3 (upd (V 3) q x3)) 4 (upd (V 4) q x4))) rfl (fun H locs hh => ?_)
  exact retV (Wd := wP k ad) (va_up (va_up (va_up (va_up V 1 (upd (V 1) q x1)) 2 (upd (V 2) q x2)) 3 (upd (V 3) q x3)) 4 (upd (V 4) q x4)) hx hb hr hlocks dX1_write_30 hh (rfl)
abbrev rmX1_registerBit : Room := { frames := 0, cells := 0, slots := 0, locals := 0 }
theorem lk_X1_registerBit : Lk yX1_registerBit 1 := by decide +kernel
set_option maxHeartbeats 4000000 in
set_option maxRecDepth 100000 in
/-- registerBit(x) -/
theorem c_X1_registerBit (l : Launch) (D : va_G) (k : Nat → ClassId) {q : Nat} : CtR noX l yX1_registerBit cX1_registerBit 1 (some .int) rmX1_registerBit D (tyL k) ([]) [.int (nI q)] (fun r => r = bitI q) := by
  refine CtR.mk (by decide) (Nat.le_of_ble_eq_true rfl) ?_
  intro p e s m below meth c hx hb hml hown hg hr hlocks hK hN hX H hH hP ls hl
  have hl : lv_has ls 1 [(0, .int (nI q))] := hl
  refine lv_iconst (v := 1) hx hb dX1_registerBit_0 (by decide) ?_
  refine lv_iload_n hx hb dX1_registerBit_1 rfl (lv_at hl 0 rfl) ?_
  refine lv_ishl hx hb dX1_registerBit_2 ?_
  refine topv (bitI q) rfl ?_
  exact retRI (v := bitI q) hx hb hr hlocks hH dX1_registerBit_3 (rfl)
abbrev rmX1_globalBit : Room := { frames := 0, cells := 0, slots := 0, locals := 0 }
theorem lk_X1_globalBit : Lk yX1_globalBit 1 := by decide +kernel
set_option maxHeartbeats 4000000 in
set_option maxRecDepth 100000 in
/-- globalBit(x) -/
theorem c_X1_globalBit (l : Launch) (D : va_G) (k : Nat → ClassId) {q : Nat} : CtR noX l yX1_globalBit cX1_globalBit 1 (some .int) rmX1_globalBit D (tyL k) ([]) [.int (nI q)] (fun r => r = bitI (8 + q)) := by
  refine CtR.mk (by decide) (Nat.le_of_ble_eq_true rfl) ?_
  intro p e s m below meth c hx hb hml hown hg hr hlocks hK hN hX H hH hP ls hl
  have hl : lv_has ls 1 [(0, .int (nI q))] := hl
  refine lv_iconst (v := 1) hx hb dX1_globalBit_0 (by decide) ?_
  refine lv_bipush (v := 8) hx hb dX1_globalBit_1 (by decide) ?_
  refine lv_iload_n hx hb dX1_globalBit_3 rfl (lv_at hl 0 rfl) ?_
  refine lv_iadd hx hb dX1_globalBit_4 ?_
  refine topv (nI (8 + q)) (nI_add _ _) ?_
  refine lv_ishl hx hb dX1_globalBit_5 ?_
  refine topv (bitI (8 + q)) rfl ?_
  exact retRI (v := bitI (8 + q)) hx hb hr hlocks hH dX1_globalBit_6 (rfl)
abbrev rmX1_bitOf : Room := { frames := 0, cells := 0, slots := 0, locals := 0 }
theorem lk_X1_bitOf : Lk yX1_bitOf 1 := by decide +kernel
set_option maxHeartbeats 4000000 in
set_option maxRecDepth 100000 in
/-- bitOf(to) -/
theorem c_X1_bitOf (l : Launch) (D : va_G) (k : Nat → ClassId) (ad : Nat → Nat) (V : St) {n : Nat} (hv : okV n V) {q : Nat} (hq : q < 2 ^ 31) : CtR noX l yX1_bitOf cX1_bitOf 2 (some .int) rmX1_bitOf D (tyL k) (wP k ad V) [.ref (ad 0), .int (nI q)] (fun r => r = plI n q) := by
  refine CtR.mk (by decide) (Nat.le_of_ble_eq_true rfl) ?_
  intro p e s m below meth c hx hb hml hown hg hr hlocks hK hN hX H hH hP ls hl
  have hl : lv_has ls 2 [(0, .ref (ad 0)), (1, .int (nI q))] := hl
  have hn24 := hv.1
  refine lv_iconst (v := 1) hx hb dX1_bitOf_0 (by decide) ?_
  refine lv_iload_n hx hb dX1_bitOf_1 rfl (lv_at hl 1 rfl) ?_
  refine lv_aload_n hx hb dX1_bitOf_2 rfl (lv_at hl 0 rfl) ?_
  refine gfl hx hb hg inX1 hown hK hP 0 (ci := 1) rfl rfl 7 (by decide) wd_90 rfl dX1_bitOf_3 ?_
  refine topv (nI n) hv.2.1 ?_
  refine lv_icmp_ge (tgt := 13) hx hb dX1_bitOf_6 (by decide) (fun c_6 => ?_) (fun c_6 => ?_)
  · have c_6 : n ≤ q := (nI_leI (a := n) (b := q) (by omega) (by omega)).mp c_6
    refine lv_bipush (v := 24) hx hb dX1_bitOf_13 (by decide) ?_
    refine lv_ishl hx hb dX1_bitOf_15 ?_
    refine topv (bitI 24) rfl ?_
    exact retRI (v := bitI 24) hx hb hr hlocks hH dX1_bitOf_16 (by unfold plI; first | rw [if_pos (by omega)] | rw [if_neg (by omega)])
  · have c_6 : ¬ n ≤ q := fun z => c_6 ((nI_leI (a := n) (b := q) (by omega) (by omega)).mpr z)
    refine lv_iload_n hx hb dX1_bitOf_9 rfl (lv_at hl 1 rfl) ?_
    refine lv_goto (tgt := 15) hx hb dX1_bitOf_10 (by decide) ?_
    refine lv_ishl hx hb dX1_bitOf_15 ?_
    refine topv (bitI q) rfl ?_
    exact retRI (v := bitI q) hx hb hr hlocks hH dX1_bitOf_16 (by unfold plI; first | rw [if_pos (by omega)] | rw [if_neg (by omega)])
abbrev rmX1_isOfFailingGlobal : Room := { frames := 0, cells := 0, slots := 0, locals := 0 }
theorem lk_X1_isOfFailingGlobal : Lk yX1_isOfFailingGlobal 1 := by decide +kernel
set_option maxHeartbeats 4000000 in
set_option maxRecDepth 100000 in
/-- isOfFailingGlobal(p) -/
theorem c_X1_isOfFailingGlobal (l : Launch) (D : va_G) (k : Nat → ClassId) (ad : Nat → Nat) (V : St) {n : Nat} (hv : okV n V) {q : Nat} (hq : q < 24) : CtR noX l yX1_isOfFailingGlobal cX1_isOfFailingGlobal 2 (some .boolean) rmX1_isOfFailingGlobal D (tyL k) (wP k ad V) [.ref (ad 0), .int (nI q)] (fun r => r = zI (fgB V q)) := by
  refine CtR.mk (by decide) (Nat.le_of_ble_eq_true rfl) ?_
  intro p e s m below meth c hx hb hml hown hg hr hlocks hK hN hX H hH hP ls hl
  have hl : lv_has ls 2 [(0, .ref (ad 0)), (1, .int (nI q))] := hl
  obtain ⟨j, hk, hj, hlA, hlB, hlC⟩ := hv.2.2.1 q hq
  refine lv_aload_n hx hb dX1_isOfFailingGlobal_0 rfl (lv_at hl 0 rfl) ?_
  refine gfl hx hb hg inX1 hown hK hP 0 (ci := 1) rfl rfl 0 (by decide) wd_70 rfl dX1_isOfFailingGlobal_1 ?_
  refine lv_iload_n hx hb dX1_isOfFailingGlobal_4 rfl (lv_at hl 1 rfl) ?_
  refine ldn hx hb hK hP 1 0 rfl rfl (by omega) (by decide) dX1_isOfFailingGlobal_5 ?_
  refine topv (nI j) hk ?_
  refine lv_bipush (v := 9) hx hb dX1_isOfFailingGlobal_6 (by decide) ?_
  refine lv_icmp_eq (tgt := 22) hx hb dX1_isOfFailingGlobal_8 (by decide) (fun c_8 => ?_) (fun c_8 => ?_)
  · have c_8 : j = 9 := (nI_eq (a := j) (b := 9) (by omega) (by omega)).mp c_8
    refine lv_aload_n hx hb dX1_isOfFailingGlobal_22 rfl (lv_at hl 0 rfl) ?_
    refine gfl hx hb hg inX1 hown hK hP 0 (ci := 1) rfl rfl 5 (by decide) wd_83 rfl dX1_isOfFailingGlobal_23 ?_
    refine lv_aload_n hx hb dX1_isOfFailingGlobal_26 rfl (lv_at hl 0 rfl) ?_
    refine gfl hx hb hg inX1 hown hK hP 0 (ci := 1) rfl rfl 2 (by decide) wd_76 rfl dX1_isOfFailingGlobal_27 ?_
    refine lv_iload_n hx hb dX1_isOfFailingGlobal_30 rfl (lv_at hl 1 rfl) ?_
    refine ldn hx hb hK hP 3 0 rfl rfl (by omega) (by decide) dX1_isOfFailingGlobal_31 ?_
    refine ldzx hx hb hK hP 6 1 rfl rfl (vp_lim (n := 4) (by first | (rw [c_8] at hlB; exact hlB) | (rw [c_19] at hlB; exact hlB)) (by decide) (by decide)) dX1_isOfFailingGlobal_32 ?_
    refine lv_if_eq (tgt := 40) hx hb dX1_isOfFailingGlobal_33 (by decide) (fun c_33 => ?_) (fun c_33 => ?_)
    · have c_33 : V 6 (ix (V 3 q)) = 0 := c_33
      refine lv_iconst (v := 0) hx hb dX1_isOfFailingGlobal_40 (by decide) ?_
      exact retRZ (v := 0) hx hb hr hlocks hH rfl dX1_isOfFailingGlobal_41 (by unfold fgB; rw [kd_of hk hj]; first | (simp [c_8, c_33, zI]; done) | (simp [c_19, c_33, zI]; done) | (simp [c_8, c_19, zI]; done))
    · have c_33 : ¬ V 6 (ix (V 3 q)) = 0 := c_33
      refine lv_iconst (v := 1) hx hb dX1_isOfFailingGlobal_36 (by decide) ?_
      refine lv_goto (tgt := 41) hx hb dX1_isOfFailingGlobal_37 (by decide) ?_
      exact retRZ (v := 1) hx hb hr hlocks hH rfl dX1_isOfFailingGlobal_41 (by unfold fgB; rw [kd_of hk hj]; first | (simp [c_8, c_33, zI]; done) | (simp [c_19, c_33, zI]; done) | (simp [c_8, c_19, zI]; done))
  · have c_8 : ¬ j = 9 := fun z => c_8 ((nI_eq (a := j) (b := 9) (by omega) (by omega)).mpr z)
    refine lv_aload_n hx hb dX1_isOfFailingGlobal_11 rfl (lv_at hl 0 rfl) ?_
    refine gfl hx hb hg inX1 hown hK hP 0 (ci := 1) rfl rfl 0 (by decide) wd_70 rfl dX1_isOfFailingGlobal_12 ?_
    refine lv_iload_n hx hb dX1_isOfFailingGlobal_15 rfl (lv_at hl 1 rfl) ?_
    refine ldn hx hb hK hP 1 0 rfl rfl (by omega) (by decide) dX1_isOfFailingGlobal_16 ?_
    refine topv (nI j) hk ?_
    refine lv_bipush (v := 10) hx hb dX1_isOfFailingGlobal_17 (by decide) ?_
    refine lv_icmp_ne (tgt := 40) hx hb dX1_isOfFailingGlobal_19 (by decide) (fun c_19 => ?_) (fun c_19 => ?_)
    · have c_19 : ¬ j = 10 := fun z => c_19 ((nI_eq (a := j) (b := 10) (by omega) (by omega)).mpr z)
      have c_19 : ¬ j = 10 := c_19
      refine lv_iconst (v := 0) hx hb dX1_isOfFailingGlobal_40 (by decide) ?_
      exact retRZ (v := 0) hx hb hr hlocks hH rfl dX1_isOfFailingGlobal_41 (by unfold fgB; rw [kd_of hk hj]; first | (simp [c_8, c_33, zI]; done) | (simp [c_19, c_33, zI]; done) | (simp [c_8, c_19, zI]; done))
    · have c_19 : j = 10 := (nI_eq (a := j) (b := 10) (by omega) (by omega)).mp c_19
      refine lv_aload_n hx hb dX1_isOfFailingGlobal_22 rfl (lv_at hl 0 rfl) ?_
      refine gfl hx hb hg inX1 hown hK hP 0 (ci := 1) rfl rfl 5 (by decide) wd_83 rfl dX1_isOfFailingGlobal_23 ?_
      refine lv_aload_n hx hb dX1_isOfFailingGlobal_26 rfl (lv_at hl 0 rfl) ?_
      refine gfl hx hb hg inX1 hown hK hP 0 (ci := 1) rfl rfl 2 (by decide) wd_76 rfl dX1_isOfFailingGlobal_27 ?_
      refine lv_iload_n hx hb dX1_isOfFailingGlobal_30 rfl (lv_at hl 1 rfl) ?_
      refine ldn hx hb hK hP 3 0 rfl rfl (by omega) (by decide) dX1_isOfFailingGlobal_31 ?_
      refine ldzx hx hb hK hP 6 1 rfl rfl (vp_lim (n := 4) (by first | (rw [c_8] at hlB; exact hlB) | (rw [c_19] at hlB; exact hlB)) (by decide) (by decide)) dX1_isOfFailingGlobal_32 ?_
      refine lv_if_eq (tgt := 40) hx hb dX1_isOfFailingGlobal_33 (by decide) (fun c_33 => ?_) (fun c_33 => ?_)
      · have c_33 : V 6 (ix (V 3 q)) = 0 := c_33
        refine lv_iconst (v := 0) hx hb dX1_isOfFailingGlobal_40 (by decide) ?_
        exact retRZ (v := 0) hx hb hr hlocks hH rfl dX1_isOfFailingGlobal_41 (by unfold fgB; rw [kd_of hk hj]; first | (simp [c_8, c_33, zI]; done) | (simp [c_19, c_33, zI]; done) | (simp [c_8, c_19, zI]; done))
      · have c_33 : ¬ V 6 (ix (V 3 q)) = 0 := c_33
        refine lv_iconst (v := 1) hx hb dX1_isOfFailingGlobal_36 (by decide) ?_
        refine lv_goto (tgt := 41) hx hb dX1_isOfFailingGlobal_37 (by decide) ?_
        exact retRZ (v := 1) hx hb hr hlocks hH rfl dX1_isOfFailingGlobal_41 (by unfold fgB; rw [kd_of hk hj]; first | (simp [c_8, c_33, zI]; done) | (simp [c_19, c_33, zI]; done) | (simp [c_8, c_19, zI]; done))
abbrev rmX1_nextsOf : Room := { frames := 1, cells := 0, slots := 0, locals := 21 }
theorem lk_X1_nextsOf : Lk yX1_nextsOf 1 := by decide +kernel
set_option maxHeartbeats 4000000 in
set_option maxRecDepth 100000 in
/-- nextsOf(p) -/
theorem c_X1_nextsOf (l : Launch) (D : va_G) (k : Nat → ClassId) (ad : Nat → Nat) (V : St) {n : Nat} (hv : okV n V) {q : Nat} (hq : q < 24) : CtR noX l yX1_nextsOf cX1_nextsOf 3 (some .int) rmX1_nextsOf D (tyL k) (wP k ad V) [.ref (ad 0), .int (nI q)] (fun r => r = nxI n V q) := by
  refine CtR.mk (by decide) (Nat.le_of_ble_eq_true rfl) ?_
  intro p e s m below meth c hx hb hml hown hg hr hlocks hK hN hX H hH hP ls hl
  have hl : lv_has ls 3 [(0, .ref (ad 0)), (1, .int (nI q))] := hl
  obtain ⟨j, hk, hj, hlA, hlB, hlC⟩ := hv.2.2.1 q hq
  have hn24 := hv.1
  refine lv_aload_n hx hb dX1_nextsOf_0 rfl (lv_at hl 0 rfl) ?_
  refine lv_iload_n hx hb dX1_nextsOf_1 rfl (lv_at hl 1 rfl) ?_
  refine lv_iconst (v := 1) hx hb dX1_nextsOf_2 (by decide) ?_
  refine lv_iadd hx hb dX1_nextsOf_3 ?_
  refine topv (nI (q + 1)) (nI_add _ _) ?_
  refine callR (runV hx hb hg hown hml hl.1 (c_X1_bitOf l D k ad V hv (q := q + 1) (by omega)) [.int (nI (q + 1))] [] (preR (mapSome_sub hP [0, 1, 2, 3, 4, 5, 6, 7] rfl) hK hN xb0 x0) (va_recv hK hP (ci := 1) (q0 := 0) rfl rfl) wd_296 wd_298 wd_2 wd_50 wd_299 lk_X1_bitOf ⟨rfl, rfl⟩ ⟨by decide, by decide⟩ ⟨Nat.zero_le _, Nat.zero_le _⟩ rfl (Nat.le_of_ble_eq_true rfl) dX1_nextsOf_4) (fun r_4 q_4 => ?_)
  obtain rfl := q_4
  refine lv_istore_n (lv' := [(2, .int (plI n (q + 1))), (0, .ref (ad 0)), (1, .int (nI q))]) hx hb dX1_nextsOf_7 rfl hl (by decide) rfl (fun ls hl => ?_)
  refine lv_aload_n hx hb dX1_nextsOf_8 rfl (lv_at hl 1 rfl) ?_
  refine gfl hx hb hg inX1 hown hK hP 0 (ci := 1) rfl rfl 0 (by decide) wd_70 rfl dX1_nextsOf_9 ?_
  refine lv_iload_n hx hb dX1_nextsOf_12 rfl (lv_at hl 2 rfl) ?_
  refine ldn hx hb hK hP 1 0 rfl rfl (by omega) (by decide) dX1_nextsOf_13 ?_
  refine topv (nI j) hk ?_
  rcases (show j = 0 ∨ j = 1 ∨ j = 2 ∨ j = 3 ∨ j = 4 ∨ j = 5 ∨ j = 6 ∨ j = 7 ∨ j = 8 ∨ j = 9 ∨ j = 10 ∨ j = 11 ∨ j = 12 ∨ j = 13 by omega) with rfl | rfl | rfl | rfl | rfl | rfl | rfl | rfl | rfl | rfl | rfl | rfl | rfl | rfl
  · refine lv_tableOut (tgt := 92) hx hb dX1_nextsOf_14 (by decide) (by decide) ?_
    refine lv_aload_n hx hb dX1_nextsOf_92 rfl (lv_at hl 1 rfl) ?_
    refine lv_iload_n hx hb dX1_nextsOf_93 rfl (lv_at hl 2 rfl) ?_
    refine callR (runV hx hb hg hown hml hl.1 (c_X1_isOfFailingGlobal l D k ad V hv hq) [.int (nI q)] [] (preR (mapSome_sub hP [0, 1, 2, 3, 4, 5, 6, 7] rfl) hK hN xb0 x0) (va_recv hK hP (ci := 1) (q0 := 0) rfl rfl) wd_301 wd_302 wd_303 wd_50 wd_304 lk_X1_isOfFailingGlobal ⟨rfl, rfl⟩ ⟨by decide, by decide⟩ ⟨Nat.zero_le _, Nat.zero_le _⟩ rfl (Nat.le_of_ble_eq_true rfl) dX1_nextsOf_94) (fun r_94 q_94 => ?_)
    obtain rfl := q_94
    refine lv_if_eq (tgt := 107) hx hb dX1_nextsOf_97 (by decide) (fun c_97 => ?_) (fun c_97 => ?_)
    · have c_97 := zI_0.mp c_97
      refine lv_iload_n hx hb dX1_nextsOf_107 rfl (lv_at hl 0 rfl) ?_
      exact retRI (v := plI n (q + 1)) hx hb hr hlocks hH dX1_nextsOf_108 (by unfold nxI; rw [kd_of hk hj]; first | (simp [c_97]; done) | (rw [hbe, ix_nI (by omega)]; simp; done) | (simp; done))
    · have c_97 := zI_ne c_97
      refine lv_iload_n hx hb dX1_nextsOf_100 rfl (lv_at hl 0 rfl) ?_
      refine lv_ldc (v := 16777216) hx hb hown (hg _ wd_300) dX1_nextsOf_101 ?_
      refine topv (bitI 24) (by decide) ?_
      refine lv_ior hx hb dX1_nextsOf_103 ?_
      refine lv_goto (tgt := 108) hx hb dX1_nextsOf_104 (by decide) ?_
      exact retRI (v := (plI n (q + 1)) ||| (bitI 24)) hx hb hr hlocks hH dX1_nextsOf_108 (by unfold nxI; rw [kd_of hk hj]; first | (simp [c_97]; done) | (rw [hbe, ix_nI (by omega)]; simp; done) | (simp; done))
  · refine lv_tableOut (tgt := 92) hx hb dX1_nextsOf_14 (by decide) (by decide) ?_
    refine lv_aload_n hx hb dX1_nextsOf_92 rfl (lv_at hl 1 rfl) ?_
    refine lv_iload_n hx hb dX1_nextsOf_93 rfl (lv_at hl 2 rfl) ?_
    refine callR (runV hx hb hg hown hml hl.1 (c_X1_isOfFailingGlobal l D k ad V hv hq) [.int (nI q)] [] (preR (mapSome_sub hP [0, 1, 2, 3, 4, 5, 6, 7] rfl) hK hN xb0 x0) (va_recv hK hP (ci := 1) (q0 := 0) rfl rfl) wd_301 wd_302 wd_303 wd_50 wd_304 lk_X1_isOfFailingGlobal ⟨rfl, rfl⟩ ⟨by decide, by decide⟩ ⟨Nat.zero_le _, Nat.zero_le _⟩ rfl (Nat.le_of_ble_eq_true rfl) dX1_nextsOf_94) (fun r_94 q_94 => ?_)
    obtain rfl := q_94
    refine lv_if_eq (tgt := 107) hx hb dX1_nextsOf_97 (by decide) (fun c_97 => ?_) (fun c_97 => ?_)
    · have c_97 := zI_0.mp c_97
      refine lv_iload_n hx hb dX1_nextsOf_107 rfl (lv_at hl 0 rfl) ?_
      exact retRI (v := plI n (q + 1)) hx hb hr hlocks hH dX1_nextsOf_108 (by unfold nxI; rw [kd_of hk hj]; first | (simp [c_97]; done) | (rw [hbe, ix_nI (by omega)]; simp; done) | (simp; done))
    · have c_97 := zI_ne c_97
      refine lv_iload_n hx hb dX1_nextsOf_100 rfl (lv_at hl 0 rfl) ?_
      refine lv_ldc (v := 16777216) hx hb hown (hg _ wd_300) dX1_nextsOf_101 ?_
      refine topv (bitI 24) (by decide) ?_
      refine lv_ior hx hb dX1_nextsOf_103 ?_
      refine lv_goto (tgt := 108) hx hb dX1_nextsOf_104 (by decide) ?_
      exact retRI (v := (plI n (q + 1)) ||| (bitI 24)) hx hb hr hlocks hH dX1_nextsOf_108 (by unfold nxI; rw [kd_of hk hj]; first | (simp [c_97]; done) | (rw [hbe, ix_nI (by omega)]; simp; done) | (simp; done))
  · refine lv_tableOut (tgt := 92) hx hb dX1_nextsOf_14 (by decide) (by decide) ?_
    refine lv_aload_n hx hb dX1_nextsOf_92 rfl (lv_at hl 1 rfl) ?_
    refine lv_iload_n hx hb dX1_nextsOf_93 rfl (lv_at hl 2 rfl) ?_
    refine callR (runV hx hb hg hown hml hl.1 (c_X1_isOfFailingGlobal l D k ad V hv hq) [.int (nI q)] [] (preR (mapSome_sub hP [0, 1, 2, 3, 4, 5, 6, 7] rfl) hK hN xb0 x0) (va_recv hK hP (ci := 1) (q0 := 0) rfl rfl) wd_301 wd_302 wd_303 wd_50 wd_304 lk_X1_isOfFailingGlobal ⟨rfl, rfl⟩ ⟨by decide, by decide⟩ ⟨Nat.zero_le _, Nat.zero_le _⟩ rfl (Nat.le_of_ble_eq_true rfl) dX1_nextsOf_94) (fun r_94 q_94 => ?_)
    obtain rfl := q_94
    refine lv_if_eq (tgt := 107) hx hb dX1_nextsOf_97 (by decide) (fun c_97 => ?_) (fun c_97 => ?_)
    · have c_97 := zI_0.mp c_97
      refine lv_iload_n hx hb dX1_nextsOf_107 rfl (lv_at hl 0 rfl) ?_
      exact retRI (v := plI n (q + 1)) hx hb hr hlocks hH dX1_nextsOf_108 (by unfold nxI; rw [kd_of hk hj]; first | (simp [c_97]; done) | (rw [hbe, ix_nI (by omega)]; simp; done) | (simp; done))
    · have c_97 := zI_ne c_97
      refine lv_iload_n hx hb dX1_nextsOf_100 rfl (lv_at hl 0 rfl) ?_
      refine lv_ldc (v := 16777216) hx hb hown (hg _ wd_300) dX1_nextsOf_101 ?_
      refine topv (bitI 24) (by decide) ?_
      refine lv_ior hx hb dX1_nextsOf_103 ?_
      refine lv_goto (tgt := 108) hx hb dX1_nextsOf_104 (by decide) ?_
      exact retRI (v := (plI n (q + 1)) ||| (bitI 24)) hx hb hr hlocks hH dX1_nextsOf_108 (by unfold nxI; rw [kd_of hk hj]; first | (simp [c_97]; done) | (rw [hbe, ix_nI (by omega)]; simp; done) | (simp; done))
  · refine lv_tableOut (tgt := 92) hx hb dX1_nextsOf_14 (by decide) (by decide) ?_
    refine lv_aload_n hx hb dX1_nextsOf_92 rfl (lv_at hl 1 rfl) ?_
    refine lv_iload_n hx hb dX1_nextsOf_93 rfl (lv_at hl 2 rfl) ?_
    refine callR (runV hx hb hg hown hml hl.1 (c_X1_isOfFailingGlobal l D k ad V hv hq) [.int (nI q)] [] (preR (mapSome_sub hP [0, 1, 2, 3, 4, 5, 6, 7] rfl) hK hN xb0 x0) (va_recv hK hP (ci := 1) (q0 := 0) rfl rfl) wd_301 wd_302 wd_303 wd_50 wd_304 lk_X1_isOfFailingGlobal ⟨rfl, rfl⟩ ⟨by decide, by decide⟩ ⟨Nat.zero_le _, Nat.zero_le _⟩ rfl (Nat.le_of_ble_eq_true rfl) dX1_nextsOf_94) (fun r_94 q_94 => ?_)
    obtain rfl := q_94
    refine lv_if_eq (tgt := 107) hx hb dX1_nextsOf_97 (by decide) (fun c_97 => ?_) (fun c_97 => ?_)
    · have c_97 := zI_0.mp c_97
      refine lv_iload_n hx hb dX1_nextsOf_107 rfl (lv_at hl 0 rfl) ?_
      exact retRI (v := plI n (q + 1)) hx hb hr hlocks hH dX1_nextsOf_108 (by unfold nxI; rw [kd_of hk hj]; first | (simp [c_97]; done) | (rw [hbe, ix_nI (by omega)]; simp; done) | (simp; done))
    · have c_97 := zI_ne c_97
      refine lv_iload_n hx hb dX1_nextsOf_100 rfl (lv_at hl 0 rfl) ?_
      refine lv_ldc (v := 16777216) hx hb hown (hg _ wd_300) dX1_nextsOf_101 ?_
      refine topv (bitI 24) (by decide) ?_
      refine lv_ior hx hb dX1_nextsOf_103 ?_
      refine lv_goto (tgt := 108) hx hb dX1_nextsOf_104 (by decide) ?_
      exact retRI (v := (plI n (q + 1)) ||| (bitI 24)) hx hb hr hlocks hH dX1_nextsOf_108 (by unfold nxI; rw [kd_of hk hj]; first | (simp [c_97]; done) | (rw [hbe, ix_nI (by omega)]; simp; done) | (simp; done))
  · refine lv_tableOut (tgt := 92) hx hb dX1_nextsOf_14 (by decide) (by decide) ?_
    refine lv_aload_n hx hb dX1_nextsOf_92 rfl (lv_at hl 1 rfl) ?_
    refine lv_iload_n hx hb dX1_nextsOf_93 rfl (lv_at hl 2 rfl) ?_
    refine callR (runV hx hb hg hown hml hl.1 (c_X1_isOfFailingGlobal l D k ad V hv hq) [.int (nI q)] [] (preR (mapSome_sub hP [0, 1, 2, 3, 4, 5, 6, 7] rfl) hK hN xb0 x0) (va_recv hK hP (ci := 1) (q0 := 0) rfl rfl) wd_301 wd_302 wd_303 wd_50 wd_304 lk_X1_isOfFailingGlobal ⟨rfl, rfl⟩ ⟨by decide, by decide⟩ ⟨Nat.zero_le _, Nat.zero_le _⟩ rfl (Nat.le_of_ble_eq_true rfl) dX1_nextsOf_94) (fun r_94 q_94 => ?_)
    obtain rfl := q_94
    refine lv_if_eq (tgt := 107) hx hb dX1_nextsOf_97 (by decide) (fun c_97 => ?_) (fun c_97 => ?_)
    · have c_97 := zI_0.mp c_97
      refine lv_iload_n hx hb dX1_nextsOf_107 rfl (lv_at hl 0 rfl) ?_
      exact retRI (v := plI n (q + 1)) hx hb hr hlocks hH dX1_nextsOf_108 (by unfold nxI; rw [kd_of hk hj]; first | (simp [c_97]; done) | (rw [hbe, ix_nI (by omega)]; simp; done) | (simp; done))
    · have c_97 := zI_ne c_97
      refine lv_iload_n hx hb dX1_nextsOf_100 rfl (lv_at hl 0 rfl) ?_
      refine lv_ldc (v := 16777216) hx hb hown (hg _ wd_300) dX1_nextsOf_101 ?_
      refine topv (bitI 24) (by decide) ?_
      refine lv_ior hx hb dX1_nextsOf_103 ?_
      refine lv_goto (tgt := 108) hx hb dX1_nextsOf_104 (by decide) ?_
      exact retRI (v := (plI n (q + 1)) ||| (bitI 24)) hx hb hr hlocks hH dX1_nextsOf_108 (by unfold nxI; rw [kd_of hk hj]; first | (simp [c_97]; done) | (rw [hbe, ix_nI (by omega)]; simp; done) | (simp; done))
  · refine lv_tableOut (tgt := 92) hx hb dX1_nextsOf_14 (by decide) (by decide) ?_
    refine lv_aload_n hx hb dX1_nextsOf_92 rfl (lv_at hl 1 rfl) ?_
    refine lv_iload_n hx hb dX1_nextsOf_93 rfl (lv_at hl 2 rfl) ?_
    refine callR (runV hx hb hg hown hml hl.1 (c_X1_isOfFailingGlobal l D k ad V hv hq) [.int (nI q)] [] (preR (mapSome_sub hP [0, 1, 2, 3, 4, 5, 6, 7] rfl) hK hN xb0 x0) (va_recv hK hP (ci := 1) (q0 := 0) rfl rfl) wd_301 wd_302 wd_303 wd_50 wd_304 lk_X1_isOfFailingGlobal ⟨rfl, rfl⟩ ⟨by decide, by decide⟩ ⟨Nat.zero_le _, Nat.zero_le _⟩ rfl (Nat.le_of_ble_eq_true rfl) dX1_nextsOf_94) (fun r_94 q_94 => ?_)
    obtain rfl := q_94
    refine lv_if_eq (tgt := 107) hx hb dX1_nextsOf_97 (by decide) (fun c_97 => ?_) (fun c_97 => ?_)
    · have c_97 := zI_0.mp c_97
      refine lv_iload_n hx hb dX1_nextsOf_107 rfl (lv_at hl 0 rfl) ?_
      exact retRI (v := plI n (q + 1)) hx hb hr hlocks hH dX1_nextsOf_108 (by unfold nxI; rw [kd_of hk hj]; first | (simp [c_97]; done) | (rw [hbe, ix_nI (by omega)]; simp; done) | (simp; done))
    · have c_97 := zI_ne c_97
      refine lv_iload_n hx hb dX1_nextsOf_100 rfl (lv_at hl 0 rfl) ?_
      refine lv_ldc (v := 16777216) hx hb hown (hg _ wd_300) dX1_nextsOf_101 ?_
      refine topv (bitI 24) (by decide) ?_
      refine lv_ior hx hb dX1_nextsOf_103 ?_
      refine lv_goto (tgt := 108) hx hb dX1_nextsOf_104 (by decide) ?_
      exact retRI (v := (plI n (q + 1)) ||| (bitI 24)) hx hb hr hlocks hH dX1_nextsOf_108 (by unfold nxI; rw [kd_of hk hj]; first | (simp [c_97]; done) | (rw [hbe, ix_nI (by omega)]; simp; done) | (simp; done))
  · refine lv_tableIn (off := 73) (tgt := 87) hx hb dX1_nextsOf_14 (by decide) (by decide) (by rfl) (by decide) ?_
    refine lv_iload_n hx hb dX1_nextsOf_87 rfl (lv_at hl 0 rfl) ?_
    refine lv_ldc (v := 16777216) hx hb hown (hg _ wd_300) dX1_nextsOf_88 ?_
    refine topv (bitI 24) (by decide) ?_
    refine lv_ior hx hb dX1_nextsOf_90 ?_
    exact retRI (v := (plI n (q + 1)) ||| (bitI 24)) hx hb hr hlocks hH dX1_nextsOf_91 (by unfold nxI; rw [kd_of hk hj]; first | (simp [c_97]; done) | (rw [hbe, ix_nI (by omega)]; simp; done) | (simp; done))
  · refine lv_tableIn (off := 78) (tgt := 92) hx hb dX1_nextsOf_14 (by decide) (by decide) (by rfl) (by decide) ?_
    refine lv_aload_n hx hb dX1_nextsOf_92 rfl (lv_at hl 1 rfl) ?_
    refine lv_iload_n hx hb dX1_nextsOf_93 rfl (lv_at hl 2 rfl) ?_
    refine callR (runV hx hb hg hown hml hl.1 (c_X1_isOfFailingGlobal l D k ad V hv hq) [.int (nI q)] [] (preR (mapSome_sub hP [0, 1, 2, 3, 4, 5, 6, 7] rfl) hK hN xb0 x0) (va_recv hK hP (ci := 1) (q0 := 0) rfl rfl) wd_301 wd_302 wd_303 wd_50 wd_304 lk_X1_isOfFailingGlobal ⟨rfl, rfl⟩ ⟨by decide, by decide⟩ ⟨Nat.zero_le _, Nat.zero_le _⟩ rfl (Nat.le_of_ble_eq_true rfl) dX1_nextsOf_94) (fun r_94 q_94 => ?_)
    obtain rfl := q_94
    refine lv_if_eq (tgt := 107) hx hb dX1_nextsOf_97 (by decide) (fun c_97 => ?_) (fun c_97 => ?_)
    · have c_97 := zI_0.mp c_97
      refine lv_iload_n hx hb dX1_nextsOf_107 rfl (lv_at hl 0 rfl) ?_
      exact retRI (v := plI n (q + 1)) hx hb hr hlocks hH dX1_nextsOf_108 (by unfold nxI; rw [kd_of hk hj]; first | (simp [c_97]; done) | (rw [hbe, ix_nI (by omega)]; simp; done) | (simp; done))
    · have c_97 := zI_ne c_97
      refine lv_iload_n hx hb dX1_nextsOf_100 rfl (lv_at hl 0 rfl) ?_
      refine lv_ldc (v := 16777216) hx hb hown (hg _ wd_300) dX1_nextsOf_101 ?_
      refine topv (bitI 24) (by decide) ?_
      refine lv_ior hx hb dX1_nextsOf_103 ?_
      refine lv_goto (tgt := 108) hx hb dX1_nextsOf_104 (by decide) ?_
      exact retRI (v := (plI n (q + 1)) ||| (bitI 24)) hx hb hr hlocks hH dX1_nextsOf_108 (by unfold nxI; rw [kd_of hk hj]; first | (simp [c_97]; done) | (rw [hbe, ix_nI (by omega)]; simp; done) | (simp; done))
  · refine lv_tableIn (off := 78) (tgt := 92) hx hb dX1_nextsOf_14 (by decide) (by decide) (by rfl) (by decide) ?_
    refine lv_aload_n hx hb dX1_nextsOf_92 rfl (lv_at hl 1 rfl) ?_
    refine lv_iload_n hx hb dX1_nextsOf_93 rfl (lv_at hl 2 rfl) ?_
    refine callR (runV hx hb hg hown hml hl.1 (c_X1_isOfFailingGlobal l D k ad V hv hq) [.int (nI q)] [] (preR (mapSome_sub hP [0, 1, 2, 3, 4, 5, 6, 7] rfl) hK hN xb0 x0) (va_recv hK hP (ci := 1) (q0 := 0) rfl rfl) wd_301 wd_302 wd_303 wd_50 wd_304 lk_X1_isOfFailingGlobal ⟨rfl, rfl⟩ ⟨by decide, by decide⟩ ⟨Nat.zero_le _, Nat.zero_le _⟩ rfl (Nat.le_of_ble_eq_true rfl) dX1_nextsOf_94) (fun r_94 q_94 => ?_)
    obtain rfl := q_94
    refine lv_if_eq (tgt := 107) hx hb dX1_nextsOf_97 (by decide) (fun c_97 => ?_) (fun c_97 => ?_)
    · have c_97 := zI_0.mp c_97
      refine lv_iload_n hx hb dX1_nextsOf_107 rfl (lv_at hl 0 rfl) ?_
      exact retRI (v := plI n (q + 1)) hx hb hr hlocks hH dX1_nextsOf_108 (by unfold nxI; rw [kd_of hk hj]; first | (simp [c_97]; done) | (rw [hbe, ix_nI (by omega)]; simp; done) | (simp; done))
    · have c_97 := zI_ne c_97
      refine lv_iload_n hx hb dX1_nextsOf_100 rfl (lv_at hl 0 rfl) ?_
      refine lv_ldc (v := 16777216) hx hb hown (hg _ wd_300) dX1_nextsOf_101 ?_
      refine topv (bitI 24) (by decide) ?_
      refine lv_ior hx hb dX1_nextsOf_103 ?_
      refine lv_goto (tgt := 108) hx hb dX1_nextsOf_104 (by decide) ?_
      exact retRI (v := (plI n (q + 1)) ||| (bitI 24)) hx hb hr hlocks hH dX1_nextsOf_108 (by unfold nxI; rw [kd_of hk hj]; first | (simp [c_97]; done) | (rw [hbe, ix_nI (by omega)]; simp; done) | (simp; done))
  · refine lv_tableIn (off := 78) (tgt := 92) hx hb dX1_nextsOf_14 (by decide) (by decide) (by rfl) (by decide) ?_
    refine lv_aload_n hx hb dX1_nextsOf_92 rfl (lv_at hl 1 rfl) ?_
    refine lv_iload_n hx hb dX1_nextsOf_93 rfl (lv_at hl 2 rfl) ?_
    refine callR (runV hx hb hg hown hml hl.1 (c_X1_isOfFailingGlobal l D k ad V hv hq) [.int (nI q)] [] (preR (mapSome_sub hP [0, 1, 2, 3, 4, 5, 6, 7] rfl) hK hN xb0 x0) (va_recv hK hP (ci := 1) (q0 := 0) rfl rfl) wd_301 wd_302 wd_303 wd_50 wd_304 lk_X1_isOfFailingGlobal ⟨rfl, rfl⟩ ⟨by decide, by decide⟩ ⟨Nat.zero_le _, Nat.zero_le _⟩ rfl (Nat.le_of_ble_eq_true rfl) dX1_nextsOf_94) (fun r_94 q_94 => ?_)
    obtain rfl := q_94
    refine lv_if_eq (tgt := 107) hx hb dX1_nextsOf_97 (by decide) (fun c_97 => ?_) (fun c_97 => ?_)
    · have c_97 := zI_0.mp c_97
      refine lv_iload_n hx hb dX1_nextsOf_107 rfl (lv_at hl 0 rfl) ?_
      exact retRI (v := plI n (q + 1)) hx hb hr hlocks hH dX1_nextsOf_108 (by unfold nxI; rw [kd_of hk hj]; first | (simp [c_97]; done) | (rw [hbe, ix_nI (by omega)]; simp; done) | (simp; done))
    · have c_97 := zI_ne c_97
      refine lv_iload_n hx hb dX1_nextsOf_100 rfl (lv_at hl 0 rfl) ?_
      refine lv_ldc (v := 16777216) hx hb hown (hg _ wd_300) dX1_nextsOf_101 ?_
      refine topv (bitI 24) (by decide) ?_
      refine lv_ior hx hb dX1_nextsOf_103 ?_
      refine lv_goto (tgt := 108) hx hb dX1_nextsOf_104 (by decide) ?_
      exact retRI (v := (plI n (q + 1)) ||| (bitI 24)) hx hb hr hlocks hH dX1_nextsOf_108 (by unfold nxI; rw [kd_of hk hj]; first | (simp [c_97]; done) | (rw [hbe, ix_nI (by omega)]; simp; done) | (simp; done))
  · refine lv_tableIn (off := 78) (tgt := 92) hx hb dX1_nextsOf_14 (by decide) (by decide) (by rfl) (by decide) ?_
    refine lv_aload_n hx hb dX1_nextsOf_92 rfl (lv_at hl 1 rfl) ?_
    refine lv_iload_n hx hb dX1_nextsOf_93 rfl (lv_at hl 2 rfl) ?_
    refine callR (runV hx hb hg hown hml hl.1 (c_X1_isOfFailingGlobal l D k ad V hv hq) [.int (nI q)] [] (preR (mapSome_sub hP [0, 1, 2, 3, 4, 5, 6, 7] rfl) hK hN xb0 x0) (va_recv hK hP (ci := 1) (q0 := 0) rfl rfl) wd_301 wd_302 wd_303 wd_50 wd_304 lk_X1_isOfFailingGlobal ⟨rfl, rfl⟩ ⟨by decide, by decide⟩ ⟨Nat.zero_le _, Nat.zero_le _⟩ rfl (Nat.le_of_ble_eq_true rfl) dX1_nextsOf_94) (fun r_94 q_94 => ?_)
    obtain rfl := q_94
    refine lv_if_eq (tgt := 107) hx hb dX1_nextsOf_97 (by decide) (fun c_97 => ?_) (fun c_97 => ?_)
    · have c_97 := zI_0.mp c_97
      refine lv_iload_n hx hb dX1_nextsOf_107 rfl (lv_at hl 0 rfl) ?_
      exact retRI (v := plI n (q + 1)) hx hb hr hlocks hH dX1_nextsOf_108 (by unfold nxI; rw [kd_of hk hj]; first | (simp [c_97]; done) | (rw [hbe, ix_nI (by omega)]; simp; done) | (simp; done))
    · have c_97 := zI_ne c_97
      refine lv_iload_n hx hb dX1_nextsOf_100 rfl (lv_at hl 0 rfl) ?_
      refine lv_ldc (v := 16777216) hx hb hown (hg _ wd_300) dX1_nextsOf_101 ?_
      refine topv (bitI 24) (by decide) ?_
      refine lv_ior hx hb dX1_nextsOf_103 ?_
      refine lv_goto (tgt := 108) hx hb dX1_nextsOf_104 (by decide) ?_
      exact retRI (v := (plI n (q + 1)) ||| (bitI 24)) hx hb hr hlocks hH dX1_nextsOf_108 (by unfold nxI; rw [kd_of hk hj]; first | (simp [c_97]; done) | (rw [hbe, ix_nI (by omega)]; simp; done) | (simp; done))
  · obtain ⟨b, hb1, hbe⟩ := lim_nI hlB (by decide)
    have hb1 : b < 25 := hb1
    refine lv_tableIn (off := 46) (tgt := 60) hx hb dX1_nextsOf_14 (by decide) (by decide) (by rfl) (by decide) ?_
    refine lv_iload_n hx hb dX1_nextsOf_60 rfl (lv_at hl 0 rfl) ?_
    refine lv_aload_n hx hb dX1_nextsOf_61 rfl (lv_at hl 1 rfl) ?_
    refine lv_aload_n hx hb dX1_nextsOf_62 rfl (lv_at hl 1 rfl) ?_
    refine gfl hx hb hg inX1 hown hK hP 0 (ci := 1) rfl rfl 2 (by decide) wd_76 rfl dX1_nextsOf_63 ?_
    refine lv_iload_n hx hb dX1_nextsOf_66 rfl (lv_at hl 2 rfl) ?_
    refine ldn hx hb hK hP 3 0 rfl rfl (by omega) (by decide) dX1_nextsOf_67 ?_
    refine topv (nI b) hbe ?_
    refine callR (runV hx hb hg hown hml hl.1 (c_X1_bitOf l D k ad V hv (q := b) (by omega)) [.int (nI b)] [.int (plI n (q + 1))] (preR (mapSome_sub hP [0, 1, 2, 3, 4, 5, 6, 7] rfl) hK hN xb0 x0) (va_recv hK hP (ci := 1) (q0 := 0) rfl rfl) wd_296 wd_298 wd_2 wd_50 wd_299 lk_X1_bitOf ⟨rfl, rfl⟩ ⟨by decide, by decide⟩ ⟨Nat.zero_le _, Nat.zero_le _⟩ rfl (Nat.le_of_ble_eq_true rfl) dX1_nextsOf_68) (fun r_68 q_68 => ?_)
    obtain rfl := q_68
    refine lv_ior hx hb dX1_nextsOf_71 ?_
    exact retRI (v := (plI n (q + 1)) ||| (plI n b)) hx hb hr hlocks hH dX1_nextsOf_72 (by unfold nxI; rw [kd_of hk hj]; first | (simp [c_97]; done) | (rw [hbe, ix_nI (by omega)]; simp; done) | (simp; done))
  · obtain ⟨b, hb1, hbe⟩ := lim_nI hlB (by decide)
    have hb1 : b < 25 := hb1
    refine lv_tableIn (off := 59) (tgt := 73) hx hb dX1_nextsOf_14 (by decide) (by decide) (by rfl) (by decide) ?_
    refine lv_aload_n hx hb dX1_nextsOf_73 rfl (lv_at hl 1 rfl) ?_
    refine lv_aload_n hx hb dX1_nextsOf_74 rfl (lv_at hl 1 rfl) ?_
    refine gfl hx hb hg inX1 hown hK hP 0 (ci := 1) rfl rfl 2 (by decide) wd_76 rfl dX1_nextsOf_75 ?_
    refine lv_iload_n hx hb dX1_nextsOf_78 rfl (lv_at hl 2 rfl) ?_
    refine ldn hx hb hK hP 3 0 rfl rfl (by omega) (by decide) dX1_nextsOf_79 ?_
    refine topv (nI b) hbe ?_
    refine callR (runV hx hb hg hown hml hl.1 (c_X1_bitOf l D k ad V hv (q := b) (by omega)) [.int (nI b)] [] (preR (mapSome_sub hP [0, 1, 2, 3, 4, 5, 6, 7] rfl) hK hN xb0 x0) (va_recv hK hP (ci := 1) (q0 := 0) rfl rfl) wd_296 wd_298 wd_2 wd_50 wd_299 lk_X1_bitOf ⟨rfl, rfl⟩ ⟨by decide, by decide⟩ ⟨Nat.zero_le _, Nat.zero_le _⟩ rfl (Nat.le_of_ble_eq_true rfl) dX1_nextsOf_80) (fun r_80 q_80 => ?_)
    obtain rfl := q_80
    exact retRI (v := plI n b) hx hb hr hlocks hH dX1_nextsOf_83 (by unfold nxI; rw [kd_of hk hj]; first | (simp [c_97]; done) | (rw [hbe, ix_nI (by omega)]; simp; done) | (simp; done))
  · refine lv_tableIn (off := 70) (tgt := 84) hx hb dX1_nextsOf_14 (by decide) (by decide) (by rfl) (by decide) ?_
    refine lv_ldc (v := 16777216) hx hb hown (hg _ wd_300) dX1_nextsOf_84 ?_
    refine topv (bitI 24) (by decide) ?_
    exact retRI (v := bitI 24) hx hb hr hlocks hH dX1_nextsOf_86 (by unfold nxI; rw [kd_of hk hj]; first | (simp [c_97]; done) | (rw [hbe, ix_nI (by omega)]; simp; done) | (simp; done))
abbrev rmX1_widerNextsOf : Room := { frames := 2, cells := 0, slots := 0, locals := 43 }
theorem lk_X1_widerNextsOf : Lk yX1_widerNextsOf 1 := by decide +kernel
set_option maxHeartbeats 4000000 in
set_option maxRecDepth 100000 in
/-- widerNextsOf(p) -/
theorem c_X1_widerNextsOf (l : Launch) (D : va_G) (k : Nat → ClassId) (ad : Nat → Nat) (V : St) {n : Nat} (hv : okV n V) {q : Nat} (hq : q < 24) : CtR noX l yX1_widerNextsOf cX1_widerNextsOf 2 (some .int) rmX1_widerNextsOf D (tyL k) (wP k ad V) [.ref (ad 0), .int (nI q)] (fun r => r = wnI n V q) := by
  refine CtR.mk (by decide) (Nat.le_of_ble_eq_true rfl) ?_
  intro p e s m below meth c hx hb hml hown hg hr hlocks hK hN hX H hH hP ls hl
  have hl : lv_has ls 2 [(0, .ref (ad 0)), (1, .int (nI q))] := hl
  have hn24 := hv.1
  refine lv_aload_n hx hb dX1_widerNextsOf_0 rfl (lv_at hl 0 rfl) ?_
  refine lv_iload_n hx hb dX1_widerNextsOf_1 rfl (lv_at hl 1 rfl) ?_
  refine callR (runV hx hb hg hown hml hl.1 (c_X1_nextsOf l D k ad V hv hq) [.int (nI q)] [] (preR (mapSome_sub hP [0, 1, 2, 3, 4, 5, 6, 7] rfl) hK hN xb0 x0) (va_recv hK hP (ci := 1) (q0 := 0) rfl rfl) wd_309 wd_293 wd_294 wd_50 wd_295 lk_X1_nextsOf ⟨rfl, rfl⟩ ⟨by decide, by decide⟩ ⟨Nat.zero_le _, Nat.zero_le _⟩ rfl (Nat.le_of_ble_eq_true rfl) dX1_widerNextsOf_2) (fun r_2 q_2 => ?_)
  obtain rfl := q_2
  refine lv_aload_n hx hb dX1_widerNextsOf_5 rfl (lv_at hl 0 rfl) ?_
  refine lv_iload_n hx hb dX1_widerNextsOf_6 rfl (lv_at hl 1 rfl) ?_
  refine lv_iconst (v := 1) hx hb dX1_widerNextsOf_7 (by decide) ?_
  refine lv_iadd hx hb dX1_widerNextsOf_8 ?_
  refine topv (nI (q + 1)) (nI_add _ _) ?_
  refine callR (runV hx hb hg hown hml hl.1 (c_X1_bitOf l D k ad V hv (q := q + 1) (by omega)) [.int (nI (q + 1))] [.int (nxI n V q)] (preR (mapSome_sub hP [0, 1, 2, 3, 4, 5, 6, 7] rfl) hK hN xb0 x0) (va_recv hK hP (ci := 1) (q0 := 0) rfl rfl) wd_296 wd_298 wd_2 wd_50 wd_299 lk_X1_bitOf ⟨rfl, rfl⟩ ⟨by decide, by decide⟩ ⟨Nat.zero_le _, Nat.zero_le _⟩ rfl (Nat.le_of_ble_eq_true rfl) dX1_widerNextsOf_9) (fun r_9 q_9 => ?_)
  obtain rfl := q_9
  refine lv_ior hx hb dX1_widerNextsOf_12 ?_
  exact retRI (v := (nxI n V q) ||| (plI n (q + 1))) hx hb hr hlocks hH dX1_widerNextsOf_13 (rfl)
abbrev rmX1_setBy : Room := { frames := 1, cells := 0, slots := 0, locals := 20 }
theorem lk_X1_setBy : Lk yX1_setBy 1 := by decide +kernel
set_option maxHeartbeats 4000000 in
set_option maxRecDepth 100000 in
/-- setBy(p) -/
theorem c_X1_setBy (l : Launch) (D : va_G) (k : Nat → ClassId) (ad : Nat → Nat) (V : St) {n : Nat} (hv : okV n V) {q : Nat} (hq : q < 24) : CtR noX l yX1_setBy cX1_setBy 2 (some .int) rmX1_setBy D (tyL k) (wP k ad V) [.ref (ad 0), .int (nI q)] (fun r => r = setI V q) := by
  refine CtR.mk (by decide) (Nat.le_of_ble_eq_true rfl) ?_
  intro p e s m below meth c hx hb hml hown hg hr hlocks hK hN hX H hH hP ls hl
  have hl : lv_has ls 2 [(0, .ref (ad 0)), (1, .int (nI q))] := hl
  obtain ⟨j, hk, hj, hlA, hlB, hlC⟩ := hv.2.2.1 q hq
  refine lv_aload_n hx hb dX1_setBy_0 rfl (lv_at hl 0 rfl) ?_
  refine gfl hx hb hg inX1 hown hK hP 0 (ci := 1) rfl rfl 0 (by decide) wd_70 rfl dX1_setBy_1 ?_
  refine lv_iload_n hx hb dX1_setBy_4 rfl (lv_at hl 1 rfl) ?_
  refine ldn hx hb hK hP 1 0 rfl rfl (by omega) (by decide) dX1_setBy_5 ?_
  refine topv (nI j) hk ?_
  rcases (show j = 0 ∨ j = 1 ∨ j = 2 ∨ j = 3 ∨ j = 4 ∨ j = 5 ∨ j = 6 ∨ j = 7 ∨ j = 8 ∨ j = 9 ∨ j = 10 ∨ j = 11 ∨ j = 12 ∨ j = 13 by omega) with rfl | rfl | rfl | rfl | rfl | rfl | rfl | rfl | rfl | rfl | rfl | rfl | rfl | rfl
  · refine lv_tableOut (tgt := 80) hx hb dX1_setBy_6 (by decide) (by decide) ?_
    refine lv_iconst (v := 0) hx hb dX1_setBy_80 (by decide) ?_
    exact retRI (v := 0) hx hb hr hlocks hH dX1_setBy_81 (by unfold setI; rw [kd_of hk hj]; first | (simp [hae, hbe, hce, ix_nI (show a < 2 ^ 31 by omega), ix_nI (show b < 2 ^ 31 by omega), ix_nI (show d < 2 ^ 31 by omega)]; done) | (simp [hae, hbe, ix_nI (show a < 2 ^ 31 by omega), ix_nI (show b < 2 ^ 31 by omega)]; done) | (simp [hae, ix_nI (show a < 2 ^ 31 by omega)]; done) | (simp [hbe, ix_nI (show b < 2 ^ 31 by omega)]; done) | (simp; done))
  · obtain ⟨a, ha1, hae⟩ := lim_nI hlA (by decide)
    have ha1 : a < 8 := ha1
    refine lv_tableIn (off := 54) (tgt := 60) hx hb dX1_setBy_6 (by decide) (by decide) (by rfl) (by decide) ?_
    refine lv_aload_n hx hb dX1_setBy_60 rfl (lv_at hl 0 rfl) ?_
    refine gfl hx hb hg inX1 hown hK hP 0 (ci := 1) rfl rfl 1 (by decide) wd_74 rfl dX1_setBy_61 ?_
    refine lv_iload_n hx hb dX1_setBy_64 rfl (lv_at hl 1 rfl) ?_
    refine ldn hx hb hK hP 2 0 rfl rfl (by omega) (by decide) dX1_setBy_65 ?_
    refine topv (nI a) hae ?_
    refine callR (runS hx hb hg hown hml hl.1 (c_X1_registerBit l D k (q := a)) [.int (nI a)] [] (preR (mapSome_sub hP [] rfl) hK hN xb0 x0) wd_334 wd_335 wd_50 wd_336 lk_X1_registerBit ⟨rfl, rfl⟩ ⟨by decide, by decide⟩ ⟨Nat.zero_le _, Nat.zero_le _⟩ rfl (Nat.le_of_ble_eq_true rfl) dX1_setBy_66) (fun r_66 q_66 => ?_)
    obtain rfl := q_66
    exact retRI (v := bitI a) hx hb hr hlocks hH dX1_setBy_69 (by unfold setI; rw [kd_of hk hj]; first | (simp [hae, hbe, hce, ix_nI (show a < 2 ^ 31 by omega), ix_nI (show b < 2 ^ 31 by omega), ix_nI (show d < 2 ^ 31 by omega)]; done) | (simp [hae, hbe, ix_nI (show a < 2 ^ 31 by omega), ix_nI (show b < 2 ^ 31 by omega)]; done) | (simp [hae, ix_nI (show a < 2 ^ 31 by omega)]; done) | (simp [hbe, ix_nI (show b < 2 ^ 31 by omega)]; done) | (simp; done))
  · obtain ⟨a, ha1, hae⟩ := lim_nI hlA (by decide)
    have ha1 : a < 8 := ha1
    obtain ⟨b, hb1, hbe⟩ := lim_nI hlB (by decide)
    have hb1 : b < 4 := hb1
    refine lv_tableIn (off := 54) (tgt := 60) hx hb dX1_setBy_6 (by decide) (by decide) (by rfl) (by decide) ?_
    refine lv_aload_n hx hb dX1_setBy_60 rfl (lv_at hl 0 rfl) ?_
    refine gfl hx hb hg inX1 hown hK hP 0 (ci := 1) rfl rfl 1 (by decide) wd_74 rfl dX1_setBy_61 ?_
    refine lv_iload_n hx hb dX1_setBy_64 rfl (lv_at hl 1 rfl) ?_
    refine ldn hx hb hK hP 2 0 rfl rfl (by omega) (by decide) dX1_setBy_65 ?_
    refine topv (nI a) hae ?_
    refine callR (runS hx hb hg hown hml hl.1 (c_X1_registerBit l D k (q := a)) [.int (nI a)] [] (preR (mapSome_sub hP [] rfl) hK hN xb0 x0) wd_334 wd_335 wd_50 wd_336 lk_X1_registerBit ⟨rfl, rfl⟩ ⟨by decide, by decide⟩ ⟨Nat.zero_le _, Nat.zero_le _⟩ rfl (Nat.le_of_ble_eq_true rfl) dX1_setBy_66) (fun r_66 q_66 => ?_)
    obtain rfl := q_66
    exact retRI (v := bitI a) hx hb hr hlocks hH dX1_setBy_69 (by unfold setI; rw [kd_of hk hj]; first | (simp [hae, hbe, hce, ix_nI (show a < 2 ^ 31 by omega), ix_nI (show b < 2 ^ 31 by omega), ix_nI (show d < 2 ^ 31 by omega)]; done) | (simp [hae, hbe, ix_nI (show a < 2 ^ 31 by omega), ix_nI (show b < 2 ^ 31 by omega)]; done) | (simp [hae, ix_nI (show a < 2 ^ 31 by omega)]; done) | (simp [hbe, ix_nI (show b < 2 ^ 31 by omega)]; done) | (simp; done))
  · obtain ⟨a, ha1, hae⟩ := lim_nI hlA (by decide)
    have ha1 : a < 8 := ha1
    obtain ⟨b, hb1, hbe⟩ := lim_nI hlB (by decide)
    have hb1 : b < 8 := hb1
    obtain ⟨d, hc1, hce⟩ := lim_nI hlC (by decide)
    have hc1 : d < 8 := hc1
    refine lv_tableIn (off := 54) (tgt := 60) hx hb dX1_setBy_6 (by decide) (by decide) (by rfl) (by decide) ?_
    refine lv_aload_n hx hb dX1_setBy_60 rfl (lv_at hl 0 rfl) ?_
    refine gfl hx hb hg inX1 hown hK hP 0 (ci := 1) rfl rfl 1 (by decide) wd_74 rfl dX1_setBy_61 ?_
    refine lv_iload_n hx hb dX1_setBy_64 rfl (lv_at hl 1 rfl) ?_
    refine ldn hx hb hK hP 2 0 rfl rfl (by omega) (by decide) dX1_setBy_65 ?_
    refine topv (nI a) hae ?_
    refine callR (runS hx hb hg hown hml hl.1 (c_X1_registerBit l D k (q := a)) [.int (nI a)] [] (preR (mapSome_sub hP [] rfl) hK hN xb0 x0) wd_334 wd_335 wd_50 wd_336 lk_X1_registerBit ⟨rfl, rfl⟩ ⟨by decide, by decide⟩ ⟨Nat.zero_le _, Nat.zero_le _⟩ rfl (Nat.le_of_ble_eq_true rfl) dX1_setBy_66) (fun r_66 q_66 => ?_)
    obtain rfl := q_66
    exact retRI (v := bitI a) hx hb hr hlocks hH dX1_setBy_69 (by unfold setI; rw [kd_of hk hj]; first | (simp [hae, hbe, hce, ix_nI (show a < 2 ^ 31 by omega), ix_nI (show b < 2 ^ 31 by omega), ix_nI (show d < 2 ^ 31 by omega)]; done) | (simp [hae, hbe, ix_nI (show a < 2 ^ 31 by omega), ix_nI (show b < 2 ^ 31 by omega)]; done) | (simp [hae, ix_nI (show a < 2 ^ 31 by omega)]; done) | (simp [hbe, ix_nI (show b < 2 ^ 31 by omega)]; done) | (simp; done))
  · obtain ⟨a, ha1, hae⟩ := lim_nI hlA (by decide)
    have ha1 : a < 8 := ha1
    obtain ⟨b, hb1, hbe⟩ := lim_nI hlB (by decide)
    have hb1 : b < 8 := hb1
    obtain ⟨d, hc1, hce⟩ := lim_nI hlC (by decide)
    have hc1 : d < 8 := hc1
    refine lv_tableIn (off := 54) (tgt := 60) hx hb dX1_setBy_6 (by decide) (by decide) (by rfl) (by decide) ?_
    refine lv_aload_n hx hb dX1_setBy_60 rfl (lv_at hl 0 rfl) ?_
    refine gfl hx hb hg inX1 hown hK hP 0 (ci := 1) rfl rfl 1 (by decide) wd_74 rfl dX1_setBy_61 ?_
    refine lv_iload_n hx hb dX1_setBy_64 rfl (lv_at hl 1 rfl) ?_
    refine ldn hx hb hK hP 2 0 rfl rfl (by omega) (by decide) dX1_setBy_65 ?_
    refine topv (nI a) hae ?_
    refine callR (runS hx hb hg hown hml hl.1 (c_X1_registerBit l D k (q := a)) [.int (nI a)] [] (preR (mapSome_sub hP [] rfl) hK hN xb0 x0) wd_334 wd_335 wd_50 wd_336 lk_X1_registerBit ⟨rfl, rfl⟩ ⟨by decide, by decide⟩ ⟨Nat.zero_le _, Nat.zero_le _⟩ rfl (Nat.le_of_ble_eq_true rfl) dX1_setBy_66) (fun r_66 q_66 => ?_)
    obtain rfl := q_66
    exact retRI (v := bitI a) hx hb hr hlocks hH dX1_setBy_69 (by unfold setI; rw [kd_of hk hj]; first | (simp [hae, hbe, hce, ix_nI (show a < 2 ^ 31 by omega), ix_nI (show b < 2 ^ 31 by omega), ix_nI (show d < 2 ^ 31 by omega)]; done) | (simp [hae, hbe, ix_nI (show a < 2 ^ 31 by omega), ix_nI (show b < 2 ^ 31 by omega)]; done) | (simp [hae, ix_nI (show a < 2 ^ 31 by omega)]; done) | (simp [hbe, ix_nI (show b < 2 ^ 31 by omega)]; done) | (simp; done))
  · obtain ⟨a, ha1, hae⟩ := lim_nI hlA (by decide)
    have ha1 : a < 8 := ha1
    obtain ⟨b, hb1, hbe⟩ := lim_nI hlB (by decide)
    have hb1 : b < 8 := hb1
    obtain ⟨d, hc1, hce⟩ := lim_nI hlC (by decide)
    have hc1 : d < 8 := hc1
    refine lv_tableIn (off := 54) (tgt := 60) hx hb dX1_setBy_6 (by decide) (by decide) (by rfl) (by decide) ?_
    refine lv_aload_n hx hb dX1_setBy_60 rfl (lv_at hl 0 rfl) ?_
    refine gfl hx hb hg inX1 hown hK hP 0 (ci := 1) rfl rfl 1 (by decide) wd_74 rfl dX1_setBy_61 ?_
    refine lv_iload_n hx hb dX1_setBy_64 rfl (lv_at hl 1 rfl) ?_
    refine ldn hx hb hK hP 2 0 rfl rfl (by omega) (by decide) dX1_setBy_65 ?_
    refine topv (nI a) hae ?_
    refine callR (runS hx hb hg hown hml hl.1 (c_X1_registerBit l D k (q := a)) [.int (nI a)] [] (preR (mapSome_sub hP [] rfl) hK hN xb0 x0) wd_334 wd_335 wd_50 wd_336 lk_X1_registerBit ⟨rfl, rfl⟩ ⟨by decide, by decide⟩ ⟨Nat.zero_le _, Nat.zero_le _⟩ rfl (Nat.le_of_ble_eq_true rfl) dX1_setBy_66) (fun r_66 q_66 => ?_)
    obtain rfl := q_66
    exact retRI (v := bitI a) hx hb hr hlocks hH dX1_setBy_69 (by unfold setI; rw [kd_of hk hj]; first | (simp [hae, hbe, hce, ix_nI (show a < 2 ^ 31 by omega), ix_nI (show b < 2 ^ 31 by omega), ix_nI (show d < 2 ^ 31 by omega)]; done) | (simp [hae, hbe, ix_nI (show a < 2 ^ 31 by omega), ix_nI (show b < 2 ^ 31 by omega)]; done) | (simp [hae, ix_nI (show a < 2 ^ 31 by omega)]; done) | (simp [hbe, ix_nI (show b < 2 ^ 31 by omega)]; done) | (simp; done))
  · obtain ⟨a, ha1, hae⟩ := lim_nI hlA (by decide)
    have ha1 : a < 8 := ha1
    obtain ⟨b, hb1, hbe⟩ := lim_nI hlB (by decide)
    have hb1 : b < 8 := hb1
    obtain ⟨d, hc1, hce⟩ := lim_nI hlC (by decide)
    have hc1 : d < 8 := hc1
    refine lv_tableIn (off := 54) (tgt := 60) hx hb dX1_setBy_6 (by decide) (by decide) (by rfl) (by decide) ?_
    refine lv_aload_n hx hb dX1_setBy_60 rfl (lv_at hl 0 rfl) ?_
    refine gfl hx hb hg inX1 hown hK hP 0 (ci := 1) rfl rfl 1 (by decide) wd_74 rfl dX1_setBy_61 ?_
    refine lv_iload_n hx hb dX1_setBy_64 rfl (lv_at hl 1 rfl) ?_
    refine ldn hx hb hK hP 2 0 rfl rfl (by omega) (by decide) dX1_setBy_65 ?_
    refine topv (nI a) hae ?_
    refine callR (runS hx hb hg hown hml hl.1 (c_X1_registerBit l D k (q := a)) [.int (nI a)] [] (preR (mapSome_sub hP [] rfl) hK hN xb0 x0) wd_334 wd_335 wd_50 wd_336 lk_X1_registerBit ⟨rfl, rfl⟩ ⟨by decide, by decide⟩ ⟨Nat.zero_le _, Nat.zero_le _⟩ rfl (Nat.le_of_ble_eq_true rfl) dX1_setBy_66) (fun r_66 q_66 => ?_)
    obtain rfl := q_66
    exact retRI (v := bitI a) hx hb hr hlocks hH dX1_setBy_69 (by unfold setI; rw [kd_of hk hj]; first | (simp [hae, hbe, hce, ix_nI (show a < 2 ^ 31 by omega), ix_nI (show b < 2 ^ 31 by omega), ix_nI (show d < 2 ^ 31 by omega)]; done) | (simp [hae, hbe, ix_nI (show a < 2 ^ 31 by omega), ix_nI (show b < 2 ^ 31 by omega)]; done) | (simp [hae, ix_nI (show a < 2 ^ 31 by omega)]; done) | (simp [hbe, ix_nI (show b < 2 ^ 31 by omega)]; done) | (simp; done))
  · obtain ⟨a, ha1, hae⟩ := lim_nI hlA (by decide)
    have ha1 : a < 8 := ha1
    obtain ⟨b, hb1, hbe⟩ := lim_nI hlB (by decide)
    have hb1 : b < 8 := hb1
    obtain ⟨d, hc1, hce⟩ := lim_nI hlC (by decide)
    have hc1 : d < 4 := hc1
    refine lv_tableIn (off := 74) (tgt := 80) hx hb dX1_setBy_6 (by decide) (by decide) (by rfl) (by decide) ?_
    refine lv_iconst (v := 0) hx hb dX1_setBy_80 (by decide) ?_
    exact retRI (v := 0) hx hb hr hlocks hH dX1_setBy_81 (by unfold setI; rw [kd_of hk hj]; first | (simp [hae, hbe, hce, ix_nI (show a < 2 ^ 31 by omega), ix_nI (show b < 2 ^ 31 by omega), ix_nI (show d < 2 ^ 31 by omega)]; done) | (simp [hae, hbe, ix_nI (show a < 2 ^ 31 by omega), ix_nI (show b < 2 ^ 31 by omega)]; done) | (simp [hae, ix_nI (show a < 2 ^ 31 by omega)]; done) | (simp [hbe, ix_nI (show b < 2 ^ 31 by omega)]; done) | (simp; done))
  · obtain ⟨a, ha1, hae⟩ := lim_nI hlA (by decide)
    have ha1 : a < 8 := ha1
    obtain ⟨b, hb1, hbe⟩ := lim_nI hlB (by decide)
    have hb1 : b < 8 := hb1
    obtain ⟨d, hc1, hce⟩ := lim_nI hlC (by decide)
    have hc1 : d < 4 := hc1
    refine lv_tableIn (off := 54) (tgt := 60) hx hb dX1_setBy_6 (by decide) (by decide) (by rfl) (by decide) ?_
    refine lv_aload_n hx hb dX1_setBy_60 rfl (lv_at hl 0 rfl) ?_
    refine gfl hx hb hg inX1 hown hK hP 0 (ci := 1) rfl rfl 1 (by decide) wd_74 rfl dX1_setBy_61 ?_
    refine lv_iload_n hx hb dX1_setBy_64 rfl (lv_at hl 1 rfl) ?_
    refine ldn hx hb hK hP 2 0 rfl rfl (by omega) (by decide) dX1_setBy_65 ?_
    refine topv (nI a) hae ?_
    refine callR (runS hx hb hg hown hml hl.1 (c_X1_registerBit l D k (q := a)) [.int (nI a)] [] (preR (mapSome_sub hP [] rfl) hK hN xb0 x0) wd_334 wd_335 wd_50 wd_336 lk_X1_registerBit ⟨rfl, rfl⟩ ⟨by decide, by decide⟩ ⟨Nat.zero_le _, Nat.zero_le _⟩ rfl (Nat.le_of_ble_eq_true rfl) dX1_setBy_66) (fun r_66 q_66 => ?_)
    obtain rfl := q_66
    exact retRI (v := bitI a) hx hb hr hlocks hH dX1_setBy_69 (by unfold setI; rw [kd_of hk hj]; first | (simp [hae, hbe, hce, ix_nI (show a < 2 ^ 31 by omega), ix_nI (show b < 2 ^ 31 by omega), ix_nI (show d < 2 ^ 31 by omega)]; done) | (simp [hae, hbe, ix_nI (show a < 2 ^ 31 by omega), ix_nI (show b < 2 ^ 31 by omega)]; done) | (simp [hae, ix_nI (show a < 2 ^ 31 by omega)]; done) | (simp [hbe, ix_nI (show b < 2 ^ 31 by omega)]; done) | (simp; done))
  · obtain ⟨a, ha1, hae⟩ := lim_nI hlA (by decide)
    have ha1 : a < 8 := ha1
    obtain ⟨b, hb1, hbe⟩ := lim_nI hlB (by decide)
    have hb1 : b < 4 := hb1
    refine lv_tableIn (off := 54) (tgt := 60) hx hb dX1_setBy_6 (by decide) (by decide) (by rfl) (by decide) ?_
    refine lv_aload_n hx hb dX1_setBy_60 rfl (lv_at hl 0 rfl) ?_
    refine gfl hx hb hg inX1 hown hK hP 0 (ci := 1) rfl rfl 1 (by decide) wd_74 rfl dX1_setBy_61 ?_
    refine lv_iload_n hx hb dX1_setBy_64 rfl (lv_at hl 1 rfl) ?_
    refine ldn hx hb hK hP 2 0 rfl rfl (by omega) (by decide) dX1_setBy_65 ?_
    refine topv (nI a) hae ?_
    refine callR (runS hx hb hg hown hml hl.1 (c_X1_registerBit l D k (q := a)) [.int (nI a)] [] (preR (mapSome_sub hP [] rfl) hK hN xb0 x0) wd_334 wd_335 wd_50 wd_336 lk_X1_registerBit ⟨rfl, rfl⟩ ⟨by decide, by decide⟩ ⟨Nat.zero_le _, Nat.zero_le _⟩ rfl (Nat.le_of_ble_eq_true rfl) dX1_setBy_66) (fun r_66 q_66 => ?_)
    obtain rfl := q_66
    exact retRI (v := bitI a) hx hb hr hlocks hH dX1_setBy_69 (by unfold setI; rw [kd_of hk hj]; first | (simp [hae, hbe, hce, ix_nI (show a < 2 ^ 31 by omega), ix_nI (show b < 2 ^ 31 by omega), ix_nI (show d < 2 ^ 31 by omega)]; done) | (simp [hae, hbe, ix_nI (show a < 2 ^ 31 by omega), ix_nI (show b < 2 ^ 31 by omega)]; done) | (simp [hae, ix_nI (show a < 2 ^ 31 by omega)]; done) | (simp [hbe, ix_nI (show b < 2 ^ 31 by omega)]; done) | (simp; done))
  · obtain ⟨a, ha1, hae⟩ := lim_nI hlA (by decide)
    have ha1 : a < 8 := ha1
    obtain ⟨b, hb1, hbe⟩ := lim_nI hlB (by decide)
    have hb1 : b < 4 := hb1
    refine lv_tableIn (off := 64) (tgt := 70) hx hb dX1_setBy_6 (by decide) (by decide) (by rfl) (by decide) ?_
    refine lv_aload_n hx hb dX1_setBy_70 rfl (lv_at hl 0 rfl) ?_
    refine gfl hx hb hg inX1 hown hK hP 0 (ci := 1) rfl rfl 2 (by decide) wd_76 rfl dX1_setBy_71 ?_
    refine lv_iload_n hx hb dX1_setBy_74 rfl (lv_at hl 1 rfl) ?_
    refine ldn hx hb hK hP 3 0 rfl rfl (by omega) (by decide) dX1_setBy_75 ?_
    refine topv (nI b) hbe ?_
    refine callR (runS hx hb hg hown hml hl.1 (c_X1_globalBit l D k (q := b)) [.int (nI b)] [] (preR (mapSome_sub hP [] rfl) hK hN xb0 x0) wd_337 wd_338 wd_50 wd_339 lk_X1_globalBit ⟨rfl, rfl⟩ ⟨by decide, by decide⟩ ⟨Nat.zero_le _, Nat.zero_le _⟩ rfl (Nat.le_of_ble_eq_true rfl) dX1_setBy_76) (fun r_76 q_76 => ?_)
    obtain rfl := q_76
    exact retRI (v := bitI (8 + b)) hx hb hr hlocks hH dX1_setBy_79 (by unfold setI; rw [kd_of hk hj]; first | (simp [hae, hbe, hce, ix_nI (show a < 2 ^ 31 by omega), ix_nI (show b < 2 ^ 31 by omega), ix_nI (show d < 2 ^ 31 by omega)]; done) | (simp [hae, hbe, ix_nI (show a < 2 ^ 31 by omega), ix_nI (show b < 2 ^ 31 by omega)]; done) | (simp [hae, ix_nI (show a < 2 ^ 31 by omega)]; done) | (simp [hbe, ix_nI (show b < 2 ^ 31 by omega)]; done) | (simp; done))
  · obtain ⟨a, ha1, hae⟩ := lim_nI hlA (by decide)
    have ha1 : a < 8 := ha1
    obtain ⟨b, hb1, hbe⟩ := lim_nI hlB (by decide)
    have hb1 : b < 25 := hb1
    refine lv_tableOut (tgt := 80) hx hb dX1_setBy_6 (by decide) (by decide) ?_
    refine lv_iconst (v := 0) hx hb dX1_setBy_80 (by decide) ?_
    exact retRI (v := 0) hx hb hr hlocks hH dX1_setBy_81 (by unfold setI; rw [kd_of hk hj]; first | (simp [hae, hbe, hce, ix_nI (show a < 2 ^ 31 by omega), ix_nI (show b < 2 ^ 31 by omega), ix_nI (show d < 2 ^ 31 by omega)]; done) | (simp [hae, hbe, ix_nI (show a < 2 ^ 31 by omega), ix_nI (show b < 2 ^ 31 by omega)]; done) | (simp [hae, ix_nI (show a < 2 ^ 31 by omega)]; done) | (simp [hbe, ix_nI (show b < 2 ^ 31 by omega)]; done) | (simp; done))
  · obtain ⟨b, hb1, hbe⟩ := lim_nI hlB (by decide)
    have hb1 : b < 25 := hb1
    refine lv_tableOut (tgt := 80) hx hb dX1_setBy_6 (by decide) (by decide) ?_
    refine lv_iconst (v := 0) hx hb dX1_setBy_80 (by decide) ?_
    exact retRI (v := 0) hx hb hr hlocks hH dX1_setBy_81 (by unfold setI; rw [kd_of hk hj]; first | (simp [hae, hbe, hce, ix_nI (show a < 2 ^ 31 by omega), ix_nI (show b < 2 ^ 31 by omega), ix_nI (show d < 2 ^ 31 by omega)]; done) | (simp [hae, hbe, ix_nI (show a < 2 ^ 31 by omega), ix_nI (show b < 2 ^ 31 by omega)]; done) | (simp [hae, ix_nI (show a < 2 ^ 31 by omega)]; done) | (simp [hbe, ix_nI (show b < 2 ^ 31 by omega)]; done) | (simp; done))
  · refine lv_tableOut (tgt := 80) hx hb dX1_setBy_6 (by decide) (by decide) ?_
    refine lv_iconst (v := 0) hx hb dX1_setBy_80 (by decide) ?_
    exact retRI (v := 0) hx hb hr hlocks hH dX1_setBy_81 (by unfold setI; rw [kd_of hk hj]; first | (simp [hae, hbe, hce, ix_nI (show a < 2 ^ 31 by omega), ix_nI (show b < 2 ^ 31 by omega), ix_nI (show d < 2 ^ 31 by omega)]; done) | (simp [hae, hbe, ix_nI (show a < 2 ^ 31 by omega), ix_nI (show b < 2 ^ 31 by omega)]; done) | (simp [hae, ix_nI (show a < 2 ^ 31 by omega)]; done) | (simp [hbe, ix_nI (show b < 2 ^ 31 by omega)]; done) | (simp; done))
abbrev rmX1_thinlyReadBy : Room := { frames := 1, cells := 0, slots := 0, locals := 20 }
theorem lk_X1_thinlyReadBy : Lk yX1_thinlyReadBy 1 := by decide +kernel
set_option maxHeartbeats 4000000 in
set_option maxRecDepth 100000 in
/-- thinlyReadBy(p) -/
theorem c_X1_thinlyReadBy (l : Launch) (D : va_G) (k : Nat → ClassId) (ad : Nat → Nat) (V : St) {n : Nat} (hv : okV n V) {q : Nat} (hq : q < 24) : CtR noX l yX1_thinlyReadBy cX1_thinlyReadBy 2 (some .int) rmX1_thinlyReadBy D (tyL k) (wP k ad V) [.ref (ad 0), .int (nI q)] (fun r => r = thrI V q) := by
  refine CtR.mk (by decide) (Nat.le_of_ble_eq_true rfl) ?_
  intro p e s m below meth c hx hb hml hown hg hr hlocks hK hN hX H hH hP ls hl
  have hl : lv_has ls 2 [(0, .ref (ad 0)), (1, .int (nI q))] := hl
  obtain ⟨j, hk, hj, hlA, hlB, hlC⟩ := hv.2.2.1 q hq
  refine lv_aload_n hx hb dX1_thinlyReadBy_0 rfl (lv_at hl 0 rfl) ?_
  refine gfl hx hb hg inX1 hown hK hP 0 (ci := 1) rfl rfl 0 (by decide) wd_70 rfl dX1_thinlyReadBy_1 ?_
  refine lv_iload_n hx hb dX1_thinlyReadBy_4 rfl (lv_at hl 1 rfl) ?_
  refine ldn hx hb hK hP 1 0 rfl rfl (by omega) (by decide) dX1_thinlyReadBy_5 ?_
  refine topv (nI j) hk ?_
  rcases (show j = 0 ∨ j = 1 ∨ j = 2 ∨ j = 3 ∨ j = 4 ∨ j = 5 ∨ j = 6 ∨ j = 7 ∨ j = 8 ∨ j = 9 ∨ j = 10 ∨ j = 11 ∨ j = 12 ∨ j = 13 by omega) with rfl | rfl | rfl | rfl | rfl | rfl | rfl | rfl | rfl | rfl | rfl | rfl | rfl | rfl
  · refine lv_tableOut (tgt := 92) hx hb dX1_thinlyReadBy_6 (by decide) (by decide) ?_
    refine lv_iconst (v := 0) hx hb dX1_thinlyReadBy_92 (by decide) ?_
    exact retRI (v := 0) hx hb hr hlocks hH dX1_thinlyReadBy_93 (by unfold thrI; rw [kd_of hk hj]; first | (simp [hae, hbe, hce, ix_nI (show a < 2 ^ 31 by omega), ix_nI (show b < 2 ^ 31 by omega), ix_nI (show d < 2 ^ 31 by omega)]; done) | (simp [hae, hbe, ix_nI (show a < 2 ^ 31 by omega), ix_nI (show b < 2 ^ 31 by omega)]; done) | (simp [hae, ix_nI (show a < 2 ^ 31 by omega)]; done) | (simp [hbe, ix_nI (show b < 2 ^ 31 by omega)]; done) | (simp; done))
  · obtain ⟨a, ha1, hae⟩ := lim_nI hlA (by decide)
    have ha1 : a < 8 := ha1
    refine lv_tableOut (tgt := 92) hx hb dX1_thinlyReadBy_6 (by decide) (by decide) ?_
    refine lv_iconst (v := 0) hx hb dX1_thinlyReadBy_92 (by decide) ?_
    exact retRI (v := 0) hx hb hr hlocks hH dX1_thinlyReadBy_93 (by unfold thrI; rw [kd_of hk hj]; first | (simp [hae, hbe, hce, ix_nI (show a < 2 ^ 31 by omega), ix_nI (show b < 2 ^ 31 by omega), ix_nI (show d < 2 ^ 31 by omega)]; done) | (simp [hae, hbe, ix_nI (show a < 2 ^ 31 by omega), ix_nI (show b < 2 ^ 31 by omega)]; done) | (simp [hae, ix_nI (show a < 2 ^ 31 by omega)]; done) | (simp [hbe, ix_nI (show b < 2 ^ 31 by omega)]; done) | (simp; done))
  · obtain ⟨a, ha1, hae⟩ := lim_nI hlA (by decide)
    have ha1 : a < 8 := ha1
    obtain ⟨b, hb1, hbe⟩ := lim_nI hlB (by decide)
    have hb1 : b < 4 := hb1
    refine lv_tableOut (tgt := 92) hx hb dX1_thinlyReadBy_6 (by decide) (by decide) ?_
    refine lv_iconst (v := 0) hx hb dX1_thinlyReadBy_92 (by decide) ?_
    exact retRI (v := 0) hx hb hr hlocks hH dX1_thinlyReadBy_93 (by unfold thrI; rw [kd_of hk hj]; first | (simp [hae, hbe, hce, ix_nI (show a < 2 ^ 31 by omega), ix_nI (show b < 2 ^ 31 by omega), ix_nI (show d < 2 ^ 31 by omega)]; done) | (simp [hae, hbe, ix_nI (show a < 2 ^ 31 by omega), ix_nI (show b < 2 ^ 31 by omega)]; done) | (simp [hae, ix_nI (show a < 2 ^ 31 by omega)]; done) | (simp [hbe, ix_nI (show b < 2 ^ 31 by omega)]; done) | (simp; done))
  · obtain ⟨a, ha1, hae⟩ := lim_nI hlA (by decide)
    have ha1 : a < 8 := ha1
    obtain ⟨b, hb1, hbe⟩ := lim_nI hlB (by decide)
    have hb1 : b < 8 := hb1
    obtain ⟨d, hc1, hce⟩ := lim_nI hlC (by decide)
    have hc1 : d < 8 := hc1
    refine lv_tableIn (off := 46) (tgt := 52) hx hb dX1_thinlyReadBy_6 (by decide) (by decide) (by rfl) (by decide) ?_
    refine lv_aload_n hx hb dX1_thinlyReadBy_52 rfl (lv_at hl 0 rfl) ?_
    refine gfl hx hb hg inX1 hown hK hP 0 (ci := 1) rfl rfl 2 (by decide) wd_76 rfl dX1_thinlyReadBy_53 ?_
    refine lv_iload_n hx hb dX1_thinlyReadBy_56 rfl (lv_at hl 1 rfl) ?_
    refine ldn hx hb hK hP 3 0 rfl rfl (by omega) (by decide) dX1_thinlyReadBy_57 ?_
    refine topv (nI b) hbe ?_
    refine callR (runS hx hb hg hown hml hl.1 (c_X1_registerBit l D k (q := b)) [.int (nI b)] [] (preR (mapSome_sub hP [] rfl) hK hN xb0 x0) wd_334 wd_335 wd_50 wd_336 lk_X1_registerBit ⟨rfl, rfl⟩ ⟨by decide, by decide⟩ ⟨Nat.zero_le _, Nat.zero_le _⟩ rfl (Nat.le_of_ble_eq_true rfl) dX1_thinlyReadBy_58) (fun r_58 q_58 => ?_)
    obtain rfl := q_58
    refine lv_aload_n hx hb dX1_thinlyReadBy_61 rfl (lv_at hl 0 rfl) ?_
    refine gfl hx hb hg inX1 hown hK hP 0 (ci := 1) rfl rfl 3 (by decide) wd_78 rfl dX1_thinlyReadBy_62 ?_
    refine lv_iload_n hx hb dX1_thinlyReadBy_65 rfl (lv_at hl 1 rfl) ?_
    refine ldn hx hb hK hP 4 0 rfl rfl (by omega) (by decide) dX1_thinlyReadBy_66 ?_
    refine topv (nI d) hce ?_
    refine callR (runS hx hb hg hown hml hl.1 (c_X1_registerBit l D k (q := d)) [.int (nI d)] [.int (bitI b)] (preR (mapSome_sub hP [] rfl) hK hN xb0 x0) wd_334 wd_335 wd_50 wd_336 lk_X1_registerBit ⟨rfl, rfl⟩ ⟨by decide, by decide⟩ ⟨Nat.zero_le _, Nat.zero_le _⟩ rfl (Nat.le_of_ble_eq_true rfl) dX1_thinlyReadBy_67) (fun r_67 q_67 => ?_)
    obtain rfl := q_67
    refine lv_ior hx hb dX1_thinlyReadBy_70 ?_
    exact retRI (v := (bitI b) ||| (bitI d)) hx hb hr hlocks hH dX1_thinlyReadBy_71 (by unfold thrI; rw [kd_of hk hj]; first | (simp [hae, hbe, hce, ix_nI (show a < 2 ^ 31 by omega), ix_nI (show b < 2 ^ 31 by omega), ix_nI (show d < 2 ^ 31 by omega)]; done) | (simp [hae, hbe, ix_nI (show a < 2 ^ 31 by omega), ix_nI (show b < 2 ^ 31 by omega)]; done) | (simp [hae, ix_nI (show a < 2 ^ 31 by omega)]; done) | (simp [hbe, ix_nI (show b < 2 ^ 31 by omega)]; done) | (simp; done))
  · obtain ⟨a, ha1, hae⟩ := lim_nI hlA (by decide)
    have ha1 : a < 8 := ha1
    obtain ⟨b, hb1, hbe⟩ := lim_nI hlB (by decide)
    have hb1 : b < 8 := hb1
    obtain ⟨d, hc1, hce⟩ := lim_nI hlC (by decide)
    have hc1 : d < 8 := hc1
    refine lv_tableIn (off := 46) (tgt := 52) hx hb dX1_thinlyReadBy_6 (by decide) (by decide) (by rfl) (by decide) ?_
    refine lv_aload_n hx hb dX1_thinlyReadBy_52 rfl (lv_at hl 0 rfl) ?_
    refine gfl hx hb hg inX1 hown hK hP 0 (ci := 1) rfl rfl 2 (by decide) wd_76 rfl dX1_thinlyReadBy_53 ?_
    refine lv_iload_n hx hb dX1_thinlyReadBy_56 rfl (lv_at hl 1 rfl) ?_
    refine ldn hx hb hK hP 3 0 rfl rfl (by omega) (by decide) dX1_thinlyReadBy_57 ?_
    refine topv (nI b) hbe ?_
    refine callR (runS hx hb hg hown hml hl.1 (c_X1_registerBit l D k (q := b)) [.int (nI b)] [] (preR (mapSome_sub hP [] rfl) hK hN xb0 x0) wd_334 wd_335 wd_50 wd_336 lk_X1_registerBit ⟨rfl, rfl⟩ ⟨by decide, by decide⟩ ⟨Nat.zero_le _, Nat.zero_le _⟩ rfl (Nat.le_of_ble_eq_true rfl) dX1_thinlyReadBy_58) (fun r_58 q_58 => ?_)
    obtain rfl := q_58
    refine lv_aload_n hx hb dX1_thinlyReadBy_61 rfl (lv_at hl 0 rfl) ?_
    refine gfl hx hb hg inX1 hown hK hP 0 (ci := 1) rfl rfl 3 (by decide) wd_78 rfl dX1_thinlyReadBy_62 ?_
    refine lv_iload_n hx hb dX1_thinlyReadBy_65 rfl (lv_at hl 1 rfl) ?_
    refine ldn hx hb hK hP 4 0 rfl rfl (by omega) (by decide) dX1_thinlyReadBy_66 ?_
    refine topv (nI d) hce ?_
    refine callR (runS hx hb hg hown hml hl.1 (c_X1_registerBit l D k (q := d)) [.int (nI d)] [.int (bitI b)] (preR (mapSome_sub hP [] rfl) hK hN xb0 x0) wd_334 wd_335 wd_50 wd_336 lk_X1_registerBit ⟨rfl, rfl⟩ ⟨by decide, by decide⟩ ⟨Nat.zero_le _, Nat.zero_le _⟩ rfl (Nat.le_of_ble_eq_true rfl) dX1_thinlyReadBy_67) (fun r_67 q_67 => ?_)
    obtain rfl := q_67
    refine lv_ior hx hb dX1_thinlyReadBy_70 ?_
    exact retRI (v := (bitI b) ||| (bitI d)) hx hb hr hlocks hH dX1_thinlyReadBy_71 (by unfold thrI; rw [kd_of hk hj]; first | (simp [hae, hbe, hce, ix_nI (show a < 2 ^ 31 by omega), ix_nI (show b < 2 ^ 31 by omega), ix_nI (show d < 2 ^ 31 by omega)]; done) | (simp [hae, hbe, ix_nI (show a < 2 ^ 31 by omega), ix_nI (show b < 2 ^ 31 by omega)]; done) | (simp [hae, ix_nI (show a < 2 ^ 31 by omega)]; done) | (simp [hbe, ix_nI (show b < 2 ^ 31 by omega)]; done) | (simp; done))
  · obtain ⟨a, ha1, hae⟩ := lim_nI hlA (by decide)
    have ha1 : a < 8 := ha1
    obtain ⟨b, hb1, hbe⟩ := lim_nI hlB (by decide)
    have hb1 : b < 8 := hb1
    obtain ⟨d, hc1, hce⟩ := lim_nI hlC (by decide)
    have hc1 : d < 8 := hc1
    refine lv_tableIn (off := 46) (tgt := 52) hx hb dX1_thinlyReadBy_6 (by decide) (by decide) (by rfl) (by decide) ?_
    refine lv_aload_n hx hb dX1_thinlyReadBy_52 rfl (lv_at hl 0 rfl) ?_
    refine gfl hx hb hg inX1 hown hK hP 0 (ci := 1) rfl rfl 2 (by decide) wd_76 rfl dX1_thinlyReadBy_53 ?_
    refine lv_iload_n hx hb dX1_thinlyReadBy_56 rfl (lv_at hl 1 rfl) ?_
    refine ldn hx hb hK hP 3 0 rfl rfl (by omega) (by decide) dX1_thinlyReadBy_57 ?_
    refine topv (nI b) hbe ?_
    refine callR (runS hx hb hg hown hml hl.1 (c_X1_registerBit l D k (q := b)) [.int (nI b)] [] (preR (mapSome_sub hP [] rfl) hK hN xb0 x0) wd_334 wd_335 wd_50 wd_336 lk_X1_registerBit ⟨rfl, rfl⟩ ⟨by decide, by decide⟩ ⟨Nat.zero_le _, Nat.zero_le _⟩ rfl (Nat.le_of_ble_eq_true rfl) dX1_thinlyReadBy_58) (fun r_58 q_58 => ?_)
    obtain rfl := q_58
    refine lv_aload_n hx hb dX1_thinlyReadBy_61 rfl (lv_at hl 0 rfl) ?_
    refine gfl hx hb hg inX1 hown hK hP 0 (ci := 1) rfl rfl 3 (by decide) wd_78 rfl dX1_thinlyReadBy_62 ?_
    refine lv_iload_n hx hb dX1_thinlyReadBy_65 rfl (lv_at hl 1 rfl) ?_
    refine ldn hx hb hK hP 4 0 rfl rfl (by omega) (by decide) dX1_thinlyReadBy_66 ?_
    refine topv (nI d) hce ?_
    refine callR (runS hx hb hg hown hml hl.1 (c_X1_registerBit l D k (q := d)) [.int (nI d)] [.int (bitI b)] (preR (mapSome_sub hP [] rfl) hK hN xb0 x0) wd_334 wd_335 wd_50 wd_336 lk_X1_registerBit ⟨rfl, rfl⟩ ⟨by decide, by decide⟩ ⟨Nat.zero_le _, Nat.zero_le _⟩ rfl (Nat.le_of_ble_eq_true rfl) dX1_thinlyReadBy_67) (fun r_67 q_67 => ?_)
    obtain rfl := q_67
    refine lv_ior hx hb dX1_thinlyReadBy_70 ?_
    exact retRI (v := (bitI b) ||| (bitI d)) hx hb hr hlocks hH dX1_thinlyReadBy_71 (by unfold thrI; rw [kd_of hk hj]; first | (simp [hae, hbe, hce, ix_nI (show a < 2 ^ 31 by omega), ix_nI (show b < 2 ^ 31 by omega), ix_nI (show d < 2 ^ 31 by omega)]; done) | (simp [hae, hbe, ix_nI (show a < 2 ^ 31 by omega), ix_nI (show b < 2 ^ 31 by omega)]; done) | (simp [hae, ix_nI (show a < 2 ^ 31 by omega)]; done) | (simp [hbe, ix_nI (show b < 2 ^ 31 by omega)]; done) | (simp; done))
  · obtain ⟨a, ha1, hae⟩ := lim_nI hlA (by decide)
    have ha1 : a < 8 := ha1
    obtain ⟨b, hb1, hbe⟩ := lim_nI hlB (by decide)
    have hb1 : b < 8 := hb1
    obtain ⟨d, hc1, hce⟩ := lim_nI hlC (by decide)
    have hc1 : d < 8 := hc1
    refine lv_tableIn (off := 46) (tgt := 52) hx hb dX1_thinlyReadBy_6 (by decide) (by decide) (by rfl) (by decide) ?_
    refine lv_aload_n hx hb dX1_thinlyReadBy_52 rfl (lv_at hl 0 rfl) ?_
    refine gfl hx hb hg inX1 hown hK hP 0 (ci := 1) rfl rfl 2 (by decide) wd_76 rfl dX1_thinlyReadBy_53 ?_
    refine lv_iload_n hx hb dX1_thinlyReadBy_56 rfl (lv_at hl 1 rfl) ?_
    refine ldn hx hb hK hP 3 0 rfl rfl (by omega) (by decide) dX1_thinlyReadBy_57 ?_
    refine topv (nI b) hbe ?_
    refine callR (runS hx hb hg hown hml hl.1 (c_X1_registerBit l D k (q := b)) [.int (nI b)] [] (preR (mapSome_sub hP [] rfl) hK hN xb0 x0) wd_334 wd_335 wd_50 wd_336 lk_X1_registerBit ⟨rfl, rfl⟩ ⟨by decide, by decide⟩ ⟨Nat.zero_le _, Nat.zero_le _⟩ rfl (Nat.le_of_ble_eq_true rfl) dX1_thinlyReadBy_58) (fun r_58 q_58 => ?_)
    obtain rfl := q_58
    refine lv_aload_n hx hb dX1_thinlyReadBy_61 rfl (lv_at hl 0 rfl) ?_
    refine gfl hx hb hg inX1 hown hK hP 0 (ci := 1) rfl rfl 3 (by decide) wd_78 rfl dX1_thinlyReadBy_62 ?_
    refine lv_iload_n hx hb dX1_thinlyReadBy_65 rfl (lv_at hl 1 rfl) ?_
    refine ldn hx hb hK hP 4 0 rfl rfl (by omega) (by decide) dX1_thinlyReadBy_66 ?_
    refine topv (nI d) hce ?_
    refine callR (runS hx hb hg hown hml hl.1 (c_X1_registerBit l D k (q := d)) [.int (nI d)] [.int (bitI b)] (preR (mapSome_sub hP [] rfl) hK hN xb0 x0) wd_334 wd_335 wd_50 wd_336 lk_X1_registerBit ⟨rfl, rfl⟩ ⟨by decide, by decide⟩ ⟨Nat.zero_le _, Nat.zero_le _⟩ rfl (Nat.le_of_ble_eq_true rfl) dX1_thinlyReadBy_67) (fun r_67 q_67 => ?_)
    obtain rfl := q_67
    refine lv_ior hx hb dX1_thinlyReadBy_70 ?_
    exact retRI (v := (bitI b) ||| (bitI d)) hx hb hr hlocks hH dX1_thinlyReadBy_71 (by unfold thrI; rw [kd_of hk hj]; first | (simp [hae, hbe, hce, ix_nI (show a < 2 ^ 31 by omega), ix_nI (show b < 2 ^ 31 by omega), ix_nI (show d < 2 ^ 31 by omega)]; done) | (simp [hae, hbe, ix_nI (show a < 2 ^ 31 by omega), ix_nI (show b < 2 ^ 31 by omega)]; done) | (simp [hae, ix_nI (show a < 2 ^ 31 by omega)]; done) | (simp [hbe, ix_nI (show b < 2 ^ 31 by omega)]; done) | (simp; done))
  · obtain ⟨a, ha1, hae⟩ := lim_nI hlA (by decide)
    have ha1 : a < 8 := ha1
    obtain ⟨b, hb1, hbe⟩ := lim_nI hlB (by decide)
    have hb1 : b < 8 := hb1
    obtain ⟨d, hc1, hce⟩ := lim_nI hlC (by decide)
    have hc1 : d < 4 := hc1
    refine lv_tableIn (off := 66) (tgt := 72) hx hb dX1_thinlyReadBy_6 (by decide) (by decide) (by rfl) (by decide) ?_
    refine lv_aload_n hx hb dX1_thinlyReadBy_72 rfl (lv_at hl 0 rfl) ?_
    refine gfl hx hb hg inX1 hown hK hP 0 (ci := 1) rfl rfl 1 (by decide) wd_74 rfl dX1_thinlyReadBy_73 ?_
    refine lv_iload_n hx hb dX1_thinlyReadBy_76 rfl (lv_at hl 1 rfl) ?_
    refine ldn hx hb hK hP 2 0 rfl rfl (by omega) (by decide) dX1_thinlyReadBy_77 ?_
    refine topv (nI a) hae ?_
    refine callR (runS hx hb hg hown hml hl.1 (c_X1_registerBit l D k (q := a)) [.int (nI a)] [] (preR (mapSome_sub hP [] rfl) hK hN xb0 x0) wd_334 wd_335 wd_50 wd_336 lk_X1_registerBit ⟨rfl, rfl⟩ ⟨by decide, by decide⟩ ⟨Nat.zero_le _, Nat.zero_le _⟩ rfl (Nat.le_of_ble_eq_true rfl) dX1_thinlyReadBy_78) (fun r_78 q_78 => ?_)
    obtain rfl := q_78
    exact retRI (v := bitI a) hx hb hr hlocks hH dX1_thinlyReadBy_81 (by unfold thrI; rw [kd_of hk hj]; first | (simp [hae, hbe, hce, ix_nI (show a < 2 ^ 31 by omega), ix_nI (show b < 2 ^ 31 by omega), ix_nI (show d < 2 ^ 31 by omega)]; done) | (simp [hae, hbe, ix_nI (show a < 2 ^ 31 by omega), ix_nI (show b < 2 ^ 31 by omega)]; done) | (simp [hae, ix_nI (show a < 2 ^ 31 by omega)]; done) | (simp [hbe, ix_nI (show b < 2 ^ 31 by omega)]; done) | (simp; done))
  · obtain ⟨a, ha1, hae⟩ := lim_nI hlA (by decide)
    have ha1 : a < 8 := ha1
    obtain ⟨b, hb1, hbe⟩ := lim_nI hlB (by decide)
    have hb1 : b < 8 := hb1
    obtain ⟨d, hc1, hce⟩ := lim_nI hlC (by decide)
    have hc1 : d < 4 := hc1
    refine lv_tableIn (off := 86) (tgt := 92) hx hb dX1_thinlyReadBy_6 (by decide) (by decide) (by rfl) (by decide) ?_
    refine lv_iconst (v := 0) hx hb dX1_thinlyReadBy_92 (by decide) ?_
    exact retRI (v := 0) hx hb hr hlocks hH dX1_thinlyReadBy_93 (by unfold thrI; rw [kd_of hk hj]; first | (simp [hae, hbe, hce, ix_nI (show a < 2 ^ 31 by omega), ix_nI (show b < 2 ^ 31 by omega), ix_nI (show d < 2 ^ 31 by omega)]; done) | (simp [hae, hbe, ix_nI (show a < 2 ^ 31 by omega), ix_nI (show b < 2 ^ 31 by omega)]; done) | (simp [hae, ix_nI (show a < 2 ^ 31 by omega)]; done) | (simp [hbe, ix_nI (show b < 2 ^ 31 by omega)]; done) | (simp; done))
  · obtain ⟨a, ha1, hae⟩ := lim_nI hlA (by decide)
    have ha1 : a < 8 := ha1
    obtain ⟨b, hb1, hbe⟩ := lim_nI hlB (by decide)
    have hb1 : b < 4 := hb1
    refine lv_tableIn (off := 76) (tgt := 82) hx hb dX1_thinlyReadBy_6 (by decide) (by decide) (by rfl) (by decide) ?_
    refine lv_aload_n hx hb dX1_thinlyReadBy_82 rfl (lv_at hl 0 rfl) ?_
    refine gfl hx hb hg inX1 hown hK hP 0 (ci := 1) rfl rfl 2 (by decide) wd_76 rfl dX1_thinlyReadBy_83 ?_
    refine lv_iload_n hx hb dX1_thinlyReadBy_86 rfl (lv_at hl 1 rfl) ?_
    refine ldn hx hb hK hP 3 0 rfl rfl (by omega) (by decide) dX1_thinlyReadBy_87 ?_
    refine topv (nI b) hbe ?_
    refine callR (runS hx hb hg hown hml hl.1 (c_X1_globalBit l D k (q := b)) [.int (nI b)] [] (preR (mapSome_sub hP [] rfl) hK hN xb0 x0) wd_337 wd_338 wd_50 wd_339 lk_X1_globalBit ⟨rfl, rfl⟩ ⟨by decide, by decide⟩ ⟨Nat.zero_le _, Nat.zero_le _⟩ rfl (Nat.le_of_ble_eq_true rfl) dX1_thinlyReadBy_88) (fun r_88 q_88 => ?_)
    obtain rfl := q_88
    exact retRI (v := bitI (8 + b)) hx hb hr hlocks hH dX1_thinlyReadBy_91 (by unfold thrI; rw [kd_of hk hj]; first | (simp [hae, hbe, hce, ix_nI (show a < 2 ^ 31 by omega), ix_nI (show b < 2 ^ 31 by omega), ix_nI (show d < 2 ^ 31 by omega)]; done) | (simp [hae, hbe, ix_nI (show a < 2 ^ 31 by omega), ix_nI (show b < 2 ^ 31 by omega)]; done) | (simp [hae, ix_nI (show a < 2 ^ 31 by omega)]; done) | (simp [hbe, ix_nI (show b < 2 ^ 31 by omega)]; done) | (simp; done))
  · obtain ⟨a, ha1, hae⟩ := lim_nI hlA (by decide)
    have ha1 : a < 8 := ha1
    obtain ⟨b, hb1, hbe⟩ := lim_nI hlB (by decide)
    have hb1 : b < 4 := hb1
    refine lv_tableIn (off := 66) (tgt := 72) hx hb dX1_thinlyReadBy_6 (by decide) (by decide) (by rfl) (by decide) ?_
    refine lv_aload_n hx hb dX1_thinlyReadBy_72 rfl (lv_at hl 0 rfl) ?_
    refine gfl hx hb hg inX1 hown hK hP 0 (ci := 1) rfl rfl 1 (by decide) wd_74 rfl dX1_thinlyReadBy_73 ?_
    refine lv_iload_n hx hb dX1_thinlyReadBy_76 rfl (lv_at hl 1 rfl) ?_
    refine ldn hx hb hK hP 2 0 rfl rfl (by omega) (by decide) dX1_thinlyReadBy_77 ?_
    refine topv (nI a) hae ?_
    refine callR (runS hx hb hg hown hml hl.1 (c_X1_registerBit l D k (q := a)) [.int (nI a)] [] (preR (mapSome_sub hP [] rfl) hK hN xb0 x0) wd_334 wd_335 wd_50 wd_336 lk_X1_registerBit ⟨rfl, rfl⟩ ⟨by decide, by decide⟩ ⟨Nat.zero_le _, Nat.zero_le _⟩ rfl (Nat.le_of_ble_eq_true rfl) dX1_thinlyReadBy_78) (fun r_78 q_78 => ?_)
    obtain rfl := q_78
    exact retRI (v := bitI a) hx hb hr hlocks hH dX1_thinlyReadBy_81 (by unfold thrI; rw [kd_of hk hj]; first | (simp [hae, hbe, hce, ix_nI (show a < 2 ^ 31 by omega), ix_nI (show b < 2 ^ 31 by omega), ix_nI (show d < 2 ^ 31 by omega)]; done) | (simp [hae, hbe, ix_nI (show a < 2 ^ 31 by omega), ix_nI (show b < 2 ^ 31 by omega)]; done) | (simp [hae, ix_nI (show a < 2 ^ 31 by omega)]; done) | (simp [hbe, ix_nI (show b < 2 ^ 31 by omega)]; done) | (simp; done))
  · obtain ⟨a, ha1, hae⟩ := lim_nI hlA (by decide)
    have ha1 : a < 8 := ha1
    obtain ⟨b, hb1, hbe⟩ := lim_nI hlB (by decide)
    have hb1 : b < 25 := hb1
    refine lv_tableOut (tgt := 92) hx hb dX1_thinlyReadBy_6 (by decide) (by decide) ?_
    refine lv_iconst (v := 0) hx hb dX1_thinlyReadBy_92 (by decide) ?_
    exact retRI (v := 0) hx hb hr hlocks hH dX1_thinlyReadBy_93 (by unfold thrI; rw [kd_of hk hj]; first | (simp [hae, hbe, hce, ix_nI (show a < 2 ^ 31 by omega), ix_nI (show b < 2 ^ 31 by omega), ix_nI (show d < 2 ^ 31 by omega)]; done) | (simp [hae, hbe, ix_nI (show a < 2 ^ 31 by omega), ix_nI (show b < 2 ^ 31 by omega)]; done) | (simp [hae, ix_nI (show a < 2 ^ 31 by omega)]; done) | (simp [hbe, ix_nI (show b < 2 ^ 31 by omega)]; done) | (simp; done))
  · obtain ⟨b, hb1, hbe⟩ := lim_nI hlB (by decide)
    have hb1 : b < 25 := hb1
    refine lv_tableOut (tgt := 92) hx hb dX1_thinlyReadBy_6 (by decide) (by decide) ?_
    refine lv_iconst (v := 0) hx hb dX1_thinlyReadBy_92 (by decide) ?_
    exact retRI (v := 0) hx hb hr hlocks hH dX1_thinlyReadBy_93 (by unfold thrI; rw [kd_of hk hj]; first | (simp [hae, hbe, hce, ix_nI (show a < 2 ^ 31 by omega), ix_nI (show b < 2 ^ 31 by omega), ix_nI (show d < 2 ^ 31 by omega)]; done) | (simp [hae, hbe, ix_nI (show a < 2 ^ 31 by omega), ix_nI (show b < 2 ^ 31 by omega)]; done) | (simp [hae, ix_nI (show a < 2 ^ 31 by omega)]; done) | (simp [hbe, ix_nI (show b < 2 ^ 31 by omega)]; done) | (simp; done))
  · refine lv_tableOut (tgt := 92) hx hb dX1_thinlyReadBy_6 (by decide) (by decide) ?_
    refine lv_iconst (v := 0) hx hb dX1_thinlyReadBy_92 (by decide) ?_
    exact retRI (v := 0) hx hb hr hlocks hH dX1_thinlyReadBy_93 (by unfold thrI; rw [kd_of hk hj]; first | (simp [hae, hbe, hce, ix_nI (show a < 2 ^ 31 by omega), ix_nI (show b < 2 ^ 31 by omega), ix_nI (show d < 2 ^ 31 by omega)]; done) | (simp [hae, hbe, ix_nI (show a < 2 ^ 31 by omega), ix_nI (show b < 2 ^ 31 by omega)]; done) | (simp [hae, ix_nI (show a < 2 ^ 31 by omega)]; done) | (simp [hbe, ix_nI (show b < 2 ^ 31 by omega)]; done) | (simp; done))
abbrev rmX1_readBy : Room := { frames := 2, cells := 0, slots := 0, locals := 41 }
theorem lk_X1_readBy : Lk yX1_readBy 1 := by decide +kernel
set_option maxHeartbeats 4000000 in
set_option maxRecDepth 100000 in
/-- readBy(p) -/
theorem c_X1_readBy (l : Launch) (D : va_G) (k : Nat → ClassId) (ad : Nat → Nat) (V : St) {n : Nat} (hv : okV n V) {q : Nat} (hq : q < 24) : CtR noX l yX1_readBy cX1_readBy 2 (some .int) rmX1_readBy D (tyL k) (wP k ad V) [.ref (ad 0), .int (nI q)] (fun r => r = rdI V q) := by
  refine CtR.mk (by decide) (Nat.le_of_ble_eq_true rfl) ?_
  intro p e s m below meth c hx hb hml hown hg hr hlocks hK hN hX H hH hP ls hl
  have hl : lv_has ls 2 [(0, .ref (ad 0)), (1, .int (nI q))] := hl
  obtain ⟨j, hk, hj, hlA, hlB, hlC⟩ := hv.2.2.1 q hq
  refine lv_aload_n hx hb dX1_readBy_0 rfl (lv_at hl 0 rfl) ?_
  refine gfl hx hb hg inX1 hown hK hP 0 (ci := 1) rfl rfl 0 (by decide) wd_70 rfl dX1_readBy_1 ?_
  refine lv_iload_n hx hb dX1_readBy_4 rfl (lv_at hl 1 rfl) ?_
  refine ldn hx hb hK hP 1 0 rfl rfl (by omega) (by decide) dX1_readBy_5 ?_
  refine topv (nI j) hk ?_
  rcases (show j = 0 ∨ j = 1 ∨ j = 2 ∨ j = 3 ∨ j = 4 ∨ j = 5 ∨ j = 6 ∨ j = 7 ∨ j = 8 ∨ j = 9 ∨ j = 10 ∨ j = 11 ∨ j = 12 ∨ j = 13 by omega) with rfl | rfl | rfl | rfl | rfl | rfl | rfl | rfl | rfl | rfl | rfl | rfl | rfl | rfl
  · refine lv_tableOut (tgt := 80) hx hb dX1_readBy_6 (by decide) (by decide) ?_
    refine lv_aload_n hx hb dX1_readBy_80 rfl (lv_at hl 0 rfl) ?_
    refine lv_iload_n hx hb dX1_readBy_81 rfl (lv_at hl 1 rfl) ?_
    refine callR (runV hx hb hg hown hml hl.1 (c_X1_thinlyReadBy l D k ad V hv hq) [.int (nI q)] [] (preR (mapSome_sub hP [0, 1, 2, 3, 4, 5, 6, 7] rfl) hK hN xb0 x0) (va_recv hK hP (ci := 1) (q0 := 0) rfl rfl) wd_352 wd_353 wd_354 wd_50 wd_355 lk_X1_thinlyReadBy ⟨rfl, rfl⟩ ⟨by decide, by decide⟩ ⟨Nat.zero_le _, Nat.zero_le _⟩ rfl (Nat.le_of_ble_eq_true rfl) dX1_readBy_82) (fun r_82 q_82 => ?_)
    obtain rfl := q_82
    exact retRI (v := thrI V q) hx hb hr hlocks hH dX1_readBy_85 (by unfold rdI; rw [kd_of hk hj]; first | (simp [hae, hbe, hce, ix_nI (show a < 2 ^ 31 by omega), ix_nI (show b < 2 ^ 31 by omega), ix_nI (show d < 2 ^ 31 by omega)]; done) | (simp [hae, hbe, ix_nI (show a < 2 ^ 31 by omega), ix_nI (show b < 2 ^ 31 by omega)]; done) | (simp [hae, ix_nI (show a < 2 ^ 31 by omega)]; done) | (simp [hbe, ix_nI (show b < 2 ^ 31 by omega)]; done) | (simp; done))
  · obtain ⟨a, ha1, hae⟩ := lim_nI hlA (by decide)
    have ha1 : a < 8 := ha1
    refine lv_tableOut (tgt := 80) hx hb dX1_readBy_6 (by decide) (by decide) ?_
    refine lv_aload_n hx hb dX1_readBy_80 rfl (lv_at hl 0 rfl) ?_
    refine lv_iload_n hx hb dX1_readBy_81 rfl (lv_at hl 1 rfl) ?_
    refine callR (runV hx hb hg hown hml hl.1 (c_X1_thinlyReadBy l D k ad V hv hq) [.int (nI q)] [] (preR (mapSome_sub hP [0, 1, 2, 3, 4, 5, 6, 7] rfl) hK hN xb0 x0) (va_recv hK hP (ci := 1) (q0 := 0) rfl rfl) wd_352 wd_353 wd_354 wd_50 wd_355 lk_X1_thinlyReadBy ⟨rfl, rfl⟩ ⟨by decide, by decide⟩ ⟨Nat.zero_le _, Nat.zero_le _⟩ rfl (Nat.le_of_ble_eq_true rfl) dX1_readBy_82) (fun r_82 q_82 => ?_)
    obtain rfl := q_82
    exact retRI (v := thrI V q) hx hb hr hlocks hH dX1_readBy_85 (by unfold rdI; rw [kd_of hk hj]; first | (simp [hae, hbe, hce, ix_nI (show a < 2 ^ 31 by omega), ix_nI (show b < 2 ^ 31 by omega), ix_nI (show d < 2 ^ 31 by omega)]; done) | (simp [hae, hbe, ix_nI (show a < 2 ^ 31 by omega), ix_nI (show b < 2 ^ 31 by omega)]; done) | (simp [hae, ix_nI (show a < 2 ^ 31 by omega)]; done) | (simp [hbe, ix_nI (show b < 2 ^ 31 by omega)]; done) | (simp; done))
  · obtain ⟨a, ha1, hae⟩ := lim_nI hlA (by decide)
    have ha1 : a < 8 := ha1
    obtain ⟨b, hb1, hbe⟩ := lim_nI hlB (by decide)
    have hb1 : b < 4 := hb1
    refine lv_tableOut (tgt := 80) hx hb dX1_readBy_6 (by decide) (by decide) ?_
    refine lv_aload_n hx hb dX1_readBy_80 rfl (lv_at hl 0 rfl) ?_
    refine lv_iload_n hx hb dX1_readBy_81 rfl (lv_at hl 1 rfl) ?_
    refine callR (runV hx hb hg hown hml hl.1 (c_X1_thinlyReadBy l D k ad V hv hq) [.int (nI q)] [] (preR (mapSome_sub hP [0, 1, 2, 3, 4, 5, 6, 7] rfl) hK hN xb0 x0) (va_recv hK hP (ci := 1) (q0 := 0) rfl rfl) wd_352 wd_353 wd_354 wd_50 wd_355 lk_X1_thinlyReadBy ⟨rfl, rfl⟩ ⟨by decide, by decide⟩ ⟨Nat.zero_le _, Nat.zero_le _⟩ rfl (Nat.le_of_ble_eq_true rfl) dX1_readBy_82) (fun r_82 q_82 => ?_)
    obtain rfl := q_82
    exact retRI (v := thrI V q) hx hb hr hlocks hH dX1_readBy_85 (by unfold rdI; rw [kd_of hk hj]; first | (simp [hae, hbe, hce, ix_nI (show a < 2 ^ 31 by omega), ix_nI (show b < 2 ^ 31 by omega), ix_nI (show d < 2 ^ 31 by omega)]; done) | (simp [hae, hbe, ix_nI (show a < 2 ^ 31 by omega), ix_nI (show b < 2 ^ 31 by omega)]; done) | (simp [hae, ix_nI (show a < 2 ^ 31 by omega)]; done) | (simp [hbe, ix_nI (show b < 2 ^ 31 by omega)]; done) | (simp; done))
  · obtain ⟨a, ha1, hae⟩ := lim_nI hlA (by decide)
    have ha1 : a < 8 := ha1
    obtain ⟨b, hb1, hbe⟩ := lim_nI hlB (by decide)
    have hb1 : b < 8 := hb1
    obtain ⟨d, hc1, hce⟩ := lim_nI hlC (by decide)
    have hc1 : d < 8 := hc1
    refine lv_tableOut (tgt := 80) hx hb dX1_readBy_6 (by decide) (by decide) ?_
    refine lv_aload_n hx hb dX1_readBy_80 rfl (lv_at hl 0 rfl) ?_
    refine lv_iload_n hx hb dX1_readBy_81 rfl (lv_at hl 1 rfl) ?_
    refine callR (runV hx hb hg hown hml hl.1 (c_X1_thinlyReadBy l D k ad V hv hq) [.int (nI q)] [] (preR (mapSome_sub hP [0, 1, 2, 3, 4, 5, 6, 7] rfl) hK hN xb0 x0) (va_recv hK hP (ci := 1) (q0 := 0) rfl rfl) wd_352 wd_353 wd_354 wd_50 wd_355 lk_X1_thinlyReadBy ⟨rfl, rfl⟩ ⟨by decide, by decide⟩ ⟨Nat.zero_le _, Nat.zero_le _⟩ rfl (Nat.le_of_ble_eq_true rfl) dX1_readBy_82) (fun r_82 q_82 => ?_)
    obtain rfl := q_82
    exact retRI (v := thrI V q) hx hb hr hlocks hH dX1_readBy_85 (by unfold rdI; rw [kd_of hk hj]; first | (simp [hae, hbe, hce, ix_nI (show a < 2 ^ 31 by omega), ix_nI (show b < 2 ^ 31 by omega), ix_nI (show d < 2 ^ 31 by omega)]; done) | (simp [hae, hbe, ix_nI (show a < 2 ^ 31 by omega), ix_nI (show b < 2 ^ 31 by omega)]; done) | (simp [hae, ix_nI (show a < 2 ^ 31 by omega)]; done) | (simp [hbe, ix_nI (show b < 2 ^ 31 by omega)]; done) | (simp; done))
  · obtain ⟨a, ha1, hae⟩ := lim_nI hlA (by decide)
    have ha1 : a < 8 := ha1
    obtain ⟨b, hb1, hbe⟩ := lim_nI hlB (by decide)
    have hb1 : b < 8 := hb1
    obtain ⟨d, hc1, hce⟩ := lim_nI hlC (by decide)
    have hc1 : d < 8 := hc1
    refine lv_tableOut (tgt := 80) hx hb dX1_readBy_6 (by decide) (by decide) ?_
    refine lv_aload_n hx hb dX1_readBy_80 rfl (lv_at hl 0 rfl) ?_
    refine lv_iload_n hx hb dX1_readBy_81 rfl (lv_at hl 1 rfl) ?_
    refine callR (runV hx hb hg hown hml hl.1 (c_X1_thinlyReadBy l D k ad V hv hq) [.int (nI q)] [] (preR (mapSome_sub hP [0, 1, 2, 3, 4, 5, 6, 7] rfl) hK hN xb0 x0) (va_recv hK hP (ci := 1) (q0 := 0) rfl rfl) wd_352 wd_353 wd_354 wd_50 wd_355 lk_X1_thinlyReadBy ⟨rfl, rfl⟩ ⟨by decide, by decide⟩ ⟨Nat.zero_le _, Nat.zero_le _⟩ rfl (Nat.le_of_ble_eq_true rfl) dX1_readBy_82) (fun r_82 q_82 => ?_)
    obtain rfl := q_82
    exact retRI (v := thrI V q) hx hb hr hlocks hH dX1_readBy_85 (by unfold rdI; rw [kd_of hk hj]; first | (simp [hae, hbe, hce, ix_nI (show a < 2 ^ 31 by omega), ix_nI (show b < 2 ^ 31 by omega), ix_nI (show d < 2 ^ 31 by omega)]; done) | (simp [hae, hbe, ix_nI (show a < 2 ^ 31 by omega), ix_nI (show b < 2 ^ 31 by omega)]; done) | (simp [hae, ix_nI (show a < 2 ^ 31 by omega)]; done) | (simp [hbe, ix_nI (show b < 2 ^ 31 by omega)]; done) | (simp; done))
  · obtain ⟨a, ha1, hae⟩ := lim_nI hlA (by decide)
    have ha1 : a < 8 := ha1
    obtain ⟨b, hb1, hbe⟩ := lim_nI hlB (by decide)
    have hb1 : b < 8 := hb1
    obtain ⟨d, hc1, hce⟩ := lim_nI hlC (by decide)
    have hc1 : d < 8 := hc1
    refine lv_tableOut (tgt := 80) hx hb dX1_readBy_6 (by decide) (by decide) ?_
    refine lv_aload_n hx hb dX1_readBy_80 rfl (lv_at hl 0 rfl) ?_
    refine lv_iload_n hx hb dX1_readBy_81 rfl (lv_at hl 1 rfl) ?_
    refine callR (runV hx hb hg hown hml hl.1 (c_X1_thinlyReadBy l D k ad V hv hq) [.int (nI q)] [] (preR (mapSome_sub hP [0, 1, 2, 3, 4, 5, 6, 7] rfl) hK hN xb0 x0) (va_recv hK hP (ci := 1) (q0 := 0) rfl rfl) wd_352 wd_353 wd_354 wd_50 wd_355 lk_X1_thinlyReadBy ⟨rfl, rfl⟩ ⟨by decide, by decide⟩ ⟨Nat.zero_le _, Nat.zero_le _⟩ rfl (Nat.le_of_ble_eq_true rfl) dX1_readBy_82) (fun r_82 q_82 => ?_)
    obtain rfl := q_82
    exact retRI (v := thrI V q) hx hb hr hlocks hH dX1_readBy_85 (by unfold rdI; rw [kd_of hk hj]; first | (simp [hae, hbe, hce, ix_nI (show a < 2 ^ 31 by omega), ix_nI (show b < 2 ^ 31 by omega), ix_nI (show d < 2 ^ 31 by omega)]; done) | (simp [hae, hbe, ix_nI (show a < 2 ^ 31 by omega), ix_nI (show b < 2 ^ 31 by omega)]; done) | (simp [hae, ix_nI (show a < 2 ^ 31 by omega)]; done) | (simp [hbe, ix_nI (show b < 2 ^ 31 by omega)]; done) | (simp; done))
  · obtain ⟨a, ha1, hae⟩ := lim_nI hlA (by decide)
    have ha1 : a < 8 := ha1
    obtain ⟨b, hb1, hbe⟩ := lim_nI hlB (by decide)
    have hb1 : b < 8 := hb1
    obtain ⟨d, hc1, hce⟩ := lim_nI hlC (by decide)
    have hc1 : d < 8 := hc1
    refine lv_tableOut (tgt := 80) hx hb dX1_readBy_6 (by decide) (by decide) ?_
    refine lv_aload_n hx hb dX1_readBy_80 rfl (lv_at hl 0 rfl) ?_
    refine lv_iload_n hx hb dX1_readBy_81 rfl (lv_at hl 1 rfl) ?_
    refine callR (runV hx hb hg hown hml hl.1 (c_X1_thinlyReadBy l D k ad V hv hq) [.int (nI q)] [] (preR (mapSome_sub hP [0, 1, 2, 3, 4, 5, 6, 7] rfl) hK hN xb0 x0) (va_recv hK hP (ci := 1) (q0 := 0) rfl rfl) wd_352 wd_353 wd_354 wd_50 wd_355 lk_X1_thinlyReadBy ⟨rfl, rfl⟩ ⟨by decide, by decide⟩ ⟨Nat.zero_le _, Nat.zero_le _⟩ rfl (Nat.le_of_ble_eq_true rfl) dX1_readBy_82) (fun r_82 q_82 => ?_)
    obtain rfl := q_82
    exact retRI (v := thrI V q) hx hb hr hlocks hH dX1_readBy_85 (by unfold rdI; rw [kd_of hk hj]; first | (simp [hae, hbe, hce, ix_nI (show a < 2 ^ 31 by omega), ix_nI (show b < 2 ^ 31 by omega), ix_nI (show d < 2 ^ 31 by omega)]; done) | (simp [hae, hbe, ix_nI (show a < 2 ^ 31 by omega), ix_nI (show b < 2 ^ 31 by omega)]; done) | (simp [hae, ix_nI (show a < 2 ^ 31 by omega)]; done) | (simp [hbe, ix_nI (show b < 2 ^ 31 by omega)]; done) | (simp; done))
  · obtain ⟨a, ha1, hae⟩ := lim_nI hlA (by decide)
    have ha1 : a < 8 := ha1
    obtain ⟨b, hb1, hbe⟩ := lim_nI hlB (by decide)
    have hb1 : b < 8 := hb1
    obtain ⟨d, hc1, hce⟩ := lim_nI hlC (by decide)
    have hc1 : d < 4 := hc1
    refine lv_tableIn (off := 34) (tgt := 40) hx hb dX1_readBy_6 (by decide) (by decide) (by rfl) (by decide) ?_
    refine lv_aload_n hx hb dX1_readBy_40 rfl (lv_at hl 0 rfl) ?_
    refine gfl hx hb hg inX1 hown hK hP 0 (ci := 1) rfl rfl 1 (by decide) wd_74 rfl dX1_readBy_41 ?_
    refine lv_iload_n hx hb dX1_readBy_44 rfl (lv_at hl 1 rfl) ?_
    refine ldn hx hb hK hP 2 0 rfl rfl (by omega) (by decide) dX1_readBy_45 ?_
    refine topv (nI a) hae ?_
    refine callR (runS hx hb hg hown hml hl.1 (c_X1_registerBit l D k (q := a)) [.int (nI a)] [] (preR (mapSome_sub hP [] rfl) hK hN xb0 x0) wd_334 wd_335 wd_50 wd_336 lk_X1_registerBit ⟨rfl, rfl⟩ ⟨by decide, by decide⟩ ⟨Nat.zero_le _, Nat.zero_le _⟩ rfl (Nat.le_of_ble_eq_true rfl) dX1_readBy_46) (fun r_46 q_46 => ?_)
    obtain rfl := q_46
    refine lv_aload_n hx hb dX1_readBy_49 rfl (lv_at hl 0 rfl) ?_
    refine gfl hx hb hg inX1 hown hK hP 0 (ci := 1) rfl rfl 2 (by decide) wd_76 rfl dX1_readBy_50 ?_
    refine lv_iload_n hx hb dX1_readBy_53 rfl (lv_at hl 1 rfl) ?_
    refine ldn hx hb hK hP 3 0 rfl rfl (by omega) (by decide) dX1_readBy_54 ?_
    refine topv (nI b) hbe ?_
    refine callR (runS hx hb hg hown hml hl.1 (c_X1_registerBit l D k (q := b)) [.int (nI b)] [.int (bitI a)] (preR (mapSome_sub hP [] rfl) hK hN xb0 x0) wd_334 wd_335 wd_50 wd_336 lk_X1_registerBit ⟨rfl, rfl⟩ ⟨by decide, by decide⟩ ⟨Nat.zero_le _, Nat.zero_le _⟩ rfl (Nat.le_of_ble_eq_true rfl) dX1_readBy_55) (fun r_55 q_55 => ?_)
    obtain rfl := q_55
    refine lv_ior hx hb dX1_readBy_58 ?_
    exact retRI (v := (bitI a) ||| (bitI b)) hx hb hr hlocks hH dX1_readBy_59 (by unfold rdI; rw [kd_of hk hj]; first | (simp [hae, hbe, hce, ix_nI (show a < 2 ^ 31 by omega), ix_nI (show b < 2 ^ 31 by omega), ix_nI (show d < 2 ^ 31 by omega)]; done) | (simp [hae, hbe, ix_nI (show a < 2 ^ 31 by omega), ix_nI (show b < 2 ^ 31 by omega)]; done) | (simp [hae, ix_nI (show a < 2 ^ 31 by omega)]; done) | (simp [hbe, ix_nI (show b < 2 ^ 31 by omega)]; done) | (simp; done))
  · obtain ⟨a, ha1, hae⟩ := lim_nI hlA (by decide)
    have ha1 : a < 8 := ha1
    obtain ⟨b, hb1, hbe⟩ := lim_nI hlB (by decide)
    have hb1 : b < 8 := hb1
    obtain ⟨d, hc1, hce⟩ := lim_nI hlC (by decide)
    have hc1 : d < 4 := hc1
    refine lv_tableIn (off := 54) (tgt := 60) hx hb dX1_readBy_6 (by decide) (by decide) (by rfl) (by decide) ?_
    refine lv_aload_n hx hb dX1_readBy_60 rfl (lv_at hl 0 rfl) ?_
    refine gfl hx hb hg inX1 hown hK hP 0 (ci := 1) rfl rfl 2 (by decide) wd_76 rfl dX1_readBy_61 ?_
    refine lv_iload_n hx hb dX1_readBy_64 rfl (lv_at hl 1 rfl) ?_
    refine ldn hx hb hK hP 3 0 rfl rfl (by omega) (by decide) dX1_readBy_65 ?_
    refine topv (nI b) hbe ?_
    refine callR (runS hx hb hg hown hml hl.1 (c_X1_registerBit l D k (q := b)) [.int (nI b)] [] (preR (mapSome_sub hP [] rfl) hK hN xb0 x0) wd_334 wd_335 wd_50 wd_336 lk_X1_registerBit ⟨rfl, rfl⟩ ⟨by decide, by decide⟩ ⟨Nat.zero_le _, Nat.zero_le _⟩ rfl (Nat.le_of_ble_eq_true rfl) dX1_readBy_66) (fun r_66 q_66 => ?_)
    obtain rfl := q_66
    exact retRI (v := bitI b) hx hb hr hlocks hH dX1_readBy_69 (by unfold rdI; rw [kd_of hk hj]; first | (simp [hae, hbe, hce, ix_nI (show a < 2 ^ 31 by omega), ix_nI (show b < 2 ^ 31 by omega), ix_nI (show d < 2 ^ 31 by omega)]; done) | (simp [hae, hbe, ix_nI (show a < 2 ^ 31 by omega), ix_nI (show b < 2 ^ 31 by omega)]; done) | (simp [hae, ix_nI (show a < 2 ^ 31 by omega)]; done) | (simp [hbe, ix_nI (show b < 2 ^ 31 by omega)]; done) | (simp; done))
  · obtain ⟨a, ha1, hae⟩ := lim_nI hlA (by decide)
    have ha1 : a < 8 := ha1
    obtain ⟨b, hb1, hbe⟩ := lim_nI hlB (by decide)
    have hb1 : b < 4 := hb1
    refine lv_tableIn (off := 74) (tgt := 80) hx hb dX1_readBy_6 (by decide) (by decide) (by rfl) (by decide) ?_
    refine lv_aload_n hx hb dX1_readBy_80 rfl (lv_at hl 0 rfl) ?_
    refine lv_iload_n hx hb dX1_readBy_81 rfl (lv_at hl 1 rfl) ?_
    refine callR (runV hx hb hg hown hml hl.1 (c_X1_thinlyReadBy l D k ad V hv hq) [.int (nI q)] [] (preR (mapSome_sub hP [0, 1, 2, 3, 4, 5, 6, 7] rfl) hK hN xb0 x0) (va_recv hK hP (ci := 1) (q0 := 0) rfl rfl) wd_352 wd_353 wd_354 wd_50 wd_355 lk_X1_thinlyReadBy ⟨rfl, rfl⟩ ⟨by decide, by decide⟩ ⟨Nat.zero_le _, Nat.zero_le _⟩ rfl (Nat.le_of_ble_eq_true rfl) dX1_readBy_82) (fun r_82 q_82 => ?_)
    obtain rfl := q_82
    exact retRI (v := thrI V q) hx hb hr hlocks hH dX1_readBy_85 (by unfold rdI; rw [kd_of hk hj]; first | (simp [hae, hbe, hce, ix_nI (show a < 2 ^ 31 by omega), ix_nI (show b < 2 ^ 31 by omega), ix_nI (show d < 2 ^ 31 by omega)]; done) | (simp [hae, hbe, ix_nI (show a < 2 ^ 31 by omega), ix_nI (show b < 2 ^ 31 by omega)]; done) | (simp [hae, ix_nI (show a < 2 ^ 31 by omega)]; done) | (simp [hbe, ix_nI (show b < 2 ^ 31 by omega)]; done) | (simp; done))
  · obtain ⟨a, ha1, hae⟩ := lim_nI hlA (by decide)
    have ha1 : a < 8 := ha1
    obtain ⟨b, hb1, hbe⟩ := lim_nI hlB (by decide)
    have hb1 : b < 4 := hb1
    refine lv_tableIn (off := 74) (tgt := 80) hx hb dX1_readBy_6 (by decide) (by decide) (by rfl) (by decide) ?_
    refine lv_aload_n hx hb dX1_readBy_80 rfl (lv_at hl 0 rfl) ?_
    refine lv_iload_n hx hb dX1_readBy_81 rfl (lv_at hl 1 rfl) ?_
    refine callR (runV hx hb hg hown hml hl.1 (c_X1_thinlyReadBy l D k ad V hv hq) [.int (nI q)] [] (preR (mapSome_sub hP [0, 1, 2, 3, 4, 5, 6, 7] rfl) hK hN xb0 x0) (va_recv hK hP (ci := 1) (q0 := 0) rfl rfl) wd_352 wd_353 wd_354 wd_50 wd_355 lk_X1_thinlyReadBy ⟨rfl, rfl⟩ ⟨by decide, by decide⟩ ⟨Nat.zero_le _, Nat.zero_le _⟩ rfl (Nat.le_of_ble_eq_true rfl) dX1_readBy_82) (fun r_82 q_82 => ?_)
    obtain rfl := q_82
    exact retRI (v := thrI V q) hx hb hr hlocks hH dX1_readBy_85 (by unfold rdI; rw [kd_of hk hj]; first | (simp [hae, hbe, hce, ix_nI (show a < 2 ^ 31 by omega), ix_nI (show b < 2 ^ 31 by omega), ix_nI (show d < 2 ^ 31 by omega)]; done) | (simp [hae, hbe, ix_nI (show a < 2 ^ 31 by omega), ix_nI (show b < 2 ^ 31 by omega)]; done) | (simp [hae, ix_nI (show a < 2 ^ 31 by omega)]; done) | (simp [hbe, ix_nI (show b < 2 ^ 31 by omega)]; done) | (simp; done))
  · obtain ⟨a, ha1, hae⟩ := lim_nI hlA (by decide)
    have ha1 : a < 8 := ha1
    obtain ⟨b, hb1, hbe⟩ := lim_nI hlB (by decide)
    have hb1 : b < 25 := hb1
    refine lv_tableIn (off := 64) (tgt := 70) hx hb dX1_readBy_6 (by decide) (by decide) (by rfl) (by decide) ?_
    refine lv_aload_n hx hb dX1_readBy_70 rfl (lv_at hl 0 rfl) ?_
    refine gfl hx hb hg inX1 hown hK hP 0 (ci := 1) rfl rfl 1 (by decide) wd_74 rfl dX1_readBy_71 ?_
    refine lv_iload_n hx hb dX1_readBy_74 rfl (lv_at hl 1 rfl) ?_
    refine ldn hx hb hK hP 2 0 rfl rfl (by omega) (by decide) dX1_readBy_75 ?_
    refine topv (nI a) hae ?_
    refine callR (runS hx hb hg hown hml hl.1 (c_X1_registerBit l D k (q := a)) [.int (nI a)] [] (preR (mapSome_sub hP [] rfl) hK hN xb0 x0) wd_334 wd_335 wd_50 wd_336 lk_X1_registerBit ⟨rfl, rfl⟩ ⟨by decide, by decide⟩ ⟨Nat.zero_le _, Nat.zero_le _⟩ rfl (Nat.le_of_ble_eq_true rfl) dX1_readBy_76) (fun r_76 q_76 => ?_)
    obtain rfl := q_76
    exact retRI (v := bitI a) hx hb hr hlocks hH dX1_readBy_79 (by unfold rdI; rw [kd_of hk hj]; first | (simp [hae, hbe, hce, ix_nI (show a < 2 ^ 31 by omega), ix_nI (show b < 2 ^ 31 by omega), ix_nI (show d < 2 ^ 31 by omega)]; done) | (simp [hae, hbe, ix_nI (show a < 2 ^ 31 by omega), ix_nI (show b < 2 ^ 31 by omega)]; done) | (simp [hae, ix_nI (show a < 2 ^ 31 by omega)]; done) | (simp [hbe, ix_nI (show b < 2 ^ 31 by omega)]; done) | (simp; done))
  · obtain ⟨b, hb1, hbe⟩ := lim_nI hlB (by decide)
    have hb1 : b < 25 := hb1
    refine lv_tableOut (tgt := 80) hx hb dX1_readBy_6 (by decide) (by decide) ?_
    refine lv_aload_n hx hb dX1_readBy_80 rfl (lv_at hl 0 rfl) ?_
    refine lv_iload_n hx hb dX1_readBy_81 rfl (lv_at hl 1 rfl) ?_
    refine callR (runV hx hb hg hown hml hl.1 (c_X1_thinlyReadBy l D k ad V hv hq) [.int (nI q)] [] (preR (mapSome_sub hP [0, 1, 2, 3, 4, 5, 6, 7] rfl) hK hN xb0 x0) (va_recv hK hP (ci := 1) (q0 := 0) rfl rfl) wd_352 wd_353 wd_354 wd_50 wd_355 lk_X1_thinlyReadBy ⟨rfl, rfl⟩ ⟨by decide, by decide⟩ ⟨Nat.zero_le _, Nat.zero_le _⟩ rfl (Nat.le_of_ble_eq_true rfl) dX1_readBy_82) (fun r_82 q_82 => ?_)
    obtain rfl := q_82
    exact retRI (v := thrI V q) hx hb hr hlocks hH dX1_readBy_85 (by unfold rdI; rw [kd_of hk hj]; first | (simp [hae, hbe, hce, ix_nI (show a < 2 ^ 31 by omega), ix_nI (show b < 2 ^ 31 by omega), ix_nI (show d < 2 ^ 31 by omega)]; done) | (simp [hae, hbe, ix_nI (show a < 2 ^ 31 by omega), ix_nI (show b < 2 ^ 31 by omega)]; done) | (simp [hae, ix_nI (show a < 2 ^ 31 by omega)]; done) | (simp [hbe, ix_nI (show b < 2 ^ 31 by omega)]; done) | (simp; done))
  · refine lv_tableOut (tgt := 80) hx hb dX1_readBy_6 (by decide) (by decide) ?_
    refine lv_aload_n hx hb dX1_readBy_80 rfl (lv_at hl 0 rfl) ?_
    refine lv_iload_n hx hb dX1_readBy_81 rfl (lv_at hl 1 rfl) ?_
    refine callR (runV hx hb hg hown hml hl.1 (c_X1_thinlyReadBy l D k ad V hv hq) [.int (nI q)] [] (preR (mapSome_sub hP [0, 1, 2, 3, 4, 5, 6, 7] rfl) hK hN xb0 x0) (va_recv hK hP (ci := 1) (q0 := 0) rfl rfl) wd_352 wd_353 wd_354 wd_50 wd_355 lk_X1_thinlyReadBy ⟨rfl, rfl⟩ ⟨by decide, by decide⟩ ⟨Nat.zero_le _, Nat.zero_le _⟩ rfl (Nat.le_of_ble_eq_true rfl) dX1_readBy_82) (fun r_82 q_82 => ?_)
    obtain rfl := q_82
    exact retRI (v := thrI V q) hx hb hr hlocks hH dX1_readBy_85 (by unfold rdI; rw [kd_of hk hj]; first | (simp [hae, hbe, hce, ix_nI (show a < 2 ^ 31 by omega), ix_nI (show b < 2 ^ 31 by omega), ix_nI (show d < 2 ^ 31 by omega)]; done) | (simp [hae, hbe, ix_nI (show a < 2 ^ 31 by omega), ix_nI (show b < 2 ^ 31 by omega)]; done) | (simp [hae, ix_nI (show a < 2 ^ 31 by omega)]; done) | (simp [hbe, ix_nI (show b < 2 ^ 31 by omega)]; done) | (simp; done))
abbrev rmX1_mayShareRow : Room := { frames := 0, cells := 0, slots := 0, locals := 0 }
theorem lk_X1_mayShareRow : Lk yX1_mayShareRow 2 := by decide +kernel
set_option maxHeartbeats 4000000 in
set_option maxRecDepth 100000 in
/-- mayShareRow(p, q): of a PUT and a GET -/
theorem c_X1_mayShareRow (l : Launch) (D : va_G) (k : Nat → ClassId) (ad : Nat → Nat) (V : St) {n : Nat} (hv : okV n V) {q : Nat} (hq : q < 24) {v : Nat} (hv2 : v < 24) (h1 : vp_in (V 4 q) 4) (h2 : vp_in (V 4 v) 4) : CtR noX l yX1_mayShareRow cX1_mayShareRow 3 (some .boolean) rmX1_mayShareRow D (tyL k) (wP k ad V) [.ref (ad 0), .int (nI q), .int (nI v)] (fun r => r = zI (shB V q v)) := by
  refine CtR.mk (by decide) (Nat.le_of_ble_eq_true rfl) ?_
  intro p e s m below meth c hx hb hml hown hg hr hlocks hK hN hX H hH hP ls hl
  have hl : lv_has ls 3 [(0, .ref (ad 0)), (1, .int (nI q)), (2, .int (nI v))] := hl
  refine lv_aload_n hx hb dX1_mayShareRow_0 rfl (lv_at hl 0 rfl) ?_
  refine gfl hx hb hg inX1 hown hK hP 0 (ci := 1) rfl rfl 6 (by decide) wd_85 rfl dX1_mayShareRow_1 ?_
  refine lv_aload_n hx hb dX1_mayShareRow_4 rfl (lv_at hl 0 rfl) ?_
  refine gfl hx hb hg inX1 hown hK hP 0 (ci := 1) rfl rfl 3 (by decide) wd_78 rfl dX1_mayShareRow_5 ?_
  refine lv_iload_n hx hb dX1_mayShareRow_8 rfl (lv_at hl 1 rfl) ?_
  refine ldn hx hb hK hP 4 0 rfl rfl (by omega) (by decide) dX1_mayShareRow_9 ?_
  refine ldx hx hb hK hP 7 0 rfl rfl h1 dX1_mayShareRow_10 ?_
  refine lv_aload_n hx hb dX1_mayShareRow_11 rfl (lv_at hl 0 rfl) ?_
  refine gfl hx hb hg inX1 hown hK hP 0 (ci := 1) rfl rfl 6 (by decide) wd_85 rfl dX1_mayShareRow_12 ?_
  refine lv_aload_n hx hb dX1_mayShareRow_15 rfl (lv_at hl 0 rfl) ?_
  refine gfl hx hb hg inX1 hown hK hP 0 (ci := 1) rfl rfl 3 (by decide) wd_78 rfl dX1_mayShareRow_16 ?_
  refine lv_iload_n hx hb dX1_mayShareRow_19 rfl (lv_at hl 2 rfl) ?_
  refine ldn hx hb hK hP 4 0 rfl rfl (by omega) (by decide) dX1_mayShareRow_20 ?_
  refine ldx hx hb hK hP 7 0 rfl rfl h2 dX1_mayShareRow_21 ?_
  refine lv_iand hx hb dX1_mayShareRow_22 ?_
  refine lv_if_eq (tgt := 30) hx hb dX1_mayShareRow_23 (by decide) (fun c_23 => ?_) (fun c_23 => ?_)
  · refine lv_iconst (v := 0) hx hb dX1_mayShareRow_30 (by decide) ?_
    exact retRZ (v := 0) hx hb hr hlocks hH rfl dX1_mayShareRow_31 (by unfold shB; first | (rw [decide_eq_false (fun z => z c_23)]; rfl) | (rw [decide_eq_true c_23]; rfl))
  · refine lv_iconst (v := 1) hx hb dX1_mayShareRow_26 (by decide) ?_
    refine lv_goto (tgt := 31) hx hb dX1_mayShareRow_27 (by decide) ?_
    exact retRZ (v := 1) hx hb hr hlocks hH rfl dX1_mayShareRow_31 (by unfold shB; first | (rw [decide_eq_false (fun z => z c_23)]; rfl) | (rw [decide_eq_true c_23]; rfl))
abbrev rmX1_isBelow : Room := { frames := 0, cells := 0, slots := 0, locals := 0 }
theorem lk_X1_isBelow : Lk yX1_isBelow 2 := by decide +kernel
set_option maxHeartbeats 4000000 in
set_option maxRecDepth 100000 in
/-- isBelow(value, limit) -/
theorem c_X1_isBelow (l : Launch) (D : va_G) (k : Nat → ClassId) (x : Int32) {q : Nat} (hq : q < 2 ^ 31) : CtR noX l yX1_isBelow cX1_isBelow 2 (some .boolean) rmX1_isBelow D (tyL k) ([]) [.int x, .int (nI q)] (fun r => r = zI (decide (q = 0 ∨ (0 ≤ x ∧ x < nI q)))) := by
  refine CtR.mk (by decide) (Nat.le_of_ble_eq_true rfl) ?_
  intro p e s m below meth c hx hb hml hown hg hr hlocks hK hN hX H hH hP ls hl
  have hl : lv_has ls 2 [(0, .int x), (1, .int (nI q))] := hl
  refine lv_iload_n hx hb dX1_isBelow_0 rfl (lv_at hl 1 rfl) ?_
  refine lv_if_eq (tgt := 13) hx hb dX1_isBelow_1 (by decide) (fun c_1 => ?_) (fun c_1 => ?_)
  · have c_1 : q = 0 := (nI_eq (a := q) (b := 0) (by omega) (by omega)).mp c_1
    refine lv_iconst (v := 1) hx hb dX1_isBelow_13 (by decide) ?_
    refine lv_goto (tgt := 18) hx hb dX1_isBelow_14 (by decide) ?_
    exact retRZ (v := 1) hx hb hr hlocks hH rfl dX1_isBelow_18 (by first | (rw [decide_eq_true (Or.inl c_1)]; rfl) | (rw [decide_eq_true (Or.inr ⟨by rw [Int32.le_iff_toInt_le]; rw [Int32.lt_iff_toInt_lt] at c_5; exact Int.not_lt.mp c_5, by rw [Int32.lt_iff_toInt_lt]; rw [Int32.le_iff_toInt_le] at c_10; exact Int.not_le.mp c_10⟩)]; rfl) | (rw [decide_eq_false (fun z => z.elim c_1 (fun z => absurd z.1 (by rw [Int32.le_iff_toInt_le]; rw [Int32.lt_iff_toInt_lt] at c_5; exact Int.not_le.mpr c_5)))]; rfl) | (rw [decide_eq_false (fun z => z.elim c_1 (fun z => absurd z.2 (by rw [Int32.lt_iff_toInt_lt]; rw [Int32.le_iff_toInt_le] at c_10; exact Int.not_lt.mpr c_10)))]; rfl))
  · have c_1 : ¬ q = 0 := fun z => c_1 ((nI_eq (a := q) (b := 0) (by omega) (by omega)).mpr z)
    refine lv_iload_n hx hb dX1_isBelow_4 rfl (lv_at hl 0 rfl) ?_
    refine lv_if_lt (tgt := 17) hx hb dX1_isBelow_5 (by decide) (fun c_5 => ?_) (fun c_5 => ?_)
    · refine lv_iconst (v := 0) hx hb dX1_isBelow_17 (by decide) ?_
      exact retRZ (v := 0) hx hb hr hlocks hH rfl dX1_isBelow_18 (by first | (rw [decide_eq_true (Or.inl c_1)]; rfl) | (rw [decide_eq_true (Or.inr ⟨by rw [Int32.le_iff_toInt_le]; rw [Int32.lt_iff_toInt_lt] at c_5; exact Int.not_lt.mp c_5, by rw [Int32.lt_iff_toInt_lt]; rw [Int32.le_iff_toInt_le] at c_10; exact Int.not_le.mp c_10⟩)]; rfl) | (rw [decide_eq_false (fun z => z.elim c_1 (fun z => absurd z.1 (by rw [Int32.le_iff_toInt_le]; rw [Int32.lt_iff_toInt_lt] at c_5; exact Int.not_le.mpr c_5)))]; rfl) | (rw [decide_eq_false (fun z => z.elim c_1 (fun z => absurd z.2 (by rw [Int32.lt_iff_toInt_lt]; rw [Int32.le_iff_toInt_le] at c_10; exact Int.not_lt.mpr c_10)))]; rfl))
    · refine lv_iload_n hx hb dX1_isBelow_8 rfl (lv_at hl 0 rfl) ?_
      refine lv_iload_n hx hb dX1_isBelow_9 rfl (lv_at hl 1 rfl) ?_
      refine lv_icmp_ge (tgt := 17) hx hb dX1_isBelow_10 (by decide) (fun c_10 => ?_) (fun c_10 => ?_)
      · refine lv_iconst (v := 0) hx hb dX1_isBelow_17 (by decide) ?_
        exact retRZ (v := 0) hx hb hr hlocks hH rfl dX1_isBelow_18 (by first | (rw [decide_eq_true (Or.inl c_1)]; rfl) | (rw [decide_eq_true (Or.inr ⟨by rw [Int32.le_iff_toInt_le]; rw [Int32.lt_iff_toInt_lt] at c_5; exact Int.not_lt.mp c_5, by rw [Int32.lt_iff_toInt_lt]; rw [Int32.le_iff_toInt_le] at c_10; exact Int.not_le.mp c_10⟩)]; rfl) | (rw [decide_eq_false (fun z => z.elim c_1 (fun z => absurd z.1 (by rw [Int32.le_iff_toInt_le]; rw [Int32.lt_iff_toInt_lt] at c_5; exact Int.not_le.mpr c_5)))]; rfl) | (rw [decide_eq_false (fun z => z.elim c_1 (fun z => absurd z.2 (by rw [Int32.lt_iff_toInt_lt]; rw [Int32.le_iff_toInt_le] at c_10; exact Int.not_lt.mpr c_10)))]; rfl))
      · refine lv_iconst (v := 1) hx hb dX1_isBelow_13 (by decide) ?_
        refine lv_goto (tgt := 18) hx hb dX1_isBelow_14 (by decide) ?_
        exact retRZ (v := 1) hx hb hr hlocks hH rfl dX1_isBelow_18 (by first | (rw [decide_eq_true (Or.inl c_1)]; rfl) | (rw [decide_eq_true (Or.inr ⟨by rw [Int32.le_iff_toInt_le]; rw [Int32.lt_iff_toInt_lt] at c_5; exact Int.not_lt.mp c_5, by rw [Int32.lt_iff_toInt_lt]; rw [Int32.le_iff_toInt_le] at c_10; exact Int.not_le.mp c_10⟩)]; rfl) | (rw [decide_eq_false (fun z => z.elim c_1 (fun z => absurd z.1 (by rw [Int32.le_iff_toInt_le]; rw [Int32.lt_iff_toInt_lt] at c_5; exact Int.not_le.mpr c_5)))]; rfl) | (rw [decide_eq_false (fun z => z.elim c_1 (fun z => absurd z.2 (by rw [Int32.lt_iff_toInt_lt]; rw [Int32.le_iff_toInt_le] at c_10; exact Int.not_lt.mpr c_10)))]; rfl))
end
section
/-! Masks made in a loop; closures; loops that run till nothing more comes -/
def mkM : Nat → (Nat → Bool) → Int32
  | 0, _ => 0
  | n + 1, f => if f n = true then mkM n f ||| bitI n else mkM n f
theorem mkM_t {n : Nat} {f : Nat → Bool} (h : f n = true) : mkM n f ||| bitI n = mkM (n + 1) f := by show _ = ite _ _ _; rw [if_pos h]
theorem mkM_f {n : Nat} {f : Nat → Bool} (h : f n = false) : mkM n f = mkM (n + 1) f := by show _ = ite _ _ _; rw [if_neg (by rw [h]; decide)]
theorem b_mkM (f : Nat → Bool) : ∀ (n : Nat), n ≤ 32 → ∀ i, bt (mkM n f) i = (decide (i < n) && f i)
  | 0, _, i => by show bt 0 i = _; rw [b_0]; simp
  | n + 1, h, i => by
    have ih := b_mkM f n (by omega) i
    cases hf : f n with
    | true =>
      rw [← mkM_t hf, b_or, ih, b_bit (by omega)]
      by_cases e : i = n
      · subst e; simp [hf]
      · rcases Nat.lt_or_ge i n with h1 | h1
        · simp [h1, e, show i < n + 1 by omega]
        · simp [e, Nat.not_lt.mpr h1, show ¬ i < n + 1 by omega]
    | false =>
      rw [← mkM_f hf, ih]
      by_cases e : i = n
      · subst e; simp [hf]
      · rcases Nat.lt_or_ge i n with h1 | h1
        · simp [h1, show i < n + 1 by omega]
        · simp [Nat.not_lt.mpr h1, show ¬ i < n + 1 by omega]
theorem mkM_congr {f g : Nat → Bool} : ∀ (n : Nat), (∀ i, i < n → f i = g i) → mkM n f = mkM n g
  | 0, _ => rfl
  | n + 1, h => by
    show ite _ _ _ = ite _ _ _
    rw [mkM_congr n (fun i hi => h i (by omega)), h n (by omega)]
def Cl (X0 : Nat → Prop) (Rr : Nat → Nat → Prop) : Nat → Prop := fun x => ∀ S : Nat → Prop, (∀ y, X0 y → S y) → (∀ y z, S y → Rr y z → S z) → S x
theorem Cl.base {X0 : Nat → Prop} {Rr : Nat → Nat → Prop} {x : Nat} (h : X0 x) : Cl X0 Rr x := fun _ h0 _ => h0 x h
theorem Cl.step {X0 : Nat → Prop} {Rr : Nat → Nat → Prop} {x z : Nat} (h : Cl X0 Rr x) (hr : Rr x z) : Cl X0 Rr z := fun S h0 h1 => h1 x z (h S h0 h1) hr
theorem Cl.mono {X0 X1 : Nat → Prop} {R0 R1 : Nat → Nat → Prop} {x : Nat} (h : Cl X0 R0 x) (hX : ∀ y, X0 y → X1 y) (hR : ∀ y z, R0 y z → R1 y z) : Cl X1 R1 x := fun S h0 h1 => h S (fun y hy => h0 y (hX y hy)) (fun y z hy hr => h1 y z hy (hR y z hr))
/-- found x, before b -/
def Sat (X0 : Nat → Prop) (Rr : Nat → Nat → Prop) (x b : Int32) : Prop := (∀ i, bt x i = true → Cl X0 Rr i) ∧ (x = b → (∀ i, X0 i → bt x i = true) ∧ ∀ y z, bt x y = true → Rr y z → bt x z = true)
theorem Sat.done {X0 : Nat → Prop} {Rr : Nat → Nat → Prop} {x b : Int32} (h : Sat X0 Rr x b) (e : x = b) (i : Nat) : bt x i = true ↔ Cl X0 Rr i := ⟨h.1 i, fun c => c (fun j => bt x j = true) (h.2 e).1 (h.2 e).2⟩
/-- within a pass over sources: b at its begin, x now, those below i looked at -/
def Inn (X0 : Nat → Prop) (Rr : Nat → Nat → Prop) (b x : Int32) (i : Nat) : Prop := (∀ j, bt x j = true → Cl X0 Rr j) ∧ (∀ j, bt b j = true → bt x j = true) ∧ (∀ y, y < i → bt b y = true → ∀ z, Rr y z → bt x z = true)
theorem Inn.start {X0 : Nat → Prop} {Rr : Nat → Nat → Prop} {b : Int32} (h : ∀ j, bt b j = true → Cl X0 Rr j) : Inn X0 Rr b b 0 := ⟨h, fun _ h => h, fun y hy => absurd hy (Nat.not_lt_zero _)⟩
theorem Inn.yes {X0 : Nat → Prop} {Rr : Nat → Nat → Prop} {b x a : Int32} {i : Nat} (h : Inn X0 Rr b x i) (hi : bt x i = true) (ha : ∀ z, bt a z = true ↔ Rr i z) : Inn X0 Rr b (x ||| a) (i + 1) := by
  refine ⟨fun j hj => ?_, fun j hj => by rw [b_or, h.2.1 j hj]; rfl, fun y hy hb z hz => ?_⟩
  · rw [b_or, Bool.or_eq_true] at hj
    rcases hj with hj | hj
    · exact h.1 j hj
    · exact (h.1 i hi).step ((ha j).mp hj)
  · rw [b_or, Bool.or_eq_true]
    rcases Nat.lt_or_ge y i with h1 | h1
    · exact Or.inl (h.2.2 y h1 hb z hz)
    · have e : y = i := by omega
      subst e
      exact Or.inr ((ha z).mpr hz)
theorem Inn.no {X0 : Nat → Prop} {Rr : Nat → Nat → Prop} {b x : Int32} {i : Nat} (h : Inn X0 Rr b x i) (hi : bt x i = true → ∀ z, ¬ Rr i z) : Inn X0 Rr b x (i + 1) := by
  refine ⟨h.1, h.2.1, fun y hy hb z hz => ?_⟩
  rcases Nat.lt_or_ge y i with h1 | h1
  · exact h.2.2 y h1 hb z hz
  · have e : y = i := by omega
    subst e
    exact absurd hz (hi (h.2.1 y hb) z)
theorem Inn.sat {X0 : Nat → Prop} {Rr : Nat → Nat → Prop} {b x : Int32} {n : Nat} (h : Inn X0 Rr b x n) (hX : ∀ i, X0 i → bt b i = true) (hR : ∀ y z, Rr y z → y < n) : Sat X0 Rr x b := by
  refine ⟨h.1, fun e => ⟨fun i hi => h.2.1 i (hX i hi), fun y z hy hr => ?_⟩⟩
  subst e
  exact h.2.2 y (hR y z hr) hy z hr
/-- within a pass over targets: 'did u': u was looked at -/
def InT (X0 : Nat → Prop) (Rr : Nat → Nat → Prop) (b x : Int32) (did : Nat → Prop) : Prop := (∀ j, bt x j = true → Cl X0 Rr j) ∧ (∀ j, bt b j = true → bt x j = true) ∧ (∀ u, did u → (X0 u ∨ ∃ y, bt b y = true ∧ Rr y u) → bt x u = true)
theorem InT.start {X0 : Nat → Prop} {Rr : Nat → Nat → Prop} {b : Int32} {did : Nat → Prop} (h : ∀ j, bt b j = true → Cl X0 Rr j) (hd : ∀ u, ¬ did u) : InT X0 Rr b b did := ⟨h, fun _ h => h, fun u hu => absurd hu (hd u)⟩
theorem InT.yes {X0 : Nat → Prop} {Rr : Nat → Nat → Prop} {b x : Int32} {did did' : Nat → Prop} {i : Nat} (h : InT X0 Rr b x did) (hi : i < 32) (hc : X0 i ∨ ∃ y, bt x y = true ∧ Rr y i) (hd : ∀ u, did' u → did u ∨ u = i) : InT X0 Rr b (x ||| bitI i) did' := by
  refine ⟨fun j hj => ?_, fun j hj => by rw [b_or, h.2.1 j hj]; rfl, fun u hu hw => ?_⟩
  · rw [b_or, Bool.or_eq_true, b_bit hi, decide_eq_true_eq] at hj
    rcases hj with hj | rfl
    · exact h.1 j hj
    · rcases hc with hc | ⟨y, hy, hr⟩
      · exact Cl.base hc
      · exact (h.1 y hy).step hr
  · rw [b_or, Bool.or_eq_true, b_bit hi, decide_eq_true_eq]
    rcases hd u hu with h1 | h1
    · exact Or.inl (h.2.2 u h1 hw)
    · exact Or.inr h1
theorem InT.no {X0 : Nat → Prop} {Rr : Nat → Nat → Prop} {b x : Int32} {did did' : Nat → Prop} {i : Nat} (h : InT X0 Rr b x did) (hc : ¬ (X0 i ∨ ∃ y, bt x y = true ∧ Rr y i)) (hd : ∀ u, did' u → did u ∨ u = i) : InT X0 Rr b x did' := by
  refine ⟨h.1, h.2.1, fun u hu hw => ?_⟩
  rcases hd u hu with h1 | h1
  · exact h.2.2 u h1 hw
  · subst h1
    exact absurd (hw.imp id (fun ⟨y, hy, hr⟩ => ⟨y, h.2.1 y hy, hr⟩)) hc
theorem InT.sat {X0 : Nat → Prop} {Rr : Nat → Nat → Prop} {b x : Int32} {did : Nat → Prop} (h : InT X0 Rr b x did) (hX : ∀ i, X0 i → bt b i = true ∨ did i) (hR : ∀ y z, Rr y z → did z) : Sat X0 Rr x b := by
  refine ⟨h.1, fun e => ?_⟩
  subst e
  exact ⟨fun i hi => (hX i hi).elim id (fun hd => h.2.2 i hd (Or.inl hi)), fun y z hy hr => h.2.2 z (hR y z hr) (Or.inr ⟨y, hy, hr⟩)⟩
-- how many bits
def cntN : Nat → Int32 → Nat
  | 0, _ => 0
  | n + 1, x => cntN n x + (if bt x n = true then 1 else 0)
abbrev cnt (x : Int32) : Nat := cntN 32 x
theorem cntN_le : ∀ (n : Nat) (x : Int32), cntN n x ≤ n
  | 0, _ => Nat.le_refl _
  | n + 1, x => by
    have := cntN_le n x
    show cntN n x + _ ≤ _
    split <;> omega
theorem cntN_mono {x y : Int32} : ∀ (n : Nat), (∀ i, i < n → bt x i = true → bt y i = true) → cntN n x ≤ cntN n y
  | 0, _ => Nat.le_refl _
  | n + 1, h => by
    have h1 := cntN_mono n (fun i hi => h i (by omega))
    have h2 := h n (by omega)
    show cntN n x + _ ≤ cntN n y + _
    by_cases hb : bt x n = true
    · rw [if_pos hb, if_pos (h2 hb)]; omega
    · rw [if_neg hb]; omega
theorem cntN_lt {x y : Int32} : ∀ (n : Nat), (∀ i, i < n → bt x i = true → bt y i = true) → (∃ i, i < n ∧ bt y i = true ∧ ¬ bt x i = true) → cntN n x < cntN n y
  | 0, _, ⟨i, hi, _⟩ => absurd hi (Nat.not_lt_zero _)
  | n + 1, h, ⟨i, hi, h1, h2⟩ => by
    have h3 := cntN_mono n (fun i hi => h i (by omega))
    have h4 := h n (by omega)
    show cntN n x + _ < cntN n y + _
    by_cases e : i = n
    · subst e; rw [if_neg h2, if_pos h1]; omega
    · have h5 := cntN_lt n (fun i hi => h i (by omega)) ⟨i, by omega, h1, h2⟩
      by_cases hb : bt x n = true
      · rw [if_pos hb, if_pos (h4 hb)]; omega
      · rw [if_neg hb]; omega
theorem cnt_lt {x y : Int32} (h : ∀ i, bt x i = true → bt y i = true) (hne : ¬ y = x) : cnt x < cnt y := by
  refine cntN_lt 32 (fun i _ => h i) ?_
  refine Classical.byContradiction fun hn => hne (b_ext fun i hi => ?_)
  cases hy : bt y i with
  | true =>
    cases hx : bt x i with
    | true => rfl
    | false => exact absurd ⟨i, hi, hy, by rw [hx]; decide⟩ hn
  | false =>
    cases hx : bt x i with
    | true => rw [h i hx] at hy; cases hy
    | false => rfl
theorem cnt_pos {x : Int32} (h : ¬ x = 0) : 1 ≤ cnt x := by
  have := cnt_lt (x := 0) (y := x) (fun i hi => by rw [b_0] at hi; cases hi) h
  omega
theorem b_m25 : ∀ i, i < 32 → bt (33554431 : Int32) i = decide (i < 25) := by decide +kernel
theorem cnt_25 {x : Int32} (h : ∀ i, bt x i = true → i < 25) : cnt x ≤ 25 := by
  have h1 : cnt x ≤ cnt 33554431 := cntN_mono 32 (fun i hi hb => by rw [b_m25 i hi]; exact decide_eq_true (h i hb))
  have h2 : cnt (33554431 : Int32) = 25 := by decide +kernel
  omega
theorem and_ne0 {x y : Int32} : ¬ x &&& y = 0 ↔ ∃ i, bt x i = true ∧ bt y i = true := by
  constructor
  · intro h
    refine Classical.byContradiction fun hn => h (b_ext fun i _ => ?_)
    rw [b_and, b_0]
    cases hx : bt x i with
    | false => rfl
    | true =>
      cases hy : bt y i with
      | false => rfl
      | true => exact absurd ⟨i, hx, hy⟩ hn
  · rintro ⟨i, h1, h2⟩ e
    have h3 := b_and x y i
    rw [e, b_0, h1, h2] at h3
    cases h3
theorem bt_lt {x : Int32} {i : Nat} (h : bt x i = true) : i < 32 := by
  rcases Nat.lt_or_ge i 32 with h1 | h1
  · exact h1
  · rw [b_big h1] at h; cases h
theorem b_ext' {x y : Int32} (h : ∀ i, bt x i = true ↔ bt y i = true) : x = y := b_ext fun i _ => by
  cases hx : bt x i with
  | true => exact ((h i).mp hx).symm
  | false =>
    cases hy : bt y i with
    | true => rw [(h i).mpr hy] at hx; cases hx
    | false => rfl
end
section
/-! the class Reasons: what reads -/
abbrev rmX2_backOf : Room := { frames := 0, cells := 0, slots := 0, locals := 0 }
theorem lk_X2_backOf : Lk yX2_backOf 1 := by decide +kernel
set_option maxHeartbeats 4000000 in
set_option maxRecDepth 100000 in
/-- backOf(p) -/
theorem c_X2_backOf (l : Launch) (D : va_G) (k : Nat → ClassId) (ad : Nat → Nat) (V : St) {q : Nat} (hq : q < 24) : CtR noX l yX2_backOf cX2_backOf 2 (some .int) rmX2_backOf D (tyL k) (wR k ad V) [.ref (ad 0), .int (nI q)] (fun r => r = V 7 q) := by
  refine CtR.mk (by decide) (Nat.le_of_ble_eq_true rfl) ?_
  intro p e s m below meth c hx hb hml hown hg hr hlocks hK hN hX H hH hP ls hl
  have hl : lv_has ls 2 [(0, .ref (ad 0)), (1, .int (nI q))] := hl
  refine lv_aload_n hx hb dX2_backOf_0 rfl (lv_at hl 0 rfl) ?_
  refine gfl hx hb hg inX2 hown hK hP 0 (ci := 2) rfl rfl 7 (by decide) wd_126 rfl dX2_backOf_1 ?_
  refine lv_iload_n hx hb dX2_backOf_4 rfl (lv_at hl 1 rfl) ?_
  refine ldn hx hb hK hP 7 0 rfl rfl (by omega) (by decide) dX2_backOf_5 ?_
  exact retRI (v := (V 7) q) hx hb hr hlocks hH dX2_backOf_6 (rfl)
abbrev rmX2_thinOf : Room := { frames := 0, cells := 0, slots := 0, locals := 0 }
theorem lk_X2_thinOf : Lk yX2_thinOf 1 := by decide +kernel
set_option maxHeartbeats 4000000 in
set_option maxRecDepth 100000 in
/-- thinOf(p) -/
theorem c_X2_thinOf (l : Launch) (D : va_G) (k : Nat → ClassId) (ad : Nat → Nat) (V : St) {q : Nat} (hq : q < 24) : CtR noX l yX2_thinOf cX2_thinOf 2 (some .int) rmX2_thinOf D (tyL k) (wR k ad V) [.ref (ad 0), .int (nI q)] (fun r => r = V 8 q) := by
  refine CtR.mk (by decide) (Nat.le_of_ble_eq_true rfl) ?_
  intro p e s m below meth c hx hb hml hown hg hr hlocks hK hN hX H hH hP ls hl
  have hl : lv_has ls 2 [(0, .ref (ad 0)), (1, .int (nI q))] := hl
  refine lv_aload_n hx hb dX2_thinOf_0 rfl (lv_at hl 0 rfl) ?_
  refine gfl hx hb hg inX2 hown hK hP 0 (ci := 2) rfl rfl 8 (by decide) wd_127 rfl dX2_thinOf_1 ?_
  refine lv_iload_n hx hb dX2_thinOf_4 rfl (lv_at hl 1 rfl) ?_
  refine ldn hx hb hK hP 8 0 rfl rfl (by omega) (by decide) dX2_thinOf_5 ?_
  exact retRI (v := (V 8) q) hx hb hr hlocks hH dX2_thinOf_6 (rfl)
abbrev rmX2_followersOf : Room := { frames := 0, cells := 0, slots := 0, locals := 0 }
theorem lk_X2_followersOf : Lk yX2_followersOf 1 := by decide +kernel
set_option maxHeartbeats 4000000 in
set_option maxRecDepth 100000 in
/-- followersOf(p) -/
theorem c_X2_followersOf (l : Launch) (D : va_G) (k : Nat → ClassId) (ad : Nat → Nat) (V : St) {q : Nat} (hq : q < 24) : CtR noX l yX2_followersOf cX2_followersOf 2 (some .int) rmX2_followersOf D (tyL k) (wR k ad V) [.ref (ad 0), .int (nI q)] (fun r => r = V 3 q) := by
  refine CtR.mk (by decide) (Nat.le_of_ble_eq_true rfl) ?_
  intro p e s m below meth c hx hb hml hown hg hr hlocks hK hN hX H hH hP ls hl
  have hl : lv_has ls 2 [(0, .ref (ad 0)), (1, .int (nI q))] := hl
  refine lv_aload_n hx hb dX2_followersOf_0 rfl (lv_at hl 0 rfl) ?_
  refine gfl hx hb hg inX2 hown hK hP 0 (ci := 2) rfl rfl 3 (by decide) wd_122 rfl dX2_followersOf_1 ?_
  refine lv_iload_n hx hb dX2_followersOf_4 rfl (lv_at hl 1 rfl) ?_
  refine ldn hx hb hK hP 3 0 rfl rfl (by omega) (by decide) dX2_followersOf_5 ?_
  exact retRI (v := (V 3) q) hx hb hr hlocks hH dX2_followersOf_6 (rfl)
abbrev rmX2_whoseSetHolds : Room := { frames := 1, cells := 0, slots := 0, locals := 21 }
theorem lk_X2_whoseSetHolds : Lk yX2_whoseSetHolds 2 := by decide +kernel
set_option maxHeartbeats 4000000 in
set_option maxRecDepth 100000 in
/-- whoseSetHolds(p, sets) -/
theorem c_X2_whoseSetHolds (l : Launch) (D : va_G) (k : Nat → ClassId) (ad : Nat → Nat) (V : St) {n : Nat} (hn : V 0 0 = nI n) (hn24 : n ≤ 24) {q : Nat} (hq : q < 24) : CtR noX l yX2_whoseSetHolds cX2_whoseSetHolds 5 (some .int) rmX2_whoseSetHolds D (tyL k) (wR k ad V) [.ref (ad 0), .int (nI q), .ref (ad 7)] (fun r => r = mkM n (fun v => bt (V 7 v) q)) := by
  refine CtR.mk (by decide) (Nat.le_of_ble_eq_true rfl) ?_
  intro p e s m below meth c hx hb hml hown hg hr hlocks hK hN hX H hH hP ls hl
  have hl : lv_has ls 5 [(0, .ref (ad 0)), (1, .int (nI q)), (2, .ref (ad 7))] := hl
  refine lv_iconst (v := 0) hx hb dX2_whoseSetHolds_0 (by decide) ?_
  refine lv_istore_n (lv' := [(3, .int 0), (0, .ref (ad 0)), (1, .int (nI q)), (2, .ref (ad 7))]) hx hb dX2_whoseSetHolds_1 rfl hl (by decide) rfl (fun ls hl => ?_)
  refine lv_iconst (v := 0) hx hb dX2_whoseSetHolds_2 (by decide) ?_
  refine lv_istore (lv' := [(4, .int 0), (3, .int 0), (0, .ref (ad 0)), (1, .int (nI q)), (2, .ref (ad 7))]) hx hb dX2_whoseSetHolds_3 hl (by decide) rfl (fun ls hl => ?_)
  refine loopR (σ := Nat) (fun i ls => lv_has ls 5 [(0, .ref (ad 0)), (1, .int (nI q)), (2, .ref (ad 7)), (3, .int (mkM i (fun v => bt (V 7 v) q))), (4, .int (nI i))] ∧ (i ≤ n)) (fun i => n - i) ?_ (0) ⟨(lv_sub hl [2, 3, 4, 1, 0] rfl), (by omega)⟩
  intro zz9 ls hI ih
  obtain ⟨i, rfl⟩ : ∃ z, z = zz9 := ⟨_, rfl⟩
  obtain ⟨hl, hi⟩ := hI
  refine lv_iload hx hb dX2_whoseSetHolds_5 (lv_at hl 4 rfl) ?_
  refine lv_aload_n hx hb dX2_whoseSetHolds_7 rfl (lv_at hl 0 rfl) ?_
  refine gfl hx hb hg inX2 hown hK hP 0 (ci := 2) rfl rfl 0 (by decide) wd_119 rfl dX2_whoseSetHolds_8 ?_
  refine topv (nI n) hn ?_
  refine lv_icmp_ge (tgt := 38) hx hb dX2_whoseSetHolds_11 (by decide) (fun c_11 => ?_) (fun c_11 => ?_)
  · have c_11 : n ≤ i := (nI_leI (a := n) (b := i) (by omega) (by omega)).mp c_11
    refine lv_iload_n hx hb dX2_whoseSetHolds_38 rfl (lv_at hl 3 rfl) ?_
    exact retRI (v := mkM i (fun v => bt (V 7 v) q)) hx hb hr hlocks hH dX2_whoseSetHolds_39 (by rw [show i = n by omega])
  · have c_11 : ¬ n ≤ i := fun z => c_11 ((nI_leI (a := n) (b := i) (by omega) (by omega)).mpr z)
    refine lv_aload_n hx hb dX2_whoseSetHolds_14 rfl (lv_at hl 2 rfl) ?_
    refine lv_iload hx hb dX2_whoseSetHolds_15 (lv_at hl 4 rfl) ?_
    refine ldn hx hb hK hP 7 0 rfl rfl (by omega) (by decide) dX2_whoseSetHolds_17 ?_
    refine lv_iload_n hx hb dX2_whoseSetHolds_18 rfl (lv_at hl 1 rfl) ?_
    refine callR (runSN hx hb hg hown hml hl.1 hN (c_X3_holds l D k ((V 7) i) (q := q) (by omega)) [.int ((V 7) i), .int (nI q)] [] (preR (mapSome_sub hP [] rfl) hK hN xb0 x0) 323 nst_323 wd_324 wd_49 wd_325 lk_X3_holds ⟨rfl, rfl⟩ ⟨by decide, by decide⟩ ⟨Nat.zero_le _, Nat.zero_le _⟩ rfl (Nat.le_of_ble_eq_true rfl) dX2_whoseSetHolds_19) (fun r_19 q_19 => ?_)
    obtain rfl := q_19
    refine lv_if_eq (tgt := 32) hx hb dX2_whoseSetHolds_22 (by decide) (fun c_22 => ?_) (fun c_22 => ?_)
    · have c_22 := zI_0.mp c_22
      refine lv_iinc (v := nI (i + 1)) (lv' := [(4, .int (nI (i + 1))), (0, .ref (ad 0)), (1, .int (nI q)), (2, .ref (ad 7)), (3, .int (mkM i (fun v => bt (V 7 v) q)))]) hx hb dX2_whoseSetHolds_32 hl (k := 4) rfl (nI_succ i).symm (by decide) rfl (fun ls hl => ?_)
      refine lv_goto (tgt := 5) hx hb dX2_whoseSetHolds_35 (by decide) ?_
      rw [mkM_f (f := (fun v => bt (V 7 v) q)) c_22] at hl
      exact ih (i + 1) _ ⟨(lv_sub hl [1, 2, 3, 4, 0] rfl), (by omega)⟩ (by omega)
    · have c_22 := zI_ne c_22
      refine lv_iload_n hx hb dX2_whoseSetHolds_25 rfl (lv_at hl 3 rfl) ?_
      refine lv_iconst (v := 1) hx hb dX2_whoseSetHolds_26 (by decide) ?_
      refine lv_iload hx hb dX2_whoseSetHolds_27 (lv_at hl 4 rfl) ?_
      refine lv_ishl hx hb dX2_whoseSetHolds_29 ?_
      refine topv (bitI i) rfl ?_
      refine lv_ior hx hb dX2_whoseSetHolds_30 ?_
      refine lv_istore_n (lv' := [(3, .int ((mkM i (fun v => bt (V 7 v) q)) ||| (bitI i))), (0, .ref (ad 0)), (1, .int (nI q)), (2, .ref (ad 7)), (4, .int (nI i))]) hx hb dX2_whoseSetHolds_31 rfl hl (by decide) rfl (fun ls hl => ?_)
      refine lv_iinc (v := nI (i + 1)) (lv' := [(4, .int (nI (i + 1))), (3, .int ((mkM i (fun v => bt (V 7 v) q)) ||| (bitI i))), (0, .ref (ad 0)), (1, .int (nI q)), (2, .ref (ad 7))]) hx hb dX2_whoseSetHolds_32 hl (k := 4) rfl (nI_succ i).symm (by decide) rfl (fun ls hl => ?_)
      refine lv_goto (tgt := 5) hx hb dX2_whoseSetHolds_35 (by decide) ?_
      rw [mkM_t (f := (fun v => bt (V 7 v) q)) c_22] at hl
      exact ih (i + 1) _ ⟨(lv_sub hl [2, 3, 4, 1, 0] rfl), (by omega)⟩ (by omega)
set_option maxHeartbeats 4000000 in
set_option maxRecDepth 100000 in
/-- whoseSetHolds(p, sets) -/
theorem c_X2_whoseSetHolds_8 (l : Launch) (D : va_G) (k : Nat → ClassId) (ad : Nat → Nat) (V : St) {n : Nat} (hn : V 0 0 = nI n) (hn24 : n ≤ 24) {q : Nat} (hq : q < 24) : CtR noX l yX2_whoseSetHolds cX2_whoseSetHolds 5 (some .int) rmX2_whoseSetHolds D (tyL k) (wR k ad V) [.ref (ad 0), .int (nI q), .ref (ad 8)] (fun r => r = mkM n (fun v => bt (V 8 v) q)) := by
  refine CtR.mk (by decide) (Nat.le_of_ble_eq_true rfl) ?_
  intro p e s m below meth c hx hb hml hown hg hr hlocks hK hN hX H hH hP ls hl
  have hl : lv_has ls 5 [(0, .ref (ad 0)), (1, .int (nI q)), (2, .ref (ad 8))] := hl
  refine lv_iconst (v := 0) hx hb dX2_whoseSetHolds_0 (by decide) ?_
  refine lv_istore_n (lv' := [(3, .int 0), (0, .ref (ad 0)), (1, .int (nI q)), (2, .ref (ad 8))]) hx hb dX2_whoseSetHolds_1 rfl hl (by decide) rfl (fun ls hl => ?_)
  refine lv_iconst (v := 0) hx hb dX2_whoseSetHolds_2 (by decide) ?_
  refine lv_istore (lv' := [(4, .int 0), (3, .int 0), (0, .ref (ad 0)), (1, .int (nI q)), (2, .ref (ad 8))]) hx hb dX2_whoseSetHolds_3 hl (by decide) rfl (fun ls hl => ?_)
  refine loopR (σ := Nat) (fun i ls => lv_has ls 5 [(0, .ref (ad 0)), (1, .int (nI q)), (2, .ref (ad 8)), (3, .int (mkM i (fun v => bt (V 8 v) q))), (4, .int (nI i))] ∧ (i ≤ n)) (fun i => n - i) ?_ (0) ⟨(lv_sub hl [2, 3, 4, 1, 0] rfl), (by omega)⟩
  intro zz9 ls hI ih
  obtain ⟨i, rfl⟩ : ∃ z, z = zz9 := ⟨_, rfl⟩
  obtain ⟨hl, hi⟩ := hI
  refine lv_iload hx hb dX2_whoseSetHolds_5 (lv_at hl 4 rfl) ?_
  refine lv_aload_n hx hb dX2_whoseSetHolds_7 rfl (lv_at hl 0 rfl) ?_
  refine gfl hx hb hg inX2 hown hK hP 0 (ci := 2) rfl rfl 0 (by decide) wd_119 rfl dX2_whoseSetHolds_8 ?_
  refine topv (nI n) hn ?_
  refine lv_icmp_ge (tgt := 38) hx hb dX2_whoseSetHolds_11 (by decide) (fun c_11 => ?_) (fun c_11 => ?_)
  · have c_11 : n ≤ i := (nI_leI (a := n) (b := i) (by omega) (by omega)).mp c_11
    refine lv_iload_n hx hb dX2_whoseSetHolds_38 rfl (lv_at hl 3 rfl) ?_
    exact retRI (v := mkM i (fun v => bt (V 8 v) q)) hx hb hr hlocks hH dX2_whoseSetHolds_39 (by rw [show i = n by omega])
  · have c_11 : ¬ n ≤ i := fun z => c_11 ((nI_leI (a := n) (b := i) (by omega) (by omega)).mpr z)
    refine lv_aload_n hx hb dX2_whoseSetHolds_14 rfl (lv_at hl 2 rfl) ?_
    refine lv_iload hx hb dX2_whoseSetHolds_15 (lv_at hl 4 rfl) ?_
    refine ldn hx hb hK hP 8 0 rfl rfl (by omega) (by decide) dX2_whoseSetHolds_17 ?_
    refine lv_iload_n hx hb dX2_whoseSetHolds_18 rfl (lv_at hl 1 rfl) ?_
    refine callR (runSN hx hb hg hown hml hl.1 hN (c_X3_holds l D k ((V 8) i) (q := q) (by omega)) [.int ((V 8) i), .int (nI q)] [] (preR (mapSome_sub hP [] rfl) hK hN xb0 x0) 323 nst_323 wd_324 wd_49 wd_325 lk_X3_holds ⟨rfl, rfl⟩ ⟨by decide, by decide⟩ ⟨Nat.zero_le _, Nat.zero_le _⟩ rfl (Nat.le_of_ble_eq_true rfl) dX2_whoseSetHolds_19) (fun r_19 q_19 => ?_)
    obtain rfl := q_19
    refine lv_if_eq (tgt := 32) hx hb dX2_whoseSetHolds_22 (by decide) (fun c_22 => ?_) (fun c_22 => ?_)
    · have c_22 := zI_0.mp c_22
      refine lv_iinc (v := nI (i + 1)) (lv' := [(4, .int (nI (i + 1))), (0, .ref (ad 0)), (1, .int (nI q)), (2, .ref (ad 8)), (3, .int (mkM i (fun v => bt (V 8 v) q)))]) hx hb dX2_whoseSetHolds_32 hl (k := 4) rfl (nI_succ i).symm (by decide) rfl (fun ls hl => ?_)
      refine lv_goto (tgt := 5) hx hb dX2_whoseSetHolds_35 (by decide) ?_
      rw [mkM_f (f := (fun v => bt (V 8 v) q)) c_22] at hl
      exact ih (i + 1) _ ⟨(lv_sub hl [1, 2, 3, 4, 0] rfl), (by omega)⟩ (by omega)
    · have c_22 := zI_ne c_22
      refine lv_iload_n hx hb dX2_whoseSetHolds_25 rfl (lv_at hl 3 rfl) ?_
      refine lv_iconst (v := 1) hx hb dX2_whoseSetHolds_26 (by decide) ?_
      refine lv_iload hx hb dX2_whoseSetHolds_27 (lv_at hl 4 rfl) ?_
      refine lv_ishl hx hb dX2_whoseSetHolds_29 ?_
      refine topv (bitI i) rfl ?_
      refine lv_ior hx hb dX2_whoseSetHolds_30 ?_
      refine lv_istore_n (lv' := [(3, .int ((mkM i (fun v => bt (V 8 v) q)) ||| (bitI i))), (0, .ref (ad 0)), (1, .int (nI q)), (2, .ref (ad 8)), (4, .int (nI i))]) hx hb dX2_whoseSetHolds_31 rfl hl (by decide) rfl (fun ls hl => ?_)
      refine lv_iinc (v := nI (i + 1)) (lv' := [(4, .int (nI (i + 1))), (3, .int ((mkM i (fun v => bt (V 8 v) q)) ||| (bitI i))), (0, .ref (ad 0)), (1, .int (nI q)), (2, .ref (ad 8))]) hx hb dX2_whoseSetHolds_32 hl (k := 4) rfl (nI_succ i).symm (by decide) rfl (fun ls hl => ?_)
      refine lv_goto (tgt := 5) hx hb dX2_whoseSetHolds_35 (by decide) ?_
      rw [mkM_t (f := (fun v => bt (V 8 v) q)) c_22] at hl
      exact ih (i + 1) _ ⟨(lv_sub hl [2, 3, 4, 1, 0] rfl), (by omega)⟩ (by omega)
abbrev rmX2_forwardOf : Room := { frames := 2, cells := 0, slots := 0, locals := 45 }
theorem lk_X2_forwardOf : Lk yX2_forwardOf 1 := by decide +kernel
set_option maxHeartbeats 4000000 in
set_option maxRecDepth 100000 in
/-- forwardOf(p) -/
theorem c_X2_forwardOf (l : Launch) (D : va_G) (k : Nat → ClassId) (ad : Nat → Nat) (V : St) {n : Nat} (hn : V 0 0 = nI n) (hn24 : n ≤ 24) {q : Nat} (hq : q < 24) : CtR noX l yX2_forwardOf cX2_forwardOf 2 (some .int) rmX2_forwardOf D (tyL k) (wR k ad V) [.ref (ad 0), .int (nI q)] (fun r => r = mkM n (fun v => bt (V 7 v) q)) := by
  refine CtR.mk (by decide) (Nat.le_of_ble_eq_true rfl) ?_
  intro p e s m below meth c hx hb hml hown hg hr hlocks hK hN hX H hH hP ls hl
  have hl : lv_has ls 2 [(0, .ref (ad 0)), (1, .int (nI q))] := hl
  refine lv_aload_n hx hb dX2_forwardOf_0 rfl (lv_at hl 0 rfl) ?_
  refine lv_iload_n hx hb dX2_forwardOf_1 rfl (lv_at hl 1 rfl) ?_
  refine lv_aload_n hx hb dX2_forwardOf_2 rfl (lv_at hl 0 rfl) ?_
  refine gfl hx hb hg inX2 hown hK hP 0 (ci := 2) rfl rfl 7 (by decide) wd_126 rfl dX2_forwardOf_3 ?_
  refine callR (runV hx hb hg hown hml hl.1 (c_X2_whoseSetHolds l D k ad V hn hn24 hq) [.int (nI q), .ref (ad 7)] [] (preR (mapSome_sub hP [0, 1, 2, 3, 4, 5, 6, 7, 8, 9, 10, 11, 12, 13, 14] rfl) hK hN xb0 x0) (va_recv hK hP (ci := 2) (q0 := 0) rfl rfl) wd_445 wd_447 wd_18 wd_51 wd_448 lk_X2_whoseSetHolds ⟨rfl, rfl⟩ ⟨by decide, by decide⟩ ⟨Nat.zero_le _, Nat.zero_le _⟩ rfl (Nat.le_of_ble_eq_true rfl) dX2_forwardOf_6) (fun r_6 q_6 => ?_)
  obtain rfl := q_6
  exact retRI (v := mkM n (fun v => bt (V 7 v) q)) hx hb hr hlocks hH dX2_forwardOf_9 (rfl)
abbrev rmX2_thinlyOf : Room := { frames := 2, cells := 0, slots := 0, locals := 45 }
theorem lk_X2_thinlyOf : Lk yX2_thinlyOf 1 := by decide +kernel
set_option maxHeartbeats 4000000 in
set_option maxRecDepth 100000 in
/-- thinlyOf(p) -/
theorem c_X2_thinlyOf (l : Launch) (D : va_G) (k : Nat → ClassId) (ad : Nat → Nat) (V : St) {n : Nat} (hn : V 0 0 = nI n) (hn24 : n ≤ 24) {q : Nat} (hq : q < 24) : CtR noX l yX2_thinlyOf cX2_thinlyOf 2 (some .int) rmX2_thinlyOf D (tyL k) (wR k ad V) [.ref (ad 0), .int (nI q)] (fun r => r = mkM n (fun v => bt (V 8 v) q)) := by
  refine CtR.mk (by decide) (Nat.le_of_ble_eq_true rfl) ?_
  intro p e s m below meth c hx hb hml hown hg hr hlocks hK hN hX H hH hP ls hl
  have hl : lv_has ls 2 [(0, .ref (ad 0)), (1, .int (nI q))] := hl
  refine lv_aload_n hx hb dX2_thinlyOf_0 rfl (lv_at hl 0 rfl) ?_
  refine lv_iload_n hx hb dX2_thinlyOf_1 rfl (lv_at hl 1 rfl) ?_
  refine lv_aload_n hx hb dX2_thinlyOf_2 rfl (lv_at hl 0 rfl) ?_
  refine gfl hx hb hg inX2 hown hK hP 0 (ci := 2) rfl rfl 8 (by decide) wd_127 rfl dX2_thinlyOf_3 ?_
  refine callR (runV hx hb hg hown hml hl.1 (c_X2_whoseSetHolds_8 l D k ad V hn hn24 hq) [.int (nI q), .ref (ad 8)] [] (preR (mapSome_sub hP [0, 1, 2, 3, 4, 5, 6, 7, 8, 9, 10, 11, 12, 13, 14] rfl) hK hN xb0 x0) (va_recv hK hP (ci := 2) (q0 := 0) rfl rfl) wd_445 wd_447 wd_18 wd_51 wd_448 lk_X2_whoseSetHolds ⟨rfl, rfl⟩ ⟨by decide, by decide⟩ ⟨Nat.zero_le _, Nat.zero_le _⟩ rfl (Nat.le_of_ble_eq_true rfl) dX2_thinlyOf_6) (fun r_6 q_6 => ?_)
  obtain rfl := q_6
  exact retRI (v := mkM n (fun v => bt (V 8 v) q)) hx hb hr hlocks hH dX2_thinlyOf_9 (rfl)
abbrev rmX2_allThatHangOn : Room := { frames := 0, cells := 0, slots := 0, locals := 0 }
theorem lk_X2_allThatHangOn : Lk yX2_allThatHangOn 1 := by decide +kernel
set_option maxHeartbeats 4000000 in
set_option maxRecDepth 100000 in
/-- allThatHangOn(set) -/
theorem c_X2_allThatHangOn (l : Launch) (D : va_G) (k : Nat → ClassId) (ad : Nat → Nat) (V : St) {n : Nat} (hn : V 0 0 = nI n) (hn24 : n ≤ 24) (x : Int32) : CtR noX l yX2_allThatHangOn cX2_allThatHangOn 4 (some .int) rmX2_allThatHangOn D (tyL k) (wR k ad V) [.ref (ad 0), .int x] (fun r => r = mkM n (fun v => decide (¬ V 5 v &&& x = 0))) := by
  refine CtR.mk (by decide) (Nat.le_of_ble_eq_true rfl) ?_
  intro p e s m below meth c hx hb hml hown hg hr hlocks hK hN hX H hH hP ls hl
  have hl : lv_has ls 4 [(0, .ref (ad 0)), (1, .int x)] := hl
  refine lv_iconst (v := 0) hx hb dX2_allThatHangOn_0 (by decide) ?_
  refine lv_istore_n (lv' := [(2, .int 0), (0, .ref (ad 0)), (1, .int x)]) hx hb dX2_allThatHangOn_1 rfl hl (by decide) rfl (fun ls hl => ?_)
  refine lv_iconst (v := 0) hx hb dX2_allThatHangOn_2 (by decide) ?_
  refine lv_istore_n (lv' := [(3, .int 0), (2, .int 0), (0, .ref (ad 0)), (1, .int x)]) hx hb dX2_allThatHangOn_3 rfl hl (by decide) rfl (fun ls hl => ?_)
  refine loopR (σ := Nat) (fun i ls => lv_has ls 4 [(0, .ref (ad 0)), (1, .int x), (2, .int (mkM i (fun v => decide (¬ V 5 v &&& x = 0)))), (3, .int (nI i))] ∧ (i ≤ n)) (fun i => n - i) ?_ (0) ⟨(lv_sub hl [2, 3, 1, 0] rfl), (by omega)⟩
  intro zz9 ls hI ih
  obtain ⟨i, rfl⟩ : ∃ z, z = zz9 := ⟨_, rfl⟩
  obtain ⟨hl, hi⟩ := hI
  refine lv_iload_n hx hb dX2_allThatHangOn_4 rfl (lv_at hl 3 rfl) ?_
  refine lv_aload_n hx hb dX2_allThatHangOn_5 rfl (lv_at hl 0 rfl) ?_
  refine gfl hx hb hg inX2 hown hK hP 0 (ci := 2) rfl rfl 0 (by decide) wd_119 rfl dX2_allThatHangOn_6 ?_
  refine topv (nI n) hn ?_
  refine lv_icmp_ge (tgt := 35) hx hb dX2_allThatHangOn_9 (by decide) (fun c_9 => ?_) (fun c_9 => ?_)
  · have c_9 : n ≤ i := (nI_leI (a := n) (b := i) (by omega) (by omega)).mp c_9
    refine lv_iload_n hx hb dX2_allThatHangOn_35 rfl (lv_at hl 2 rfl) ?_
    exact retRI (v := mkM i (fun v => decide (¬ V 5 v &&& x = 0))) hx hb hr hlocks hH dX2_allThatHangOn_36 (by rw [show i = n by omega])
  · have c_9 : ¬ n ≤ i := fun z => c_9 ((nI_leI (a := n) (b := i) (by omega) (by omega)).mpr z)
    refine lv_aload_n hx hb dX2_allThatHangOn_12 rfl (lv_at hl 0 rfl) ?_
    refine gfl hx hb hg inX2 hown hK hP 0 (ci := 2) rfl rfl 5 (by decide) wd_124 rfl dX2_allThatHangOn_13 ?_
    refine lv_iload_n hx hb dX2_allThatHangOn_16 rfl (lv_at hl 3 rfl) ?_
    refine ldn hx hb hK hP 5 0 rfl rfl (by omega) (by decide) dX2_allThatHangOn_17 ?_
    refine lv_iload_n hx hb dX2_allThatHangOn_18 rfl (lv_at hl 1 rfl) ?_
    refine lv_iand hx hb dX2_allThatHangOn_19 ?_
    refine lv_if_eq (tgt := 29) hx hb dX2_allThatHangOn_20 (by decide) (fun c_20 => ?_) (fun c_20 => ?_)
    · have c_20 : decide (¬ V 5 i &&& x = 0) = false := decide_eq_false (fun z => z c_20)
      refine lv_iinc (v := nI (i + 1)) (lv' := [(3, .int (nI (i + 1))), (0, .ref (ad 0)), (1, .int x), (2, .int (mkM i (fun v => decide (¬ V 5 v &&& x = 0))))]) hx hb dX2_allThatHangOn_29 hl (k := 3) rfl (nI_succ i).symm (by decide) rfl (fun ls hl => ?_)
      refine lv_goto (tgt := 4) hx hb dX2_allThatHangOn_32 (by decide) ?_
      rw [mkM_f (f := (fun v => decide (¬ V 5 v &&& x = 0))) c_20] at hl
      exact ih (i + 1) _ ⟨(lv_sub hl [1, 2, 3, 0] rfl), (by omega)⟩ (by omega)
    · have c_20 : decide (¬ V 5 i &&& x = 0) = true := decide_eq_true c_20
      refine lv_iload_n hx hb dX2_allThatHangOn_23 rfl (lv_at hl 2 rfl) ?_
      refine lv_iconst (v := 1) hx hb dX2_allThatHangOn_24 (by decide) ?_
      refine lv_iload_n hx hb dX2_allThatHangOn_25 rfl (lv_at hl 3 rfl) ?_
      refine lv_ishl hx hb dX2_allThatHangOn_26 ?_
      refine topv (bitI i) rfl ?_
      refine lv_ior hx hb dX2_allThatHangOn_27 ?_
      refine lv_istore_n (lv' := [(2, .int ((mkM i (fun v => decide (¬ V 5 v &&& x = 0))) ||| (bitI i))), (0, .ref (ad 0)), (1, .int x), (3, .int (nI i))]) hx hb dX2_allThatHangOn_28 rfl hl (by decide) rfl (fun ls hl => ?_)
      refine lv_iinc (v := nI (i + 1)) (lv' := [(3, .int (nI (i + 1))), (2, .int ((mkM i (fun v => decide (¬ V 5 v &&& x = 0))) ||| (bitI i))), (0, .ref (ad 0)), (1, .int x)]) hx hb dX2_allThatHangOn_29 hl (k := 3) rfl (nI_succ i).symm (by decide) rfl (fun ls hl => ?_)
      refine lv_goto (tgt := 4) hx hb dX2_allThatHangOn_32 (by decide) ?_
      rw [mkM_t (f := (fun v => decide (¬ V 5 v &&& x = 0))) c_20] at hl
      exact ih (i + 1) _ ⟨(lv_sub hl [2, 3, 1, 0] rfl), (by omega)⟩ (by omega)
def firstB (f : Nat → Bool) : Nat → Nat → Nat
  | 0, i => i
  | m + 1, i => if f i = true then i else firstB f m (i + 1)
theorem firstB_t {f : Nat → Bool} {m i : Nat} (h : f i = true) : firstB f m i = i := by
  cases m with
  | zero => rfl
  | succ m => show ite _ _ _ = _; rw [if_pos h]
theorem firstB_f {f : Nat → Bool} {m i : Nat} (h : f i = false) (hm : 0 < m) : firstB f m i = firstB f (m - 1) (i + 1) := by
  cases m with
  | zero => omega
  | succ m => show ite _ _ _ = _; rw [if_neg (by rw [h]; decide)]; rfl
abbrev rmX2_leastOf : Room := { frames := 1, cells := 0, slots := 0, locals := 21 }
theorem lk_X2_leastOf : Lk yX2_leastOf 1 := by decide +kernel
set_option maxHeartbeats 4000000 in
set_option maxRecDepth 100000 in
/-- leastOf(set) -/
theorem c_X2_leastOf (l : Launch) (D : va_G) (k : Nat → ClassId) (x : Int32) : CtR noX l yX2_leastOf cX2_leastOf 2 (some .int) rmX2_leastOf D (tyL k) ([]) [.int x] (fun r => r = nI (firstB (bt x) 23 0)) := by
  refine CtR.mk (by decide) (Nat.le_of_ble_eq_true rfl) ?_
  intro p e s m below meth c hx hb hml hown hg hr hlocks hK hN hX H hH hP ls hl
  have hl : lv_has ls 2 [(0, .int x)] := hl
  refine lv_iconst (v := 0) hx hb dX2_leastOf_0 (by decide) ?_
  refine lv_istore_n (lv' := [(1, .int 0), (0, .int x)]) hx hb dX2_leastOf_1 rfl hl (by decide) rfl (fun ls hl => ?_)
  refine loopR (σ := Nat) (fun i ls => lv_has ls 2 [(0, .int x), (1, .int (nI i))] ∧ (i ≤ 23) ∧ (firstB (bt x) (23 - i) i = firstB (bt x) 23 0)) (fun i => 23 - i) ?_ (0) ⟨(lv_sub hl [1, 0] rfl), (by omega), rfl⟩
  intro zz9 ls hI ih
  obtain ⟨i, rfl⟩ : ∃ z, z = zz9 := ⟨_, rfl⟩
  obtain ⟨hl, hi, he⟩ := hI
  refine lv_iload_n hx hb dX2_leastOf_2 rfl (lv_at hl 1 rfl) ?_
  refine lv_bipush (v := 23) hx hb dX2_leastOf_3 (by decide) ?_
  refine lv_icmp_ge (tgt := 22) hx hb dX2_leastOf_5 (by decide) (fun c_5 => ?_) (fun c_5 => ?_)
  · have c_5 : 23 ≤ i := (nI_leI (a := 23) (b := i) (by omega) (by omega)).mp c_5
    refine lv_iload_n hx hb dX2_leastOf_22 rfl (lv_at hl 1 rfl) ?_
    exact retRI (v := nI i) hx hb hr hlocks hH dX2_leastOf_23 (by rw [← he]; first | (rw [show 23 - i = 0 by omega]; rfl) | rw [firstB_t c_13])
  · have c_5 : ¬ 23 ≤ i := fun z => c_5 ((nI_leI (a := 23) (b := i) (by omega) (by omega)).mpr z)
    refine lv_iload_n hx hb dX2_leastOf_8 rfl (lv_at hl 0 rfl) ?_
    refine lv_iload_n hx hb dX2_leastOf_9 rfl (lv_at hl 1 rfl) ?_
    refine callR (runSN hx hb hg hown hml hl.1 hN (c_X3_holds l D k (x) (q := i) (by omega)) [.int x, .int (nI i)] [] (preR (mapSome_sub hP [] rfl) hK hN xb0 x0) 323 nst_323 wd_324 wd_49 wd_325 lk_X3_holds ⟨rfl, rfl⟩ ⟨by decide, by decide⟩ ⟨Nat.zero_le _, Nat.zero_le _⟩ rfl (Nat.le_of_ble_eq_true rfl) dX2_leastOf_10) (fun r_10 q_10 => ?_)
    obtain rfl := q_10
    refine lv_if_ne (tgt := 22) hx hb dX2_leastOf_13 (by decide) (fun c_13 => ?_) (fun c_13 => ?_)
    · have c_13 := zI_ne c_13
      refine lv_iload_n hx hb dX2_leastOf_22 rfl (lv_at hl 1 rfl) ?_
      exact retRI (v := nI i) hx hb hr hlocks hH dX2_leastOf_23 (by rw [← he]; first | (rw [show 23 - i = 0 by omega]; rfl) | rw [firstB_t c_13])
    · have c_13 := zI_0.mp c_13
      refine lv_iinc (v := nI (i + 1)) (lv' := [(1, .int (nI (i + 1))), (0, .int x)]) hx hb dX2_leastOf_16 hl (k := 1) rfl (nI_succ i).symm (by decide) rfl (fun ls hl => ?_)
      refine lv_goto (tgt := 2) hx hb dX2_leastOf_19 (by decide) ?_
      exact ih (i + 1) _ ⟨(lv_sub hl [1, 0] rfl), (by omega), (by rw [← he, firstB_f c_13 (by omega), Nat.sub_sub])⟩ (by omega)
abbrev rmX2_reachedFrom : Room := { frames := 1, cells := 0, slots := 0, locals := 21 }
theorem lk_X2_reachedFrom : Lk yX2_reachedFrom 2 := by decide +kernel
set_option maxHeartbeats 4000000 in
set_option maxRecDepth 100000 in
/-- reachedFrom(u, stops) -/
theorem c_X2_reachedFrom (l : Launch) (D : va_G) (k : Nat → ClassId) (ad : Nat → Nat) (V : St) {n : Nat} (hn : V 0 0 = nI n) (hn24 : n ≤ 24) (hV : ∀ p, p < n → ∀ j, bt (V 1 p) j = true → j < 25) {u : Nat} (hu : u < n) (st : Int32) : CtR noX l yX2_reachedFrom cX2_reachedFrom 7 (some .int) rmX2_reachedFrom D (tyL k) (wR k ad V) [.ref (ad 0), .int (nI u), .int st] (fun r => ∀ j, bt r j = true ↔ Cl (fun j => bt (V 1 u) j = true) (fun y z => y < n ∧ bt st y = false ∧ bt (V 1 y) z = true) j) := by
  refine CtR.mk (by decide) (Nat.le_of_ble_eq_true rfl) ?_
  intro p e s m below meth c hx hb hml hown hg hr hlocks hK hN hX H hH hP ls hl
  have hl : lv_has ls 7 [(0, .ref (ad 0)), (1, .int (nI u)), (2, .int st)] := hl
  refine lv_aload_n hx hb dX2_reachedFrom_0 rfl (lv_at hl 0 rfl) ?_
  refine gfl hx hb hg inX2 hown hK hP 0 (ci := 2) rfl rfl 1 (by decide) wd_120 rfl dX2_reachedFrom_1 ?_
  refine lv_iload_n hx hb dX2_reachedFrom_4 rfl (lv_at hl 1 rfl) ?_
  refine ldn hx hb hK hP 1 0 rfl rfl (by omega) (by decide) dX2_reachedFrom_5 ?_
  refine lv_istore_n (lv' := [(3, .int ((V 1) u)), (0, .ref (ad 0)), (1, .int (nI u)), (2, .int st)]) hx hb dX2_reachedFrom_6 rfl hl (by decide) rfl (fun ls hl => ?_)
  refine lv_iconst (v := 0) hx hb dX2_reachedFrom_7 (by decide) ?_
  refine lv_istore (lv' := [(4, .int 0), (3, .int ((V 1) u)), (0, .ref (ad 0)), (1, .int (nI u)), (2, .int st)]) hx hb dX2_reachedFrom_8 hl (by decide) rfl (fun ls hl => ?_)
  refine lv_iconst (v := 0) hx hb dX2_reachedFrom_10 (by decide) ?_
  refine lv_istore (lv' := [(5, .int 0), (4, .int 0), (3, .int ((V 1) u)), (0, .ref (ad 0)), (1, .int (nI u)), (2, .int st)]) hx hb dX2_reachedFrom_11 hl (by decide) rfl (fun ls hl => ?_)
  refine loopR (σ := Int32 × Int32 × Nat) (fun zz9 ls => match zz9 with | (x, b, t) => lv_has ls 7 [(0, .ref (ad 0)), (1, .int (nI u)), (2, .int st), (3, .int x), (4, .int b), (5, .int (nI t))] ∧ (Sat (fun j => bt (V 1 u) j = true) (fun y z => y < n ∧ bt st y = false ∧ bt (V 1 y) z = true) x b) ∧ (∀ j, bt x j = true → j < 25) ∧ (∀ j, (fun j => bt (V 1 u) j = true) j → bt x j = true) ∧ (t ≤ 25) ∧ (x = b ∨ t + 1 ≤ cnt x)) (fun zz9 => match zz9 with | (x, b, t) => 25 - t) ?_ (V 1 u, 0, 0) ⟨(lv_sub hl [3, 4, 5, 2, 1, 0] rfl), ⟨fun j hj => Cl.base hj, fun e => ⟨fun j hj => hj, fun y z hy _ => by rw [e, b_0] at hy; cases hy⟩⟩, (hV u hu), (fun j hj => hj), (by omega), (by rcases Classical.em (V 1 u = 0) with e | e; exact Or.inl e; exact Or.inr (by have := cnt_pos e; omega))⟩
  intro zz9 ls hI ih
  obtain ⟨x, b, t⟩ := zz9
  obtain ⟨hl, hs, h25, hX, ht, hc⟩ := hI
  have iho := ih; clear ih
  refine lv_iload_n hx hb dX2_reachedFrom_13 rfl (lv_at hl 3 rfl) ?_
  refine lv_iload hx hb dX2_reachedFrom_14 (lv_at hl 4 rfl) ?_
  refine lv_icmp_eq (tgt := 76) hx hb dX2_reachedFrom_16 (by decide) (fun c_16 => ?_) (fun c_16 => ?_)
  · refine lv_iload_n hx hb dX2_reachedFrom_76 rfl (lv_at hl 3 rfl) ?_
    exact retRI (v := x) hx hb hr hlocks hH dX2_reachedFrom_77 (fun j => hs.done (by first | exact c_16 | (rcases hc with e | e; exact e; have := cnt_25 h25; omega)) j)
  · refine lv_iload hx hb dX2_reachedFrom_19 (lv_at hl 5 rfl) ?_
    refine lv_bipush (v := 24) hx hb dX2_reachedFrom_21 (by decide) ?_
    refine lv_icmp_gt (tgt := 76) hx hb dX2_reachedFrom_23 (by decide) (fun c_23 => ?_) (fun c_23 => ?_)
    · have c_23 : 24 < t := (nI_ltI (a := 24) (b := t) (by omega) (by omega)).mp c_23
      refine lv_iload_n hx hb dX2_reachedFrom_76 rfl (lv_at hl 3 rfl) ?_
      exact retRI (v := x) hx hb hr hlocks hH dX2_reachedFrom_77 (fun j => hs.done (by first | exact c_16 | (rcases hc with e | e; exact e; have := cnt_25 h25; omega)) j)
    · have c_23 : ¬ 24 < t := fun z => c_23 ((nI_ltI (a := 24) (b := t) (by omega) (by omega)).mpr z)
      refine lv_iload_n hx hb dX2_reachedFrom_26 rfl (lv_at hl 3 rfl) ?_
      refine lv_istore (lv' := [(4, .int x), (0, .ref (ad 0)), (1, .int (nI u)), (2, .int st), (3, .int x), (5, .int (nI t))]) hx hb dX2_reachedFrom_27 hl (by decide) rfl (fun ls hl => ?_)
      refine lv_iconst (v := 0) hx hb dX2_reachedFrom_29 (by decide) ?_
      refine lv_istore (lv' := [(6, .int 0), (4, .int x), (0, .ref (ad 0)), (1, .int (nI u)), (2, .int st), (3, .int x), (5, .int (nI t))]) hx hb dX2_reachedFrom_30 hl (by decide) rfl (fun ls hl => ?_)
      refine loopR (σ := Int32 × Nat) (fun zz9 ls => match zz9 with | (x1, i) => lv_has ls 7 [(0, .ref (ad 0)), (1, .int (nI u)), (2, .int st), (3, .int x1), (4, .int x), (5, .int (nI t)), (6, .int (nI i))] ∧ (Inn (fun j => bt (V 1 u) j = true) (fun y z => y < n ∧ bt st y = false ∧ bt (V 1 y) z = true) x x1 i) ∧ (i ≤ n) ∧ (∀ j, bt x1 j = true → j < 25)) (fun zz9 => match zz9 with | (x1, i) => n - i) ?_ (x, 0) ⟨(lv_sub hl [2, 3, 4, 5, 1, 6, 0] rfl), (Inn.start hs.1), (by omega), h25⟩
      intro zz9 ls hI ih
      obtain ⟨x1, i⟩ := zz9
      obtain ⟨hl, hI, hi, h25⟩ := hI
      refine lv_iload hx hb dX2_reachedFrom_32 (lv_at hl 6 rfl) ?_
      refine lv_aload_n hx hb dX2_reachedFrom_34 rfl (lv_at hl 0 rfl) ?_
      refine gfl hx hb hg inX2 hown hK hP 0 (ci := 2) rfl rfl 0 (by decide) wd_119 rfl dX2_reachedFrom_35 ?_
      refine topv (nI n) hn ?_
      refine lv_icmp_ge (tgt := 70) hx hb dX2_reachedFrom_38 (by decide) (fun c_38 => ?_) (fun c_38 => ?_)
      · have c_38 : n ≤ i := (nI_leI (a := n) (b := i) (by omega) (by omega)).mp c_38
        refine lv_iinc (v := nI (t + 1)) (lv' := [(5, .int (nI (t + 1))), (0, .ref (ad 0)), (1, .int (nI u)), (2, .int st), (3, .int x1), (4, .int x), (6, .int (nI i))]) hx hb dX2_reachedFrom_70 hl (k := 5) rfl (nI_succ t).symm (by decide) rfl (fun ls hl => ?_)
        refine lv_goto (tgt := 13) hx hb dX2_reachedFrom_73 (by decide) ?_
        have hcx : t + 1 ≤ cnt x := hc.resolve_left c_16
        obtain rfl : i = n := by omega
        exact iho (x1, x, t + 1) _ ⟨(lv_sub hl [1, 2, 3, 4, 5, 0] rfl), (hI.sat hX (fun y z h => h.1)), h25, (fun j hj => hI.2.1 j (hX j hj)), (by omega), (by rcases Classical.em (x1 = x) with e | e; exact Or.inl e; exact Or.inr (by have := cnt_lt hI.2.1 e; omega))⟩ (by dsimp only; omega)
      · have c_38 : ¬ n ≤ i := fun z => c_38 ((nI_leI (a := n) (b := i) (by omega) (by omega)).mpr z)
        refine lv_iload_n hx hb dX2_reachedFrom_41 rfl (lv_at hl 3 rfl) ?_
        refine lv_iload_n hx hb dX2_reachedFrom_42 rfl (lv_at hl 2 rfl) ?_
        refine lv_iconst (v := (-1)) hx hb dX2_reachedFrom_43 (by decide) ?_
        refine lv_ixor hx hb dX2_reachedFrom_44 ?_
        refine lv_iand hx hb dX2_reachedFrom_45 ?_
        refine lv_iload hx hb dX2_reachedFrom_46 (lv_at hl 6 rfl) ?_
        refine callR (runSN hx hb hg hown hml hl.1 hN (c_X3_holds l D k (x1 &&& (st ^^^ (-1))) (q := i) (by omega)) [.int (x1 &&& (st ^^^ (-1))), .int (nI i)] [] (preR (mapSome_sub hP [] rfl) hK hN xb0 x0) 323 nst_323 wd_324 wd_49 wd_325 lk_X3_holds ⟨rfl, rfl⟩ ⟨by decide, by decide⟩ ⟨Nat.zero_le _, Nat.zero_le _⟩ rfl (Nat.le_of_ble_eq_true rfl) dX2_reachedFrom_48) (fun r_48 q_48 => ?_)
        obtain rfl := q_48
        refine lv_if_eq (tgt := 64) hx hb dX2_reachedFrom_51 (by decide) (fun c_51 => ?_) (fun c_51 => ?_)
        · have c_51 := zI_0.mp c_51
          refine lv_iinc (v := nI (i + 1)) (lv' := [(6, .int (nI (i + 1))), (0, .ref (ad 0)), (1, .int (nI u)), (2, .int st), (3, .int x1), (4, .int x), (5, .int (nI t))]) hx hb dX2_reachedFrom_64 hl (k := 6) rfl (nI_succ i).symm (by decide) rfl (fun ls hl => ?_)
          refine lv_goto (tgt := 32) hx hb dX2_reachedFrom_67 (by decide) ?_
          exact ih (x1, i + 1) _ ⟨(lv_sub hl [1, 2, 3, 4, 5, 6, 0] rfl), (hI.no (fun hi z hz => by rw [b_and, b_not (by omega), hi, hz.2.1] at c_51; cases c_51)), (by omega), h25⟩ (by dsimp only; omega)
        · have c_51 := zI_ne c_51
          refine lv_iload_n hx hb dX2_reachedFrom_54 rfl (lv_at hl 3 rfl) ?_
          refine lv_aload_n hx hb dX2_reachedFrom_55 rfl (lv_at hl 0 rfl) ?_
          refine gfl hx hb hg inX2 hown hK hP 0 (ci := 2) rfl rfl 1 (by decide) wd_120 rfl dX2_reachedFrom_56 ?_
          refine lv_iload hx hb dX2_reachedFrom_59 (lv_at hl 6 rfl) ?_
          refine ldn hx hb hK hP 1 0 rfl rfl (by omega) (by decide) dX2_reachedFrom_61 ?_
          refine lv_ior hx hb dX2_reachedFrom_62 ?_
          refine lv_istore_n (lv' := [(3, .int (x1 ||| ((V 1) i))), (0, .ref (ad 0)), (1, .int (nI u)), (2, .int st), (4, .int x), (5, .int (nI t)), (6, .int (nI i))]) hx hb dX2_reachedFrom_63 rfl hl (by decide) rfl (fun ls hl => ?_)
          refine lv_iinc (v := nI (i + 1)) (lv' := [(6, .int (nI (i + 1))), (3, .int (x1 ||| ((V 1) i))), (0, .ref (ad 0)), (1, .int (nI u)), (2, .int st), (4, .int x), (5, .int (nI t))]) hx hb dX2_reachedFrom_64 hl (k := 6) rfl (nI_succ i).symm (by decide) rfl (fun ls hl => ?_)
          refine lv_goto (tgt := 32) hx hb dX2_reachedFrom_67 (by decide) ?_
          exact ih (x1 ||| V 1 i, i + 1) _ ⟨(lv_sub hl [2, 3, 4, 1, 5, 6, 0] rfl), (hI.yes (by rw [b_and, Bool.and_eq_true] at c_51; exact c_51.1) (fun z => ⟨fun h => ⟨by omega, by rw [b_and, Bool.and_eq_true, b_not (by omega)] at c_51; simpa using c_51.2, h⟩, fun h => h.2.2⟩)), (by omega), (fun j hj => by rw [b_or, Bool.or_eq_true] at hj; exact hj.elim (h25 j) (hV i (by omega) j))⟩ (by dsimp only; omega)
abbrev rmX2_withAllBehind : Room := { frames := 1, cells := 0, slots := 0, locals := 21 }
theorem lk_X2_withAllBehind : Lk yX2_withAllBehind 2 := by decide +kernel
set_option maxHeartbeats 4000000 in
set_option maxRecDepth 100000 in
/-- withAllBehind(1 << u, behind) -/
theorem c_X2_withAllBehind (l : Launch) (D : va_G) (k : Nat → ClassId) (ad : Nat → Nat) (V : St) {n : Nat} (hn : V 0 0 = nI n) (hn24 : n ≤ 24) (hV : ∀ p, p < n → ∀ j, bt (V 5 p) j = true → j < 24) {u : Nat} (hu : u < n) : CtR noX l yX2_withAllBehind cX2_withAllBehind 7 (some .int) rmX2_withAllBehind D (tyL k) (wR k ad V) [.ref (ad 0), .int (bitI u), .ref (ad 5)] (fun r => ∀ j, bt r j = true ↔ Cl (fun j => j = u) (fun y z => y < n ∧ bt (V 5 y) z = true) j) := by
  refine CtR.mk (by decide) (Nat.le_of_ble_eq_true rfl) ?_
  intro p e s m below meth c hx hb hml hown hg hr hlocks hK hN hX H hH hP ls hl
  have hl : lv_has ls 7 [(0, .ref (ad 0)), (1, .int (bitI u)), (2, .ref (ad 5))] := hl
  refine lv_iload_n hx hb dX2_withAllBehind_0 rfl (lv_at hl 1 rfl) ?_
  refine lv_istore_n (lv' := [(3, .int (bitI u)), (0, .ref (ad 0)), (1, .int (bitI u)), (2, .ref (ad 5))]) hx hb dX2_withAllBehind_1 rfl hl (by decide) rfl (fun ls hl => ?_)
  refine lv_iconst (v := 0) hx hb dX2_withAllBehind_2 (by decide) ?_
  refine lv_istore (lv' := [(4, .int 0), (3, .int (bitI u)), (0, .ref (ad 0)), (1, .int (bitI u)), (2, .ref (ad 5))]) hx hb dX2_withAllBehind_3 hl (by decide) rfl (fun ls hl => ?_)
  refine lv_iconst (v := 0) hx hb dX2_withAllBehind_5 (by decide) ?_
  refine lv_istore (lv' := [(5, .int 0), (4, .int 0), (3, .int (bitI u)), (0, .ref (ad 0)), (1, .int (bitI u)), (2, .ref (ad 5))]) hx hb dX2_withAllBehind_6 hl (by decide) rfl (fun ls hl => ?_)
  refine loopR (σ := Int32 × Int32 × Nat) (fun zz9 ls => match zz9 with | (x, b, t) => lv_has ls 7 [(0, .ref (ad 0)), (1, .int (bitI u)), (2, .ref (ad 5)), (3, .int x), (4, .int b), (5, .int (nI t))] ∧ (Sat (fun j => j = u) (fun y z => y < n ∧ bt (V 5 y) z = true) x b) ∧ (∀ j, bt x j = true → j < 25) ∧ (∀ j, (fun j => j = u) j → bt x j = true) ∧ (t ≤ 25) ∧ (x = b ∨ t + 1 ≤ cnt x)) (fun zz9 => match zz9 with | (x, b, t) => 25 - t) ?_ (bitI u, 0, 0) ⟨(lv_sub hl [3, 4, 5, 2, 1, 0] rfl), ⟨fun j hj => Cl.base (by rw [b_bit (by omega)] at hj; exact of_decide_eq_true hj), fun e => ⟨fun j hj => by subst hj; rw [b_bit (by omega)]; simp, fun y z hy _ => by rw [e, b_0] at hy; cases hy⟩⟩, (fun j hj => by rw [b_bit (by omega)] at hj; have := of_decide_eq_true hj; omega), (fun j hj => by subst hj; rw [b_bit (by omega)]; simp), (by omega), (by rcases Classical.em (bitI u = 0) with e | e; exact Or.inl e; exact Or.inr (by have := cnt_pos e; omega))⟩
  intro zz9 ls hI ih
  obtain ⟨x, b, t⟩ := zz9
  obtain ⟨hl, hs, h25, hX, ht, hc⟩ := hI
  have iho := ih; clear ih
  refine lv_iload_n hx hb dX2_withAllBehind_8 rfl (lv_at hl 3 rfl) ?_
  refine lv_iload hx hb dX2_withAllBehind_9 (lv_at hl 4 rfl) ?_
  refine lv_icmp_eq (tgt := 64) hx hb dX2_withAllBehind_11 (by decide) (fun c_11 => ?_) (fun c_11 => ?_)
  · refine lv_iload_n hx hb dX2_withAllBehind_64 rfl (lv_at hl 3 rfl) ?_
    exact retRI (v := x) hx hb hr hlocks hH dX2_withAllBehind_65 (fun j => hs.done (by first | exact c_11 | (rcases hc with e | e; exact e; have := cnt_25 h25; omega)) j)
  · refine lv_iload hx hb dX2_withAllBehind_14 (lv_at hl 5 rfl) ?_
    refine lv_bipush (v := 24) hx hb dX2_withAllBehind_16 (by decide) ?_
    refine lv_icmp_gt (tgt := 64) hx hb dX2_withAllBehind_18 (by decide) (fun c_18 => ?_) (fun c_18 => ?_)
    · have c_18 : 24 < t := (nI_ltI (a := 24) (b := t) (by omega) (by omega)).mp c_18
      refine lv_iload_n hx hb dX2_withAllBehind_64 rfl (lv_at hl 3 rfl) ?_
      exact retRI (v := x) hx hb hr hlocks hH dX2_withAllBehind_65 (fun j => hs.done (by first | exact c_11 | (rcases hc with e | e; exact e; have := cnt_25 h25; omega)) j)
    · have c_18 : ¬ 24 < t := fun z => c_18 ((nI_ltI (a := 24) (b := t) (by omega) (by omega)).mpr z)
      refine lv_iload_n hx hb dX2_withAllBehind_21 rfl (lv_at hl 3 rfl) ?_
      refine lv_istore (lv' := [(4, .int x), (0, .ref (ad 0)), (1, .int (bitI u)), (2, .ref (ad 5)), (3, .int x), (5, .int (nI t))]) hx hb dX2_withAllBehind_22 hl (by decide) rfl (fun ls hl => ?_)
      refine lv_iconst (v := 0) hx hb dX2_withAllBehind_24 (by decide) ?_
      refine lv_istore (lv' := [(6, .int 0), (4, .int x), (0, .ref (ad 0)), (1, .int (bitI u)), (2, .ref (ad 5)), (3, .int x), (5, .int (nI t))]) hx hb dX2_withAllBehind_25 hl (by decide) rfl (fun ls hl => ?_)
      refine loopR (σ := Int32 × Nat) (fun zz9 ls => match zz9 with | (x1, i) => lv_has ls 7 [(0, .ref (ad 0)), (1, .int (bitI u)), (2, .ref (ad 5)), (3, .int x1), (4, .int x), (5, .int (nI t)), (6, .int (nI i))] ∧ (Inn (fun j => j = u) (fun y z => y < n ∧ bt (V 5 y) z = true) x x1 i) ∧ (i ≤ n) ∧ (∀ j, bt x1 j = true → j < 25)) (fun zz9 => match zz9 with | (x1, i) => n - i) ?_ (x, 0) ⟨(lv_sub hl [2, 3, 4, 5, 1, 6, 0] rfl), (Inn.start hs.1), (by omega), h25⟩
      intro zz9 ls hI ih
      obtain ⟨x1, i⟩ := zz9
      obtain ⟨hl, hI, hi, h25⟩ := hI
      refine lv_iload hx hb dX2_withAllBehind_27 (lv_at hl 6 rfl) ?_
      refine lv_aload_n hx hb dX2_withAllBehind_29 rfl (lv_at hl 0 rfl) ?_
      refine gfl hx hb hg inX2 hown hK hP 0 (ci := 2) rfl rfl 0 (by decide) wd_119 rfl dX2_withAllBehind_30 ?_
      refine topv (nI n) hn ?_
      refine lv_icmp_ge (tgt := 58) hx hb dX2_withAllBehind_33 (by decide) (fun c_33 => ?_) (fun c_33 => ?_)
      · have c_33 : n ≤ i := (nI_leI (a := n) (b := i) (by omega) (by omega)).mp c_33
        refine lv_iinc (v := nI (t + 1)) (lv' := [(5, .int (nI (t + 1))), (0, .ref (ad 0)), (1, .int (bitI u)), (2, .ref (ad 5)), (3, .int x1), (4, .int x), (6, .int (nI i))]) hx hb dX2_withAllBehind_58 hl (k := 5) rfl (nI_succ t).symm (by decide) rfl (fun ls hl => ?_)
        refine lv_goto (tgt := 8) hx hb dX2_withAllBehind_61 (by decide) ?_
        have hcx : t + 1 ≤ cnt x := hc.resolve_left c_11
        obtain rfl : i = n := by omega
        exact iho (x1, x, t + 1) _ ⟨(lv_sub hl [1, 2, 3, 4, 5, 0] rfl), (hI.sat hX (fun y z h => h.1)), h25, (fun j hj => hI.2.1 j (hX j hj)), (by omega), (by rcases Classical.em (x1 = x) with e | e; exact Or.inl e; exact Or.inr (by have := cnt_lt hI.2.1 e; omega))⟩ (by dsimp only; omega)
      · have c_33 : ¬ n ≤ i := fun z => c_33 ((nI_leI (a := n) (b := i) (by omega) (by omega)).mpr z)
        refine lv_iload_n hx hb dX2_withAllBehind_36 rfl (lv_at hl 3 rfl) ?_
        refine lv_iload hx hb dX2_withAllBehind_37 (lv_at hl 6 rfl) ?_
        refine callR (runSN hx hb hg hown hml hl.1 hN (c_X3_holds l D k (x1) (q := i) (by omega)) [.int x1, .int (nI i)] [] (preR (mapSome_sub hP [] rfl) hK hN xb0 x0) 323 nst_323 wd_324 wd_49 wd_325 lk_X3_holds ⟨rfl, rfl⟩ ⟨by decide, by decide⟩ ⟨Nat.zero_le _, Nat.zero_le _⟩ rfl (Nat.le_of_ble_eq_true rfl) dX2_withAllBehind_39) (fun r_39 q_39 => ?_)
        obtain rfl := q_39
        refine lv_if_eq (tgt := 52) hx hb dX2_withAllBehind_42 (by decide) (fun c_42 => ?_) (fun c_42 => ?_)
        · have c_42 := zI_0.mp c_42
          refine lv_iinc (v := nI (i + 1)) (lv' := [(6, .int (nI (i + 1))), (0, .ref (ad 0)), (1, .int (bitI u)), (2, .ref (ad 5)), (3, .int x1), (4, .int x), (5, .int (nI t))]) hx hb dX2_withAllBehind_52 hl (k := 6) rfl (nI_succ i).symm (by decide) rfl (fun ls hl => ?_)
          refine lv_goto (tgt := 27) hx hb dX2_withAllBehind_55 (by decide) ?_
          exact ih (x1, i + 1) _ ⟨(lv_sub hl [1, 2, 3, 4, 5, 6, 0] rfl), (hI.no (fun hi z hz => by rw [hi] at c_42; cases c_42)), (by omega), h25⟩ (by dsimp only; omega)
        · have c_42 := zI_ne c_42
          refine lv_iload_n hx hb dX2_withAllBehind_45 rfl (lv_at hl 3 rfl) ?_
          refine lv_aload_n hx hb dX2_withAllBehind_46 rfl (lv_at hl 2 rfl) ?_
          refine lv_iload hx hb dX2_withAllBehind_47 (lv_at hl 6 rfl) ?_
          refine ldn hx hb hK hP 5 0 rfl rfl (by omega) (by decide) dX2_withAllBehind_49 ?_
          refine lv_ior hx hb dX2_withAllBehind_50 ?_
          refine lv_istore_n (lv' := [(3, .int (x1 ||| ((V 5) i))), (0, .ref (ad 0)), (1, .int (bitI u)), (2, .ref (ad 5)), (4, .int x), (5, .int (nI t)), (6, .int (nI i))]) hx hb dX2_withAllBehind_51 rfl hl (by decide) rfl (fun ls hl => ?_)
          refine lv_iinc (v := nI (i + 1)) (lv' := [(6, .int (nI (i + 1))), (3, .int (x1 ||| ((V 5) i))), (0, .ref (ad 0)), (1, .int (bitI u)), (2, .ref (ad 5)), (4, .int x), (5, .int (nI t))]) hx hb dX2_withAllBehind_52 hl (k := 6) rfl (nI_succ i).symm (by decide) rfl (fun ls hl => ?_)
          refine lv_goto (tgt := 27) hx hb dX2_withAllBehind_55 (by decide) ?_
          exact ih (x1 ||| V 5 i, i + 1) _ ⟨(lv_sub hl [2, 3, 4, 1, 5, 6, 0] rfl), (hI.yes c_42 (fun z => ⟨fun h => ⟨by omega, h⟩, fun h => h.2⟩)), (by omega), (fun j hj => by rw [b_or, Bool.or_eq_true] at hj; exact hj.elim (h25 j) (fun z => Nat.lt_succ_of_lt (hV i (by omega) j z)))⟩ (by dsimp only; omega)
set_option maxHeartbeats 4000000 in
set_option maxRecDepth 100000 in
/-- withAllBehind(1 << u, behind) -/
theorem c_X2_withAllBehind_6 (l : Launch) (D : va_G) (k : Nat → ClassId) (ad : Nat → Nat) (V : St) {n : Nat} (hn : V 0 0 = nI n) (hn24 : n ≤ 24) (hV : ∀ p, p < n → ∀ j, bt (V 6 p) j = true → j < 24) {u : Nat} (hu : u < n) : CtR noX l yX2_withAllBehind cX2_withAllBehind 7 (some .int) rmX2_withAllBehind D (tyL k) (wR k ad V) [.ref (ad 0), .int (bitI u), .ref (ad 6)] (fun r => ∀ j, bt r j = true ↔ Cl (fun j => j = u) (fun y z => y < n ∧ bt (V 6 y) z = true) j) := by
  refine CtR.mk (by decide) (Nat.le_of_ble_eq_true rfl) ?_
  intro p e s m below meth c hx hb hml hown hg hr hlocks hK hN hX H hH hP ls hl
  have hl : lv_has ls 7 [(0, .ref (ad 0)), (1, .int (bitI u)), (2, .ref (ad 6))] := hl
  refine lv_iload_n hx hb dX2_withAllBehind_0 rfl (lv_at hl 1 rfl) ?_
  refine lv_istore_n (lv' := [(3, .int (bitI u)), (0, .ref (ad 0)), (1, .int (bitI u)), (2, .ref (ad 6))]) hx hb dX2_withAllBehind_1 rfl hl (by decide) rfl (fun ls hl => ?_)
  refine lv_iconst (v := 0) hx hb dX2_withAllBehind_2 (by decide) ?_
  refine lv_istore (lv' := [(4, .int 0), (3, .int (bitI u)), (0, .ref (ad 0)), (1, .int (bitI u)), (2, .ref (ad 6))]) hx hb dX2_withAllBehind_3 hl (by decide) rfl (fun ls hl => ?_)
  refine lv_iconst (v := 0) hx hb dX2_withAllBehind_5 (by decide) ?_
  refine lv_istore (lv' := [(5, .int 0), (4, .int 0), (3, .int (bitI u)), (0, .ref (ad 0)), (1, .int (bitI u)), (2, .ref (ad 6))]) hx hb dX2_withAllBehind_6 hl (by decide) rfl (fun ls hl => ?_)
  refine loopR (σ := Int32 × Int32 × Nat) (fun zz9 ls => match zz9 with | (x, b, t) => lv_has ls 7 [(0, .ref (ad 0)), (1, .int (bitI u)), (2, .ref (ad 6)), (3, .int x), (4, .int b), (5, .int (nI t))] ∧ (Sat (fun j => j = u) (fun y z => y < n ∧ bt (V 6 y) z = true) x b) ∧ (∀ j, bt x j = true → j < 25) ∧ (∀ j, (fun j => j = u) j → bt x j = true) ∧ (t ≤ 25) ∧ (x = b ∨ t + 1 ≤ cnt x)) (fun zz9 => match zz9 with | (x, b, t) => 25 - t) ?_ (bitI u, 0, 0) ⟨(lv_sub hl [3, 4, 5, 2, 1, 0] rfl), ⟨fun j hj => Cl.base (by rw [b_bit (by omega)] at hj; exact of_decide_eq_true hj), fun e => ⟨fun j hj => by subst hj; rw [b_bit (by omega)]; simp, fun y z hy _ => by rw [e, b_0] at hy; cases hy⟩⟩, (fun j hj => by rw [b_bit (by omega)] at hj; have := of_decide_eq_true hj; omega), (fun j hj => by subst hj; rw [b_bit (by omega)]; simp), (by omega), (by rcases Classical.em (bitI u = 0) with e | e; exact Or.inl e; exact Or.inr (by have := cnt_pos e; omega))⟩
  intro zz9 ls hI ih
  obtain ⟨x, b, t⟩ := zz9
  obtain ⟨hl, hs, h25, hX, ht, hc⟩ := hI
  have iho := ih; clear ih
  refine lv_iload_n hx hb dX2_withAllBehind_8 rfl (lv_at hl 3 rfl) ?_
  refine lv_iload hx hb dX2_withAllBehind_9 (lv_at hl 4 rfl) ?_
  refine lv_icmp_eq (tgt := 64) hx hb dX2_withAllBehind_11 (by decide) (fun c_11 => ?_) (fun c_11 => ?_)
  · refine lv_iload_n hx hb dX2_withAllBehind_64 rfl (lv_at hl 3 rfl) ?_
    exact retRI (v := x) hx hb hr hlocks hH dX2_withAllBehind_65 (fun j => hs.done (by first | exact c_11 | (rcases hc with e | e; exact e; have := cnt_25 h25; omega)) j)
  · refine lv_iload hx hb dX2_withAllBehind_14 (lv_at hl 5 rfl) ?_
    refine lv_bipush (v := 24) hx hb dX2_withAllBehind_16 (by decide) ?_
    refine lv_icmp_gt (tgt := 64) hx hb dX2_withAllBehind_18 (by decide) (fun c_18 => ?_) (fun c_18 => ?_)
    · have c_18 : 24 < t := (nI_ltI (a := 24) (b := t) (by omega) (by omega)).mp c_18
      refine lv_iload_n hx hb dX2_withAllBehind_64 rfl (lv_at hl 3 rfl) ?_
      exact retRI (v := x) hx hb hr hlocks hH dX2_withAllBehind_65 (fun j => hs.done (by first | exact c_11 | (rcases hc with e | e; exact e; have := cnt_25 h25; omega)) j)
    · have c_18 : ¬ 24 < t := fun z => c_18 ((nI_ltI (a := 24) (b := t) (by omega) (by omega)).mpr z)
      refine lv_iload_n hx hb dX2_withAllBehind_21 rfl (lv_at hl 3 rfl) ?_
      refine lv_istore (lv' := [(4, .int x), (0, .ref (ad 0)), (1, .int (bitI u)), (2, .ref (ad 6)), (3, .int x), (5, .int (nI t))]) hx hb dX2_withAllBehind_22 hl (by decide) rfl (fun ls hl => ?_)
      refine lv_iconst (v := 0) hx hb dX2_withAllBehind_24 (by decide) ?_
      refine lv_istore (lv' := [(6, .int 0), (4, .int x), (0, .ref (ad 0)), (1, .int (bitI u)), (2, .ref (ad 6)), (3, .int x), (5, .int (nI t))]) hx hb dX2_withAllBehind_25 hl (by decide) rfl (fun ls hl => ?_)
      refine loopR (σ := Int32 × Nat) (fun zz9 ls => match zz9 with | (x1, i) => lv_has ls 7 [(0, .ref (ad 0)), (1, .int (bitI u)), (2, .ref (ad 6)), (3, .int x1), (4, .int x), (5, .int (nI t)), (6, .int (nI i))] ∧ (Inn (fun j => j = u) (fun y z => y < n ∧ bt (V 6 y) z = true) x x1 i) ∧ (i ≤ n) ∧ (∀ j, bt x1 j = true → j < 25)) (fun zz9 => match zz9 with | (x1, i) => n - i) ?_ (x, 0) ⟨(lv_sub hl [2, 3, 4, 5, 1, 6, 0] rfl), (Inn.start hs.1), (by omega), h25⟩
      intro zz9 ls hI ih
      obtain ⟨x1, i⟩ := zz9
      obtain ⟨hl, hI, hi, h25⟩ := hI
      refine lv_iload hx hb dX2_withAllBehind_27 (lv_at hl 6 rfl) ?_
      refine lv_aload_n hx hb dX2_withAllBehind_29 rfl (lv_at hl 0 rfl) ?_
      refine gfl hx hb hg inX2 hown hK hP 0 (ci := 2) rfl rfl 0 (by decide) wd_119 rfl dX2_withAllBehind_30 ?_
      refine topv (nI n) hn ?_
      refine lv_icmp_ge (tgt := 58) hx hb dX2_withAllBehind_33 (by decide) (fun c_33 => ?_) (fun c_33 => ?_)
      · have c_33 : n ≤ i := (nI_leI (a := n) (b := i) (by omega) (by omega)).mp c_33
        refine lv_iinc (v := nI (t + 1)) (lv' := [(5, .int (nI (t + 1))), (0, .ref (ad 0)), (1, .int (bitI u)), (2, .ref (ad 6)), (3, .int x1), (4, .int x), (6, .int (nI i))]) hx hb dX2_withAllBehind_58 hl (k := 5) rfl (nI_succ t).symm (by decide) rfl (fun ls hl => ?_)
        refine lv_goto (tgt := 8) hx hb dX2_withAllBehind_61 (by decide) ?_
        have hcx : t + 1 ≤ cnt x := hc.resolve_left c_11
        obtain rfl : i = n := by omega
        exact iho (x1, x, t + 1) _ ⟨(lv_sub hl [1, 2, 3, 4, 5, 0] rfl), (hI.sat hX (fun y z h => h.1)), h25, (fun j hj => hI.2.1 j (hX j hj)), (by omega), (by rcases Classical.em (x1 = x) with e | e; exact Or.inl e; exact Or.inr (by have := cnt_lt hI.2.1 e; omega))⟩ (by dsimp only; omega)
      · have c_33 : ¬ n ≤ i := fun z => c_33 ((nI_leI (a := n) (b := i) (by omega) (by omega)).mpr z)
        refine lv_iload_n hx hb dX2_withAllBehind_36 rfl (lv_at hl 3 rfl) ?_
        refine lv_iload hx hb dX2_withAllBehind_37 (lv_at hl 6 rfl) ?_
        refine callR (runSN hx hb hg hown hml hl.1 hN (c_X3_holds l D k (x1) (q := i) (by omega)) [.int x1, .int (nI i)] [] (preR (mapSome_sub hP [] rfl) hK hN xb0 x0) 323 nst_323 wd_324 wd_49 wd_325 lk_X3_holds ⟨rfl, rfl⟩ ⟨by decide, by decide⟩ ⟨Nat.zero_le _, Nat.zero_le _⟩ rfl (Nat.le_of_ble_eq_true rfl) dX2_withAllBehind_39) (fun r_39 q_39 => ?_)
        obtain rfl := q_39
        refine lv_if_eq (tgt := 52) hx hb dX2_withAllBehind_42 (by decide) (fun c_42 => ?_) (fun c_42 => ?_)
        · have c_42 := zI_0.mp c_42
          refine lv_iinc (v := nI (i + 1)) (lv' := [(6, .int (nI (i + 1))), (0, .ref (ad 0)), (1, .int (bitI u)), (2, .ref (ad 6)), (3, .int x1), (4, .int x), (5, .int (nI t))]) hx hb dX2_withAllBehind_52 hl (k := 6) rfl (nI_succ i).symm (by decide) rfl (fun ls hl => ?_)
          refine lv_goto (tgt := 27) hx hb dX2_withAllBehind_55 (by decide) ?_
          exact ih (x1, i + 1) _ ⟨(lv_sub hl [1, 2, 3, 4, 5, 6, 0] rfl), (hI.no (fun hi z hz => by rw [hi] at c_42; cases c_42)), (by omega), h25⟩ (by dsimp only; omega)
        · have c_42 := zI_ne c_42
          refine lv_iload_n hx hb dX2_withAllBehind_45 rfl (lv_at hl 3 rfl) ?_
          refine lv_aload_n hx hb dX2_withAllBehind_46 rfl (lv_at hl 2 rfl) ?_
          refine lv_iload hx hb dX2_withAllBehind_47 (lv_at hl 6 rfl) ?_
          refine ldn hx hb hK hP 6 0 rfl rfl (by omega) (by decide) dX2_withAllBehind_49 ?_
          refine lv_ior hx hb dX2_withAllBehind_50 ?_
          refine lv_istore_n (lv' := [(3, .int (x1 ||| ((V 6) i))), (0, .ref (ad 0)), (1, .int (bitI u)), (2, .ref (ad 6)), (4, .int x), (5, .int (nI t)), (6, .int (nI i))]) hx hb dX2_withAllBehind_51 rfl hl (by decide) rfl (fun ls hl => ?_)
          refine lv_iinc (v := nI (i + 1)) (lv' := [(6, .int (nI (i + 1))), (3, .int (x1 ||| ((V 6) i))), (0, .ref (ad 0)), (1, .int (bitI u)), (2, .ref (ad 6)), (4, .int x), (5, .int (nI t))]) hx hb dX2_withAllBehind_52 hl (k := 6) rfl (nI_succ i).symm (by decide) rfl (fun ls hl => ?_)
          refine lv_goto (tgt := 27) hx hb dX2_withAllBehind_55 (by decide) ?_
          exact ih (x1 ||| V 6 i, i + 1) _ ⟨(lv_sub hl [2, 3, 4, 1, 5, 6, 0] rfl), (hI.yes c_42 (fun z => ⟨fun h => ⟨by omega, h⟩, fun h => h.2⟩)), (by omega), (fun j hj => by rw [b_or, Bool.or_eq_true] at hj; exact hj.elim (h25 j) (fun z => Nat.lt_succ_of_lt (hV i (by omega) j z)))⟩ (by dsimp only; omega)
abbrev rmX2_settersOf : Room := { frames := 2, cells := 0, slots := 0, locals := 41 }
theorem lk_X2_settersOf : Lk yX2_settersOf 2 := by decide +kernel
set_option maxHeartbeats 4000000 in
set_option maxRecDepth 100000 in
/-- settersOf(program, what) -/
theorem c_X2_settersOf (l : Launch) (D : va_G) (k : Nat → ClassId) (ad : Nat → Nat) (V : St) {n : Nat} (hn : V 0 0 = nI n) (hn24 : n ≤ 24) (bd : Nat → Nat) (Pv : St) (hv : okV n Pv) (x : Int32) : CtR noX l yX2_settersOf cX2_settersOf 5 (some .int) rmX2_settersOf D (tyL k) ((wR k ad V) ++ (wP k bd Pv)) [.ref (ad 0), .ref (bd 0), .int x] (fun r => r = mkM n (fun p => decide (setI Pv p = x))) := by
  refine CtR.mk (by decide) (Nat.le_of_ble_eq_true rfl) ?_
  intro p e s m below meth c hx hb hml hown hg hr hlocks hK hN hX H hH hP ls hl
  have hl : lv_has ls 5 [(0, .ref (ad 0)), (1, .ref (bd 0)), (2, .int x)] := hl
  refine lv_iconst (v := 0) hx hb dX2_settersOf_0 (by decide) ?_
  refine lv_istore_n (lv' := [(3, .int 0), (0, .ref (ad 0)), (1, .ref (bd 0)), (2, .int x)]) hx hb dX2_settersOf_1 rfl hl (by decide) rfl (fun ls hl => ?_)
  refine lv_iconst (v := 0) hx hb dX2_settersOf_2 (by decide) ?_
  refine lv_istore (lv' := [(4, .int 0), (3, .int 0), (0, .ref (ad 0)), (1, .ref (bd 0)), (2, .int x)]) hx hb dX2_settersOf_3 hl (by decide) rfl (fun ls hl => ?_)
  refine loopR (σ := Nat) (fun i ls => lv_has ls 5 [(0, .ref (ad 0)), (1, .ref (bd 0)), (2, .int x), (3, .int (mkM i (fun p => decide (setI Pv p = x)))), (4, .int (nI i))] ∧ (i ≤ n)) (fun i => n - i) ?_ (0) ⟨(lv_sub hl [2, 3, 4, 1, 0] rfl), (by omega)⟩
  intro zz9 ls hI ih
  obtain ⟨i, rfl⟩ : ∃ z, z = zz9 := ⟨_, rfl⟩
  obtain ⟨hl, hi⟩ := hI
  refine lv_iload hx hb dX2_settersOf_5 (lv_at hl 4 rfl) ?_
  refine lv_aload_n hx hb dX2_settersOf_7 rfl (lv_at hl 0 rfl) ?_
  refine gfl hx hb hg inX2 hown hK hP 0 (ci := 2) rfl rfl 0 (by decide) wd_119 rfl dX2_settersOf_8 ?_
  refine topv (nI n) hn ?_
  refine lv_icmp_ge (tgt := 37) hx hb dX2_settersOf_11 (by decide) (fun c_11 => ?_) (fun c_11 => ?_)
  · have c_11 : n ≤ i := (nI_leI (a := n) (b := i) (by omega) (by omega)).mp c_11
    refine lv_iload_n hx hb dX2_settersOf_37 rfl (lv_at hl 3 rfl) ?_
    exact retRI (v := mkM i (fun p => decide (setI Pv p = x))) hx hb hr hlocks hH dX2_settersOf_38 (by rw [show i = n by omega])
  · have c_11 : ¬ n ≤ i := fun z => c_11 ((nI_leI (a := n) (b := i) (by omega) (by omega)).mpr z)
    refine lv_aload_n hx hb dX2_settersOf_14 rfl (lv_at hl 1 rfl) ?_
    refine lv_iload hx hb dX2_settersOf_15 (lv_at hl 4 rfl) ?_
    refine callR (runV hx hb hg hown hml hl.1 (c_X1_setBy l D k bd Pv hv (q := i) (by omega)) [.int (nI i)] [] (preR (mapSome_sub hP [15, 16, 17, 18, 19, 20, 21, 22] rfl) hK hN xb0 x0) (va_recv hK hP (ci := 1) (q0 := 15) rfl rfl) wd_330 wd_331 wd_332 wd_50 wd_333 lk_X1_setBy ⟨rfl, rfl⟩ ⟨by decide, by decide⟩ ⟨Nat.zero_le _, Nat.zero_le _⟩ rfl (Nat.le_of_ble_eq_true rfl) dX2_settersOf_17) (fun r_17 q_17 => ?_)
    obtain rfl := q_17
    refine lv_iload_n hx hb dX2_settersOf_20 rfl (lv_at hl 2 rfl) ?_
    refine lv_icmp_ne (tgt := 31) hx hb dX2_settersOf_21 (by decide) (fun c_21 => ?_) (fun c_21 => ?_)
    · have c_21 : decide (setI Pv i = x) = false := decide_eq_false c_21
      refine lv_iinc (v := nI (i + 1)) (lv' := [(4, .int (nI (i + 1))), (0, .ref (ad 0)), (1, .ref (bd 0)), (2, .int x), (3, .int (mkM i (fun p => decide (setI Pv p = x))))]) hx hb dX2_settersOf_31 hl (k := 4) rfl (nI_succ i).symm (by decide) rfl (fun ls hl => ?_)
      refine lv_goto (tgt := 5) hx hb dX2_settersOf_34 (by decide) ?_
      rw [mkM_f (f := (fun p => decide (setI Pv p = x))) c_21] at hl
      exact ih (i + 1) _ ⟨(lv_sub hl [1, 2, 3, 4, 0] rfl), (by omega)⟩ (by omega)
    · have c_21 : decide (setI Pv i = x) = true := decide_eq_true c_21
      refine lv_iload_n hx hb dX2_settersOf_24 rfl (lv_at hl 3 rfl) ?_
      refine lv_iconst (v := 1) hx hb dX2_settersOf_25 (by decide) ?_
      refine lv_iload hx hb dX2_settersOf_26 (lv_at hl 4 rfl) ?_
      refine lv_ishl hx hb dX2_settersOf_28 ?_
      refine topv (bitI i) rfl ?_
      refine lv_ior hx hb dX2_settersOf_29 ?_
      refine lv_istore_n (lv' := [(3, .int ((mkM i (fun p => decide (setI Pv p = x))) ||| (bitI i))), (0, .ref (ad 0)), (1, .ref (bd 0)), (2, .int x), (4, .int (nI i))]) hx hb dX2_settersOf_30 rfl hl (by decide) rfl (fun ls hl => ?_)
      refine lv_iinc (v := nI (i + 1)) (lv' := [(4, .int (nI (i + 1))), (3, .int ((mkM i (fun p => decide (setI Pv p = x))) ||| (bitI i))), (0, .ref (ad 0)), (1, .ref (bd 0)), (2, .int x)]) hx hb dX2_settersOf_31 hl (k := 4) rfl (nI_succ i).symm (by decide) rfl (fun ls hl => ?_)
      refine lv_goto (tgt := 5) hx hb dX2_settersOf_34 (by decide) ?_
      rw [mkM_t (f := (fun p => decide (setI Pv p = x))) c_21] at hl
      exact ih (i + 1) _ ⟨(lv_sub hl [2, 3, 4, 1, 0] rfl), (by omega)⟩ (by omega)
end
section
/-! Frames of states; rows of masks filled bit by bit; the k-th of a sequence -/
def Fr (cs : List Nat) (V U : St) : Prop := ∀ c, c ∉ cs → U c = V c
theorem Fr.rf {cs : List Nat} {V : St} : Fr cs V V := fun _ _ => rfl
theorem Fr.up {cs : List Nat} {V U : St} {j : Nat} {f : Nat → Int32} (h : Fr cs V U) (hj : j ∈ cs) : Fr cs V (va_up U j f) := fun c hc => by
  have hne : ¬ c = j := fun e => hc (e ▸ hj)
  show (if c = j then f else U c) = V c
  rw [if_neg hne]; exact h c hc
theorem Fr.trans {cs : List Nat} {V U X : St} (h : Fr cs V U) (h2 : Fr cs U X) : Fr cs V X := fun c hc => (h2 c hc).trans (h c hc)
theorem Fr.mono {cs ds : List Nat} {V U : St} (h : Fr cs V U) (hs : ∀ c, c ∈ cs → c ∈ ds) : Fr ds V U := fun c hc => h c (fun z => hc (hs c z))
theorem Fr.at {cs : List Nat} {V U : St} (h : Fr cs V U) (c : Nat) (hc : c ∉ cs) (j : Nat) : U c j = V c j := by rw [h c hc]
theorem up_s {V : St} {j : Nat} {f : Nat → Int32} : va_up V j f j = f := if_pos rfl
theorem up_n {V : St} {j c : Nat} {f : Nat → Int32} (h : ¬ c = j) : va_up V j f c = V c := if_neg h
theorem upd_s {f : Nat → Int32} {j : Nat} {x : Int32} : upd f j x j = x := if_pos rfl
theorem upd_n {f : Nat → Int32} {j c : Nat} {x : Int32} (h : ¬ c = j) : upd f j x c = f c := if_neg h
theorem rowbit {f : Nat → Int32} {i v : Nat} (hv : v < 32) (u w : Nat) : bt (upd f i (f i ||| bitI v) u) w = true ↔ bt (f u) w = true ∨ (u = i ∧ w = v) := by
  by_cases e : u = i
  · subst e
    rw [upd_s, b_or, Bool.or_eq_true, b_bit hv, decide_eq_true_eq]
    simp
  · rw [upd_n e]
    simp [e]
/-- row u's bits below v are as Q says, bit v for the rows below i -/
def Grid (n v i : Nat) (Q : Nat → Nat → Prop) (f : Nat → Int32) : Prop := ∀ u, u < n → ∀ w, bt (f u) w = true ↔ (w < v ∨ (w = v ∧ u < i)) ∧ Q u w
theorem Grid.yes {n v i : Nat} {Q : Nat → Nat → Prop} {f : Nat → Int32} (h : Grid n v i Q f) (hv : v < 32) (hq : Q i v) : Grid n v (i + 1) Q (upd f i (f i ||| bitI v)) := fun u hu w => by
  rw [rowbit hv, h u hu w]
  constructor
  · rintro (⟨h1, h2⟩ | ⟨rfl, rfl⟩)
    · exact ⟨h1.imp id (fun z => ⟨z.1, by omega⟩), h2⟩
    · exact ⟨Or.inr ⟨rfl, by omega⟩, hq⟩
  · rintro ⟨h1 | ⟨rfl, h1⟩, h2⟩
    · exact Or.inl ⟨Or.inl h1, h2⟩
    · by_cases e : u = i
      · exact Or.inr ⟨e, rfl⟩
      · exact Or.inl ⟨Or.inr ⟨rfl, by omega⟩, h2⟩
theorem Grid.no {n v i : Nat} {Q : Nat → Nat → Prop} {f : Nat → Int32} (h : Grid n v i Q f) (hq : ¬ Q i v) : Grid n v (i + 1) Q f := fun u hu w => by
  rw [h u hu w]
  constructor
  · rintro ⟨h1, h2⟩
    exact ⟨h1.imp id (fun z => ⟨z.1, by omega⟩), h2⟩
  · rintro ⟨h1 | ⟨rfl, h1⟩, h2⟩
    · exact ⟨Or.inl h1, h2⟩
    · by_cases e : u = i
      · subst e; exact absurd h2 hq
      · exact ⟨Or.inr ⟨rfl, by omega⟩, h2⟩
theorem Grid.next {n v : Nat} {Q : Nat → Nat → Prop} {f : Nat → Int32} (h : Grid n v n Q f) : Grid n (v + 1) 0 Q f := fun u hu w => by
  rw [h u hu w]
  refine and_congr_left fun _ => ⟨fun z => Or.inl (by omega), fun z => ?_⟩
  rcases z with z | z
  · by_cases e : w = v
    · exact Or.inr ⟨e, hu⟩
    · exact Or.inl (by omega)
  · omega
theorem Grid.skip {n v : Nat} {Q : Nat → Nat → Prop} {f : Nat → Int32} (h : Grid n v 0 Q f) (hq : ∀ u, u < n → ¬ Q u v) : Grid n (v + 1) 0 Q f := fun u hu w => by
  rw [h u hu w]
  constructor
  · rintro ⟨h1, h2⟩
    exact ⟨Or.inl (by omega), h2⟩
  · rintro ⟨h1, h2⟩
    have : ¬ w = v := fun e => by subst e; exact hq u hu h2
    exact ⟨Or.inl (by omega), h2⟩
theorem Grid.start {n : Nat} {Q : Nat → Nat → Prop} {f : Nat → Int32} (h : ∀ u, u < n → f u = 0) : Grid n 0 0 Q f := fun u hu w => by
  rw [h u hu, b_0]
  constructor
  · intro z; cases z
  · rintro ⟨h1, -⟩; omega
theorem Grid.done {n : Nat} {Q : Nat → Nat → Prop} {f : Nat → Int32} (h : Grid n n 0 Q f) (u : Nat) (hu : u < n) (w : Nat) : bt (f u) w = true ↔ w < n ∧ Q u w := by
  rw [h u hu w]
  exact and_congr_left fun _ => ⟨fun z => by omega, fun z => Or.inl z⟩
theorem Grid.to {n v i : Nat} {Q Q' : Nat → Nat → Prop} {f : Nat → Int32} (h : Grid n v i Q f) (hq : ∀ u w, u < n → (Q u w ↔ Q' u w)) : Grid n v i Q' f := fun u hu w => (h u hu w).trans (and_congr_right fun _ => hq u w hu)
def kthS (f : Nat → Bool) : Nat → Nat → Nat → Option Nat
  | 0, _, _ => none
  | m + 1, i, c => if f i = true then (if c = 0 then some i else kthS f m (i + 1) (c - 1)) else kthS f m (i + 1) c
theorem kth_f {f : Nat → Bool} {m i c : Nat} (h : f i = false) (hm : 0 < m) : kthS f m i c = kthS f (m - 1) (i + 1) c := by
  cases m with
  | zero => omega
  | succ m => show ite _ _ _ = _; rw [if_neg (by rw [h]; decide)]; rfl
theorem kth_z {f : Nat → Bool} {m i : Nat} (h : f i = true) (hm : 0 < m) : kthS f m i 0 = some i := by
  cases m with
  | zero => omega
  | succ m => show ite _ _ _ = _; rw [if_pos h]; rfl
theorem kth_s {f : Nat → Bool} {m i c : Nat} (h : f i = true) (hm : 0 < m) (hc : ¬ c = 0) : kthS f m i c = kthS f (m - 1) (i + 1) (c - 1) := by
  cases m with
  | zero => omega
  | succ m => show ite _ _ _ = _; rw [if_pos h, if_neg hc]; rfl
theorem hang_row {k : Nat → ClassId} {ad : Nat → Nat} {V : St} {t : Nat} (ht : t < 5) : (wR k ad V)[10 + t]? = some (ad (10 + t), aI k 24 (V (10 + t))) := by
  rcases (show t = 0 ∨ t = 1 ∨ t = 2 ∨ t = 3 ∨ t = 4 by omega) with rfl | rfl | rfl | rfl | rfl <;> rfl
theorem i_m1 (x : Int32) : x + (-1) = x - 1 := by rw [Int32.sub_eq_add_neg]
theorem pre1 {m : Nat} (h : m < 2 ^ 31) : nI m - 1 < 0 ↔ m = 0 := by
  cases m with
  | zero => exact ⟨fun _ => rfl, fun _ => by decide⟩
  | succ m => rw [nI_pred]; exact ⟨fun z => absurd z (nI_pos (by omega)), fun z => by omega⟩
end
section
/-! the class Reasons: endReachedWithout, kthCause -/
abbrev rmX2_endReachedWithout : Room := { frames := 0, cells := 0, slots := 0, locals := 0 }
theorem lk_X2_endReachedWithout : Lk yX2_endReachedWithout 1 := by decide +kernel
set_option maxHeartbeats 4000000 in
set_option maxRecDepth 100000 in
/-- endReachedWithout(v) -/
theorem c_X2_endReachedWithout (l : Launch) (D : va_G) (k : Nat → ClassId) (ad : Nat → Nat) (V : St) {n : Nat} (hn : V 0 0 = nI n) (hn24 : n ≤ 24) {v : Nat} (hv : v < 24) : CtR noX l yX2_endReachedWithout cX2_endReachedWithout 6 (some .int) rmX2_endReachedWithout D (tyL k) (wR k ad V) [.ref (ad 0), .int (nI v)] (fun r => ∀ j, bt r j = true ↔ Cl (fun j => j = 24) (fun y z => z < n ∧ ¬ z = v ∧ bt (V 2 z) y = true) j) := by
  refine CtR.mk (by decide) (Nat.le_of_ble_eq_true rfl) ?_
  intro p e s m below meth c hx hb hml hown hg hr hlocks hK hN hX H hH hP ls hl
  have hl : lv_has ls 6 [(0, .ref (ad 0)), (1, .int (nI v))] := hl
  refine lv_ldc (v := 16777216) hx hb hown (hg _ wd_322) dX2_endReachedWithout_0 ?_
  refine topv (bitI 24) (by decide) ?_
  refine lv_istore_n (lv' := [(2, .int (bitI 24)), (0, .ref (ad 0)), (1, .int (nI v))]) hx hb dX2_endReachedWithout_2 rfl hl (by decide) rfl (fun ls hl => ?_)
  refine lv_iconst (v := 0) hx hb dX2_endReachedWithout_3 (by decide) ?_
  refine lv_istore_n (lv' := [(3, .int 0), (2, .int (bitI 24)), (0, .ref (ad 0)), (1, .int (nI v))]) hx hb dX2_endReachedWithout_4 rfl hl (by decide) rfl (fun ls hl => ?_)
  refine lv_iconst (v := 0) hx hb dX2_endReachedWithout_5 (by decide) ?_
  refine lv_istore (lv' := [(4, .int 0), (3, .int 0), (2, .int (bitI 24)), (0, .ref (ad 0)), (1, .int (nI v))]) hx hb dX2_endReachedWithout_6 hl (by decide) rfl (fun ls hl => ?_)
  refine loopR (σ := Int32 × Int32 × Nat) (fun zz9 ls => match zz9 with | (x, b, t) => lv_has ls 6 [(0, .ref (ad 0)), (1, .int (nI v)), (2, .int x), (3, .int b), (4, .int (nI t))] ∧ (Sat (fun j => j = 24) (fun y z => z < n ∧ ¬ z = v ∧ bt (V 2 z) y = true) x b) ∧ (∀ j, bt x j = true → j < 25) ∧ (∀ j, (fun j => j = 24) j → bt x j = true) ∧ (t ≤ 25) ∧ (x = b ∨ t + 1 ≤ cnt x)) (fun zz9 => match zz9 with | (x, b, t) => 25 - t) ?_ (bitI 24, 0, 0) ⟨(lv_sub hl [3, 4, 2, 1, 0] rfl), ⟨fun j hj => Cl.base (by rw [b_bit (by omega)] at hj; exact of_decide_eq_true hj), fun e => absurd e (by decide)⟩, (fun j hj => by rw [b_bit (by omega)] at hj; have := of_decide_eq_true hj; omega), (fun j hj => by subst hj; rw [b_bit (by omega)]; simp), (by omega), (Or.inr (by decide))⟩
  intro zz9 ls hI ih
  obtain ⟨x, b, t⟩ := zz9
  obtain ⟨hl, hs, h25, hX, ht, hc⟩ := hI
  have iho := ih; clear ih
  refine lv_iload_n hx hb dX2_endReachedWithout_8 rfl (lv_at hl 2 rfl) ?_
  refine lv_iload_n hx hb dX2_endReachedWithout_9 rfl (lv_at hl 3 rfl) ?_
  refine lv_icmp_eq (tgt := 72) hx hb dX2_endReachedWithout_10 (by decide) (fun c_10 => ?_) (fun c_10 => ?_)
  · refine lv_iload_n hx hb dX2_endReachedWithout_72 rfl (lv_at hl 2 rfl) ?_
    exact retRI (v := x) hx hb hr hlocks hH dX2_endReachedWithout_73 (fun j => hs.done (by first | exact c_10 | (rcases hc with e | e; exact e; have := cnt_25 h25; omega)) j)
  · refine lv_iload hx hb dX2_endReachedWithout_13 (lv_at hl 4 rfl) ?_
    refine lv_bipush (v := 24) hx hb dX2_endReachedWithout_15 (by decide) ?_
    refine lv_icmp_gt (tgt := 72) hx hb dX2_endReachedWithout_17 (by decide) (fun c_17 => ?_) (fun c_17 => ?_)
    · have c_17 : 24 < t := (nI_ltI (a := 24) (b := t) (by omega) (by omega)).mp c_17
      refine lv_iload_n hx hb dX2_endReachedWithout_72 rfl (lv_at hl 2 rfl) ?_
      exact retRI (v := x) hx hb hr hlocks hH dX2_endReachedWithout_73 (fun j => hs.done (by first | exact c_10 | (rcases hc with e | e; exact e; have := cnt_25 h25; omega)) j)
    · have c_17 : ¬ 24 < t := fun z => c_17 ((nI_ltI (a := 24) (b := t) (by omega) (by omega)).mpr z)
      refine lv_iload_n hx hb dX2_endReachedWithout_20 rfl (lv_at hl 2 rfl) ?_
      refine lv_istore_n (lv' := [(3, .int x), (0, .ref (ad 0)), (1, .int (nI v)), (2, .int x), (4, .int (nI t))]) hx hb dX2_endReachedWithout_21 rfl hl (by decide) rfl (fun ls hl => ?_)
      refine lv_aload_n hx hb dX2_endReachedWithout_22 rfl (lv_at hl 1 rfl) ?_
      refine gfl hx hb hg inX2 hown hK hP 0 (ci := 2) rfl rfl 0 (by decide) wd_119 rfl dX2_endReachedWithout_23 ?_
      refine topv (nI n) hn ?_
      refine lv_iconst (v := 1) hx hb dX2_endReachedWithout_26 (by decide) ?_
      refine lv_isub hx hb dX2_endReachedWithout_27 ?_
      refine lv_istore (lv' := [(5, .int ((nI n) - 1)), (3, .int x), (0, .ref (ad 0)), (1, .int (nI v)), (2, .int x), (4, .int (nI t))]) hx hb dX2_endReachedWithout_28 hl (by decide) rfl (fun ls hl => ?_)
      refine loopR (σ := Int32 × Nat) (fun zz9 ls => match zz9 with | (x1, m1) => lv_has ls 6 [(0, .ref (ad 0)), (1, .int (nI v)), (2, .int x1), (3, .int x), (4, .int (nI t)), (5, .int (nI m1 - 1))] ∧ (InT (fun j => j = 24) (fun y z => z < n ∧ ¬ z = v ∧ bt (V 2 z) y = true) x x1 (fun z => m1 ≤ z ∧ z < n)) ∧ (m1 ≤ n) ∧ (∀ j, bt x1 j = true → j < 25)) (fun zz9 => match zz9 with | (x1, m1) => m1) ?_ (x, n) ⟨(lv_sub hl [2, 3, 4, 1, 5, 0] rfl), (InT.start hs.1 (fun z hz => by omega)), (by omega), h25⟩
      intro zz9 ls hI ih
      obtain ⟨x1, m1⟩ := zz9
      obtain ⟨hl, hI, hi, h25⟩ := hI
      refine lv_iload hx hb dX2_endReachedWithout_30 (lv_at hl 5 rfl) ?_
      refine lv_if_lt (tgt := 66) hx hb dX2_endReachedWithout_32 (by decide) (fun c_32 => ?_) (fun c_32 => ?_)
      · refine lv_iinc (v := nI (t + 1)) (lv' := [(4, .int (nI (t + 1))), (0, .ref (ad 0)), (1, .int (nI v)), (2, .int x1), (3, .int x), (5, .int (nI m1 - 1))]) hx hb dX2_endReachedWithout_66 hl (k := 4) rfl (nI_succ t).symm (by decide) rfl (fun ls hl => ?_)
        refine lv_goto (tgt := 8) hx hb dX2_endReachedWithout_69 (by decide) ?_
        have hcx : t + 1 ≤ cnt x := hc.resolve_left c_10
        obtain rfl : m1 = 0 := (pre1 (by omega)).mp c_32
        exact iho (x1, x, t + 1) _ ⟨(lv_sub hl [1, 2, 3, 4, 0] rfl), (hI.sat (fun j hj => Or.inl (hX j hj)) (fun y z h => ⟨by omega, h.1⟩)), h25, (fun j hj => hI.2.1 j (hX j hj)), (by omega), (by rcases Classical.em (x1 = x) with e | e; exact Or.inl e; exact Or.inr (by have := cnt_lt hI.2.1 e; omega))⟩ (by dsimp only; omega)
      · obtain ⟨i, rfl⟩ : ∃ i, m1 = i + 1 := ⟨m1 - 1, by have : ¬ m1 = 0 := fun z => c_32 ((pre1 (by omega)).mpr z); omega⟩
        rw [nI_pred i] at hl
        refine lv_iload hx hb dX2_endReachedWithout_35 (lv_at hl 5 rfl) ?_
        refine lv_iload_n hx hb dX2_endReachedWithout_37 rfl (lv_at hl 1 rfl) ?_
        refine lv_icmp_eq (tgt := 60) hx hb dX2_endReachedWithout_38 (by decide) (fun c_38 => ?_) (fun c_38 => ?_)
        · have c_38 : i = v := (nI_eq (a := i) (b := v) (by omega) (by omega)).mp c_38
          refine lv_iinc (v := nI i - 1) (lv' := [(5, .int (nI i - 1)), (0, .ref (ad 0)), (1, .int (nI v)), (2, .int x1), (3, .int x), (4, .int (nI t))]) hx hb dX2_endReachedWithout_60 hl (k := 5) rfl (i_m1 _) (by decide) rfl (fun ls hl => ?_)
          refine lv_goto (tgt := 30) hx hb dX2_endReachedWithout_63 (by decide) ?_
          exact ih (x1, i) _ ⟨(lv_sub hl [1, 2, 3, 4, 5, 0] rfl), (hI.no (i := i) (fun hz => by rcases hz with z | ⟨y, h1, h2, h3, h4⟩; omega; first | exact h3 c_38 | exact absurd c_50 (and_ne0.mpr ⟨y, h4, h1⟩)) (fun z hz => by omega)), (by omega), h25⟩ (by dsimp only; omega)
        · have c_38 : ¬ i = v := fun z => c_38 ((nI_eq (a := i) (b := v) (by omega) (by omega)).mpr z)
          refine lv_aload_n hx hb dX2_endReachedWithout_41 rfl (lv_at hl 0 rfl) ?_
          refine gfl hx hb hg inX2 hown hK hP 0 (ci := 2) rfl rfl 2 (by decide) wd_121 rfl dX2_endReachedWithout_42 ?_
          refine lv_iload hx hb dX2_endReachedWithout_45 (lv_at hl 5 rfl) ?_
          refine ldn hx hb hK hP 2 0 rfl rfl (by omega) (by decide) dX2_endReachedWithout_47 ?_
          refine lv_iload_n hx hb dX2_endReachedWithout_48 rfl (lv_at hl 2 rfl) ?_
          refine lv_iand hx hb dX2_endReachedWithout_49 ?_
          refine lv_if_eq (tgt := 60) hx hb dX2_endReachedWithout_50 (by decide) (fun c_50 => ?_) (fun c_50 => ?_)
          · refine lv_iinc (v := nI i - 1) (lv' := [(5, .int (nI i - 1)), (0, .ref (ad 0)), (1, .int (nI v)), (2, .int x1), (3, .int x), (4, .int (nI t))]) hx hb dX2_endReachedWithout_60 hl (k := 5) rfl (i_m1 _) (by decide) rfl (fun ls hl => ?_)
            refine lv_goto (tgt := 30) hx hb dX2_endReachedWithout_63 (by decide) ?_
            exact ih (x1, i) _ ⟨(lv_sub hl [1, 2, 3, 4, 5, 0] rfl), (hI.no (i := i) (fun hz => by rcases hz with z | ⟨y, h1, h2, h3, h4⟩; omega; first | exact h3 c_38 | exact absurd c_50 (and_ne0.mpr ⟨y, h4, h1⟩)) (fun z hz => by omega)), (by omega), h25⟩ (by dsimp only; omega)
          · refine lv_iload_n hx hb dX2_endReachedWithout_53 rfl (lv_at hl 2 rfl) ?_
            refine lv_iconst (v := 1) hx hb dX2_endReachedWithout_54 (by decide) ?_
            refine lv_iload hx hb dX2_endReachedWithout_55 (lv_at hl 5 rfl) ?_
            refine lv_ishl hx hb dX2_endReachedWithout_57 ?_
            refine topv (bitI i) rfl ?_
            refine lv_ior hx hb dX2_endReachedWithout_58 ?_
            refine lv_istore_n (lv' := [(2, .int (x1 ||| (bitI i))), (0, .ref (ad 0)), (1, .int (nI v)), (3, .int x), (4, .int (nI t)), (5, .int (nI i))]) hx hb dX2_endReachedWithout_59 rfl hl (by decide) rfl (fun ls hl => ?_)
            refine lv_iinc (v := nI i - 1) (lv' := [(5, .int (nI i - 1)), (2, .int (x1 ||| (bitI i))), (0, .ref (ad 0)), (1, .int (nI v)), (3, .int x), (4, .int (nI t))]) hx hb dX2_endReachedWithout_60 hl (k := 5) rfl (i_m1 _) (by decide) rfl (fun ls hl => ?_)
            refine lv_goto (tgt := 30) hx hb dX2_endReachedWithout_63 (by decide) ?_
            exact ih (x1 ||| bitI i, i) _ ⟨(lv_sub hl [2, 3, 1, 4, 5, 0] rfl), (hI.yes (i := i) (by omega) (Or.inr (by obtain ⟨y, h1, h2⟩ := and_ne0.mp c_50; exact ⟨y, h2, by omega, c_38, h1⟩)) (fun z hz => by omega)), (by omega), (fun j hj => by rw [b_or, Bool.or_eq_true, b_bit (by omega)] at hj; rcases hj with z | z; exact h25 j z; have := of_decide_eq_true z; omega)⟩ (by dsimp only; omega)
def hgF (V : St) (q : Nat) : Nat → Bool := fun i => bt (V (11 + i % 4) q) (i / 4)
abbrev rmX2_kthCause : Room := { frames := 1, cells := 0, slots := 0, locals := 21 }
theorem lk_X2_kthCause : Lk yX2_kthCause 3 := by decide +kernel
set_option maxHeartbeats 4000000 in
set_option maxRecDepth 100000 in
/-- kthCause(p, k, kindWanted) -/
theorem c_X2_kthCause (l : Launch) (D : va_G) (k : Nat → ClassId) (ad : Nat → Nat) (V : St) {n : Nat} (hn : V 0 0 = nI n) (hn24 : n ≤ 24) {q : Nat} (hq : q < 24) {kk : Nat} (hkk : kk < 2 ^ 31) (w : Bool) : CtR noX l yX2_kthCause cX2_kthCause 7 (some .int) rmX2_kthCause D (tyL k) (wR k ad V) [.ref (ad 0), .int (nI q), .int (nI kk), .int (zI w)] (fun r => r = match kthS (hgF V q) (4 * n) 0 kk with | none => -4 | some i => if w = true then nI (1 + i % 4) else nI (i / 4)) := by
  refine CtR.mk (by decide) (Nat.le_of_ble_eq_true rfl) ?_
  intro p e s m below meth c hx hb hml hown hg hr hlocks hK hN hX H hH hP ls hl
  have hl : lv_has ls 7 [(0, .ref (ad 0)), (1, .int (nI q)), (2, .int (nI kk)), (3, .int (zI w))] := hl
  refine lv_iload_n hx hb dX2_kthCause_0 rfl (lv_at hl 2 rfl) ?_
  refine lv_istore (lv' := [(4, .int (nI kk)), (0, .ref (ad 0)), (1, .int (nI q)), (2, .int (nI kk)), (3, .int (zI w))]) hx hb dX2_kthCause_1 hl (by decide) rfl (fun ls hl => ?_)
  refine lv_iconst (v := 0) hx hb dX2_kthCause_3 (by decide) ?_
  refine lv_istore (lv' := [(5, .int 0), (4, .int (nI kk)), (0, .ref (ad 0)), (1, .int (nI q)), (2, .int (nI kk)), (3, .int (zI w))]) hx hb dX2_kthCause_4 hl (by decide) rfl (fun ls hl => ?_)
  refine loopR (σ := Nat × Nat) (fun zz9 ls => match zz9 with | (u, c) => lv_has ls 7 [(0, .ref (ad 0)), (1, .int (nI q)), (2, .int (nI kk)), (3, .int (zI w)), (4, .int (nI c)), (5, .int (nI u))] ∧ (u ≤ n) ∧ (c < 2 ^ 31) ∧ (kthS (hgF V q) (4 * n - 4 * u) (4 * u) c = kthS (hgF V q) (4 * n) 0 kk)) (fun zz9 => match zz9 with | (u, c) => n - u) ?_ (0, kk) ⟨(lv_sub hl [2, 3, 4, 5, 1, 0] rfl), (by omega), hkk, rfl⟩
  intro zz9 ls hI ih
  obtain ⟨u, c⟩ := zz9
  obtain ⟨hl, hu, hc, he0⟩ := hI
  have iho := ih; clear ih
  refine lv_iload hx hb dX2_kthCause_6 (lv_at hl 5 rfl) ?_
  refine lv_aload_n hx hb dX2_kthCause_8 rfl (lv_at hl 0 rfl) ?_
  refine gfl hx hb hg inX2 hown hK hP 0 (ci := 2) rfl rfl 0 (by decide) wd_119 rfl dX2_kthCause_9 ?_
  refine topv (nI n) hn ?_
  refine lv_icmp_ge (tgt := 73) hx hb dX2_kthCause_12 (by decide) (fun c_12 => ?_) (fun c_12 => ?_)
  · have c_12 : n ≤ u := (nI_leI (a := n) (b := u) (by omega) (by omega)).mp c_12
    refine lv_bipush (v := (-4)) hx hb dX2_kthCause_73 (by decide) ?_
    exact retRI (v := (-4)) hx hb hr hlocks hH dX2_kthCause_75 (by rw [← he0, show 4 * n - 4 * u = 0 by omega]; rfl)
  · have c_12 : ¬ n ≤ u := fun z => c_12 ((nI_leI (a := n) (b := u) (by omega) (by omega)).mpr z)
    refine lv_iconst (v := 1) hx hb dX2_kthCause_15 (by decide) ?_
    refine lv_istore (lv' := [(6, .int 1), (0, .ref (ad 0)), (1, .int (nI q)), (2, .int (nI kk)), (3, .int (zI w)), (4, .int (nI c)), (5, .int (nI u))]) hx hb dX2_kthCause_16 hl (by decide) rfl (fun ls hl => ?_)
    refine loopR (σ := Nat × Nat) (fun zz9 ls => match zz9 with | (t, c1) => lv_has ls 7 [(0, .ref (ad 0)), (1, .int (nI q)), (2, .int (nI kk)), (3, .int (zI w)), (4, .int (nI c1)), (5, .int (nI u)), (6, .int (nI t))] ∧ (1 ≤ t) ∧ (t ≤ 5) ∧ (c1 < 2 ^ 31) ∧ (kthS (hgF V q) (4 * n - (4 * u + (t - 1))) (4 * u + (t - 1)) c1 = kthS (hgF V q) (4 * n) 0 kk)) (fun zz9 => match zz9 with | (t, c1) => 5 - t) ?_ (1, c) ⟨(lv_sub hl [1, 2, 3, 4, 5, 6, 0] rfl), (by omega), (by omega), hc, he0⟩
    intro zz9 ls hI ih
    obtain ⟨t, c1⟩ := zz9
    obtain ⟨hl, h1, h5, hc1, he⟩ := hI
    refine lv_iload hx hb dX2_kthCause_18 (lv_at hl 6 rfl) ?_
    refine lv_iconst (v := 4) hx hb dX2_kthCause_20 (by decide) ?_
    refine lv_icmp_gt (tgt := 67) hx hb dX2_kthCause_21 (by decide) (fun c_21 => ?_) (fun c_21 => ?_)
    · have c_21 : 4 < t := (nI_ltI (a := 4) (b := t) (by omega) (by omega)).mp c_21
      refine lv_iinc (v := nI (u + 1)) (lv' := [(5, .int (nI (u + 1))), (0, .ref (ad 0)), (1, .int (nI q)), (2, .int (nI kk)), (3, .int (zI w)), (4, .int (nI c1)), (6, .int (nI t))]) hx hb dX2_kthCause_67 hl (k := 5) rfl (nI_succ u).symm (by decide) rfl (fun ls hl => ?_)
      refine lv_goto (tgt := 6) hx hb dX2_kthCause_70 (by decide) ?_
      exact iho (u + 1, c1) _ ⟨(lv_sub hl [1, 2, 3, 4, 5, 0] rfl), (by omega), (by omega), (by rw [← he]; congr 1 <;> omega)⟩ (by dsimp only; omega)
    · have c_21 : ¬ 4 < t := fun z => c_21 ((nI_ltI (a := 4) (b := t) (by omega) (by omega)).mpr z)
      refine lv_aload_n hx hb dX2_kthCause_24 rfl (lv_at hl 0 rfl) ?_
      refine gfl hx hb hg inX2 hown hK hP 0 (ci := 2) rfl rfl 4 (by decide) wd_123 rfl dX2_kthCause_25 ?_
      refine lv_iload hx hb dX2_kthCause_28 (lv_at hl 6 rfl) ?_
      refine ldq (x := ad (10 + t)) hx hb hK hP 4 2 rfl rfl rfl (by omega) (by decide) rfl dX2_kthCause_30 ?_
      refine lv_iload_n hx hb dX2_kthCause_31 rfl (lv_at hl 1 rfl) ?_
      refine ldn hx hb hK hP (10 + t) 0 (hang_row (t := t) (by omega)) rfl (by omega) (by decide) dX2_kthCause_32 ?_
      have hf : (hgF V q) (4 * u + (t - 1)) = bt (V (10 + t) q) u := by show bt (V (11 + (4 * u + (t - 1)) % 4) q) ((4 * u + (t - 1)) / 4) = _; rw [show 11 + (4 * u + (t - 1)) % 4 = 10 + t by omega, show (4 * u + (t - 1)) / 4 = u by omega]
      refine lv_iload hx hb dX2_kthCause_33 (lv_at hl 5 rfl) ?_
      refine callR (runSN hx hb hg hown hml hl.1 hN (c_X3_holds l D k ((V (10 + t)) q) (q := u) (by omega)) [.int ((V (10 + t)) q), .int (nI u)] [] (preR (mapSome_sub hP [] rfl) hK hN xb0 x0) 323 nst_323 wd_324 wd_49 wd_325 lk_X3_holds ⟨rfl, rfl⟩ ⟨by decide, by decide⟩ ⟨Nat.zero_le _, Nat.zero_le _⟩ rfl (Nat.le_of_ble_eq_true rfl) dX2_kthCause_35) (fun r_35 q_35 => ?_)
      obtain rfl := q_35
      refine lv_if_eq (tgt := 61) hx hb dX2_kthCause_38 (by decide) (fun c_38 => ?_) (fun c_38 => ?_)
      · have c_38 := zI_0.mp c_38
        refine lv_iinc (v := nI (t + 1)) (lv' := [(6, .int (nI (t + 1))), (0, .ref (ad 0)), (1, .int (nI q)), (2, .int (nI kk)), (3, .int (zI w)), (4, .int (nI c1)), (5, .int (nI u))]) hx hb dX2_kthCause_61 hl (k := 6) rfl (nI_succ t).symm (by decide) rfl (fun ls hl => ?_)
        refine lv_goto (tgt := 18) hx hb dX2_kthCause_64 (by decide) ?_
        exact ih (t + 1, c1) _ ⟨(lv_sub hl [1, 2, 3, 4, 5, 6, 0] rfl), (by omega), (by omega), (by omega), (by rw [← he, kth_f (hf.trans c_38) (by omega)]; congr 1 <;> omega)⟩ (by dsimp only; omega)
      · have c_38 := zI_ne c_38
        refine lv_iload hx hb dX2_kthCause_41 (lv_at hl 4 rfl) ?_
        refine lv_if_ne (tgt := 58) hx hb dX2_kthCause_43 (by decide) (fun c_43 => ?_) (fun c_43 => ?_)
        · have c_43 : ¬ c1 = 0 := fun z => c_43 ((nI_eq (a := c1) (b := 0) (by omega) (by omega)).mpr z)
          refine lv_iinc (v := nI (c1 - 1)) (lv' := [(4, .int (nI (c1 - 1))), (0, .ref (ad 0)), (1, .int (nI q)), (2, .int (nI kk)), (3, .int (zI w)), (5, .int (nI u)), (6, .int (nI t))]) hx hb dX2_kthCause_58 hl (k := 4) rfl (by rw [show (Int32.ofInt (-1)) = -1 from rfl, i_m1]; exact pk_sub (b := 1) (by omega)) (by decide) rfl (fun ls hl => ?_)
          refine lv_iinc (v := nI (t + 1)) (lv' := [(6, .int (nI (t + 1))), (4, .int (nI (c1 - 1))), (0, .ref (ad 0)), (1, .int (nI q)), (2, .int (nI kk)), (3, .int (zI w)), (5, .int (nI u))]) hx hb dX2_kthCause_61 hl (k := 6) rfl (nI_succ t).symm (by decide) rfl (fun ls hl => ?_)
          refine lv_goto (tgt := 18) hx hb dX2_kthCause_64 (by decide) ?_
          exact ih (t + 1, c1 - 1) _ ⟨(lv_sub hl [2, 3, 4, 5, 1, 6, 0] rfl), (by omega), (by omega), (by omega), (by rw [← he, kth_s (hf.trans c_38) (by omega) c_43]; congr 1 <;> omega)⟩ (by dsimp only; omega)
        · have c_43 : c1 = 0 := (nI_eq (a := c1) (b := 0) (by omega) (by omega)).mp c_43
          refine lv_iload_n hx hb dX2_kthCause_46 rfl (lv_at hl 3 rfl) ?_
          refine lv_if_eq (tgt := 55) hx hb dX2_kthCause_47 (by decide) (fun c_47 => ?_) (fun c_47 => ?_)
          · have c_47 := zI_0.mp c_47
            refine lv_iload hx hb dX2_kthCause_55 (lv_at hl 5 rfl) ?_
            exact retRI (v := nI u) hx hb hr hlocks hH dX2_kthCause_57 (by obtain rfl := c_43; rw [← he, kth_z (hf.trans c_38) (by omega)]; dsimp only; rw [c_47]; first | (rw [if_pos rfl]; congr 1; omega) | (rw [if_neg (by decide)]; congr 1; omega))
          · have c_47 := zI_ne c_47
            refine lv_iload hx hb dX2_kthCause_50 (lv_at hl 6 rfl) ?_
            refine lv_goto (tgt := 57) hx hb dX2_kthCause_52 (by decide) ?_
            exact retRI (v := nI t) hx hb hr hlocks hH dX2_kthCause_57 (by obtain rfl := c_43; rw [← he, kth_z (hf.trans c_38) (by omega)]; dsimp only; rw [c_47]; first | (rw [if_pos rfl]; congr 1; omega) | (rw [if_neg (by decide)]; congr 1; omega))
end
section
/-! the class Reasons: what writes -/
theorem b_plI {n p j : Nat} (hn : n ≤ 24) (h : bt (plI n p) j = true) : j < 25 := by
  unfold plI at h
  split at h
  · rw [b_bit (by omega)] at h; have := of_decide_eq_true h; omega
  · rw [b_bit (by omega)] at h; have := of_decide_eq_true h; omega
theorem b_nxI {n : Nat} {V : St} {p j : Nat} (hn : n ≤ 24) (h : bt (nxI n V p) j = true) : j < 25 := by
  unfold nxI at h
  split at h
  · rw [b_or, Bool.or_eq_true] at h; exact h.elim (b_plI hn) (b_plI hn)
  · split at h
    · exact b_plI hn h
    · split at h
      · rw [b_bit (by omega)] at h; have := of_decide_eq_true h; omega
      · split at h
        · rw [b_or, Bool.or_eq_true, b_bit (by omega)] at h
          rcases h with h | h
          · exact b_plI hn h
          · have := of_decide_eq_true h; omega
        · exact b_plI hn h
abbrev rmX2_takeNexts : Room := { frames := 3, cells := 0, slots := 0, locals := 64 }
theorem lk_X2_takeNexts : Lk yX2_takeNexts 1 := by decide +kernel
set_option maxHeartbeats 4000000 in
set_option maxRecDepth 100000 in
/-- takeNexts(program) -/
theorem c_X2_takeNexts (l : Launch) (D : va_G) (k : Nat → ClassId) (ad : Nat → Nat) (V : St) {n : Nat} (hn : V 0 0 = nI n) (hn24 : n ≤ 24) (bd : Nat → Nat) (Pv : St) (hv : okV n Pv) : CtX noX l yX2_takeNexts cX2_takeNexts 3 none rmX2_takeNexts D (tyL k) ((wR k ad V) ++ (wP k bd Pv)) [.ref (ad 0), .ref (bd 0)] (qV D (fun U => (wR k ad U) ++ (wP k bd Pv)) (fun U => Fr [1, 2] V U ∧ ∀ p, p < n → U 1 p = nxI n Pv p ∧ U 2 p = wnI n Pv p)) := by
  refine CtX.mk (by decide) (Nat.le_of_ble_eq_true rfl) ?_
  intro p e s m below meth c hx hb hml hown hg hr hlocks hK hN A hA hX hh ls hl
  have hh : Hd D A ((wR k ad V) ++ (wP k bd Pv)) s.heap s.heap [] := hh
  have hl : lv_has ls 3 [(0, .ref (ad 0)), (1, .ref (bd 0))] := hl
  refine lv_iconst (v := 0) hx hb dX2_takeNexts_0 (by decide) ?_
  refine lv_istore_n (lv' := [(2, .int 0), (0, .ref (ad 0)), (1, .ref (bd 0))]) hx hb dX2_takeNexts_1 rfl hl (by decide) rfl (fun ls hl => ?_)
  refine loopW (σ := Nat × St) (fun zz9 H locs ls => match zz9 with | (i, U) => Hd D A ((wR k ad U) ++ (wP k bd Pv)) s.heap H locs ∧ lv_has ls 3 [(0, .ref (ad 0)), (1, .ref (bd 0)), (2, .int (nI i))] ∧ (i ≤ n) ∧ (Fr [1, 2] V U) ∧ (∀ p, p < i → U 1 p = nxI n Pv p ∧ U 2 p = wnI n Pv p)) (fun zz9 => match zz9 with | (i, U) => n - i) ?_ (0, V) ⟨hh, (lv_sub hl [1, 2, 0] rfl), (by omega), Fr.rf, (fun p hp => absurd hp (Nat.not_lt_zero _))⟩
  intro zz9 H locs ls hI ih
  obtain ⟨i, U⟩ := zz9
  obtain ⟨hh, hl, hi, hf, hA2⟩ := hI
  have hnU : U 0 0 = nI n := (hf.at 0 (by decide) 0).trans hn
  refine lv_iload_n hx hb dX2_takeNexts_2 rfl (lv_at hl 2 rfl) ?_
  refine lv_aload_n hx hb dX2_takeNexts_3 rfl (lv_at hl 0 rfl) ?_
  refine gfl hx hb hg inX2 hown hK hh.1 0 (ci := 2) rfl rfl 0 (by decide) wd_119 rfl dX2_takeNexts_4 ?_
  refine topv (nI n) hnU ?_
  refine lv_icmp_ge (tgt := 38) hx hb dX2_takeNexts_7 (by decide) (fun c_7 => ?_) (fun c_7 => ?_)
  · have c_7 : n ≤ i := (nI_leI (a := n) (b := i) (by omega) (by omega)).mp c_7
    exact retV (Wd := fun U => (wR k ad U) ++ (wP k bd Pv)) (U) hx hb hr hlocks dX2_takeNexts_38 hh (⟨hf, fun p hp => hA2 p (by omega)⟩)
  · have c_7 : ¬ n ≤ i := fun z => c_7 ((nI_leI (a := n) (b := i) (by omega) (by omega)).mpr z)
    refine lv_aload_n hx hb dX2_takeNexts_10 rfl (lv_at hl 0 rfl) ?_
    refine gfl hx hb hg inX2 hown hK hh.1 0 (ci := 2) rfl rfl 1 (by decide) wd_120 rfl dX2_takeNexts_11 ?_
    refine lv_iload_n hx hb dX2_takeNexts_14 rfl (lv_at hl 2 rfl) ?_
    refine lv_aload_n hx hb dX2_takeNexts_15 rfl (lv_at hl 1 rfl) ?_
    refine lv_iload_n hx hb dX2_takeNexts_16 rfl (lv_at hl 2 rfl) ?_
    refine callR (runV hx hb hg hown hml hl.1 (c_X1_nextsOf l D k bd Pv hv (q := i) (by omega)) [.int (nI i)] [.int (nI i), .ref (ad 1)] (preR (mapSome_sub hh.1 [15, 16, 17, 18, 19, 20, 21, 22] rfl) hK hN xb0 x0) (va_recv hK hh.1 (ci := 1) (q0 := 15) rfl rfl) wd_292 wd_293 wd_294 wd_50 wd_295 lk_X1_nextsOf ⟨rfl, rfl⟩ ⟨by decide, by decide⟩ ⟨Nat.zero_le _, Nat.zero_le _⟩ rfl (Nat.le_of_ble_eq_true rfl) dX2_takeNexts_17) (fun r_17 q_17 => ?_)
    obtain rfl := q_17
    refine stn (j := i) hx hb hK hh 1 0 rfl rfl (by omega) (by decide) dX2_takeNexts_20 ((wR k ad (va_up U 1 (upd (U 1) i (nxI n Pv i)))) ++ (wP k bd Pv)) rfl (fun H locs hh => ?_)
    refine lv_aload_n hx hb dX2_takeNexts_21 rfl (lv_at hl 0 rfl) ?_
    refine gfl hx hb hg inX2 hown hK hh.1 0 (ci := 2) rfl rfl 2 (by decide) wd_121 rfl dX2_takeNexts_22 ?_
    refine lv_iload_n hx hb dX2_takeNexts_25 rfl (lv_at hl 2 rfl) ?_
    refine lv_aload_n hx hb dX2_takeNexts_26 rfl (lv_at hl 1 rfl) ?_
    refine lv_iload_n hx hb dX2_takeNexts_27 rfl (lv_at hl 2 rfl) ?_
    refine callR (runV hx hb hg hown hml hl.1 (c_X1_widerNextsOf l D k bd Pv hv (q := i) (by omega)) [.int (nI i)] [.int (nI i), .ref (ad 2)] (preR (mapSome_sub hh.1 [15, 16, 17, 18, 19, 20, 21, 22] rfl) hK hN xb0 x0) (va_recv hK hh.1 (ci := 1) (q0 := 15) rfl rfl) wd_305 wd_306 wd_307 wd_50 wd_308 lk_X1_widerNextsOf ⟨rfl, rfl⟩ ⟨by decide, by decide⟩ ⟨Nat.zero_le _, Nat.zero_le _⟩ rfl (Nat.le_of_ble_eq_true rfl) dX2_takeNexts_28) (fun r_28 q_28 => ?_)
    obtain rfl := q_28
    refine stn (j := i) hx hb hK hh 2 0 rfl rfl (by omega) (by decide) dX2_takeNexts_31 ((wR k ad (va_up (va_up U 1 (upd (U 1) i (nxI n Pv i))) 2 (upd (U 2) i (wnI n Pv i)))) ++ (wP k bd Pv)) rfl (fun H locs hh => ?_)
    refine lv_iinc (v := nI (i + 1)) (lv' := [(2, .int (nI (i + 1))), (0, .ref (ad 0)), (1, .ref (bd 0))]) hx hb dX2_takeNexts_32 hl (k := 2) rfl (nI_succ i).symm (by decide) rfl (fun ls hl => ?_)
    refine lv_goto (tgt := 2) hx hb dX2_takeNexts_35 (by decide) ?_
    exact ih (i + 1, va_up (va_up U 1 (upd (U 1) i (nxI n Pv i))) 2 (upd (U 2) i (wnI n Pv i))) _ _ _ ⟨hh, (lv_sub hl [1, 2, 0] rfl), (by omega), ((hf.up (by decide)).up (by decide)), (fun p hp => by rcases Classical.em (p = i) with e | e; (subst e; simp [va_up, upd]); (have h1 := hA2 p (by omega); simp [va_up, upd, e, h1]))⟩ (by dsimp only; omega)
abbrev rmX2_forgetHanging : Room := { frames := 0, cells := 0, slots := 0, locals := 0 }
theorem lk_X2_forgetHanging : Lk yX2_forgetHanging 0 := by decide +kernel
set_option maxHeartbeats 4000000 in
set_option maxRecDepth 100000 in
/-- forgetHanging() -/
theorem c_X2_forgetHanging (l : Launch) (D : va_G) (k : Nat → ClassId) (ad : Nat → Nat) (V : St) {n : Nat} (hn : V 0 0 = nI n) (hn24 : n ≤ 24) : CtX noX l yX2_forgetHanging cX2_forgetHanging 3 none rmX2_forgetHanging D (tyL k) (wR k ad V) [.ref (ad 0)] (qV D (wR k ad) (fun U => Fr [3, 6, 11, 12, 13, 14] V U ∧ ∀ p, p < n → U 3 p = 0 ∧ U 6 p = 0 ∧ U 11 p = 0 ∧ U 12 p = 0 ∧ U 13 p = 0 ∧ U 14 p = 0)) := by
  refine CtX.mk (by decide) (Nat.le_of_ble_eq_true rfl) ?_
  intro p e s m below meth c hx hb hml hown hg hr hlocks hK hN A hA hX hh ls hl
  have hh : Hd D A (wR k ad V) s.heap s.heap [] := hh
  have hl : lv_has ls 3 [(0, .ref (ad 0))] := hl
  refine lv_iconst (v := 0) hx hb dX2_forgetHanging_0 (by decide) ?_
  refine lv_istore_n (lv' := [(1, .int 0), (0, .ref (ad 0))]) hx hb dX2_forgetHanging_1 rfl hl (by decide) rfl (fun ls hl => ?_)
  refine loopW (σ := Nat × St) (fun zz9 H locs ls => match zz9 with | (i, U) => Hd D A (wR k ad U) s.heap H locs ∧ lv_has ls 3 [(0, .ref (ad 0)), (1, .int (nI i))] ∧ (i ≤ n) ∧ (Fr [3, 6, 11, 12, 13, 14] V U) ∧ (∀ p, p < i → U 3 p = 0 ∧ U 6 p = 0 ∧ U 11 p = 0 ∧ U 12 p = 0 ∧ U 13 p = 0 ∧ U 14 p = 0)) (fun zz9 => match zz9 with | (i, U) => n - i) ?_ (0, V) ⟨hh, (lv_sub hl [1, 0] rfl), (by omega), Fr.rf, (fun p hp => absurd hp (Nat.not_lt_zero _))⟩
  intro zz9 H locs ls hI ih
  obtain ⟨i, U⟩ := zz9
  obtain ⟨hh, hl, hi, hf, hA2⟩ := hI
  have hnU : U 0 0 = nI n := (hf.at 0 (by decide) 0).trans hn
  refine lv_iload_n hx hb dX2_forgetHanging_2 rfl (lv_at hl 1 rfl) ?_
  refine lv_aload_n hx hb dX2_forgetHanging_3 rfl (lv_at hl 0 rfl) ?_
  refine gfl hx hb hg inX2 hown hK hh.1 0 (ci := 2) rfl rfl 0 (by decide) wd_119 rfl dX2_forgetHanging_4 ?_
  refine topv (nI n) hnU ?_
  refine lv_icmp_ge (tgt := 52) hx hb dX2_forgetHanging_7 (by decide) (fun c_7 => ?_) (fun c_7 => ?_)
  · have c_7 : n ≤ i := (nI_leI (a := n) (b := i) (by omega) (by omega)).mp c_7
    exact retV (Wd := wR k ad) (U) hx hb hr hlocks dX2_forgetHanging_52 hh (⟨hf, fun p hp => hA2 p (by omega)⟩)
  · have c_7 : ¬ n ≤ i := fun z => c_7 ((nI_leI (a := n) (b := i) (by omega) (by omega)).mpr z)
    refine lv_aload_n hx hb dX2_forgetHanging_10 rfl (lv_at hl 0 rfl) ?_
    refine gfl hx hb hg inX2 hown hK hh.1 0 (ci := 2) rfl rfl 3 (by decide) wd_122 rfl dX2_forgetHanging_11 ?_
    refine lv_iload_n hx hb dX2_forgetHanging_14 rfl (lv_at hl 1 rfl) ?_
    refine lv_iconst (v := 0) hx hb dX2_forgetHanging_15 (by decide) ?_
    refine stn (j := i) hx hb hK hh 3 0 rfl rfl (by omega) (by decide) dX2_forgetHanging_16 (wR k ad (va_up U 3 (upd (U 3) i 0))) rfl (fun H locs hh => ?_)
    refine lv_aload_n hx hb dX2_forgetHanging_17 rfl (lv_at hl 0 rfl) ?_
    refine gfl hx hb hg inX2 hown hK hh.1 0 (ci := 2) rfl rfl 6 (by decide) wd_125 rfl dX2_forgetHanging_18 ?_
    refine lv_iload_n hx hb dX2_forgetHanging_21 rfl (lv_at hl 1 rfl) ?_
    refine lv_iconst (v := 0) hx hb dX2_forgetHanging_22 (by decide) ?_
    refine stn (j := i) hx hb hK hh 6 0 rfl rfl (by omega) (by decide) dX2_forgetHanging_23 (wR k ad (va_up (va_up U 3 (upd (U 3) i 0)) 6 (upd (U 6) i 0))) rfl (fun H locs hh => ?_)
    refine lv_iconst (v := 1) hx hb dX2_forgetHanging_24 (by decide) ?_
    refine lv_istore_n (lv' := [(2, .int 1), (0, .ref (ad 0)), (1, .int (nI i))]) hx hb dX2_forgetHanging_25 rfl hl (by decide) rfl (fun ls hl => ?_)
    refine lv_iload_n hx hb dX2_forgetHanging_26 rfl (lv_at hl 0 rfl) ?_
    refine lv_iconst (v := 4) hx hb dX2_forgetHanging_27 (by decide) ?_
    refine lv_icmp_gt (tgt := 46) hx hb dX2_forgetHanging_28 (by decide) (fun c_28 => ?_) (fun c_28 => ?_)
    · exact absurd c_28 (by decide)
    · refine lv_aload_n hx hb dX2_forgetHanging_31 rfl (lv_at hl 1 rfl) ?_
      refine gfl hx hb hg inX2 hown hK hh.1 0 (ci := 2) rfl rfl 4 (by decide) wd_123 rfl dX2_forgetHanging_32 ?_
      refine lv_iload_n hx hb dX2_forgetHanging_35 rfl (lv_at hl 0 rfl) ?_
      refine topv (nI 1) rfl ?_
      refine ldq (x := ad (10 + 1)) hx hb hK hh.1 4 2 rfl rfl rfl (by omega) (by decide) rfl dX2_forgetHanging_36 ?_
      refine lv_iload_n hx hb dX2_forgetHanging_37 rfl (lv_at hl 2 rfl) ?_
      refine lv_iconst (v := 0) hx hb dX2_forgetHanging_38 (by decide) ?_
      refine stn (j := i) hx hb hK hh 11 0 rfl rfl (by omega) (by decide) dX2_forgetHanging_39 (wR k ad (va_up (va_up (va_up U 3 (upd (U 3) i 0)) 6 (upd (U 6) i 0)) 11 (upd (U 11) i 0))) rfl (fun H locs hh => ?_)
      refine lv_iinc (v := 2) (lv' := [(2, .int 2), (0, .ref (ad 0)), (1, .int (nI i))]) hx hb dX2_forgetHanging_40 hl (k := 0) rfl (by decide) (by decide) rfl (fun ls hl => ?_)
      refine lv_goto (tgt := 26) hx hb dX2_forgetHanging_43 (by decide) ?_
      refine lv_iload_n hx hb dX2_forgetHanging_26 rfl (lv_at hl 0 rfl) ?_
      refine lv_iconst (v := 4) hx hb dX2_forgetHanging_27 (by decide) ?_
      refine lv_icmp_gt (tgt := 46) hx hb dX2_forgetHanging_28 (by decide) (fun c_28 => ?_) (fun c_28 => ?_)
      · exact absurd c_28 (by decide)
      · refine lv_aload_n hx hb dX2_forgetHanging_31 rfl (lv_at hl 1 rfl) ?_
        refine gfl hx hb hg inX2 hown hK hh.1 0 (ci := 2) rfl rfl 4 (by decide) wd_123 rfl dX2_forgetHanging_32 ?_
        refine lv_iload_n hx hb dX2_forgetHanging_35 rfl (lv_at hl 0 rfl) ?_
        refine topv (nI 2) rfl ?_
        refine ldq (x := ad (10 + 2)) hx hb hK hh.1 4 2 rfl rfl rfl (by omega) (by decide) rfl dX2_forgetHanging_36 ?_
        refine lv_iload_n hx hb dX2_forgetHanging_37 rfl (lv_at hl 2 rfl) ?_
        refine lv_iconst (v := 0) hx hb dX2_forgetHanging_38 (by decide) ?_
        refine stn (j := i) hx hb hK hh 12 0 rfl rfl (by omega) (by decide) dX2_forgetHanging_39 (wR k ad (va_up (va_up (va_up (va_up U 3 (upd (U 3) i 0)) 6 (upd (U 6) i 0)) 11 (upd (U 11) i 0)) 12 (upd (U 12) i 0))) rfl (fun H locs hh => ?_)
        refine lv_iinc (v := 3) (lv' := [(2, .int 3), (0, .ref (ad 0)), (1, .int (nI i))]) hx hb dX2_forgetHanging_40 hl (k := 0) rfl (by decide) (by decide) rfl (fun ls hl => ?_)
        refine lv_goto (tgt := 26) hx hb dX2_forgetHanging_43 (by decide) ?_
        refine lv_iload_n hx hb dX2_forgetHanging_26 rfl (lv_at hl 0 rfl) ?_
        refine lv_iconst (v := 4) hx hb dX2_forgetHanging_27 (by decide) ?_
        refine lv_icmp_gt (tgt := 46) hx hb dX2_forgetHanging_28 (by decide) (fun c_28 => ?_) (fun c_28 => ?_)
        · exact absurd c_28 (by decide)
        · refine lv_aload_n hx hb dX2_forgetHanging_31 rfl (lv_at hl 1 rfl) ?_
          refine gfl hx hb hg inX2 hown hK hh.1 0 (ci := 2) rfl rfl 4 (by decide) wd_123 rfl dX2_forgetHanging_32 ?_
          refine lv_iload_n hx hb dX2_forgetHanging_35 rfl (lv_at hl 0 rfl) ?_
          refine topv (nI 3) rfl ?_
          refine ldq (x := ad (10 + 3)) hx hb hK hh.1 4 2 rfl rfl rfl (by omega) (by decide) rfl dX2_forgetHanging_36 ?_
          refine lv_iload_n hx hb dX2_forgetHanging_37 rfl (lv_at hl 2 rfl) ?_
          refine lv_iconst (v := 0) hx hb dX2_forgetHanging_38 (by decide) ?_
          refine stn (j := i) hx hb hK hh 13 0 rfl rfl (by omega) (by decide) dX2_forgetHanging_39 (wR k ad (va_up (va_up (va_up (va_up (va_up U 3 (upd (U 3) i 0)) 6 (upd (U 6) i 0)) 11 (upd (U 11) i 0)) 12 (upd (U 12) i 0)) 13 (upd (U 13) i 0))) rfl (fun H locs hh => ?_)
          refine lv_iinc (v := 4) (lv' := [(2, .int 4), (0, .ref (ad 0)), (1, .int (nI i))]) hx hb dX2_forgetHanging_40 hl (k := 0) rfl (by decide) (by decide) rfl (fun ls hl => ?_)
          refine lv_goto (tgt := 26) hx hb dX2_forgetHanging_43 (by decide) ?_
          refine lv_iload_n hx hb dX2_forgetHanging_26 rfl (lv_at hl 0 rfl) ?_
          refine lv_iconst (v := 4) hx hb dX2_forgetHanging_27 (by decide) ?_
          refine lv_icmp_gt (tgt := 46) hx hb dX2_forgetHanging_28 (by decide) (fun c_28 => ?_) (fun c_28 => ?_)
          · exact absurd c_28 (by decide)
          · refine lv_aload_n hx hb dX2_forgetHanging_31 rfl (lv_at hl 1 rfl) ?_
            refine gfl hx hb hg inX2 hown hK hh.1 0 (ci := 2) rfl rfl 4 (by decide) wd_123 rfl dX2_forgetHanging_32 ?_
            refine lv_iload_n hx hb dX2_forgetHanging_35 rfl (lv_at hl 0 rfl) ?_
            refine topv (nI 4) rfl ?_
            refine ldq (x := ad (10 + 4)) hx hb hK hh.1 4 2 rfl rfl rfl (by omega) (by decide) rfl dX2_forgetHanging_36 ?_
            refine lv_iload_n hx hb dX2_forgetHanging_37 rfl (lv_at hl 2 rfl) ?_
            refine lv_iconst (v := 0) hx hb dX2_forgetHanging_38 (by decide) ?_
            refine stn (j := i) hx hb hK hh 14 0 rfl rfl (by omega) (by decide) dX2_forgetHanging_39 (wR k ad (va_up (va_up (va_up (va_up (va_up (va_up U 3 (upd (U 3) i 0)) 6 (upd (U 6) i 0)) 11 (upd (U 11) i 0)) 12 (upd (U 12) i 0)) 13 (upd (U 13) i 0)) 14 (upd (U 14) i 0))) rfl (fun H locs hh => ?_)
            refine lv_iinc (v := 5) (lv' := [(2, .int 5), (0, .ref (ad 0)), (1, .int (nI i))]) hx hb dX2_forgetHanging_40 hl (k := 0) rfl (by decide) (by decide) rfl (fun ls hl => ?_)
            refine lv_goto (tgt := 26) hx hb dX2_forgetHanging_43 (by decide) ?_
            refine lv_iload_n hx hb dX2_forgetHanging_26 rfl (lv_at hl 0 rfl) ?_
            refine lv_iconst (v := 4) hx hb dX2_forgetHanging_27 (by decide) ?_
            refine lv_icmp_gt (tgt := 46) hx hb dX2_forgetHanging_28 (by decide) (fun c_28 => ?_) (fun c_28 => ?_)
            · refine lv_iinc (v := nI (i + 1)) (lv' := [(1, .int (nI (i + 1))), (2, .int 5), (0, .ref (ad 0))]) hx hb dX2_forgetHanging_46 hl (k := 2) rfl (nI_succ i).symm (by decide) rfl (fun ls hl => ?_)
              refine lv_goto (tgt := 2) hx hb dX2_forgetHanging_49 (by decide) ?_
              exact ih (i + 1, va_up (va_up (va_up (va_up (va_up (va_up U 3 (upd (U 3) i 0)) 6 (upd (U 6) i 0)) 11 (upd (U 11) i 0)) 12 (upd (U 12) i 0)) 13 (upd (U 13) i 0)) 14 (upd (U 14) i 0)) _ _ _ ⟨hh, (lv_sub hl [2, 0] rfl), (by omega), ((((((hf.up (by decide)).up (by decide)).up (by decide)).up (by decide)).up (by decide)).up (by decide)), (fun p hp => by rcases Classical.em (p = i) with e | e; (subst e; simp [va_up, upd]); (have h1 := hA2 p (by omega); simp [va_up, upd, e, h1]))⟩ (by dsimp only; omega)
            · exact absurd c_28 (by decide)
abbrev rmX2_findFollowers : Room := { frames := 1, cells := 0, slots := 0, locals := 25 }
theorem lk_X2_findFollowers : Lk yX2_findFollowers 0 := by decide +kernel
set_option maxHeartbeats 4000000 in
set_option maxRecDepth 100000 in
/-- findFollowers() -/
theorem c_X2_findFollowers (l : Launch) (D : va_G) (k : Nat → ClassId) (ad : Nat → Nat) (V : St) {n : Nat} (hn : V 0 0 = nI n) (hn24 : n ≤ 24) (hz : ∀ u, u < n → V 3 u = 0) : CtX noX l yX2_findFollowers cX2_findFollowers 4 none rmX2_findFollowers D (tyL k) (wR k ad V) [.ref (ad 0)] (qV D (wR k ad) (fun U => Fr [3] V U ∧ ∀ u, u < n → ∀ w, bt (U 3 u) w = true ↔ w < n ∧ (fun u w => ¬ u = w ∧ ¬ Cl (fun j => j = 24) (fun y z => z < n ∧ ¬ z = w ∧ bt (V 2 z) y = true) u) u w)) := by
  refine CtX.mk (by decide) (Nat.le_of_ble_eq_true rfl) ?_
  intro p e s m below meth c hx hb hml hown hg hr hlocks hK hN A hA hX hh ls hl
  have hh : Hd D A (wR k ad V) s.heap s.heap [] := hh
  have hl : lv_has ls 4 [(0, .ref (ad 0))] := hl
  refine lv_iconst (v := 0) hx hb dX2_findFollowers_0 (by decide) ?_
  refine lv_istore_n (lv' := [(1, .int 0), (0, .ref (ad 0))]) hx hb dX2_findFollowers_1 rfl hl (by decide) rfl (fun ls hl => ?_)
  refine loopW (σ := Nat × St) (fun zz9 H locs ls => match zz9 with | (v, U) => Hd D A (wR k ad U) s.heap H locs ∧ lv_has ls 4 [(0, .ref (ad 0)), (1, .int (nI v))] ∧ (v ≤ n) ∧ (Fr [3] V U) ∧ (Grid n v 0 (fun u w => ¬ u = w ∧ ¬ Cl (fun j => j = 24) (fun y z => z < n ∧ ¬ z = w ∧ bt (V 2 z) y = true) u) (U 3))) (fun zz9 => match zz9 with | (v, U) => n - v) ?_ (0, V) ⟨hh, (lv_sub hl [1, 0] rfl), (by omega), Fr.rf, (Grid.start hz)⟩
  intro zz9 H locs ls hI ih
  obtain ⟨v, U⟩ := zz9
  obtain ⟨hh, hl, hvn, hf, gr⟩ := hI
  have iho := ih; clear ih
  have hnU : U 0 0 = nI n := (hf.at 0 (by decide) 0).trans hn
  refine lv_iload_n hx hb dX2_findFollowers_2 rfl (lv_at hl 1 rfl) ?_
  refine lv_aload_n hx hb dX2_findFollowers_3 rfl (lv_at hl 0 rfl) ?_
  refine gfl hx hb hg inX2 hown hK hh.1 0 (ci := 2) rfl rfl 0 (by decide) wd_119 rfl dX2_findFollowers_4 ?_
  refine topv (nI n) hnU ?_
  refine lv_icmp_ge (tgt := 63) hx hb dX2_findFollowers_7 (by decide) (fun c_7 => ?_) (fun c_7 => ?_)
  · have c_7 : n ≤ v := (nI_leI (a := n) (b := v) (by omega) (by omega)).mp c_7
    exact retV (Wd := wR k ad) (U) hx hb hr hlocks dX2_findFollowers_63 hh (by rw [show v = n by omega] at gr; exact ⟨hf, fun u hu w => gr.done u hu w⟩)
  · have c_7 : ¬ n ≤ v := fun z => c_7 ((nI_leI (a := n) (b := v) (by omega) (by omega)).mpr z)
    refine lv_aload_n hx hb dX2_findFollowers_10 rfl (lv_at hl 0 rfl) ?_
    refine lv_iload_n hx hb dX2_findFollowers_11 rfl (lv_at hl 1 rfl) ?_
    refine callR (runV hx hb hg hown hml hl.1 (c_X2_endReachedWithout l D k ad U hnU hn24 (v := v) (by omega)) [.int (nI v)] [] (preR (mapSome_sub hh.1 [0, 1, 2, 3, 4, 5, 6, 7, 8, 9, 10, 11, 12, 13, 14] rfl) hK hN xb0 x0) (va_recv hK hh.1 (ci := 2) (q0 := 0) rfl rfl) wd_318 wd_320 wd_5 wd_51 wd_321 lk_X2_endReachedWithout ⟨rfl, rfl⟩ ⟨by decide, by decide⟩ ⟨Nat.zero_le _, Nat.zero_le _⟩ rfl (Nat.le_of_ble_eq_true rfl) dX2_findFollowers_12) (fun r_12 q_12 => ?_)
    rw [hf 2 (by decide)] at q_12
    refine lv_istore_n (lv' := [(2, .int r_12), (0, .ref (ad 0)), (1, .int (nI v))]) hx hb dX2_findFollowers_15 rfl hl (by decide) rfl (fun ls hl => ?_)
    refine lv_iconst (v := 0) hx hb dX2_findFollowers_16 (by decide) ?_
    refine lv_istore_n (lv' := [(3, .int 0), (2, .int r_12), (0, .ref (ad 0)), (1, .int (nI v))]) hx hb dX2_findFollowers_17 rfl hl (by decide) rfl (fun ls hl => ?_)
    refine loopW (σ := Nat × St) (fun zz9 H locs ls => match zz9 with | (i, U1) => Hd D A (wR k ad U1) s.heap H locs ∧ lv_has ls 4 [(0, .ref (ad 0)), (1, .int (nI v)), (2, .int r_12), (3, .int (nI i))] ∧ (i ≤ n) ∧ (Fr [3] V U1) ∧ (Grid n v i (fun u w => ¬ u = w ∧ ¬ Cl (fun j => j = 24) (fun y z => z < n ∧ ¬ z = w ∧ bt (V 2 z) y = true) u) (U1 3))) (fun zz9 => match zz9 with | (i, U1) => n - i) ?_ (0, U) ⟨hh, (lv_sub hl [2, 3, 1, 0] rfl), (by omega), hf, gr⟩
    intro zz9 H locs ls hI ih
    obtain ⟨i, U1⟩ := zz9
    obtain ⟨hh, hl, hi, hf1, gr1⟩ := hI
    have hnU : U1 0 0 = nI n := (hf1.at 0 (by decide) 0).trans hn
    refine lv_iload_n hx hb dX2_findFollowers_18 rfl (lv_at hl 3 rfl) ?_
    refine lv_aload_n hx hb dX2_findFollowers_19 rfl (lv_at hl 0 rfl) ?_
    refine gfl hx hb hg inX2 hown hK hh.1 0 (ci := 2) rfl rfl 0 (by decide) wd_119 rfl dX2_findFollowers_20 ?_
    refine topv (nI n) hnU ?_
    refine lv_icmp_ge (tgt := 57) hx hb dX2_findFollowers_23 (by decide) (fun c_23 => ?_) (fun c_23 => ?_)
    · have c_23 : n ≤ i := (nI_leI (a := n) (b := i) (by omega) (by omega)).mp c_23
      refine lv_iinc (v := nI (v + 1)) (lv' := [(1, .int (nI (v + 1))), (0, .ref (ad 0)), (2, .int r_12), (3, .int (nI i))]) hx hb dX2_findFollowers_57 hl (k := 1) rfl (nI_succ v).symm (by decide) rfl (fun ls hl => ?_)
      refine lv_goto (tgt := 2) hx hb dX2_findFollowers_60 (by decide) ?_
      have e1 : i = n := by omega
      rw [e1] at gr1
      exact iho (v + 1, U1) _ _ _ ⟨hh, (lv_sub hl [1, 0] rfl), (by omega), hf1, gr1.next⟩ (by dsimp only; omega)
    · have c_23 : ¬ n ≤ i := fun z => c_23 ((nI_leI (a := n) (b := i) (by omega) (by omega)).mpr z)
      refine lv_iload_n hx hb dX2_findFollowers_26 rfl (lv_at hl 3 rfl) ?_
      refine lv_iload_n hx hb dX2_findFollowers_27 rfl (lv_at hl 1 rfl) ?_
      refine lv_icmp_eq (tgt := 51) hx hb dX2_findFollowers_28 (by decide) (fun c_28 => ?_) (fun c_28 => ?_)
      · have c_28 : i = v := (nI_eq (a := i) (b := v) (by omega) (by omega)).mp c_28
        refine lv_iinc (v := nI (i + 1)) (lv' := [(3, .int (nI (i + 1))), (0, .ref (ad 0)), (1, .int (nI v)), (2, .int r_12)]) hx hb dX2_findFollowers_51 hl (k := 3) rfl (nI_succ i).symm (by decide) rfl (fun ls hl => ?_)
        refine lv_goto (tgt := 18) hx hb dX2_findFollowers_54 (by decide) ?_
        exact ih (i + 1, U1) _ _ _ ⟨hh, (lv_sub hl [1, 2, 3, 0] rfl), (by omega), hf1, (gr1.no (fun hq => by first | exact hq.1 c_28 | exact hq.2 ((q_12 i).mp c_36)))⟩ (by dsimp only; omega)
      · have c_28 : ¬ i = v := fun z => c_28 ((nI_eq (a := i) (b := v) (by omega) (by omega)).mpr z)
        refine lv_iload_n hx hb dX2_findFollowers_31 rfl (lv_at hl 2 rfl) ?_
        refine lv_iload_n hx hb dX2_findFollowers_32 rfl (lv_at hl 3 rfl) ?_
        refine callR (runSN hx hb hg hown hml hl.1 hN (c_X3_holds l D k (r_12) (q := i) (by omega)) [.int r_12, .int (nI i)] [] (preR (mapSome_sub hh.1 [] rfl) hK hN xb0 x0) 323 nst_323 wd_324 wd_49 wd_325 lk_X3_holds ⟨rfl, rfl⟩ ⟨by decide, by decide⟩ ⟨Nat.zero_le _, Nat.zero_le _⟩ rfl (Nat.le_of_ble_eq_true rfl) dX2_findFollowers_33) (fun r_33 q_33 => ?_)
        obtain rfl := q_33
        refine lv_if_ne (tgt := 51) hx hb dX2_findFollowers_36 (by decide) (fun c_36 => ?_) (fun c_36 => ?_)
        · have c_36 := zI_ne c_36
          refine lv_iinc (v := nI (i + 1)) (lv' := [(3, .int (nI (i + 1))), (0, .ref (ad 0)), (1, .int (nI v)), (2, .int r_12)]) hx hb dX2_findFollowers_51 hl (k := 3) rfl (nI_succ i).symm (by decide) rfl (fun ls hl => ?_)
          refine lv_goto (tgt := 18) hx hb dX2_findFollowers_54 (by decide) ?_
          exact ih (i + 1, U1) _ _ _ ⟨hh, (lv_sub hl [1, 2, 3, 0] rfl), (by omega), hf1, (gr1.no (fun hq => by first | exact hq.1 c_28 | exact hq.2 ((q_12 i).mp c_36)))⟩ (by dsimp only; omega)
        · have c_36 := zI_0.mp c_36
          refine lv_aload_n hx hb dX2_findFollowers_39 rfl (lv_at hl 0 rfl) ?_
          refine gfl hx hb hg inX2 hown hK hh.1 0 (ci := 2) rfl rfl 3 (by decide) wd_122 rfl dX2_findFollowers_40 ?_
          refine lv_iload_n hx hb dX2_findFollowers_43 rfl (lv_at hl 3 rfl) ?_
          refine lv_dup2_11 hx hb dX2_findFollowers_44 rfl rfl ?_
          refine ldn hx hb hK hh.1 3 0 rfl rfl (by omega) (by decide) dX2_findFollowers_45 ?_
          refine lv_iconst (v := 1) hx hb dX2_findFollowers_46 (by decide) ?_
          refine lv_iload_n hx hb dX2_findFollowers_47 rfl (lv_at hl 1 rfl) ?_
          refine lv_ishl hx hb dX2_findFollowers_48 ?_
          refine topv (bitI v) rfl ?_
          refine lv_ior hx hb dX2_findFollowers_49 ?_
          refine stn (j := i) hx hb hK hh 3 0 rfl rfl (by omega) (by decide) dX2_findFollowers_50 (wR k ad (va_up U1 3 (upd (U1 3) i (((U1 3) i) ||| (bitI v))))) rfl (fun H locs hh => ?_)
          refine lv_iinc (v := nI (i + 1)) (lv' := [(3, .int (nI (i + 1))), (0, .ref (ad 0)), (1, .int (nI v)), (2, .int r_12)]) hx hb dX2_findFollowers_51 hl (k := 3) rfl (nI_succ i).symm (by decide) rfl (fun ls hl => ?_)
          refine lv_goto (tgt := 18) hx hb dX2_findFollowers_54 (by decide) ?_
          exact ih (i + 1, va_up U1 3 (upd (U1 3) i (((U1 3) i) ||| (bitI v)))) _ _ _ ⟨hh, (lv_sub hl [1, 2, 3, 0] rfl), (by omega), (hf1.up (by decide)), (gr1.yes (by omega) ⟨c_28, fun z => by rw [(q_12 i).mpr z] at c_36; cases c_36⟩)⟩ (by dsimp only; omega)
abbrev rmX2_findHangingByControl : Room := { frames := 1, cells := 0, slots := 0, locals := 21 }
theorem lk_X2_findHangingByControl : Lk yX2_findHangingByControl 1 := by decide +kernel
set_option maxHeartbeats 4000000 in
set_option maxRecDepth 100000 in
/-- findHangingByControl(u) -/
theorem c_X2_findHangingByControl (l : Launch) (D : va_G) (k : Nat → ClassId) (ad : Nat → Nat) (V : St) {n : Nat} (hn : V 0 0 = nI n) (hn24 : n ≤ 24) {u : Nat} (hu : u < n) (hg0 : Grid n u 0 (fun v u => (bt (V 2 u) v = true ∨ ∃ s, s < n ∧ bt (V 2 u) s = true ∧ bt (V 3 s) v = true) ∧ ¬ bt (V 3 u) v = true) (V 14)) : CtX noX l yX2_findHangingByControl cX2_findHangingByControl 4 none rmX2_findHangingByControl D (tyL k) (wR k ad V) [.ref (ad 0), .int (nI u)] (qV D (wR k ad) (fun U => Fr [14] V U ∧ Grid n (u + 1) 0 (fun v u => (bt (V 2 u) v = true ∨ ∃ s, s < n ∧ bt (V 2 u) s = true ∧ bt (V 3 s) v = true) ∧ ¬ bt (V 3 u) v = true) (U 14))) := by
  refine CtX.mk (by decide) (Nat.le_of_ble_eq_true rfl) ?_
  intro p e s m below meth c hx hb hml hown hg hr hlocks hK hN A hA hX hh ls hl
  have hh : Hd D A (wR k ad V) s.heap s.heap [] := hh
  have hl : lv_has ls 4 [(0, .ref (ad 0)), (1, .int (nI u))] := hl
  refine lv_aload_n hx hb dX2_findHangingByControl_0 rfl (lv_at hl 0 rfl) ?_
  refine gfl hx hb hg inX2 hown hK hh.1 0 (ci := 2) rfl rfl 2 (by decide) wd_121 rfl dX2_findHangingByControl_1 ?_
  refine lv_iload_n hx hb dX2_findHangingByControl_4 rfl (lv_at hl 1 rfl) ?_
  refine ldn hx hb hK hh.1 2 0 rfl rfl (by omega) (by decide) dX2_findHangingByControl_5 ?_
  refine lv_istore_n (lv' := [(2, .int ((V 2) u)), (0, .ref (ad 0)), (1, .int (nI u))]) hx hb dX2_findHangingByControl_6 rfl hl (by decide) rfl (fun ls hl => ?_)
  refine lv_iconst (v := 0) hx hb dX2_findHangingByControl_7 (by decide) ?_
  refine lv_istore_n (lv' := [(3, .int 0), (2, .int ((V 2) u)), (0, .ref (ad 0)), (1, .int (nI u))]) hx hb dX2_findHangingByControl_8 rfl hl (by decide) rfl (fun ls hl => ?_)
  refine loopW (σ := Int32 × Nat) (fun zz9 H locs ls => match zz9 with | (x, i) => Hd D A (wR k ad V) s.heap H locs ∧ lv_has ls 4 [(0, .ref (ad 0)), (1, .int (nI u)), (2, .int x), (3, .int (nI i))] ∧ (i ≤ n) ∧ (∀ v, bt x v = true ↔ bt (V 2 u) v = true ∨ ∃ s, s < i ∧ bt (V 2 u) s = true ∧ bt (V 3 s) v = true)) (fun zz9 => match zz9 with | (x, i) => n - i) ?_ (V 2 u, 0) ⟨hh, (lv_sub hl [2, 3, 1, 0] rfl), (by omega), (fun v => ⟨Or.inl, fun z => z.elim id (fun ⟨_, h, _⟩ => absurd h (Nat.not_lt_zero _))⟩)⟩
  intro zz9 H locs ls hI ih
  obtain ⟨x, i⟩ := zz9
  obtain ⟨hh, hl, hi, hL⟩ := hI
  refine lv_iload_n hx hb dX2_findHangingByControl_9 rfl (lv_at hl 3 rfl) ?_
  refine lv_aload_n hx hb dX2_findHangingByControl_10 rfl (lv_at hl 0 rfl) ?_
  refine gfl hx hb hg inX2 hown hK hh.1 0 (ci := 2) rfl rfl 0 (by decide) wd_119 rfl dX2_findHangingByControl_11 ?_
  refine topv (nI n) hn ?_
  refine lv_icmp_ge (tgt := 45) hx hb dX2_findHangingByControl_14 (by decide) (fun c_14 => ?_) (fun c_14 => ?_)
  · have c_14 : n ≤ i := (nI_leI (a := n) (b := i) (by omega) (by omega)).mp c_14
    refine lv_iload_n hx hb dX2_findHangingByControl_45 rfl (lv_at hl 2 rfl) ?_
    refine lv_aload_n hx hb dX2_findHangingByControl_46 rfl (lv_at hl 0 rfl) ?_
    refine gfl hx hb hg inX2 hown hK hh.1 0 (ci := 2) rfl rfl 3 (by decide) wd_122 rfl dX2_findHangingByControl_47 ?_
    refine lv_iload_n hx hb dX2_findHangingByControl_50 rfl (lv_at hl 1 rfl) ?_
    refine ldn hx hb hK hh.1 3 0 rfl rfl (by omega) (by decide) dX2_findHangingByControl_51 ?_
    refine lv_iconst (v := (-1)) hx hb dX2_findHangingByControl_52 (by decide) ?_
    refine lv_ixor hx hb dX2_findHangingByControl_53 ?_
    refine lv_iand hx hb dX2_findHangingByControl_54 ?_
    refine lv_istore_n (lv' := [(2, .int (x &&& (((V 3) u) ^^^ (-1)))), (0, .ref (ad 0)), (1, .int (nI u)), (3, .int (nI i))]) hx hb dX2_findHangingByControl_55 rfl hl (by decide) rfl (fun ls hl => ?_)
    have hB : ∀ v, v < 32 → (bt (x &&& (V 3 u ^^^ (-1))) v = true ↔ (fun v u => (bt (V 2 u) v = true ∨ ∃ s, s < n ∧ bt (V 2 u) s = true ∧ bt (V 3 s) v = true) ∧ ¬ bt (V 3 u) v = true) v u) := fun v hv => by rw [b_and, Bool.and_eq_true, b_not hv, hL v, show i = n by omega]; simp
    refine lv_iconst (v := 0) hx hb dX2_findHangingByControl_56 (by decide) ?_
    refine lv_istore_n (lv' := [(3, .int 0), (2, .int (x &&& (((V 3) u) ^^^ (-1)))), (0, .ref (ad 0)), (1, .int (nI u))]) hx hb dX2_findHangingByControl_57 rfl hl (by decide) rfl (fun ls hl => ?_)
    refine loopW (σ := Nat × St) (fun zz9 H locs ls => match zz9 with | (i, U) => Hd D A (wR k ad U) s.heap H locs ∧ lv_has ls 4 [(0, .ref (ad 0)), (1, .int (nI u)), (2, .int (x &&& (((V 3) u) ^^^ (-1)))), (3, .int (nI i))] ∧ (i ≤ n) ∧ (Fr [14] V U) ∧ (Grid n u i (fun v u => (bt (V 2 u) v = true ∨ ∃ s, s < n ∧ bt (V 2 u) s = true ∧ bt (V 3 s) v = true) ∧ ¬ bt (V 3 u) v = true) (U 14))) (fun zz9 => match zz9 with | (i, U) => n - i) ?_ (0, V) ⟨hh, (lv_sub hl [2, 3, 1, 0] rfl), (by omega), Fr.rf, hg0⟩
    intro zz9 H locs ls hI ih
    obtain ⟨i, U⟩ := zz9
    obtain ⟨hh, hl, hi, hf, gr⟩ := hI
    have hnU : U 0 0 = nI n := (hf.at 0 (by decide) 0).trans hn
    refine lv_iload_n hx hb dX2_findHangingByControl_58 rfl (lv_at hl 3 rfl) ?_
    refine lv_aload_n hx hb dX2_findHangingByControl_59 rfl (lv_at hl 0 rfl) ?_
    refine gfl hx hb hg inX2 hown hK hh.1 0 (ci := 2) rfl rfl 0 (by decide) wd_119 rfl dX2_findHangingByControl_60 ?_
    refine topv (nI n) hnU ?_
    refine lv_icmp_ge (tgt := 94) hx hb dX2_findHangingByControl_63 (by decide) (fun c_63 => ?_) (fun c_63 => ?_)
    · have c_63 : n ≤ i := (nI_leI (a := n) (b := i) (by omega) (by omega)).mp c_63
      exact retV (Wd := wR k ad) (U) hx hb hr hlocks dX2_findHangingByControl_94 hh (by rw [show i = n by omega] at gr; exact ⟨hf, gr.next⟩)
    · have c_63 : ¬ n ≤ i := fun z => c_63 ((nI_leI (a := n) (b := i) (by omega) (by omega)).mpr z)
      refine lv_iload_n hx hb dX2_findHangingByControl_66 rfl (lv_at hl 2 rfl) ?_
      refine lv_iload_n hx hb dX2_findHangingByControl_67 rfl (lv_at hl 3 rfl) ?_
      refine callR (runSN hx hb hg hown hml hl.1 hN (c_X3_holds l D k (x &&& (((V 3) u) ^^^ (-1))) (q := i) (by omega)) [.int (x &&& (((V 3) u) ^^^ (-1))), .int (nI i)] [] (preR (mapSome_sub hh.1 [] rfl) hK hN xb0 x0) 323 nst_323 wd_324 wd_49 wd_325 lk_X3_holds ⟨rfl, rfl⟩ ⟨by decide, by decide⟩ ⟨Nat.zero_le _, Nat.zero_le _⟩ rfl (Nat.le_of_ble_eq_true rfl) dX2_findHangingByControl_68) (fun r_68 q_68 => ?_)
      obtain rfl := q_68
      refine lv_if_eq (tgt := 88) hx hb dX2_findHangingByControl_71 (by decide) (fun c_71 => ?_) (fun c_71 => ?_)
      · have c_71 := zI_0.mp c_71
        refine lv_iinc (v := nI (i + 1)) (lv' := [(3, .int (nI (i + 1))), (0, .ref (ad 0)), (1, .int (nI u)), (2, .int (x &&& (((V 3) u) ^^^ (-1))))]) hx hb dX2_findHangingByControl_88 hl (k := 3) rfl (nI_succ i).symm (by decide) rfl (fun ls hl => ?_)
        refine lv_goto (tgt := 58) hx hb dX2_findHangingByControl_91 (by decide) ?_
        exact ih (i + 1, U) _ _ _ ⟨hh, (lv_sub hl [1, 2, 3, 0] rfl), (by omega), hf, (gr.no (fun hq => by rw [(hB i (by omega)).mpr hq] at c_71; cases c_71))⟩ (by dsimp only; omega)
      · have c_71 := zI_ne c_71
        refine lv_aload_n hx hb dX2_findHangingByControl_74 rfl (lv_at hl 0 rfl) ?_
        refine gfl hx hb hg inX2 hown hK hh.1 0 (ci := 2) rfl rfl 4 (by decide) wd_123 rfl dX2_findHangingByControl_75 ?_
        refine lv_iconst (v := 4) hx hb dX2_findHangingByControl_78 (by decide) ?_
        refine topv (nI 4) rfl ?_
        refine ldq (x := ad (10 + 4)) hx hb hK hh.1 4 2 rfl rfl rfl (by omega) (by decide) rfl dX2_findHangingByControl_79 ?_
        refine lv_iload_n hx hb dX2_findHangingByControl_80 rfl (lv_at hl 3 rfl) ?_
        refine lv_dup2_11 hx hb dX2_findHangingByControl_81 rfl rfl ?_
        refine ldn hx hb hK hh.1 14 0 rfl rfl (by omega) (by decide) dX2_findHangingByControl_82 ?_
        refine lv_iconst (v := 1) hx hb dX2_findHangingByControl_83 (by decide) ?_
        refine lv_iload_n hx hb dX2_findHangingByControl_84 rfl (lv_at hl 1 rfl) ?_
        refine lv_ishl hx hb dX2_findHangingByControl_85 ?_
        refine topv (bitI u) rfl ?_
        refine lv_ior hx hb dX2_findHangingByControl_86 ?_
        refine stn (j := i) hx hb hK hh 14 0 rfl rfl (by omega) (by decide) dX2_findHangingByControl_87 (wR k ad (va_up U 14 (upd (U 14) i (((U 14) i) ||| (bitI u))))) rfl (fun H locs hh => ?_)
        refine lv_iinc (v := nI (i + 1)) (lv' := [(3, .int (nI (i + 1))), (0, .ref (ad 0)), (1, .int (nI u)), (2, .int (x &&& (((V 3) u) ^^^ (-1))))]) hx hb dX2_findHangingByControl_88 hl (k := 3) rfl (nI_succ i).symm (by decide) rfl (fun ls hl => ?_)
        refine lv_goto (tgt := 58) hx hb dX2_findHangingByControl_91 (by decide) ?_
        exact ih (i + 1, va_up U 14 (upd (U 14) i (((U 14) i) ||| (bitI u)))) _ _ _ ⟨hh, (lv_sub hl [1, 2, 3, 0] rfl), (by omega), (hf.up (by decide)), (gr.yes (by omega) ((hB i (by omega)).mp c_71))⟩ (by dsimp only; omega)
  · have c_14 : ¬ n ≤ i := fun z => c_14 ((nI_leI (a := n) (b := i) (by omega) (by omega)).mpr z)
    refine lv_aload_n hx hb dX2_findHangingByControl_17 rfl (lv_at hl 0 rfl) ?_
    refine gfl hx hb hg inX2 hown hK hh.1 0 (ci := 2) rfl rfl 2 (by decide) wd_121 rfl dX2_findHangingByControl_18 ?_
    refine lv_iload_n hx hb dX2_findHangingByControl_21 rfl (lv_at hl 1 rfl) ?_
    refine ldn hx hb hK hh.1 2 0 rfl rfl (by omega) (by decide) dX2_findHangingByControl_22 ?_
    refine lv_iload_n hx hb dX2_findHangingByControl_23 rfl (lv_at hl 3 rfl) ?_
    refine callR (runSN hx hb hg hown hml hl.1 hN (c_X3_holds l D k ((V 2) u) (q := i) (by omega)) [.int ((V 2) u), .int (nI i)] [] (preR (mapSome_sub hh.1 [] rfl) hK hN xb0 x0) 323 nst_323 wd_324 wd_49 wd_325 lk_X3_holds ⟨rfl, rfl⟩ ⟨by decide, by decide⟩ ⟨Nat.zero_le _, Nat.zero_le _⟩ rfl (Nat.le_of_ble_eq_true rfl) dX2_findHangingByControl_24) (fun r_24 q_24 => ?_)
    obtain rfl := q_24
    refine lv_if_eq (tgt := 39) hx hb dX2_findHangingByControl_27 (by decide) (fun c_27 => ?_) (fun c_27 => ?_)
    · have c_27 := zI_0.mp c_27
      refine lv_iinc (v := nI (i + 1)) (lv' := [(3, .int (nI (i + 1))), (0, .ref (ad 0)), (1, .int (nI u)), (2, .int x)]) hx hb dX2_findHangingByControl_39 hl (k := 3) rfl (nI_succ i).symm (by decide) rfl (fun ls hl => ?_)
      refine lv_goto (tgt := 9) hx hb dX2_findHangingByControl_42 (by decide) ?_
      exact ih (x, i + 1) _ _ _ ⟨hh, (lv_sub hl [1, 2, 3, 0] rfl), (by omega), (fun v => by rw [hL v]; exact ⟨fun z => by rcases z with z | ⟨s1, h1, h2⟩; exact Or.inl z; exact Or.inr ⟨s1, by omega, h2⟩, fun z => by rcases z with z | ⟨s1, h1, h2, h3⟩; exact Or.inl z; rcases Classical.em (s1 = i) with e | e; (subst e; rw [c_27] at h2; cases h2); exact Or.inr ⟨s1, by omega, h2, h3⟩⟩)⟩ (by dsimp only; omega)
    · have c_27 := zI_ne c_27
      refine lv_iload_n hx hb dX2_findHangingByControl_30 rfl (lv_at hl 2 rfl) ?_
      refine lv_aload_n hx hb dX2_findHangingByControl_31 rfl (lv_at hl 0 rfl) ?_
      refine gfl hx hb hg inX2 hown hK hh.1 0 (ci := 2) rfl rfl 3 (by decide) wd_122 rfl dX2_findHangingByControl_32 ?_
      refine lv_iload_n hx hb dX2_findHangingByControl_35 rfl (lv_at hl 3 rfl) ?_
      refine ldn hx hb hK hh.1 3 0 rfl rfl (by omega) (by decide) dX2_findHangingByControl_36 ?_
      refine lv_ior hx hb dX2_findHangingByControl_37 ?_
      refine lv_istore_n (lv' := [(2, .int (x ||| ((V 3) i))), (0, .ref (ad 0)), (1, .int (nI u)), (3, .int (nI i))]) hx hb dX2_findHangingByControl_38 rfl hl (by decide) rfl (fun ls hl => ?_)
      refine lv_iinc (v := nI (i + 1)) (lv' := [(3, .int (nI (i + 1))), (2, .int (x ||| ((V 3) i))), (0, .ref (ad 0)), (1, .int (nI u))]) hx hb dX2_findHangingByControl_39 hl (k := 3) rfl (nI_succ i).symm (by decide) rfl (fun ls hl => ?_)
      refine lv_goto (tgt := 9) hx hb dX2_findHangingByControl_42 (by decide) ?_
      exact ih (x ||| V 3 i, i + 1) _ _ _ ⟨hh, (lv_sub hl [2, 3, 1, 0] rfl), (by omega), (fun v => by rw [b_or, Bool.or_eq_true, hL v]; exact ⟨fun z => by rcases z with (z | ⟨s1, h1, h2⟩) | z; exact Or.inl z; exact Or.inr ⟨s1, by omega, h2⟩; exact Or.inr ⟨i, by omega, c_27, z⟩, fun z => by rcases z with z | ⟨s1, h1, h2, h3⟩; exact Or.inl (Or.inl z); rcases Classical.em (s1 = i) with e | e; (subst e; exact Or.inr h3); exact Or.inl (Or.inr ⟨s1, by omega, h2, h3⟩)⟩)⟩ (by dsimp only; omega)
def RC (n : Nat) (nx : Nat → Int32) (st : Int32) (u v : Nat) : Prop := Cl (fun j => bt (nx u) j = true) (fun y z => y < n ∧ bt st y = false ∧ bt (nx y) z = true) v
abbrev rmX2_findHangingByNames : Room := { frames := 2, cells := 0, slots := 0, locals := 47 }
theorem lk_X2_findHangingByNames : Lk yX2_findHangingByNames 2 := by decide +kernel
set_option maxHeartbeats 4000000 in
set_option maxRecDepth 100000 in
/-- findHangingByNames(program, u) -/
theorem c_X2_findHangingByNames (l : Launch) (D : va_G) (k : Nat → ClassId) (ad : Nat → Nat) (V : St) {n : Nat} (hn : V 0 0 = nI n) (hn24 : n ≤ 24) (bd : Nat → Nat) (Pv : St) (hv : okV n Pv) (hN1 : ∀ p, p < n → V 1 p = nxI n Pv p) {u : Nat} (hu : u < n) (hg0 : Grid n u 0 (fun v u => kd Pv u = 7 ∧ kd Pv v = 8 ∧ RC n (V 1) 0 u v ∧ shB Pv u v = true) (V 12)) : CtX noX l yX2_findHangingByNames cX2_findHangingByNames 5 none rmX2_findHangingByNames D (tyL k) ((wR k ad V) ++ (wP k bd Pv)) [.ref (ad 0), .ref (bd 0), .int (nI u)] (qV D (fun U => (wR k ad U) ++ (wP k bd Pv)) (fun U => Fr [12] V U ∧ Grid n (u + 1) 0 (fun v u => kd Pv u = 7 ∧ kd Pv v = 8 ∧ RC n (V 1) 0 u v ∧ shB Pv u v = true) (U 12))) := by
  refine CtX.mk (by decide) (Nat.le_of_ble_eq_true rfl) ?_
  intro p e s m below meth c hx hb hml hown hg hr hlocks hK hN A hA hX hh ls hl
  have hh : Hd D A ((wR k ad V) ++ (wP k bd Pv)) s.heap s.heap [] := hh
  have hl : lv_has ls 5 [(0, .ref (ad 0)), (1, .ref (bd 0)), (2, .int (nI u))] := hl
  have hV : ∀ p, p < n → ∀ j, bt (V 1 p) j = true → j < 25 := fun p hp j h => b_nxI hn24 (by rw [← hN1 p hp]; exact h)
  obtain ⟨ju, hku, hju, hlAu, hlBu, hlCu⟩ := hv.2.2.1 u (by omega)
  refine lv_aload_n hx hb dX2_findHangingByNames_0 rfl (lv_at hl 1 rfl) ?_
  refine gflN hx hb hg hN inX1 hown hK hh.1 15 (ci := 1) rfl rfl 0 (by decide) 73 nst_73 rfl dX2_findHangingByNames_1 ?_
  refine lv_iload_n hx hb dX2_findHangingByNames_4 rfl (lv_at hl 2 rfl) ?_
  refine ldn hx hb hK hh.1 16 0 rfl rfl (by omega) (by decide) dX2_findHangingByNames_5 ?_
  refine topv (nI ju) hku ?_
  refine lv_bipush (v := 7) hx hb dX2_findHangingByNames_6 (by decide) ?_
  refine lv_icmp_eq (tgt := 12) hx hb dX2_findHangingByNames_8 (by decide) (fun c_8 => ?_) (fun c_8 => ?_)
  · have c_8 : ju = 7 := (nI_eq (a := ju) (b := 7) (by omega) (by omega)).mp c_8
    have hk7 : kd Pv u = 7 := by rw [kd_of hku hju]; exact c_8
    refine lv_aload_n hx hb dX2_findHangingByNames_12 rfl (lv_at hl 0 rfl) ?_
    refine lv_iload_n hx hb dX2_findHangingByNames_13 rfl (lv_at hl 2 rfl) ?_
    refine lv_iconst (v := 0) hx hb dX2_findHangingByNames_14 (by decide) ?_
    refine callR (runV hx hb hg hown hml hl.1 (c_X2_reachedFrom l D k ad V hn hn24 hV hu 0) [.int (nI u), .int 0] [] (preR (mapSome_sub hh.1 [0, 1, 2, 3, 4, 5, 6, 7, 8, 9, 10, 11, 12, 13, 14] rfl) hK hN xb0 x0) (va_recv hK hh.1 (ci := 2) (q0 := 0) rfl rfl) wd_344 wd_346 wd_8 wd_51 wd_347 lk_X2_reachedFrom ⟨rfl, rfl⟩ ⟨by decide, by decide⟩ ⟨Nat.zero_le _, Nat.zero_le _⟩ rfl (Nat.le_of_ble_eq_true rfl) dX2_findHangingByNames_15) (fun r_15 q_15 => ?_)
    refine lv_istore_n (lv' := [(3, .int r_15), (0, .ref (ad 0)), (1, .ref (bd 0)), (2, .int (nI u))]) hx hb dX2_findHangingByNames_18 rfl hl (by decide) rfl (fun ls hl => ?_)
    refine lv_iconst (v := 0) hx hb dX2_findHangingByNames_19 (by decide) ?_
    refine lv_istore (lv' := [(4, .int 0), (3, .int r_15), (0, .ref (ad 0)), (1, .ref (bd 0)), (2, .int (nI u))]) hx hb dX2_findHangingByNames_20 hl (by decide) rfl (fun ls hl => ?_)
    refine loopW (σ := Nat × St) (fun zz9 H locs ls => match zz9 with | (i, U) => Hd D A ((wR k ad U) ++ (wP k bd Pv)) s.heap H locs ∧ lv_has ls 5 [(0, .ref (ad 0)), (1, .ref (bd 0)), (2, .int (nI u)), (3, .int r_15), (4, .int (nI i))] ∧ (i ≤ n) ∧ (Fr [12] V U) ∧ (Grid n u i (fun v u => kd Pv u = 7 ∧ kd Pv v = 8 ∧ RC n (V 1) 0 u v ∧ shB Pv u v = true) (U 12))) (fun zz9 => match zz9 with | (i, U) => n - i) ?_ (0, V) ⟨hh, (lv_sub hl [2, 3, 4, 1, 0] rfl), (by omega), Fr.rf, hg0⟩
    intro zz9 H locs ls hI ih
    obtain ⟨i, U⟩ := zz9
    obtain ⟨hh, hl, hi, hf, gr⟩ := hI
    have hnU : U 0 0 = nI n := (hf.at 0 (by decide) 0).trans hn
    refine lv_iload hx hb dX2_findHangingByNames_22 (lv_at hl 4 rfl) ?_
    refine lv_aload_n hx hb dX2_findHangingByNames_24 rfl (lv_at hl 0 rfl) ?_
    refine gfl hx hb hg inX2 hown hK hh.1 0 (ci := 2) rfl rfl 0 (by decide) wd_119 rfl dX2_findHangingByNames_25 ?_
    refine topv (nI n) hnU ?_
    refine lv_icmp_ge (tgt := 83) hx hb dX2_findHangingByNames_28 (by decide) (fun c_28 => ?_) (fun c_28 => ?_)
    · have c_28 : n ≤ i := (nI_leI (a := n) (b := i) (by omega) (by omega)).mp c_28
      exact retV (Wd := fun U => (wR k ad U) ++ (wP k bd Pv)) (U) hx hb hr hlocks dX2_findHangingByNames_83 hh (by rw [show i = n by omega] at gr; exact ⟨hf, gr.next⟩)
    · have c_28 : ¬ n ≤ i := fun z => c_28 ((nI_leI (a := n) (b := i) (by omega) (by omega)).mpr z)
      obtain ⟨jv, hkv, hjv, hlAv, hlBv, hlCv⟩ := hv.2.2.1 i (by omega)
      refine lv_iload_n hx hb dX2_findHangingByNames_31 rfl (lv_at hl 3 rfl) ?_
      refine lv_iload hx hb dX2_findHangingByNames_32 (lv_at hl 4 rfl) ?_
      refine callR (runSN hx hb hg hown hml hl.1 hN (c_X3_holds l D k (r_15) (q := i) (by omega)) [.int r_15, .int (nI i)] [] (preR (mapSome_sub hh.1 [] rfl) hK hN xb0 x0) 323 nst_323 wd_324 wd_49 wd_325 lk_X3_holds ⟨rfl, rfl⟩ ⟨by decide, by decide⟩ ⟨Nat.zero_le _, Nat.zero_le _⟩ rfl (Nat.le_of_ble_eq_true rfl) dX2_findHangingByNames_34) (fun r_34 q_34 => ?_)
      obtain rfl := q_34
      refine lv_if_eq (tgt := 77) hx hb dX2_findHangingByNames_37 (by decide) (fun c_37 => ?_) (fun c_37 => ?_)
      · have c_37 := zI_0.mp c_37
        refine lv_iinc (v := nI (i + 1)) (lv' := [(4, .int (nI (i + 1))), (0, .ref (ad 0)), (1, .ref (bd 0)), (2, .int (nI u)), (3, .int r_15)]) hx hb dX2_findHangingByNames_77 hl (k := 4) rfl (nI_succ i).symm (by decide) rfl (fun ls hl => ?_)
        refine lv_goto (tgt := 22) hx hb dX2_findHangingByNames_80 (by decide) ?_
        exact ih (i + 1, U) _ _ _ ⟨hh, (lv_sub hl [1, 2, 3, 4, 0] rfl), (by omega), hf, (gr.no (fun hq => by first | (rw [(q_15 i).mpr hq.2.2.1] at c_37; cases c_37; done) | exact c_49 (by rw [← kd_of hkv hjv]; exact hq.2.1) | (rw [hq.2.2.2] at c_59; cases c_59; done)))⟩ (by dsimp only; omega)
      · have c_37 := zI_ne c_37
        refine lv_aload_n hx hb dX2_findHangingByNames_40 rfl (lv_at hl 1 rfl) ?_
        refine gflN hx hb hg hN inX1 hown hK hh.1 15 (ci := 1) rfl rfl 0 (by decide) 73 nst_73 rfl dX2_findHangingByNames_41 ?_
        refine lv_iload hx hb dX2_findHangingByNames_44 (lv_at hl 4 rfl) ?_
        refine ldn hx hb hK hh.1 16 0 rfl rfl (by omega) (by decide) dX2_findHangingByNames_46 ?_
        refine topv (nI jv) hkv ?_
        refine lv_bipush (v := 8) hx hb dX2_findHangingByNames_47 (by decide) ?_
        refine lv_icmp_ne (tgt := 77) hx hb dX2_findHangingByNames_49 (by decide) (fun c_49 => ?_) (fun c_49 => ?_)
        · have c_49 : ¬ jv = 8 := fun z => c_49 ((nI_eq (a := jv) (b := 8) (by omega) (by omega)).mpr z)
          refine lv_iinc (v := nI (i + 1)) (lv' := [(4, .int (nI (i + 1))), (0, .ref (ad 0)), (1, .ref (bd 0)), (2, .int (nI u)), (3, .int r_15)]) hx hb dX2_findHangingByNames_77 hl (k := 4) rfl (nI_succ i).symm (by decide) rfl (fun ls hl => ?_)
          refine lv_goto (tgt := 22) hx hb dX2_findHangingByNames_80 (by decide) ?_
          exact ih (i + 1, U) _ _ _ ⟨hh, (lv_sub hl [1, 2, 3, 4, 0] rfl), (by omega), hf, (gr.no (fun hq => by first | (rw [(q_15 i).mpr hq.2.2.1] at c_37; cases c_37; done) | exact c_49 (by rw [← kd_of hkv hjv]; exact hq.2.1) | (rw [hq.2.2.2] at c_59; cases c_59; done)))⟩ (by dsimp only; omega)
        · have c_49 : jv = 8 := (nI_eq (a := jv) (b := 8) (by omega) (by omega)).mp c_49
          refine lv_aload_n hx hb dX2_findHangingByNames_52 rfl (lv_at hl 1 rfl) ?_
          refine lv_iload_n hx hb dX2_findHangingByNames_53 rfl (lv_at hl 2 rfl) ?_
          refine lv_iload hx hb dX2_findHangingByNames_54 (lv_at hl 4 rfl) ?_
          refine callR (runV hx hb hg hown hml hl.1 (c_X1_mayShareRow l D k bd Pv hv (q := u) (by omega) (v := i) (by omega) (vp_lim (n := 4) (by rw [c_8] at hlCu; exact hlCu) (by decide) (by decide)) (vp_lim (n := 4) (by rw [c_49] at hlCv; exact hlCv) (by decide) (by decide))) [.int (nI u), .int (nI i)] [] (preR (mapSome_sub hh.1 [15, 16, 17, 18, 19, 20, 21, 22] rfl) hK hN xb0 x0) (va_recv hK hh.1 (ci := 1) (q0 := 15) rfl rfl) wd_361 wd_362 wd_363 wd_50 wd_364 lk_X1_mayShareRow ⟨rfl, rfl⟩ ⟨by decide, by decide⟩ ⟨Nat.zero_le _, Nat.zero_le _⟩ rfl (Nat.le_of_ble_eq_true rfl) dX2_findHangingByNames_56) (fun r_56 q_56 => ?_)
          obtain rfl := q_56
          refine lv_if_eq (tgt := 77) hx hb dX2_findHangingByNames_59 (by decide) (fun c_59 => ?_) (fun c_59 => ?_)
          · have c_59 := zI_0.mp c_59
            refine lv_iinc (v := nI (i + 1)) (lv' := [(4, .int (nI (i + 1))), (0, .ref (ad 0)), (1, .ref (bd 0)), (2, .int (nI u)), (3, .int r_15)]) hx hb dX2_findHangingByNames_77 hl (k := 4) rfl (nI_succ i).symm (by decide) rfl (fun ls hl => ?_)
            refine lv_goto (tgt := 22) hx hb dX2_findHangingByNames_80 (by decide) ?_
            exact ih (i + 1, U) _ _ _ ⟨hh, (lv_sub hl [1, 2, 3, 4, 0] rfl), (by omega), hf, (gr.no (fun hq => by first | (rw [(q_15 i).mpr hq.2.2.1] at c_37; cases c_37; done) | exact c_49 (by rw [← kd_of hkv hjv]; exact hq.2.1) | (rw [hq.2.2.2] at c_59; cases c_59; done)))⟩ (by dsimp only; omega)
          · have c_59 := zI_ne c_59
            refine lv_aload_n hx hb dX2_findHangingByNames_62 rfl (lv_at hl 0 rfl) ?_
            refine gfl hx hb hg inX2 hown hK hh.1 0 (ci := 2) rfl rfl 4 (by decide) wd_123 rfl dX2_findHangingByNames_63 ?_
            refine lv_iconst (v := 2) hx hb dX2_findHangingByNames_66 (by decide) ?_
            refine topv (nI 2) rfl ?_
            refine ldq (x := ad (10 + 2)) hx hb hK hh.1 4 2 rfl rfl rfl (by omega) (by decide) rfl dX2_findHangingByNames_67 ?_
            refine lv_iload hx hb dX2_findHangingByNames_68 (lv_at hl 4 rfl) ?_
            refine lv_dup2_11 hx hb dX2_findHangingByNames_70 rfl rfl ?_
            refine ldn hx hb hK hh.1 12 0 rfl rfl (by omega) (by decide) dX2_findHangingByNames_71 ?_
            refine lv_iconst (v := 1) hx hb dX2_findHangingByNames_72 (by decide) ?_
            refine lv_iload_n hx hb dX2_findHangingByNames_73 rfl (lv_at hl 2 rfl) ?_
            refine lv_ishl hx hb dX2_findHangingByNames_74 ?_
            refine topv (bitI u) rfl ?_
            refine lv_ior hx hb dX2_findHangingByNames_75 ?_
            refine stn (j := i) hx hb hK hh 12 0 rfl rfl (by omega) (by decide) dX2_findHangingByNames_76 ((wR k ad (va_up U 12 (upd (U 12) i (((U 12) i) ||| (bitI u))))) ++ (wP k bd Pv)) rfl (fun H locs hh => ?_)
            refine lv_iinc (v := nI (i + 1)) (lv' := [(4, .int (nI (i + 1))), (0, .ref (ad 0)), (1, .ref (bd 0)), (2, .int (nI u)), (3, .int r_15)]) hx hb dX2_findHangingByNames_77 hl (k := 4) rfl (nI_succ i).symm (by decide) rfl (fun ls hl => ?_)
            refine lv_goto (tgt := 22) hx hb dX2_findHangingByNames_80 (by decide) ?_
            exact ih (i + 1, va_up U 12 (upd (U 12) i (((U 12) i) ||| (bitI u)))) _ _ _ ⟨hh, (lv_sub hl [1, 2, 3, 4, 0] rfl), (by omega), (hf.up (by decide)), (gr.yes (by omega) ⟨hk7, by rw [kd_of hkv hjv]; exact c_49, (q_15 i).mp c_37, c_59⟩)⟩ (by dsimp only; omega)
  · have c_8 : ¬ ju = 7 := fun z => c_8 ((nI_eq (a := ju) (b := 7) (by omega) (by omega)).mpr z)
    exact retV (Wd := fun U => (wR k ad U) ++ (wP k bd Pv)) (V) hx hb hr hlocks dX2_findHangingByNames_11 hh (⟨Fr.rf, hg0.skip (fun v _ hq => c_8 (by rw [← kd_of hku hju]; exact hq.1))⟩)
end
section
theorem zz_true : True := trivial
end
