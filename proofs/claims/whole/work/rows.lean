section
-- ===== PART A: goes FIRST, ahead of the names: the tables' words, and 'selects' of the private methods out of them =====
/-- a private method of a class that the tables say can be made, by its rows of tables_1 -/
def lw_okq (q : MethodName × Nat) : Prop := (q.1.cls ≠ "java/lang/invoke/MethodHandle" ∧ q.1.cls ≠ "java/lang/invoke/VarHandle") ∧ Cond.instantiable q.1.cls q.2 ∈ tables_1 ∧ Cond.privateMethod q.1 ∈ tables_1 ∧ Cond.instanceMethod q.1 ∈ tables_1
theorem lw_p0 : lw_okq (⟨"SlittingOffice$Pattern", "empty", "()V"⟩, 2) := ⟨⟨by decide +kernel, by decide +kernel⟩, List.mem_of_getElem? (i := 29) (by decide +kernel), List.mem_of_getElem? (i := 218) (by decide +kernel), List.mem_of_getElem? (i := 219) (by decide +kernel)⟩
theorem lw_p1 : lw_okq (⟨"SlittingOffice", "readMoves", "()V"⟩, 17) := ⟨⟨by decide +kernel, by decide +kernel⟩, List.mem_of_getElem? (i := 16) (by decide +kernel), List.mem_of_getElem? (i := 238) (by decide +kernel), List.mem_of_getElem? (i := 239) (by decide +kernel)⟩
theorem lw_p2 : lw_okq (⟨"SlittingOffice", "movesBetween", "(II)I"⟩, 17) := ⟨⟨by decide +kernel, by decide +kernel⟩, List.mem_of_getElem? (i := 16) (by decide +kernel), List.mem_of_getElem? (i := 242) (by decide +kernel), List.mem_of_getElem? (i := 243) (by decide +kernel)⟩
theorem lw_p3 : lw_okq (⟨"SlittingOffice", "hasPattern", "(I)Z"⟩, 17) := ⟨⟨by decide +kernel, by decide +kernel⟩, List.mem_of_getElem? (i := 16) (by decide +kernel), List.mem_of_getElem? (i := 246) (by decide +kernel), List.mem_of_getElem? (i := 247) (by decide +kernel)⟩
theorem lw_p4 : lw_okq (⟨"SlittingOffice$Pattern", "knivesNeeded", "()I"⟩, 2) := ⟨⟨by decide +kernel, by decide +kernel⟩, List.mem_of_getElem? (i := 29) (by decide +kernel), List.mem_of_getElem? (i := 250) (by decide +kernel), List.mem_of_getElem? (i := 251) (by decide +kernel)⟩
theorem lw_p5 : lw_okq (⟨"SlittingOffice$Pattern", "knivesNotIn", "(LSlittingOffice$Pattern;)I"⟩, 2) := ⟨⟨by decide +kernel, by decide +kernel⟩, List.mem_of_getElem? (i := 29) (by decide +kernel), List.mem_of_getElem? (i := 254) (by decide +kernel), List.mem_of_getElem? (i := 255) (by decide +kernel)⟩
theorem lw_p6 : lw_okq (⟨"SlittingOffice$Pattern", "hasKnifeAt", "(I)Z"⟩, 2) := ⟨⟨by decide +kernel, by decide +kernel⟩, List.mem_of_getElem? (i := 29) (by decide +kernel), List.mem_of_getElem? (i := 258) (by decide +kernel), List.mem_of_getElem? (i := 259) (by decide +kernel)⟩
theorem lw_p7 : lw_okq (⟨"SlittingOffice$RunOrder", "fewestBySets", "(I)I"⟩, 3) := ⟨⟨by decide +kernel, by decide +kernel⟩, List.mem_of_getElem? (i := 63) (by decide +kernel), List.mem_of_getElem? (i := 262) (by decide +kernel), List.mem_of_getElem? (i := 263) (by decide +kernel)⟩
theorem lw_p8 : lw_okq (⟨"SlittingOffice$RunOrder", "fewestAfter", "(III)I"⟩, 3) := ⟨⟨by decide +kernel, by decide +kernel⟩, List.mem_of_getElem? (i := 63) (by decide +kernel), List.mem_of_getElem? (i := 266) (by decide +kernel), List.mem_of_getElem? (i := 267) (by decide +kernel)⟩
theorem lw_p9 : lw_okq (⟨"SlittingOffice$RunOrder", "movesThrough", "(III)I"⟩, 3) := ⟨⟨by decide +kernel, by decide +kernel⟩, List.mem_of_getElem? (i := 63) (by decide +kernel), List.mem_of_getElem? (i := 273) (by decide +kernel), List.mem_of_getElem? (i := 274) (by decide +kernel)⟩
theorem lw_p10 : lw_okq (⟨"SlittingOffice$RunOrder", "fewestByOrders", "(I)I"⟩, 3) := ⟨⟨by decide +kernel, by decide +kernel⟩, List.mem_of_getElem? (i := 63) (by decide +kernel), List.mem_of_getElem? (i := 287) (by decide +kernel), List.mem_of_getElem? (i := 288) (by decide +kernel)⟩
theorem lw_p11 : lw_okq (⟨"SlittingOffice$RunOrder", "findBest", "(I)V"⟩, 3) := ⟨⟨by decide +kernel, by decide +kernel⟩, List.mem_of_getElem? (i := 63) (by decide +kernel), List.mem_of_getElem? (i := 298) (by decide +kernel), List.mem_of_getElem? (i := 299) (by decide +kernel)⟩
theorem lw_p12 : lw_okq (⟨"SlittingOffice$RunOrder", "leastNext", "(III)I"⟩, 3) := ⟨⟨by decide +kernel, by decide +kernel⟩, List.mem_of_getElem? (i := 63) (by decide +kernel), List.mem_of_getElem? (i := 303) (by decide +kernel), List.mem_of_getElem? (i := 304) (by decide +kernel)⟩
theorem lw_p13 : lw_okq (⟨"SlittingOffice", "canBeRun", "(II)Z"⟩, 17) := ⟨⟨by decide +kernel, by decide +kernel⟩, List.mem_of_getElem? (i := 16) (by decide +kernel), List.mem_of_getElem? (i := 307) (by decide +kernel), List.mem_of_getElem? (i := 308) (by decide +kernel)⟩
theorem lw_p14 : lw_okq (⟨"SlittingOffice", "hasCoil", "(I)Z"⟩, 17) := ⟨⟨by decide +kernel, by decide +kernel⟩, List.mem_of_getElem? (i := 16) (by decide +kernel), List.mem_of_getElem? (i := 311) (by decide +kernel), List.mem_of_getElem? (i := 312) (by decide +kernel)⟩
theorem lw_p15 : lw_okq (⟨"SlittingOffice$Coil", "isSlit", "()Z"⟩, 14) := ⟨⟨by decide +kernel, by decide +kernel⟩, List.mem_of_getElem? (i := 82) (by decide +kernel), List.mem_of_getElem? (i := 315) (by decide +kernel), List.mem_of_getElem? (i := 316) (by decide +kernel)⟩
def lw_privs_1 : List (MethodName × Nat) := [(⟨"SlittingOffice$Pattern", "empty", "()V"⟩, 2), (⟨"SlittingOffice", "readMoves", "()V"⟩, 17), (⟨"SlittingOffice", "movesBetween", "(II)I"⟩, 17), (⟨"SlittingOffice", "hasPattern", "(I)Z"⟩, 17), (⟨"SlittingOffice$Pattern", "knivesNeeded", "()I"⟩, 2), (⟨"SlittingOffice$Pattern", "knivesNotIn", "(LSlittingOffice$Pattern;)I"⟩, 2), (⟨"SlittingOffice$Pattern", "hasKnifeAt", "(I)Z"⟩, 2), (⟨"SlittingOffice$RunOrder", "fewestBySets", "(I)I"⟩, 3), (⟨"SlittingOffice$RunOrder", "fewestAfter", "(III)I"⟩, 3), (⟨"SlittingOffice$RunOrder", "movesThrough", "(III)I"⟩, 3), (⟨"SlittingOffice$RunOrder", "fewestByOrders", "(I)I"⟩, 3), (⟨"SlittingOffice$RunOrder", "findBest", "(I)V"⟩, 3), (⟨"SlittingOffice$RunOrder", "leastNext", "(III)I"⟩, 3), (⟨"SlittingOffice", "canBeRun", "(II)Z"⟩, 17), (⟨"SlittingOffice", "hasCoil", "(I)Z"⟩, 17), (⟨"SlittingOffice$Coil", "isSlit", "()Z"⟩, 14)]
theorem lw_r1 : ∀ q ∈ lw_privs_1, lw_okq q := List.forall_mem_cons.mpr ⟨lw_p0, List.forall_mem_cons.mpr ⟨lw_p1, List.forall_mem_cons.mpr ⟨lw_p2, List.forall_mem_cons.mpr ⟨lw_p3, List.forall_mem_cons.mpr ⟨lw_p4, List.forall_mem_cons.mpr ⟨lw_p5, List.forall_mem_cons.mpr ⟨lw_p6, List.forall_mem_cons.mpr ⟨lw_p7, List.forall_mem_cons.mpr ⟨lw_p8, List.forall_mem_cons.mpr ⟨lw_p9, List.forall_mem_cons.mpr ⟨lw_p10, List.forall_mem_cons.mpr ⟨lw_p11, List.forall_mem_cons.mpr ⟨lw_p12, List.forall_mem_cons.mpr ⟨lw_p13, List.forall_mem_cons.mpr ⟨lw_p14, List.forall_mem_cons.mpr ⟨lw_p15, fun _ h => absurd h List.not_mem_nil⟩⟩⟩⟩⟩⟩⟩⟩⟩⟩⟩⟩⟩⟩⟩⟩
theorem lw_p16 : lw_okq (⟨"SlittingOffice", "canBeCutFrom", "(LSlittingOffice$Pattern;LSlittingOffice$Coil;)Z"⟩, 17) := ⟨⟨by decide +kernel, by decide +kernel⟩, List.mem_of_getElem? (i := 16) (by decide +kernel), List.mem_of_getElem? (i := 319) (by decide +kernel), List.mem_of_getElem? (i := 320) (by decide +kernel)⟩
theorem lw_p17 : lw_okq (⟨"SlittingOffice$Pattern", "totalWidth", "()I"⟩, 2) := ⟨⟨by decide +kernel, by decide +kernel⟩, List.mem_of_getElem? (i := 29) (by decide +kernel), List.mem_of_getElem? (i := 323) (by decide +kernel), List.mem_of_getElem? (i := 324) (by decide +kernel)⟩
theorem lw_p18 : lw_okq (⟨"SlittingOffice", "roomOf", "(LSlittingOffice$Coil;)I"⟩, 17) := ⟨⟨by decide +kernel, by decide +kernel⟩, List.mem_of_getElem? (i := 16) (by decide +kernel), List.mem_of_getElem? (i := 327) (by decide +kernel), List.mem_of_getElem? (i := 328) (by decide +kernel)⟩
theorem lw_p19 : lw_okq (⟨"SlittingOffice", "slitCoil", "(II)I"⟩, 17) := ⟨⟨by decide +kernel, by decide +kernel⟩, List.mem_of_getElem? (i := 16) (by decide +kernel), List.mem_of_getElem? (i := 331) (by decide +kernel), List.mem_of_getElem? (i := 332) (by decide +kernel)⟩
theorem lw_p20 : lw_okq (⟨"SlittingOffice$Coil", "slitBy", "(LSlittingOffice$Pattern;I)V"⟩, 14) := ⟨⟨by decide +kernel, by decide +kernel⟩, List.mem_of_getElem? (i := 82) (by decide +kernel), List.mem_of_getElem? (i := 335) (by decide +kernel), List.mem_of_getElem? (i := 336) (by decide +kernel)⟩
theorem lw_p21 : lw_okq (⟨"SlittingOffice$Coil", "cutOutLength", "()I"⟩, 14) := ⟨⟨by decide +kernel, by decide +kernel⟩, List.mem_of_getElem? (i := 82) (by decide +kernel), List.mem_of_getElem? (i := 340) (by decide +kernel), List.mem_of_getElem? (i := 341) (by decide +kernel)⟩
theorem lw_p22 : lw_okq (⟨"SlittingOffice", "deliverSlits", "(LSlittingOffice$Coil;)I"⟩, 17) := ⟨⟨by decide +kernel, by decide +kernel⟩, List.mem_of_getElem? (i := 16) (by decide +kernel), List.mem_of_getElem? (i := 350) (by decide +kernel), List.mem_of_getElem? (i := 351) (by decide +kernel)⟩
theorem lw_p23 : lw_okq (⟨"SlittingOffice", "takerOf", "(II)I"⟩, 17) := ⟨⟨by decide +kernel, by decide +kernel⟩, List.mem_of_getElem? (i := 16) (by decide +kernel), List.mem_of_getElem? (i := 354) (by decide +kernel), List.mem_of_getElem? (i := 355) (by decide +kernel)⟩
theorem lw_p24 : lw_okq (⟨"SlittingOffice$Order", "wouldTakeHeat", "(I)Z"⟩, 4) := ⟨⟨by decide +kernel, by decide +kernel⟩, List.mem_of_getElem? (i := 140) (by decide +kernel), List.mem_of_getElem? (i := 358) (by decide +kernel), List.mem_of_getElem? (i := 359) (by decide +kernel)⟩
theorem lw_p25 : lw_okq (⟨"SlittingOffice$Order", "receive", "(II)V"⟩, 4) := ⟨⟨by decide +kernel, by decide +kernel⟩, List.mem_of_getElem? (i := 140) (by decide +kernel), List.mem_of_getElem? (i := 362) (by decide +kernel), List.mem_of_getElem? (i := 363) (by decide +kernel)⟩
theorem lw_p26 : lw_okq (⟨"SlittingOffice$Coil", "stockOf", "(I)I"⟩, 14) := ⟨⟨by decide +kernel, by decide +kernel⟩, List.mem_of_getElem? (i := 82) (by decide +kernel), List.mem_of_getElem? (i := 370) (by decide +kernel), List.mem_of_getElem? (i := 371) (by decide +kernel)⟩
theorem lw_p27 : lw_okq (⟨"java/lang/Throwable", "fillInStackTrace", "(I)Ljava/lang/Throwable;"⟩, 6) := ⟨⟨by decide +kernel, by decide +kernel⟩, List.mem_of_getElem? (i := 424) (by decide +kernel), List.mem_of_getElem? (i := 422) (by decide +kernel), List.mem_of_getElem? (i := 423) (by decide +kernel)⟩
theorem lw_p28 : lw_okq (⟨"SlittingOffice$Coil", "describe", "(IIII)V"⟩, 14) := ⟨⟨by decide +kernel, by decide +kernel⟩, List.mem_of_getElem? (i := 82) (by decide +kernel), List.mem_of_getElem? (i := 470) (by decide +kernel), List.mem_of_getElem? (i := 471) (by decide +kernel)⟩
theorem lw_p29 : lw_okq (⟨"SlittingOffice", "requireCoil", "(I)V"⟩, 17) := ⟨⟨by decide +kernel, by decide +kernel⟩, List.mem_of_getElem? (i := 16) (by decide +kernel), List.mem_of_getElem? (i := 482) (by decide +kernel), List.mem_of_getElem? (i := 483) (by decide +kernel)⟩
theorem lw_p30 : lw_okq (⟨"SlittingOffice$Coil", "hasMostDefects", "()Z"⟩, 14) := ⟨⟨by decide +kernel, by decide +kernel⟩, List.mem_of_getElem? (i := 82) (by decide +kernel), List.mem_of_getElem? (i := 502) (by decide +kernel), List.mem_of_getElem? (i := 503) (by decide +kernel)⟩
theorem lw_p31 : lw_okq (⟨"SlittingOffice$Coil", "addDefect", "(II)V"⟩, 14) := ⟨⟨by decide +kernel, by decide +kernel⟩, List.mem_of_getElem? (i := 82) (by decide +kernel), List.mem_of_getElem? (i := 507) (by decide +kernel), List.mem_of_getElem? (i := 508) (by decide +kernel)⟩
def lw_privs_2 : List (MethodName × Nat) := [(⟨"SlittingOffice", "canBeCutFrom", "(LSlittingOffice$Pattern;LSlittingOffice$Coil;)Z"⟩, 17), (⟨"SlittingOffice$Pattern", "totalWidth", "()I"⟩, 2), (⟨"SlittingOffice", "roomOf", "(LSlittingOffice$Coil;)I"⟩, 17), (⟨"SlittingOffice", "slitCoil", "(II)I"⟩, 17), (⟨"SlittingOffice$Coil", "slitBy", "(LSlittingOffice$Pattern;I)V"⟩, 14), (⟨"SlittingOffice$Coil", "cutOutLength", "()I"⟩, 14), (⟨"SlittingOffice", "deliverSlits", "(LSlittingOffice$Coil;)I"⟩, 17), (⟨"SlittingOffice", "takerOf", "(II)I"⟩, 17), (⟨"SlittingOffice$Order", "wouldTakeHeat", "(I)Z"⟩, 4), (⟨"SlittingOffice$Order", "receive", "(II)V"⟩, 4), (⟨"SlittingOffice$Coil", "stockOf", "(I)I"⟩, 14), (⟨"java/lang/Throwable", "fillInStackTrace", "(I)Ljava/lang/Throwable;"⟩, 6), (⟨"SlittingOffice$Coil", "describe", "(IIII)V"⟩, 14), (⟨"SlittingOffice", "requireCoil", "(I)V"⟩, 17), (⟨"SlittingOffice$Coil", "hasMostDefects", "()Z"⟩, 14), (⟨"SlittingOffice$Coil", "addDefect", "(II)V"⟩, 14)]
theorem lw_r2 : ∀ q ∈ lw_privs_2, lw_okq q := List.forall_mem_cons.mpr ⟨lw_p16, List.forall_mem_cons.mpr ⟨lw_p17, List.forall_mem_cons.mpr ⟨lw_p18, List.forall_mem_cons.mpr ⟨lw_p19, List.forall_mem_cons.mpr ⟨lw_p20, List.forall_mem_cons.mpr ⟨lw_p21, List.forall_mem_cons.mpr ⟨lw_p22, List.forall_mem_cons.mpr ⟨lw_p23, List.forall_mem_cons.mpr ⟨lw_p24, List.forall_mem_cons.mpr ⟨lw_p25, List.forall_mem_cons.mpr ⟨lw_p26, List.forall_mem_cons.mpr ⟨lw_p27, List.forall_mem_cons.mpr ⟨lw_p28, List.forall_mem_cons.mpr ⟨lw_p29, List.forall_mem_cons.mpr ⟨lw_p30, List.forall_mem_cons.mpr ⟨lw_p31, fun _ h => absurd h List.not_mem_nil⟩⟩⟩⟩⟩⟩⟩⟩⟩⟩⟩⟩⟩⟩⟩⟩
theorem lw_p32 : lw_okq (⟨"SlittingOffice$Order", "describe", "(II)V"⟩, 4) := ⟨⟨by decide +kernel, by decide +kernel⟩, List.mem_of_getElem? (i := 140) (by decide +kernel), List.mem_of_getElem? (i := 529) (by decide +kernel), List.mem_of_getElem? (i := 530) (by decide +kernel)⟩
theorem lw_p33 : lw_okq (⟨"SlittingOffice$Pattern", "isFull", "()Z"⟩, 2) := ⟨⟨by decide +kernel, by decide +kernel⟩, List.mem_of_getElem? (i := 29) (by decide +kernel), List.mem_of_getElem? (i := 540) (by decide +kernel), List.mem_of_getElem? (i := 541) (by decide +kernel)⟩
theorem lw_p34 : lw_okq (⟨"SlittingOffice$Pattern", "append", "(I)V"⟩, 2) := ⟨⟨by decide +kernel, by decide +kernel⟩, List.mem_of_getElem? (i := 29) (by decide +kernel), List.mem_of_getElem? (i := 545) (by decide +kernel), List.mem_of_getElem? (i := 546) (by decide +kernel)⟩
theorem lw_p35 : lw_okq (⟨"SlittingOffice$Pattern", "hasSlitAt", "(I)Z"⟩, 2) := ⟨⟨by decide +kernel, by decide +kernel⟩, List.mem_of_getElem? (i := 29) (by decide +kernel), List.mem_of_getElem? (i := 557) (by decide +kernel), List.mem_of_getElem? (i := 558) (by decide +kernel)⟩
theorem lw_p36 : lw_okq (⟨"SlittingOffice$Pattern", "becomeCopyOf", "(LSlittingOffice$Pattern;)V"⟩, 2) := ⟨⟨by decide +kernel, by decide +kernel⟩, List.mem_of_getElem? (i := 29) (by decide +kernel), List.mem_of_getElem? (i := 570) (by decide +kernel), List.mem_of_getElem? (i := 571) (by decide +kernel)⟩
theorem lw_p37 : lw_okq (⟨"SlittingOffice", "requirePattern", "(I)V"⟩, 17) := ⟨⟨by decide +kernel, by decide +kernel⟩, List.mem_of_getElem? (i := 16) (by decide +kernel), List.mem_of_getElem? (i := 583) (by decide +kernel), List.mem_of_getElem? (i := 584) (by decide +kernel)⟩
theorem lw_p38 : lw_okq (⟨"SlittingOffice", "offerWidthsFor", "(LSlittingOffice$Coil;)V"⟩, 17) := ⟨⟨by decide +kernel, by decide +kernel⟩, List.mem_of_getElem? (i := 16) (by decide +kernel), List.mem_of_getElem? (i := 595) (by decide +kernel), List.mem_of_getElem? (i := 596) (by decide +kernel)⟩
theorem lw_p39 : lw_okq (⟨"SlittingOffice$Filling", "forgetWidths", "()V"⟩, 3) := ⟨⟨by decide +kernel, by decide +kernel⟩, List.mem_of_getElem? (i := 47) (by decide +kernel), List.mem_of_getElem? (i := 599) (by decide +kernel), List.mem_of_getElem? (i := 600) (by decide +kernel)⟩
theorem lw_p40 : lw_okq (⟨"SlittingOffice$Filling", "offerWidth", "(I)V"⟩, 3) := ⟨⟨by decide +kernel, by decide +kernel⟩, List.mem_of_getElem? (i := 47) (by decide +kernel), List.mem_of_getElem? (i := 603) (by decide +kernel), List.mem_of_getElem? (i := 604) (by decide +kernel)⟩
theorem lw_p41 : lw_okq (⟨"SlittingOffice$Filling", "greatestTotal", "(II)I"⟩, 3) := ⟨⟨by decide +kernel, by decide +kernel⟩, List.mem_of_getElem? (i := 47) (by decide +kernel), List.mem_of_getElem? (i := 607) (by decide +kernel), List.mem_of_getElem? (i := 608) (by decide +kernel)⟩
theorem lw_p42 : lw_okq (⟨"SlittingOffice$Filling", "fewestSlitsFor", "(I)I"⟩, 3) := ⟨⟨by decide +kernel, by decide +kernel⟩, List.mem_of_getElem? (i := 47) (by decide +kernel), List.mem_of_getElem? (i := 611) (by decide +kernel), List.mem_of_getElem? (i := 612) (by decide +kernel)⟩
theorem lw_p43 : lw_okq (⟨"SlittingOffice$Filling", "layOut", "(ILSlittingOffice$Pattern;)V"⟩, 3) := ⟨⟨by decide +kernel, by decide +kernel⟩, List.mem_of_getElem? (i := 47) (by decide +kernel), List.mem_of_getElem? (i := 616) (by decide +kernel), List.mem_of_getElem? (i := 617) (by decide +kernel)⟩
theorem lw_p44 : lw_okq (⟨"SlittingOffice$Filling", "greatestBefore", "(II)I"⟩, 3) := ⟨⟨by decide +kernel, by decide +kernel⟩, List.mem_of_getElem? (i := 47) (by decide +kernel), List.mem_of_getElem? (i := 621) (by decide +kernel), List.mem_of_getElem? (i := 622) (by decide +kernel)⟩
theorem lw_p45 : lw_okq (⟨"SlittingOffice$Filling", "greatestTotalByTrying", "(II)I"⟩, 3) := ⟨⟨by decide +kernel, by decide +kernel⟩, List.mem_of_getElem? (i := 47) (by decide +kernel), List.mem_of_getElem? (i := 634) (by decide +kernel), List.mem_of_getElem? (i := 635) (by decide +kernel)⟩
theorem lw_p46 : lw_okq (⟨"SlittingOffice", "coilWaits", "(I)Z"⟩, 17) := ⟨⟨by decide +kernel, by decide +kernel⟩, List.mem_of_getElem? (i := 16) (by decide +kernel), List.mem_of_getElem? (i := 664) (by decide +kernel), List.mem_of_getElem? (i := 665) (by decide +kernel)⟩
theorem lw_p47 : lw_okq (⟨"SlittingOffice", "requireSlit", "(II)V"⟩, 17) := ⟨⟨by decide +kernel, by decide +kernel⟩, List.mem_of_getElem? (i := 16) (by decide +kernel), List.mem_of_getElem? (i := 691) (by decide +kernel), List.mem_of_getElem? (i := 692) (by decide +kernel)⟩
def lw_privs_3 : List (MethodName × Nat) := [(⟨"SlittingOffice$Order", "describe", "(II)V"⟩, 4), (⟨"SlittingOffice$Pattern", "isFull", "()Z"⟩, 2), (⟨"SlittingOffice$Pattern", "append", "(I)V"⟩, 2), (⟨"SlittingOffice$Pattern", "hasSlitAt", "(I)Z"⟩, 2), (⟨"SlittingOffice$Pattern", "becomeCopyOf", "(LSlittingOffice$Pattern;)V"⟩, 2), (⟨"SlittingOffice", "requirePattern", "(I)V"⟩, 17), (⟨"SlittingOffice", "offerWidthsFor", "(LSlittingOffice$Coil;)V"⟩, 17), (⟨"SlittingOffice$Filling", "forgetWidths", "()V"⟩, 3), (⟨"SlittingOffice$Filling", "offerWidth", "(I)V"⟩, 3), (⟨"SlittingOffice$Filling", "greatestTotal", "(II)I"⟩, 3), (⟨"SlittingOffice$Filling", "fewestSlitsFor", "(I)I"⟩, 3), (⟨"SlittingOffice$Filling", "layOut", "(ILSlittingOffice$Pattern;)V"⟩, 3), (⟨"SlittingOffice$Filling", "greatestBefore", "(II)I"⟩, 3), (⟨"SlittingOffice$Filling", "greatestTotalByTrying", "(II)I"⟩, 3), (⟨"SlittingOffice", "coilWaits", "(I)Z"⟩, 17), (⟨"SlittingOffice", "requireSlit", "(II)V"⟩, 17)]
theorem lw_r3 : ∀ q ∈ lw_privs_3, lw_okq q := List.forall_mem_cons.mpr ⟨lw_p32, List.forall_mem_cons.mpr ⟨lw_p33, List.forall_mem_cons.mpr ⟨lw_p34, List.forall_mem_cons.mpr ⟨lw_p35, List.forall_mem_cons.mpr ⟨lw_p36, List.forall_mem_cons.mpr ⟨lw_p37, List.forall_mem_cons.mpr ⟨lw_p38, List.forall_mem_cons.mpr ⟨lw_p39, List.forall_mem_cons.mpr ⟨lw_p40, List.forall_mem_cons.mpr ⟨lw_p41, List.forall_mem_cons.mpr ⟨lw_p42, List.forall_mem_cons.mpr ⟨lw_p43, List.forall_mem_cons.mpr ⟨lw_p44, List.forall_mem_cons.mpr ⟨lw_p45, List.forall_mem_cons.mpr ⟨lw_p46, List.forall_mem_cons.mpr ⟨lw_p47, fun _ h => absurd h List.not_mem_nil⟩⟩⟩⟩⟩⟩⟩⟩⟩⟩⟩⟩⟩⟩⟩⟩
theorem lw_p48 : lw_okq (⟨"SlittingOffice$Coil", "hasSlitAt", "(I)Z"⟩, 14) := ⟨⟨by decide +kernel, by decide +kernel⟩, List.mem_of_getElem? (i := 82) (by decide +kernel), List.mem_of_getElem? (i := 695) (by decide +kernel), List.mem_of_getElem? (i := 696) (by decide +kernel)⟩
theorem lw_p49 : lw_okq (⟨"SlittingOffice", "requireOrder", "(I)V"⟩, 17) := ⟨⟨by decide +kernel, by decide +kernel⟩, List.mem_of_getElem? (i := 16) (by decide +kernel), List.mem_of_getElem? (i := 721) (by decide +kernel), List.mem_of_getElem? (i := 722) (by decide +kernel)⟩
theorem lw_p50 : lw_okq (⟨"SlittingOfficeModel", "asked", "(ZZ)Z"⟩, 32) := ⟨⟨by decide +kernel, by decide +kernel⟩, List.mem_of_getElem? (i := 733) (by decide +kernel), List.mem_of_getElem? (i := 847) (by decide +kernel), List.mem_of_getElem? (i := 848) (by decide +kernel)⟩
theorem lw_p51 : lw_okq (⟨"SlittingOfficeModel", "isCoil", "(I)Z"⟩, 32) := ⟨⟨by decide +kernel, by decide +kernel⟩, List.mem_of_getElem? (i := 733) (by decide +kernel), List.mem_of_getElem? (i := 855) (by decide +kernel), List.mem_of_getElem? (i := 856) (by decide +kernel)⟩
theorem lw_p52 : lw_okq (⟨"SlittingOfficeModel", "asked", "(ZZZ)Z"⟩, 32) := ⟨⟨by decide +kernel, by decide +kernel⟩, List.mem_of_getElem? (i := 733) (by decide +kernel), List.mem_of_getElem? (i := 859) (by decide +kernel), List.mem_of_getElem? (i := 860) (by decide +kernel)⟩
theorem lw_p53 : lw_okq (⟨"SlittingOfficeModel", "cutOut", "(I)I"⟩, 32) := ⟨⟨by decide +kernel, by decide +kernel⟩, List.mem_of_getElem? (i := 733) (by decide +kernel), List.mem_of_getElem? (i := 863) (by decide +kernel), List.mem_of_getElem? (i := 864) (by decide +kernel)⟩
theorem lw_p54 : lw_okq (⟨"SlittingOfficeModel", "asked", "(Z)Z"⟩, 32) := ⟨⟨by decide +kernel, by decide +kernel⟩, List.mem_of_getElem? (i := 733) (by decide +kernel), List.mem_of_getElem? (i := 871) (by decide +kernel), List.mem_of_getElem? (i := 872) (by decide +kernel)⟩
theorem lw_p55 : lw_okq (⟨"SlittingOfficeModel", "drafts", "(I)V"⟩, 32) := ⟨⟨by decide +kernel, by decide +kernel⟩, List.mem_of_getElem? (i := 733) (by decide +kernel), List.mem_of_getElem? (i := 884) (by decide +kernel), List.mem_of_getElem? (i := 885) (by decide +kernel)⟩
theorem lw_p56 : lw_okq (⟨"SlittingOfficeModel", "told", "(I)I"⟩, 32) := ⟨⟨by decide +kernel, by decide +kernel⟩, List.mem_of_getElem? (i := 733) (by decide +kernel), List.mem_of_getElem? (i := 892) (by decide +kernel), List.mem_of_getElem? (i := 893) (by decide +kernel)⟩
theorem lw_p57 : lw_okq (⟨"SlittingOfficeModel", "isPattern", "(I)Z"⟩, 32) := ⟨⟨by decide +kernel, by decide +kernel⟩, List.mem_of_getElem? (i := 733) (by decide +kernel), List.mem_of_getElem? (i := 912) (by decide +kernel), List.mem_of_getElem? (i := 913) (by decide +kernel)⟩
theorem lw_p58 : lw_okq (⟨"SlittingOfficeModel", "canRun", "(II)Z"⟩, 32) := ⟨⟨by decide +kernel, by decide +kernel⟩, List.mem_of_getElem? (i := 733) (by decide +kernel), List.mem_of_getElem? (i := 916) (by decide +kernel), List.mem_of_getElem? (i := 917) (by decide +kernel)⟩
theorem lw_p59 : lw_okq (⟨"SlittingOfficeModel", "fullest", "(I)I"⟩, 32) := ⟨⟨by decide +kernel, by decide +kernel⟩, List.mem_of_getElem? (i := 733) (by decide +kernel), List.mem_of_getElem? (i := 924) (by decide +kernel), List.mem_of_getElem? (i := 925) (by decide +kernel)⟩
theorem lw_p60 : lw_okq (⟨"SlittingOfficeModel", "takes", "(II)Z"⟩, 32) := ⟨⟨by decide +kernel, by decide +kernel⟩, List.mem_of_getElem? (i := 733) (by decide +kernel), List.mem_of_getElem? (i := 928) (by decide +kernel), List.mem_of_getElem? (i := 929) (by decide +kernel)⟩
theorem lw_p61 : lw_okq (⟨"SlittingOfficeModel", "runs", "(II)I"⟩, 32) := ⟨⟨by decide +kernel, by decide +kernel⟩, List.mem_of_getElem? (i := 733) (by decide +kernel), List.mem_of_getElem? (i := 940) (by decide +kernel), List.mem_of_getElem? (i := 941) (by decide +kernel)⟩
theorem lw_p62 : lw_okq (⟨"SlittingOfficeModel", "movesFrom", "(II)I"⟩, 32) := ⟨⟨by decide +kernel, by decide +kernel⟩, List.mem_of_getElem? (i := 733) (by decide +kernel), List.mem_of_getElem? (i := 944) (by decide +kernel), List.mem_of_getElem? (i := 945) (by decide +kernel)⟩
theorem lw_p63 : lw_okq (⟨"SlittingOfficeModel", "isPosition", "(II)Z"⟩, 32) := ⟨⟨by decide +kernel, by decide +kernel⟩, List.mem_of_getElem? (i := 733) (by decide +kernel), List.mem_of_getElem? (i := 948) (by decide +kernel), List.mem_of_getElem? (i := 949) (by decide +kernel)⟩
def lw_privs_4 : List (MethodName × Nat) := [(⟨"SlittingOffice$Coil", "hasSlitAt", "(I)Z"⟩, 14), (⟨"SlittingOffice", "requireOrder", "(I)V"⟩, 17), (⟨"SlittingOfficeModel", "asked", "(ZZ)Z"⟩, 32), (⟨"SlittingOfficeModel", "isCoil", "(I)Z"⟩, 32), (⟨"SlittingOfficeModel", "asked", "(ZZZ)Z"⟩, 32), (⟨"SlittingOfficeModel", "cutOut", "(I)I"⟩, 32), (⟨"SlittingOfficeModel", "asked", "(Z)Z"⟩, 32), (⟨"SlittingOfficeModel", "drafts", "(I)V"⟩, 32), (⟨"SlittingOfficeModel", "told", "(I)I"⟩, 32), (⟨"SlittingOfficeModel", "isPattern", "(I)Z"⟩, 32), (⟨"SlittingOfficeModel", "canRun", "(II)Z"⟩, 32), (⟨"SlittingOfficeModel", "fullest", "(I)I"⟩, 32), (⟨"SlittingOfficeModel", "takes", "(II)Z"⟩, 32), (⟨"SlittingOfficeModel", "runs", "(II)I"⟩, 32), (⟨"SlittingOfficeModel", "movesFrom", "(II)I"⟩, 32), (⟨"SlittingOfficeModel", "isPosition", "(II)Z"⟩, 32)]
theorem lw_r4 : ∀ q ∈ lw_privs_4, lw_okq q := List.forall_mem_cons.mpr ⟨lw_p48, List.forall_mem_cons.mpr ⟨lw_p49, List.forall_mem_cons.mpr ⟨lw_p50, List.forall_mem_cons.mpr ⟨lw_p51, List.forall_mem_cons.mpr ⟨lw_p52, List.forall_mem_cons.mpr ⟨lw_p53, List.forall_mem_cons.mpr ⟨lw_p54, List.forall_mem_cons.mpr ⟨lw_p55, List.forall_mem_cons.mpr ⟨lw_p56, List.forall_mem_cons.mpr ⟨lw_p57, List.forall_mem_cons.mpr ⟨lw_p58, List.forall_mem_cons.mpr ⟨lw_p59, List.forall_mem_cons.mpr ⟨lw_p60, List.forall_mem_cons.mpr ⟨lw_p61, List.forall_mem_cons.mpr ⟨lw_p62, List.forall_mem_cons.mpr ⟨lw_p63, fun _ h => absurd h List.not_mem_nil⟩⟩⟩⟩⟩⟩⟩⟩⟩⟩⟩⟩⟩⟩⟩⟩
theorem lw_p64 : lw_okq (⟨"SlittingOfficeModel", "best", "()I"⟩, 32) := ⟨⟨by decide +kernel, by decide +kernel⟩, List.mem_of_getElem? (i := 733) (by decide +kernel), List.mem_of_getElem? (i := 972) (by decide +kernel), List.mem_of_getElem? (i := 973) (by decide +kernel)⟩
theorem lw_p65 : lw_okq (⟨"SlittingOfficeModel", "between", "(II)I"⟩, 32) := ⟨⟨by decide +kernel, by decide +kernel⟩, List.mem_of_getElem? (i := 733) (by decide +kernel), List.mem_of_getElem? (i := 976) (by decide +kernel), List.mem_of_getElem? (i := 977) (by decide +kernel)⟩
theorem lw_p66 : lw_okq (⟨"SlittingOfficeModel", "isSlit", "(II)Z"⟩, 32) := ⟨⟨by decide +kernel, by decide +kernel⟩, List.mem_of_getElem? (i := 733) (by decide +kernel), List.mem_of_getElem? (i := 1000) (by decide +kernel), List.mem_of_getElem? (i := 1001) (by decide +kernel)⟩
theorem lw_p67 : lw_okq (⟨"SlittingOfficeModel", "isOrder", "(I)Z"⟩, 32) := ⟨⟨by decide +kernel, by decide +kernel⟩, List.mem_of_getElem? (i := 733) (by decide +kernel), List.mem_of_getElem? (i := 1016) (by decide +kernel), List.mem_of_getElem? (i := 1017) (by decide +kernel)⟩
def lw_privs_5 : List (MethodName × Nat) := [(⟨"SlittingOfficeModel", "best", "()I"⟩, 32), (⟨"SlittingOfficeModel", "between", "(II)I"⟩, 32), (⟨"SlittingOfficeModel", "isSlit", "(II)Z"⟩, 32), (⟨"SlittingOfficeModel", "isOrder", "(I)Z"⟩, 32)]
theorem lw_r5 : ∀ q ∈ lw_privs_5, lw_okq q := List.forall_mem_cons.mpr ⟨lw_p64, List.forall_mem_cons.mpr ⟨lw_p65, List.forall_mem_cons.mpr ⟨lw_p66, List.forall_mem_cons.mpr ⟨lw_p67, fun _ h => absurd h List.not_mem_nil⟩⟩⟩⟩
def lw_privs : List (MethodName × Nat) := lw_privs_1 ++ (lw_privs_2 ++ (lw_privs_3 ++ (lw_privs_4 ++ (lw_privs_5))))
def lw_tbl : List Cond := k2_sels lw_privs ++ tables_1
theorem lw_privs_ok : ∀ q ∈ lw_privs, lw_okq q := by
  show ∀ q ∈ lw_privs_1 ++ (lw_privs_2 ++ (lw_privs_3 ++ (lw_privs_4 ++ (lw_privs_5)))), lw_okq q
  exact List.forall_mem_append.mpr ⟨lw_r1, List.forall_mem_append.mpr ⟨lw_r2, List.forall_mem_append.mpr ⟨lw_r3, List.forall_mem_append.mpr ⟨lw_r4, lw_r5⟩⟩⟩⟩
end
section
/-- the printed row va_mna names these two, which stand in no block of the kit: written here -/
def va_AOA (ty : FieldType) (U : State) : Prop := ∀ args : Array Value, (Cond.arrayOver (.array ty)).before args U = true
theorem va_AOA.use {ty : FieldType} {args : Array Value} {U : State} (h : va_AOA ty U) : (Cond.arrayOver (.array ty)).before args U = true := h args
/-! ===== BEGIN words of one list among another's, by their places ===== -/
theorem goodIn_r {big : List Cond} (ws : List Cond) (ps : List Nat) (hp : ws = ps.filterMap (fun i => big[i]?)) (h : ws.all goodWord = true) : GoodIn big ws := by
  intro w hw
  have h1 := List.all_eq_true.mp h w hw
  rw [hp] at hw
  obtain ⟨i, -, hi⟩ := List.mem_filterMap.mp hw
  have hm : w ∈ big := by first | exact List.mem_of_getElem? hi | exact List.getElem?_mem hi
  exact ⟨hm, good_of_word h1⟩
theorem goodIn_app {big a b : List Cond} (ha : GoodIn big a) (hb : GoodIn big b) : GoodIn big (a ++ b) := fun w h => (List.mem_append.mp h).elim (ha w) (hb w)
theorem goodIn_ca {big a b : List Cond} {c : Cond} (ha : GoodIn big (c :: a)) (hb : GoodIn big b) : GoodIn big (c :: (a ++ b)) := fun w h => (List.mem_cons.mp h).elim (fun e => ha w (List.mem_cons.mpr (Or.inl e))) (fun h => (List.mem_append.mp h).elim (fun h => ha w (List.mem_cons.mpr (Or.inr h))) (hb w))
theorem goodIn_sub {big ws : List Cond} (hm : ∀ w ∈ ws, w ∈ big) (h : ws.all goodWord = true) : GoodIn big ws := fun w hw => ⟨hm w hw, good_of_word (List.all_eq_true.mp h w hw)⟩
/-! ===== END ===== -/

/-! ===== BEGIN new T[n][m]: the outer array a place, the inner ones among the pooled ===== -/
/-- f, but v at every address of l -/
def vr_up {α : Type} (f : Nat → α) (l : List Nat) (v : α) : Nat → α := fun a => if a ∈ l then v else f a
theorem vr_up_in {α : Type} {f : Nat → α} {l : List Nat} {v : α} {a : Nat} (h : a ∈ l) : vr_up f l v a = v := if_pos h
theorem vr_up_ne {α : Type} {f : Nat → α} {l : List Nat} {v : α} {a : Nat} (h : a ∉ l) : vr_up f l v a = f a := if_neg h
theorem vr_rows {L l : List Nat} {f : Nat → va_E} {e : va_E} (h : ∀ a, a ∈ l → a ∉ L) : va_pl L f ++ l.map (fun a => (a, e)) = va_pl (L ++ l) (vr_up f l e) := by
  unfold va_pl
  rw [List.map_append]
  congr 1
  · apply List.map_congr_left
    intro a ha
    rw [vr_up_ne (fun q => h a q ha)]
  · apply List.map_congr_left
    intro a ha
    rw [vr_up_in ha]
theorem vr_lay {X rows : va_W} {x : Nat × va_E} {pl : va_W} {D : va_G} {cl : List vw_C} {H : Heap} (hP : va_P D cl (((X ++ pl) ++ [x]) ++ rows) H) : va_P D cl ((X ++ [x]) ++ (pl ++ rows)) H := by
  rw [List.append_assoc (X ++ pl)] at hP
  have h := va_P.swap hP
  rw [← List.append_assoc X] at h
  have h2 := va_P.swap h
  rw [List.append_assoc (X ++ [x])] at h2
  exact h2
theorem vr_layD {X rows : va_W} {x : Nat × va_E} {pl : va_W} {A : Nat → Prop} (hD : va_D A (((X ++ pl) ++ [x]) ++ rows)) : va_D A ((X ++ [x]) ++ (pl ++ rows)) := by
  rw [List.append_assoc (X ++ pl)] at hD
  have h := va_D.swap hD
  rw [← List.append_assoc X] at h
  have h2 := va_D.swap h
  rw [List.append_assoc (X ++ [x])] at h2
  exact h2
theorem vr_outer (c : ClassId) (N h0 : Nat) : ∀ i : Nat, Jvm.Free.Multi.outerC c N h0 i = arrV c N (fun j => va_rf (if j < i then some (h0 + 1 + j) else none))
  | 0 => by
    show ({ cls := c, slots := Array.replicate N .null, vm := .none } : Cell) = _
    rw [arrV_new]
    refine congrArg (arrV c N) (funext fun j => ?_)
    simp [va_rf]
  | i + 1 => by
    show (Jvm.Free.Multi.outerC c N h0 i).setSlot i (.ref (h0 + 1 + i)) = _
    rw [vr_outer c N h0 i, arrV_store]
    refine congrArg (arrV c N) (funext fun j => ?_)
    by_cases e : j = i
    · subst e
      simp [updV, va_rf]
    · by_cases h : j < i
      · simp [updV, e, h, Nat.lt_succ_of_lt h]
      · simp [updV, e, h, show ¬ j < i + 1 by omega]
section VGM
variable {p : Program} {l : Launch} {e : Env} {R : Room} {s : State} {m : MethodId} {args : Array Value} {below : List Frame} {meth : Method} {c : Code} {H : Heap} {locs : List Loc} {cells slots : Nat} {Q : State → Prop}
variable {cc : ByteArray} {pc : Nat} {ls : Array Slot} {rest : List Value} {D : va_G} {cl : List vw_C} {A : Nat → Prop} {a : Nat} {tys : List (ClassId × FieldType)} {ws : va_W} {H0 : Heap}
theorem va_mna {X : va_W} {L : List Nat} {f : Nat → va_E} {cc : ByteArray} (hexec : p.tables.exec = Jvm.exec) (hb : c.code = cc) {own : String} {index : Nat} {ty : FieldType} {cy : ClassId} (hown : s.vm.findClass own = some m.cls) (hclink : (Cond.classLink own index ("[" ++ (FieldType.array ty).toString)).before args s = true) (hover : va_AOA ty s) (harr : (Cond.arrayClass ty).before args s = true) (hcy : s.vm.findClass (FieldType.array ty).toString = some cy)
    (hK : va_K D cl tys s) (hP : va_P D cl (X ++ va_pl L f) H) (hD : va_D A (X ++ va_pl L f)) (hS : va_S A H0 H locs) (hA : ∀ q, H0.size ≤ q → A q) {n k : Int32} {N' K' : Nat} {z : vp_A} (hn : ¬ n < 0) (hk : ¬ k < 0) (hN : n.toNatClampNeg = N') (hM : k.toNatClampNeg = K')
    (hb1 : N' * 4 ≤ 536870912) (hb2 : K' * componentBytes ty ≤ 536870912) (hb3 : K' ≤ 536870912) (hdf : fits ty (defaultValue ty) = true) (hdd : (defaultValue ty).isDefault = true) (hcells : cells + (1 + N') ≤ R.cells) (hslots : slots + (N' + N' * K') ≤ R.slots) (hz : ∀ c : ClassId, Jvm.Free.Multi.innerC c K' (defaultValue ty) = vp_cell c z) (hdg : decode cc pc = .ok (.multianewarray index 2, 4))
    (kk : ∀ (q : Nat) (r : Nat → Nat) (cA : ClassId) (H1 : Heap), (∀ i j : Nat, i < N' → j < N' → r i = r j → i = j) → (∀ i : Nat, i < N' → r i ∉ L) → va_K D cl (tys ++ [(cA, .array ty)]) s →
      va_P D cl ((X ++ [(q, .inl (cA, N', .inr (.inr (.inr (.inr (fun i => if i < N' then some (r i) else none))))))]) ++ va_pl (L ++ (List.range N').map r) (vr_up f ((List.range N').map r) (.inl (cy, z)))) H1 → va_D A ((X ++ [(q, .inl (cA, N', .inr (.inr (.inr (.inr (fun i => if i < N' then some (r i) else none))))))]) ++ va_pl (L ++ (List.range N').map r) (vr_up f ((List.range N').map r) (.inl (cy, z)))) → va_S A H0 H1 locs →
      W p l e R s m args below meth c H1 locs (cells + 1 + N') (slots + N' + N' * K') Q (F0 m (pc + 4) ls (.ref q :: rest))) : W p l e R s m args below meth c H locs cells slots Q (F0 m pc ls (.int k :: .int n :: rest)) := by
  subst hN
  subst hM
  intro T hT Xs
  obtain ⟨vm₁, cA, comp, -, fA, fC, hO, -, X', step⟩ := Xs.multianewarray2F hexec hown hclink (va_AOA.use hover) harr (g := F0 m pc ls (.int k :: .int n :: rest)) rfl (by rw [hb]; exact hdg) rfl hn hk hb1 hb2 hb3 hdf hdd hcells hslots
  have ec : some cy = some comp := hcy.symm.trans fC
  cases ec
  generalize hF : Jvm.Free.Multi.fill (T.setVm vm₁) cA cy n.toNatClampNeg k.toNatClampNeg (defaultValue ty) n.toNatClampNeg = F at X' step
  have hTh : (T.setVm vm₁).heap = H := hT
  obtain ⟨f1, f2, -, -⟩ := Jvm.Free.Multi.fill_facts (T.setVm vm₁) cA cy n.toNatClampNeg k.toNatClampNeg (defaultValue ty) n.toNatClampNeg
  rw [hF, hTh] at f1 f2
  have hold : ∀ x : Nat, x < H.size → F.heap[x]? = H[x]? := fun x hx => by
    have := Jvm.Free.Multi.fill_old (T.setVm vm₁) cA cy n.toNatClampNeg k.toNatClampNeg (defaultValue ty) (a := x) (by rw [hTh]; exact hx) n.toNatClampNeg
    rw [hF, hTh] at this
    exact this
  have hrow : ∀ j : Nat, j < n.toNatClampNeg → F.heap[H.size + 1 + j]? = some (vp_cell cy z) := fun j hj => by
    have := Jvm.Free.Multi.fill_inner (T.setVm vm₁) cA cy n.toNatClampNeg k.toNatClampNeg (defaultValue ty) n.toNatClampNeg j hj
    rw [hF, hTh, hz] at this
    exact this
  have hout : Jvm.Free.Multi.outerC cA n.toNatClampNeg H.size n.toNatClampNeg = vp_cell cA (n.toNatClampNeg, .inr (.inr (.inr (.inr (fun i => if i < n.toNatClampNeg then some (H.size + 1 + i) else none))))) := by
    rw [vp_cell_q]
    exact vr_outer cA n.toNatClampNeg H.size n.toNatClampNeg
  rw [hout] at f2
  have hlt : ∀ a, a ∈ L → a < H.size := fun a ha => by
    obtain ⟨k9, hk9⟩ := va_pl_get (X := X) (f := f) ha
    exact (hP k9 _ hk9).lt
  have hnl : ∀ i : Nat, i < n.toNatClampNeg → H.size + 1 + i ∉ L := fun i _ h => by
    have := hlt _ h
    omega
  have hnm : ∀ a, a ∈ (List.range n.toNatClampNeg).map (fun i => H.size + 1 + i) → a ∉ L := fun a ha h => by
    obtain ⟨i, -, rfl⟩ := List.mem_map.mp ha
    have := hlt _ h
    omega
  have hP0 : va_P D cl (X ++ va_pl L f) F.heap := hP.kept (fun k9 x hx => hold x.1 ((hP k9 x hx).lt))
  have hP1 : va_P D cl ((X ++ va_pl L f) ++ [(H.size, .inl (cA, n.toNatClampNeg, .inr (.inr (.inr (.inr (fun i => if i < n.toNatClampNeg then some (H.size + 1 + i) else none))))))]) F.heap := hP0.app (fun k9 x hx => by
    have h0 : k9 < 1 := (List.getElem?_eq_some_iff.mp hx).1
    rw [show k9 = 0 by omega] at hx
    cases hx
    exact f2)
  have hP2 : va_P D cl (((X ++ va_pl L f) ++ [(H.size, .inl (cA, n.toNatClampNeg, .inr (.inr (.inr (.inr (fun i => if i < n.toNatClampNeg then some (H.size + 1 + i) else none))))))]) ++ ((List.range n.toNatClampNeg).map (fun i => H.size + 1 + i)).map (fun a => (a, .inl (cy, z)))) F.heap := hP1.app (fun k9 x hx => by
    obtain ⟨a, ha, rfl⟩ := List.mem_map.mp (List.mem_of_getElem? hx)
    obtain ⟨i, hi, rfl⟩ := List.mem_map.mp ha
    exact hrow i (List.mem_range.mp hi))
  have hD2 : va_D A (((X ++ va_pl L f) ++ [(H.size, .inl (cA, n.toNatClampNeg, .inr (.inr (.inr (.inr (fun i => if i < n.toNatClampNeg then some (H.size + 1 + i) else none))))))]) ++ ((List.range n.toNatClampNeg).map (fun i => H.size + 1 + i)).map (fun a => (a, .inl (cy, z)))) := by
    have hD1 := hD.push (e := .inl (cA, n.toNatClampNeg, .inr (.inr (.inr (.inr (fun i => if i < n.toNatClampNeg then some (H.size + 1 + i) else none)))))) hP rfl (hA _ hS.1)
    generalize hW1 : (X ++ va_pl L f) ++ [(H.size, .inl (cA, n.toNatClampNeg, .inr (.inr (.inr (.inr (fun i => if i < n.toNatClampNeg then some (H.size + 1 + i) else none))))))] = W1 at hD1 hP1 ⊢
    have hle : ∀ (k9 : Nat) (x : Nat × va_E), W1[k9]? = some x → x.1 ≤ H.size := fun k9 x hx => by
      rw [← hW1] at hx
      by_cases hl : k9 < (X ++ va_pl L f).length
      · rw [List.getElem?_append_left hl] at hx
        exact Nat.le_of_lt ((hP k9 x hx).lt)
      · rw [List.getElem?_append_right (by omega)] at hx
        have h0 : k9 - (X ++ va_pl L f).length < 1 := (List.getElem?_eq_some_iff.mp hx).1
        rw [show k9 - (X ++ va_pl L f).length = 0 by omega] at hx
        cases hx
        exact Nat.le_refl _
    have hr : ∀ (k9 : Nat) (x : Nat × va_E), (((List.range n.toNatClampNeg).map (fun i => H.size + 1 + i)).map (fun a => ((a, .inl (cy, z)) : Nat × va_E)))[k9]? = some x → x.1 = H.size + 1 + k9 := fun k9 x hx => by
      rw [List.getElem?_map, List.getElem?_map] at hx
      by_cases h9 : k9 < n.toNatClampNeg
      · rw [List.getElem?_range h9] at hx
        cases hx
        rfl
      · have hn0 : (List.range n.toNatClampNeg)[k9]? = none := List.getElem?_eq_none (by rw [List.length_range]; omega)
        rw [hn0] at hx
        cases hx
    refine ⟨fun i j x y hi hj hxy => ?_, fun k9 x hx => ?_⟩
    · by_cases h1 : i < W1.length <;> by_cases h2 : j < W1.length
      · rw [List.getElem?_append_left h1] at hi
        rw [List.getElem?_append_left h2] at hj
        exact hD1.1 i j x y hi hj hxy
      · rw [List.getElem?_append_left h1] at hi
        rw [List.getElem?_append_right (by omega)] at hj
        have := hle _ _ hi
        have := hr _ _ hj
        omega
      · rw [List.getElem?_append_right (by omega)] at hi
        rw [List.getElem?_append_left h2] at hj
        have := hle _ _ hj
        have := hr _ _ hi
        omega
      · rw [List.getElem?_append_right (by omega)] at hi hj
        have := hr _ _ hi
        have := hr _ _ hj
        omega
    · by_cases h1 : k9 < W1.length
      · rw [List.getElem?_append_left h1] at hx
        exact hD1.2 k9 x hx
      · rw [List.getElem?_append_right (by omega)] at hx
        have := hr _ _ hx
        exact hA _ (by have := hS.1; omega)
  have hAr : ArrOfT s cA (.array ty) := fun N9 z9 => by
    obtain ⟨-, k9, hk9, cm9, hkk9⟩ := (hO 0 0 0).1
    exact ⟨(fun q hq => by cases hq), k9, hk9, cm9, hkk9⟩
  have hK2 : va_K D cl (tys ++ [(cA, .array ty)]) s := ⟨hK.1, fun k9 x hx => by
    by_cases hl : k9 < tys.length
    · rw [List.getElem?_append_left hl] at hx
      exact hK.2 k9 x hx
    · rw [List.getElem?_append_right (by omega)] at hx
      have h0 : k9 - tys.length < 1 := (List.getElem?_eq_some_iff.mp hx).1
      rw [show k9 - tys.length = 0 by omega] at hx
      cases hx
      exact ⟨hAr, fA⟩⟩
  obtain ⟨t, a1, b1⟩ := kk H.size (fun i => H.size + 1 + i) cA F.heap (fun i j _ _ h => by have h9 : H.size + 1 + i = H.size + 1 + j := h; omega) hnl hK2 (by rw [← vr_rows hnm]; exact vr_lay hP2) (by rw [← vr_rows hnm]; exact vr_layD hD2) ⟨by rw [f1]; have := hS.1; omega, fun x h1 h2 => (hold x (Nat.lt_of_lt_of_le h1 hS.1)).trans (hS.2.1 x h1 h2), hS.2.2⟩ F rfl X'
  refine ⟨t, step t ?_, b1⟩
  have e : T.heap.size = H.size := by rw [hT]
  rw [e]
  exact a1
end VGM
/-! ===== END ===== -/

/-! ===== BEGIN exceptions that leave a method, and their catching by the caller (launches without stack traces) ===== -/
section VXA
/-! The laws vx_back, vx_callV, vx_callS, vx_callSW, vx_throw0, vx_throwS follow proofs of the library, with one case more: JvmDerived/Free/Laws.lean (Back.of_free), Shelf42/LK1.lean (callV, callS), Shelf/KitTraced.lean (throwNew0V, throwNewS). -/
/-- where a method has thrown q: the class by its name, the cell, what was written, the world -/
def vx_T (XC : String → State → State → Prop) (st : State) (q : Addr) (t : State) (mc ms : Nat) (free : Addr → Prop) : Prop :=
  ∃ (E : String) (ce : Cell) (L : List Loc), XC E st t ∧ t.heap[q]? = some ce ∧ ce.vm = .none ∧ st.vm.findClass E = some ce.cls ∧ st.WarmedH t.vm ∧ st.sameButNew ({ t with vm := st.vm } : State) L mc ms ∧ ∀ z ∈ L, free z.base
def vx_Q (Qc : Array Value → State → Outcome → State → Prop) (XC : String → State → State → Prop) (mc ms : Nat) (free : Addr → Prop) : Array Value → State → Outcome → State → Prop := fun a st o t =>
  (Qc a st o t ∧ ∃ L, FrameEnd st o t L mc ms ∧ ∀ q ∈ L, free q.base) ∨ ∃ q, o = .threw q ∧ vx_T XC st q t mc ms free
/-- a callee that returns or throws -/
def vx_Met (l : Launch) (y : MethodName) (ws : List Cond) (rm : Room) (Pc : Array Value → State → Prop) (Qc : Array Value → State → Outcome → State → Prop) (XC : String → State → State → Prop) (mc ms : Nat) (free : Addr → Prop) : Prop :=
  MetFree l y (headSpec ws rm) Pc (fun _ _ _ _ _ => True) (vx_Q Qc XC mc ms free)
def vx_Post (XC : String → State → State → Prop) (mc ms : Nat) (free : Addr → Prop) : Pt → Array Value → Addr → Pt → Prop := fun A a q B =>
  ∃ (g : JFrame) (mk : MethodId) (t : State) (L : List Loc) (E : String) (ce : Cell), B.U.heap = t.heap ∧ B.U.vm = t.vm ∧ XC E (A.U.calling g mk a) t ∧ t.heap[q]? = some ce ∧ ce.vm = .none ∧ A.U.vm.findClass E = some ce.cls ∧ B.locs = A.locs ++ L ∧ (∀ z ∈ L, free z.base) ∧ B.cells = A.cells + mc ∧ B.slots = A.slots + ms
def vx_Back (l : Launch) (R : Room) (p : Program) (e : Env) (below : List Frame) (s : State) (sargs : Array Value) (y : MethodName) (len W9 : Nat)
    (Pre : Pt → Array Value → Prop) (Post : Pt → Array Value → Option Value → Pt → Prop) (PostX : Pt → Array Value → Addr → Pt → Prop) : Prop :=
  ∀ (m : MethodId) (meth : Method) (c : Code) (A : Pt) (g : JFrame) (ig : Instr) (mk : MethodId) (a : Array Value),
    Stand p l e R s m sargs below meth c A.U A.locs A.cells A.slots → g.method = m → g.locals.size = c.maxLocals → decode c.code g.pc = .ok (ig, len) →
    2 * g.monitorRoom + (g.stack.map fun v => v.category).sum ≤ W9 → A.U.methodNamed? y = some mk → Pre A a →
    (∃ (v : Option Value) (B : Pt), Stand p l e R s m sargs below meth c B.U B.locs B.cells B.slots ∧ Post A a v B ∧
      Steps p.tables e below (doInvoke e (A.U.setTop g) [] mk a).1 (B.U.setTop { g with pc := g.pc + len, stack := v.toList ++ g.stack })) ∨
    (∃ (q : Addr) (B : Pt), Stand p l e R s m sargs below meth c B.U B.locs B.cells B.slots ∧ PostX A a q B ∧
      Steps p.tables e below (doInvoke e (A.U.setTop g) [] mk a).1 ((B.U.setTop g).pushFrame (.throwing q)))
section Payer
variable {l : Launch} {R : Room} {p : Program} {e : Env} {below : List Frame} {s : State} {sargs : Array Value} {y : MethodName} {len W9 : Nat}
theorem vx_back {ws : List Cond} {rm : Room} {Pc : Array Value → State → Prop} {Qc : Array Value → State → Outcome → State → Prop} {XC : String → State → State → Prop} {mc ms : Nat} {free : Addr → Prop} {bytes : ByteArray} {maxL : Nat} {ret : Option FieldType}
    (hM : vx_Met l y ws rm Pc Qc XC mc ms free) (hblind : FrameBlind Pc) (hrc : rm.cells = mc) (hrs : rm.slots = ms)
    (hframes : rm.frames + 1 ≤ R.frames) (hlocals : W9 + (maxL + 11) + rm.locals ≤ R.locals)
    (hws : ∀ w ∈ ws, ∀ a' U, s.WarmedH U.vm → w.before a' U = true) (hcode : Cond.code y bytes maxL ret ∈ ws) (hinit : ∀ a' U, s.WarmedH U.vm → (Cond.initialized y.cls).before a' U = true) :
    vx_Back l R p e below s sargs y len W9 (PreOf R mc ms Pc) (PostOf Qc mc ms free) (vx_Post XC mc ms free) := by
  intro m meth c A g ig mk a X hg hsize hdg hW hn hp
  have h1 : (headSpec ws rm).pre.before a A.U = true := atoms_intro fun w hw => hws w hw _ _ X.warmed
  have h2 : (Cond.code y bytes maxL ret).before a A.U = true := hws _ hcode _ _ X.warmed
  have h3 : (Cond.initialized y.cls).before a A.U = true := hinit _ _ X.warmed
  have h4 : A.cells + (headSpec ws rm).room.cells ≤ R.cells := by rw [show (headSpec ws rm).room.cells = mc from hrc]; exact hp.1
  have h5 : A.slots + (headSpec ws rm).room.slots ≤ R.slots := by rw [show (headSpec ws rm).room.slots = ms from hrs]; exact hp.2.1
  have hPc : Pc a (A.U.calling g mk a) := hblind _ _ _ _ hp.2.2
  obtain ⟨U, Ls, c0, s0⟩ := A
  dsimp only [Pt.U, Pt.locs, Pt.cells, Pt.slots] at h1 h2 h3 h4 h5 X hn hPc ⊢
  obtain ⟨methY, cY, hmY, hcY, -, hlY, -, -, -, -⟩ := Cond.code_spec hn h2
  obtain ⟨kY, hkY, -⟩ := className_of_methodNamed hn
  have hinitY : kY.init = .initialized := Cond.initialized_spec (findClass_of_methodNamed hn) hkY h3
  have h : At U g.method c below := by rw [hg]; exact X.here
  have hlocals9 : W9 + (maxL + 11) + (headSpec ws rm).room.locals ≤ R.locals := hlocals
  have happ : (headSpec ws rm).appliesLoose y e.platform (U.calling g mk a) = true :=
    Spec.appliesLoose_calling (g := g) h hdg hn hkY hinitY
      (X.room_calling (g := g) (R' := (headSpec ws rm).room) hsize hmY hcY hframes (by rw [hlY]; omega) h4 h5) h1
  obtain ⟨mid, hmid⟩ := h.above
  have hfr : (U.setTop g).frames = (.java g :: mid) ++ below := by rw [State.frames_setTop' g h.top, hmid]; rfl
  obtain ⟨o, s₂, hsteps, -, hend, hq⟩ := Steps.callFree hM p X.admits X.cas X.clock (acts := []) hfr happ hPc trivial
  have hq' : vx_Q Qc XC mc ms free a (U.calling g mk a) o s₂ := hq
  rw [State.frames_setTop' g h.top] at hend
  obtain ⟨g₀, hg0⟩ := Option.isSome_iff_exists.mp h.top
  obtain ⟨r, hr⟩ := State.topJava?_eq_some.mp hg0
  have hr' : (({ U with heap := s₂.heap, slotsUsed := s₂.slotsUsed } : State).setVm s₂.vm).frames = .java g₀ :: r := hr
  rcases hq' with ⟨hqc, L, hfe, hL⟩ | ⟨q, rfl, E, ce, L, hx, hce, hcv, hcl, hW₂, hsm, hL⟩
  · obtain ⟨⟨v, rfl⟩, hW₂, e2, q2, q3, q4, q5, q6⟩ := id hfe
    have e3 : s₂ = ({ (U.calling g mk a).setFrames s₂.frames with heap := s₂.heap, slotsUsed := s₂.slotsUsed } : State).setVm s₂.vm := by
      have : s₂ = ({ s₂ with vm := (U.calling g mk a).vm } : State).setVm s₂.vm := rfl
      rw [e2] at this
      exact this
    obtain ⟨c₂, i₂, len₂, hc₂, hd₂, hf₂⟩ := hend
    have hW' : U.WarmedH s₂.vm := hW₂
    have hcc : c₂ = c := by
      have h1 : s₂.code? g.method = U.code? g.method := by
        rw [State.code?_eq, State.code?_eq, hW'.alike.method?]
      exact Option.some.inj (hc₂.symm.trans (h1.trans h.code))
    subst hcc
    have hlen : len₂ = len := by rw [hdg] at hd₂; cases hd₂; rfl
    subst hlen
    have hs₂ : s₂ = (({ U with heap := s₂.heap, slotsUsed := s₂.slotsUsed } : State).setVm s₂.vm).setTop { g with pc := g.pc + len₂, stack := v.toList ++ g.stack } := by
      refine e3.trans ?_
      rw [hf₂, State.calling_eq h.top, State.setFrames_setFrames, State.setTop_of_frames _ hr', hr]
      rfl
    have hsame : U.sameButNew ({ U with heap := s₂.heap, slotsUsed := s₂.slotsUsed } : State) L mc ms := by
      refine ⟨?_, q2, q3, q4, q5, q6⟩
      obtain ⟨t, ht, -⟩ := State.frames_cons hr
      show ({ U with heap := s₂.heap, slotsUsed := s₂.slotsUsed } : State) = { U.setFrames U.frames with heap := s₂.heap, slotsUsed := s₂.slotsUsed }
      rw [State.setFrames_self ht]
    subst hg
    refine Or.inl ⟨v, ⟨(({ U with heap := s₂.heap, slotsUsed := s₂.slotsUsed } : State).setVm s₂.vm), Ls ++ L, c0 + mc, s0 + ms⟩,
      ⟨X.admits, X.cas, X.clock, X.frames, X.room, X.hears, X.method, X.code, (X.here.setHeapUsed s₂.heap s₂.slotsUsed).setVm hW'.alike, X.tail, State.WarmedH.trans X.warmed hW', X.limits, X.bytes, X.same.trans (hsame.setVm s.vm)⟩,
      ⟨g, mk, s₂, L, rfl, rfl, hqc, rfl, hL, rfl, rfl⟩, ?_⟩
    show Steps p.tables e below _ ((({ U with heap := s₂.heap, slotsUsed := s₂.slotsUsed } : State).setVm s₂.vm).setTop { g with pc := g.pc + len₂, stack := v.toList ++ g.stack })
    rw [← hs₂]
    exact hsteps
  · obtain ⟨e2, q2, q3, q4, q5, q6⟩ := id hsm
    have e3 : s₂ = ({ (U.calling g mk a).setFrames s₂.frames with heap := s₂.heap, slotsUsed := s₂.slotsUsed } : State).setVm s₂.vm := by
      have : s₂ = ({ s₂ with vm := (U.calling g mk a).vm } : State).setVm s₂.vm := rfl
      rw [e2] at this
      exact this
    have hf₂ : s₂.frames = .throwing q :: .java g :: U.frames.tail := hend
    have hW' : U.WarmedH s₂.vm := hW₂
    have hs₂ : s₂ = ((({ U with heap := s₂.heap, slotsUsed := s₂.slotsUsed } : State).setVm s₂.vm).setTop g).pushFrame (.throwing q) := by
      refine e3.trans ?_
      rw [hf₂, State.calling_eq h.top, State.setFrames_setFrames, State.pushFrame, State.frames_setTop _ hr', State.setTop_of_frames _ hr', State.setFrames_setFrames, hr]
      rfl
    have hsame : U.sameButNew ({ U with heap := s₂.heap, slotsUsed := s₂.slotsUsed } : State) L mc ms := by
      refine ⟨?_, q2, q3, q4, q5, q6⟩
      obtain ⟨t, ht, -⟩ := State.frames_cons hr
      show ({ U with heap := s₂.heap, slotsUsed := s₂.slotsUsed } : State) = { U.setFrames U.frames with heap := s₂.heap, slotsUsed := s₂.slotsUsed }
      rw [State.setFrames_self ht]
    subst hg
    refine Or.inr ⟨q, ⟨(({ U with heap := s₂.heap, slotsUsed := s₂.slotsUsed } : State).setVm s₂.vm), Ls ++ L, c0 + mc, s0 + ms⟩,
      ⟨X.admits, X.cas, X.clock, X.frames, X.room, X.hears, X.method, X.code, (X.here.setHeapUsed s₂.heap s₂.slotsUsed).setVm hW'.alike, X.tail, State.WarmedH.trans X.warmed hW', X.limits, X.bytes, X.same.trans (hsame.setVm s.vm)⟩,
      ⟨g, mk, s₂, L, E, ce, rfl, rfl, hx, hce, hcv, hcl, rfl, hL, rfl, rfl⟩, ?_⟩
    show Steps p.tables e below _ (((({ U with heap := s₂.heap, slotsUsed := s₂.slotsUsed } : State).setVm s₂.vm).setTop g).pushFrame (.throwing q))
    rw [← hs₂]
    exact hsteps
end Payer
section Calls
variable {p : Program} {l : Launch} {e : Env} {R : Room} {s : State} {m : MethodId} {args : Array Value} {below : List Frame} {meth : Method} {c : Code} {T : State} {locs : List Loc} {cells slots : Nat}
theorem vx_callV (X : Stand p l e R s m args below meth c T locs cells slots) (hexec : p.tables.exec = Jvm.exec) {own C : String} {index : Nat} {y : MethodName} {bytes : ByteArray} {maxL : Nat} {ret : Option FieldType}
    (hown : s.vm.findClass own = some m.cls) (hlink : (Cond.methodLink own index y).before args s = true) (hinst : (Cond.instanceMethod y).before args s = true) (hsel : (Cond.selects C y y).before args s = true)
    (hcode : (Cond.code y bytes maxL ret).before args s = true) (hy : y.cls ≠ "java/lang/invoke/MethodHandle" ∧ y.cls ≠ "java/lang/invoke/VarHandle")
    {W9 : Nat} {Pre : Pt → Array Value → Prop} {Post : Pt → Array Value → Option Value → Pt → Prop} {PostX : Pt → Array Value → Addr → Pt → Prop} (hK : vx_Back l R p e below s args y 3 W9 Pre Post PostX)
    {b : Addr} {cellB : Cell} (hcell : T.heap[b]? = some cellB) (hobj : cellB.vm.isStatics = false) (hcls : s.vm.findClass C = some cellB.cls)
    {g : JFrame} (hg : g.method = m) (hsize : g.locals.size = c.maxLocals) {argsL rest : List Value} (hlen : ∀ sig, parseMethodDescriptor y.desc = some sig → argsL.length = sig.parameters.length)
    (hstack : g.stack = argsL.reverse ++ .ref b :: rest) (hW : 2 * g.monitorRoom + (rest.map fun v => v.category).sum ≤ W9) (hdg : decode c.code g.pc = .ok (.invokevirtual index, 3))
    (hpre : ∀ vm₁, s.WarmedH vm₁ → Pre ⟨T.setVm vm₁, locs, cells, slots⟩ (Value.ref b :: argsL).toArray) :
    (∃ (v : Option Value) (vm₁ : Vm) (B : Pt), s.WarmedH vm₁ ∧ Stand p l e R s m args below meth c B.U B.locs B.cells B.slots ∧ Post ⟨T.setVm vm₁, locs, cells, slots⟩ (Value.ref b :: argsL).toArray v B ∧
      ∀ target, Steps p.tables e below (B.U.setTop { g with pc := g.pc + 3, stack := v.toList ++ rest }) target → Steps p.tables e below (T.setTop g) target) ∨
    (∃ (q : Addr) (vm₁ : Vm) (B : Pt), s.WarmedH vm₁ ∧ Stand p l e R s m args below meth c B.U B.locs B.cells B.slots ∧ PostX ⟨T.setVm vm₁, locs, cells, slots⟩ (Value.ref b :: argsL).toArray q B ∧
      Steps p.tables e below (T.setTop g) ((B.U.setTop { g with stack := rest }).pushFrame (.throwing q))) := by
  obtain ⟨mk, methM, hnamed, hmethM, hstM, habM⟩ := Cond.instanceMethod_spec hinst
  obtain ⟨methM', cM, hmethM', -, -, -, -, -, -, hsigM⟩ := Cond.code_spec hnamed hcode
  cases hmethM.symm.trans hmethM'
  obtain ⟨c2, r2, m2, q1, q2, q3, q4, kP, hkP, hkPi⟩ := Cond.selects_spec hsel
  cases hcls.symm.trans q1
  cases (State.methodFound?_of_named hnamed hy).symm.trans q2
  cases hnamed.symm.trans q3
  have hselP : selectMethod e.platform s.vm cellB.cls mk = .method mk := by rw [Launch.admits_selectMethod X.admits]; exact q4
  obtain ⟨vm₁, X₁, hstep₁⟩ := X.invokevirtual hexec hown hlink hnamed hmethM hstM hkP hkPi hy (a := b) (cell := cellB) hcell
    (fun z h => by rw [h] at hobj; cases hobj) hselP hmethM habM hkP hkPi (g := g) hg (argsL := argsL) (rest := rest) (hlen _ hsigM) hstack hdg
  rcases hK m meth c ⟨T.setVm vm₁, locs, cells, slots⟩ { g with stack := rest } (.invokevirtual index) mk (Value.ref b :: argsL).toArray X₁ hg hsize hdg hW (X₁.named hnamed) (hpre vm₁ X₁.warmed) with ⟨v, B, X', hpost, hsteps⟩ | ⟨q, B, X', hpost, hsteps⟩
  · exact Or.inl ⟨v, vm₁, B, X₁.warmed, X', hpost, fun target h => hstep₁ _ fun acts => by rw [doInvoke_state]; exact hsteps.trans h⟩
  · exact Or.inr ⟨q, vm₁, B, X₁.warmed, X', hpost, hstep₁ _ fun acts => by rw [doInvoke_state]; exact hsteps⟩
theorem vx_callS (X : Stand p l e R s m args below meth c T locs cells slots) (hexec : p.tables.exec = Jvm.exec) {own : String} {index : Nat} {y : MethodName} {bytes : ByteArray} {maxL : Nat} {ret : Option FieldType}
    (hown : s.vm.findClass own = some m.cls) (hlink : (Cond.methodLink own index y).before args s = true) (hstat : (Cond.static y).before args s = true) (hinit : (Cond.initialized y.cls).before args s = true)
    (hcode : (Cond.code y bytes maxL ret).before args s = true) (hy : y.cls ≠ "java/lang/invoke/MethodHandle" ∧ y.cls ≠ "java/lang/invoke/VarHandle")
    {W9 : Nat} {Pre : Pt → Array Value → Prop} {Post : Pt → Array Value → Option Value → Pt → Prop} {PostX : Pt → Array Value → Addr → Pt → Prop} (hK : vx_Back l R p e below s args y 3 W9 Pre Post PostX)
    {g : JFrame} (hg : g.method = m) (hsize : g.locals.size = c.maxLocals) {argsL rest : List Value} (hlen : ∀ sig, parseMethodDescriptor y.desc = some sig → argsL.length = sig.parameters.length)
    (hstack : g.stack = argsL.reverse ++ rest) (hW : 2 * g.monitorRoom + (rest.map fun v => v.category).sum ≤ W9) (hdg : decode c.code g.pc = .ok (.invokestatic index, 3))
    (hpre : ∀ vm₁, s.WarmedH vm₁ → Pre ⟨T.setVm vm₁, locs, cells, slots⟩ argsL.toArray) :
    (∃ (v : Option Value) (vm₁ : Vm) (B : Pt), s.WarmedH vm₁ ∧ Stand p l e R s m args below meth c B.U B.locs B.cells B.slots ∧ Post ⟨T.setVm vm₁, locs, cells, slots⟩ argsL.toArray v B ∧
      ∀ target, Steps p.tables e below (B.U.setTop { g with pc := g.pc + 3, stack := v.toList ++ rest }) target → Steps p.tables e below (T.setTop g) target) ∨
    (∃ (q : Addr) (vm₁ : Vm) (B : Pt), s.WarmedH vm₁ ∧ Stand p l e R s m args below meth c B.U B.locs B.cells B.slots ∧ PostX ⟨T.setVm vm₁, locs, cells, slots⟩ argsL.toArray q B ∧
      Steps p.tables e below (T.setTop g) ((B.U.setTop { g with stack := rest }).pushFrame (.throwing q))) := by
  obtain ⟨mk, hnamed⟩ := Cond.code_named hcode
  obtain ⟨methM, cM, hmethM, -, -, -, -, -, -, hsigM⟩ := Cond.code_spec hnamed hcode
  have hstatic : methM.isStatic = true := Cond.static_spec hnamed hmethM hstat
  obtain ⟨kP, hkP, -⟩ := className_of_methodNamed hnamed
  have hinitP : kP.init = .initialized := Cond.initialized_spec (findClass_of_methodNamed hnamed) hkP hinit
  obtain ⟨vm₁, X₁, hstep₁⟩ := X.invokestatic hexec hown hlink hnamed hmethM hstatic hkP hinitP hy (g := g) hg (argsL := argsL) (rest := rest) (hlen _ hsigM) hstack hdg
  rcases hK m meth c ⟨T.setVm vm₁, locs, cells, slots⟩ { g with stack := rest } (.invokestatic index) mk argsL.toArray X₁ hg hsize hdg hW (X₁.named hnamed) (hpre vm₁ X₁.warmed) with ⟨v, B, X', hpost, hsteps⟩ | ⟨q, B, X', hpost, hsteps⟩
  · exact Or.inl ⟨v, vm₁, B, X₁.warmed, X', hpost, fun target h => hstep₁ _ fun acts => by rw [doInvoke_state]; exact hsteps.trans h⟩
  · exact Or.inr ⟨q, vm₁, B, X₁.warmed, X', hpost, hstep₁ _ fun acts => by rw [doInvoke_state]; exact hsteps⟩
end Calls
theorem vx_cls {s : State} {T : State} {vm₁ : Vm} {E : String} {k : ClassId} (hW : s.WarmedH vm₁) (h : (T.setVm vm₁).vm.findClass E = some k) : s.vm.findClass E = some k := by
  have h1 : vm₁.findClass E = some k := h
  rw [hW.alike.findClass] at h1
  exact h1
/-- the method's frame g, with q thrown over it -/
def vx_W (p : Program) (l : Launch) (e : Env) (R : Room) (s : State) (m : MethodId) (args : Array Value) (below : List Frame) (meth : Method) (c : Code) (H : Heap) (locs : List Loc) (cells slots : Nat) (Q : State → Prop) (g : JFrame) (q : Addr) : Prop :=
  ∀ T : State, T.heap = H → Stand p l e R s m args below meth c T locs cells slots → ∃ t, Steps p.tables e below ((T.setTop g).pushFrame (.throwing q)) t ∧ Q t
def vx_Run (p : Program) (l : Launch) (e : Env) (R : Room) (s : State) (m : MethodId) (args : Array Value) (below : List Frame) (meth : Method) (c : Code) (H : Heap) (locs : List Loc) (cells slots mc ms : Nat) (g : JFrame) (rest : List Value) (Qa : State → Outcome → State → Prop) (XC : String → State → State → Prop) (free : Addr → Prop) : Prop :=
  ∀ T : State, T.heap = H → Stand p l e R s m args below meth c T locs cells slots →
    (∃ (v : Option Value) (st₀ t T' : State) (L : List Loc), st₀.heap = H ∧ Stand p l e R s m args below meth c T' (locs ++ L) (cells + mc) (slots + ms) ∧ (∀ q ∈ L, free q.base) ∧ T'.heap = t.heap ∧ T'.vm = t.vm ∧ Qa st₀ (.returned v) t ∧
      Goes p e below T g T' { g with pc := g.pc + 3, stack := v.toList ++ rest }) ∨
    (∃ (q : Addr) (st₀ t T' : State) (L : List Loc) (E : String) (ce : Cell), st₀.heap = H ∧ Stand p l e R s m args below meth c T' (locs ++ L) (cells + mc) (slots + ms) ∧ (∀ z ∈ L, free z.base) ∧ T'.heap = t.heap ∧ T'.vm = t.vm ∧ XC E st₀ t ∧ t.heap[q]? = some ce ∧ ce.vm = .none ∧ s.vm.findClass E = some ce.cls ∧
      Steps p.tables e below (T.setTop g) ((T'.setTop { g with stack := rest }).pushFrame (.throwing q)))
def vx_X {S : Type} (px : S → Prop) (B : String → S → State → Prop) (A : Nat → Prop) : String → State → State → Prop := fun E st t => ∃ u : S, px u ∧ B E u t ∧ va_F A st t
section Runs
variable {p : Program} {l : Launch} {e : Env} {R : Room} {s : State} {m : MethodId} {args : Array Value} {below : List Frame} {meth : Method} {c : Code} {H : Heap} {locs : List Loc} {cells slots : Nat}
variable {y : MethodName} {bytes cc : ByteArray} {maxL nL mc ms n index : Nat} {ret : Option FieldType} {ws : List Cond} {rm : Room} {Pc : Array Value → State → Prop} {Qc : Array Value → State → Outcome → State → Prop} {XC : String → State → State → Prop} {free : Addr → Prop} {Ts : List Cond} {own C : String} {b : Addr} {As rest : List Value} {g : JFrame}
theorem vx_callBack (cb : CallB R s args own index y bytes maxL ret ws rm mc ms n) (hM : vx_Met l y ws rm Pc Qc XC mc ms free) (hbl : FrameBlind Pc) : vx_Back l R p e below s args y 3 8 (PreOf R mc ms Pc) (PostOf Qc mc ms free) (vx_Post XC mc ms free) := by
  obtain ⟨hrc, hrs, hfr, hlo, hws, hcw, -, hini, -⟩ := cb
  exact vx_back (bytes := bytes) (maxL := maxL) (ret := ret) hM hbl hrc hrs hfr hlo hws hcw (fun a' U hW => word_at hW (Or.inl (by first | rfl | simp [Cond.onTables, Cond.keeps, Cond.steady])) hini)
theorem vx_runV (S : CallFix p m c cc nL s args Ts own) (hM : vx_Met l y ws rm Pc Qc XC mc ms free) (cw : CallW R s args own C index y bytes maxL ret ws rm mc ms n) (hp : PreV s H C b Pc As)
    (hg : g.method = m) (hn : As.length = n) (hsize : g.locals.size = nL) (hstack : g.stack = As.reverse ++ .ref b :: rest) (hW : 2 * g.monitorRoom + (rest.map fun v => v.category).sum ≤ 8) (hdg : decode cc g.pc = .ok (.invokevirtual index, 3)) (hf : cells + mc ≤ R.cells ∧ slots + ms ≤ R.slots) :
    vx_Run p l e R s m args below meth c H locs cells slots mc ms g rest (Qc (Value.ref b :: As).toArray) XC free := by
  have hK : vx_Back l R p e below s args y 3 8 (PreOf R mc ms Pc) (PostOf Qc mc ms free) (vx_Post XC mc ms free) := vx_callBack cw.1 hM hp.1
  obtain ⟨⟨-, -, -, -, -, -, hcode, -, hy, hlen, hl⟩, hin, hse⟩ := cw
  obtain ⟨hx, hb, hml, ho, -⟩ := S
  obtain ⟨-, ⟨cellB, hcB, hoB, hclB⟩, hPc⟩ := hp
  intro T hT X
  rcases vx_callV X hx (C := C) (bytes := bytes) (maxL := maxL) (ret := ret) ho hl hin hse hcode hy hK (by rw [hT]; exact hcB) hoB hclB hg (hsize.trans hml.symm) (argsL := As) (rest := rest) (fun sig h => hn.trans (hlen sig h)) hstack hW (by rw [hb]; exact hdg)
    (fun vm₁ hW₁ => ⟨hf.1, hf.2, hPc (T.setVm vm₁) hT hW₁⟩) with ⟨v, vm₁, ⟨U', l2, c2, s2⟩, hW₁, X', ⟨g', mk, t, L, e1, e2, hq, h1, hL, h2, h3⟩, st⟩ | ⟨q, vm₁, ⟨U', l2, c2, s2⟩, hW₁, X', ⟨g', mk, t, L, E, ce, e1, e2, hq, hce, hcv, hcl, h1, hL, h2, h3⟩, st⟩
  · dsimp only [Pt.U, Pt.locs, Pt.cells, Pt.slots] at X' e1 e2 h1 h2 h3 st
    subst h1; subst h2; subst h3
    exact Or.inl ⟨v, (T.setVm vm₁).calling g' mk (Value.ref b :: As).toArray, t, U', L, hT, X', hL, e1, e2, hq, st⟩
  · dsimp only [Pt.U, Pt.locs, Pt.cells, Pt.slots] at X' e1 e2 h1 h2 h3 st hcl
    subst h1; subst h2; subst h3
    exact Or.inr ⟨q, (T.setVm vm₁).calling g' mk (Value.ref b :: As).toArray, t, U', L, E, ce, hT, X', hL, e1, e2, hq, hce, hcv, vx_cls hW₁ hcl, st⟩
theorem vx_runS (S : CallFix p m c cc nL s args Ts own) (hM : vx_Met l y ws rm Pc Qc XC mc ms free) (cw : CallB R s args own index y bytes maxL ret ws rm mc ms n ∧ (Cond.static y).before args s = true) (hp : PreS s H Pc As)
    (hg : g.method = m) (hn : As.length = n) (hsize : g.locals.size = nL) (hstack : g.stack = As.reverse ++ rest) (hW : 2 * g.monitorRoom + (rest.map fun v => v.category).sum ≤ 8) (hdg : decode cc g.pc = .ok (.invokestatic index, 3)) (hf : cells + mc ≤ R.cells ∧ slots + ms ≤ R.slots) :
    vx_Run p l e R s m args below meth c H locs cells slots mc ms g rest (Qc As.toArray) XC free := by
  have hK : vx_Back l R p e below s args y 3 8 (PreOf R mc ms Pc) (PostOf Qc mc ms free) (vx_Post XC mc ms free) := vx_callBack cw.1 hM hp.1
  obtain ⟨⟨-, -, -, -, -, -, hcode, hini, hy, hlen, hl⟩, hstt⟩ := cw
  obtain ⟨hx, hb, hml, ho, -⟩ := S
  intro T hT X
  rcases vx_callS X hx (bytes := bytes) (maxL := maxL) (ret := ret) ho hl hstt hini hcode hy hK hg (hsize.trans hml.symm) (argsL := As) (rest := rest) (fun sig h => hn.trans (hlen sig h)) hstack hW (by rw [hb]; exact hdg)
    (fun vm₁ hW₁ => ⟨hf.1, hf.2, hp.2 (T.setVm vm₁) hT hW₁⟩) with ⟨v, vm₁, ⟨U', l2, c2, s2⟩, hW₁, X', ⟨g', mk, t, L, e1, e2, hq, h1, hL, h2, h3⟩, st⟩ | ⟨q, vm₁, ⟨U', l2, c2, s2⟩, hW₁, X', ⟨g', mk, t, L, E, ce, e1, e2, hq, hce, hcv, hcl, h1, hL, h2, h3⟩, st⟩
  · dsimp only [Pt.U, Pt.locs, Pt.cells, Pt.slots] at X' e1 e2 h1 h2 h3 st
    subst h1; subst h2; subst h3
    exact Or.inl ⟨v, (T.setVm vm₁).calling g' mk As.toArray, t, U', L, hT, X', hL, e1, e2, hq, st⟩
  · dsimp only [Pt.U, Pt.locs, Pt.cells, Pt.slots] at X' e1 e2 h1 h2 h3 st hcl
    subst h1; subst h2; subst h3
    exact Or.inr ⟨q, (T.setVm vm₁).calling g' mk As.toArray, t, U', L, E, ce, hT, X', hL, e1, e2, hq, hce, hcv, vx_cls hW₁ hcl, st⟩
end Runs
section Rows
variable {p : Program} {l : Launch} {e : Env} {R : Room} {s : State} {m : MethodId} {args : Array Value} {below : List Frame} {meth : Method} {c : Code} {H : Heap} {locs : List Loc} {cells slots : Nat} {Q : State → Prop}
variable {mc ms : Nat} {free : Addr → Prop} {A0 A1 : Nat → Prop} {H0 : Heap} {a : Array Value} {pc : Nat} {ls : Array Slot} {st0 rest : List Value}
theorem vx_keep {st₀ t T' : State} {L : List Loc} (h0 : st₀.heap = H) (e1 : T'.heap = t.heap) (hS : va_S A0 H0 H locs) (hA : ∀ q, q < H.size → A1 q → A0 q) (hf : ∀ q, free q → A0 q) (hL : ∀ q ∈ L, free q.base) (hF : va_F A1 st₀ t) :
    H.size ≤ T'.heap.size ∧ (∀ q : Nat, q < H.size → ¬ A1 q → T'.heap[q]? = H[q]?) ∧ va_S A0 H0 T'.heap (locs ++ L) := by
  obtain ⟨hz, hk⟩ := hF
  rw [h0] at hz hk
  exact ⟨by rw [e1]; exact hz, fun q h1 h2 => by rw [e1]; exact hk q h1 h2,
    ⟨Nat.le_trans hS.1 (by rw [e1]; exact hz), fun q h1 h2 => by rw [e1, hk q (Nat.lt_of_lt_of_le h1 hS.1) (fun z => h2 (hA q (Nat.lt_of_lt_of_le h1 hS.1) z))]; exact hS.2.1 q h1 h2, fun q hq => by
      rcases List.mem_append.mp hq with h | h
      · exact hS.2.2 q h
      · exact hf _ (hL q h)⟩⟩
theorem vx_calli {S SX : Type} {post : Int32 → S → Prop} {px : SX → Prop} {B : S → State → Prop} {BX : String → SX → State → Prop} {AX : Nat → Prop} (hr : vx_Run p l e R s m args below meth c H locs cells slots mc ms (F0 m pc ls st0) rest (va_Qi post B A1 a) (vx_X px BX AX) free) (hS : va_S A0 H0 H locs) (hA : ∀ q, q < H.size → A1 q → A0 q) (hf : ∀ q, free q → A0 q) (hAX : ∀ q, q < H.size → AX q → A0 q)
    (kx : ∀ (E : String) (ce : Cell) (q9 : Addr) (u : SX) (t : State) (H1 : Heap) (locs1 : List Loc), t.heap = H1 → s.vm.Alike t.vm → px u → BX E u t → H.size ≤ H1.size → (∀ q : Nat, q < H.size → ¬ AX q → H1[q]? = H[q]?) → va_S A0 H0 H1 locs1 → H1[q9]? = some ce → ce.vm = .none → s.vm.findClass E = some ce.cls → vx_W p l e R s m args below meth c H1 locs1 (cells + mc) (slots + ms) Q (F0 m pc ls rest) q9)
    (kk : ∀ (r : Int32) (u : S) (t : State) (H1 : Heap) (locs1 : List Loc), t.heap = H1 → s.vm.Alike t.vm → post r u → B u t → H.size ≤ H1.size → (∀ q : Nat, q < H.size → ¬ A1 q → H1[q]? = H[q]?) → va_S A0 H0 H1 locs1 → W p l e R s m args below meth c H1 locs1 (cells + mc) (slots + ms) Q (F0 m (pc + 3) ls (.int r :: rest))) : W p l e R s m args below meth c H locs cells slots Q (F0 m pc ls st0) := by
  intro T hT X
  rcases hr T hT X with ⟨v, st₀, t, T', L, h0, X', hL, e1, e2, ⟨⟨r, u, hv, hp, hb⟩, hF⟩, st⟩ | ⟨q, st₀, t, T', L, E, ce, h0, X', hL, e1, e2, ⟨u, hp, hb, hF⟩, hce, hcv, hcl, st⟩
  · cases hv
    obtain ⟨k1, k2, k3⟩ := vx_keep h0 e1 hS hA hf hL hF
    obtain ⟨t2, a1, b1⟩ := kk r u t T'.heap (locs ++ L) e1.symm (by rw [← e2]; exact X'.warmed.alike) hp hb k1 k2 k3 T' rfl X'
    exact ⟨t2, st t2 a1, b1⟩
  · obtain ⟨k1, k2, k3⟩ := vx_keep h0 e1 hS hAX hf hL hF
    obtain ⟨t2, a1, b1⟩ := kx E ce q u t T'.heap (locs ++ L) e1.symm (by rw [← e2]; exact X'.warmed.alike) hp hb k1 k2 k3 (by rw [e1]; exact hce) hcv hcl T' rfl X'
    exact ⟨t2, st.trans a1, b1⟩
theorem vx_calll {S SX : Type} {post : Int64 → S → Prop} {px : SX → Prop} {B : S → State → Prop} {BX : String → SX → State → Prop} {AX : Nat → Prop} (hr : vx_Run p l e R s m args below meth c H locs cells slots mc ms (F0 m pc ls st0) rest (va_Ql post B A1 a) (vx_X px BX AX) free) (hS : va_S A0 H0 H locs) (hA : ∀ q, q < H.size → A1 q → A0 q) (hf : ∀ q, free q → A0 q) (hAX : ∀ q, q < H.size → AX q → A0 q)
    (kx : ∀ (E : String) (ce : Cell) (q9 : Addr) (u : SX) (t : State) (H1 : Heap) (locs1 : List Loc), t.heap = H1 → s.vm.Alike t.vm → px u → BX E u t → H.size ≤ H1.size → (∀ q : Nat, q < H.size → ¬ AX q → H1[q]? = H[q]?) → va_S A0 H0 H1 locs1 → H1[q9]? = some ce → ce.vm = .none → s.vm.findClass E = some ce.cls → vx_W p l e R s m args below meth c H1 locs1 (cells + mc) (slots + ms) Q (F0 m pc ls rest) q9)
    (kk : ∀ (r : Int64) (u : S) (t : State) (H1 : Heap) (locs1 : List Loc), t.heap = H1 → s.vm.Alike t.vm → post r u → B u t → H.size ≤ H1.size → (∀ q : Nat, q < H.size → ¬ A1 q → H1[q]? = H[q]?) → va_S A0 H0 H1 locs1 → W p l e R s m args below meth c H1 locs1 (cells + mc) (slots + ms) Q (F0 m (pc + 3) ls (.long r :: rest))) : W p l e R s m args below meth c H locs cells slots Q (F0 m pc ls st0) := by
  intro T hT X
  rcases hr T hT X with ⟨v, st₀, t, T', L, h0, X', hL, e1, e2, ⟨⟨r, u, hv, hp, hb⟩, hF⟩, st⟩ | ⟨q, st₀, t, T', L, E, ce, h0, X', hL, e1, e2, ⟨u, hp, hb, hF⟩, hce, hcv, hcl, st⟩
  · cases hv
    obtain ⟨k1, k2, k3⟩ := vx_keep h0 e1 hS hA hf hL hF
    obtain ⟨t2, a1, b1⟩ := kk r u t T'.heap (locs ++ L) e1.symm (by rw [← e2]; exact X'.warmed.alike) hp hb k1 k2 k3 T' rfl X'
    exact ⟨t2, st t2 a1, b1⟩
  · obtain ⟨k1, k2, k3⟩ := vx_keep h0 e1 hS hAX hf hL hF
    obtain ⟨t2, a1, b1⟩ := kx E ce q u t T'.heap (locs ++ L) e1.symm (by rw [← e2]; exact X'.warmed.alike) hp hb k1 k2 k3 (by rw [e1]; exact hce) hcv hcl T' rfl X'
    exact ⟨t2, st.trans a1, b1⟩
theorem vx_callf {S SX : Type} {post : UInt32 → S → Prop} {px : SX → Prop} {B : S → State → Prop} {BX : String → SX → State → Prop} {AX : Nat → Prop} (hr : vx_Run p l e R s m args below meth c H locs cells slots mc ms (F0 m pc ls st0) rest (va_Qf post B A1 a) (vx_X px BX AX) free) (hS : va_S A0 H0 H locs) (hA : ∀ q, q < H.size → A1 q → A0 q) (hf : ∀ q, free q → A0 q) (hAX : ∀ q, q < H.size → AX q → A0 q)
    (kx : ∀ (E : String) (ce : Cell) (q9 : Addr) (u : SX) (t : State) (H1 : Heap) (locs1 : List Loc), t.heap = H1 → s.vm.Alike t.vm → px u → BX E u t → H.size ≤ H1.size → (∀ q : Nat, q < H.size → ¬ AX q → H1[q]? = H[q]?) → va_S A0 H0 H1 locs1 → H1[q9]? = some ce → ce.vm = .none → s.vm.findClass E = some ce.cls → vx_W p l e R s m args below meth c H1 locs1 (cells + mc) (slots + ms) Q (F0 m pc ls rest) q9)
    (kk : ∀ (r : UInt32) (u : S) (t : State) (H1 : Heap) (locs1 : List Loc), t.heap = H1 → s.vm.Alike t.vm → post r u → B u t → H.size ≤ H1.size → (∀ q : Nat, q < H.size → ¬ A1 q → H1[q]? = H[q]?) → va_S A0 H0 H1 locs1 → W p l e R s m args below meth c H1 locs1 (cells + mc) (slots + ms) Q (F0 m (pc + 3) ls (.float r :: rest))) : W p l e R s m args below meth c H locs cells slots Q (F0 m pc ls st0) := by
  intro T hT X
  rcases hr T hT X with ⟨v, st₀, t, T', L, h0, X', hL, e1, e2, ⟨⟨r, u, hv, hp, hb⟩, hF⟩, st⟩ | ⟨q, st₀, t, T', L, E, ce, h0, X', hL, e1, e2, ⟨u, hp, hb, hF⟩, hce, hcv, hcl, st⟩
  · cases hv
    obtain ⟨k1, k2, k3⟩ := vx_keep h0 e1 hS hA hf hL hF
    obtain ⟨t2, a1, b1⟩ := kk r u t T'.heap (locs ++ L) e1.symm (by rw [← e2]; exact X'.warmed.alike) hp hb k1 k2 k3 T' rfl X'
    exact ⟨t2, st t2 a1, b1⟩
  · obtain ⟨k1, k2, k3⟩ := vx_keep h0 e1 hS hAX hf hL hF
    obtain ⟨t2, a1, b1⟩ := kx E ce q u t T'.heap (locs ++ L) e1.symm (by rw [← e2]; exact X'.warmed.alike) hp hb k1 k2 k3 (by rw [e1]; exact hce) hcv hcl T' rfl X'
    exact ⟨t2, st.trans a1, b1⟩
theorem vx_calld {S SX : Type} {post : UInt64 → S → Prop} {px : SX → Prop} {B : S → State → Prop} {BX : String → SX → State → Prop} {AX : Nat → Prop} (hr : vx_Run p l e R s m args below meth c H locs cells slots mc ms (F0 m pc ls st0) rest (va_Qd post B A1 a) (vx_X px BX AX) free) (hS : va_S A0 H0 H locs) (hA : ∀ q, q < H.size → A1 q → A0 q) (hf : ∀ q, free q → A0 q) (hAX : ∀ q, q < H.size → AX q → A0 q)
    (kx : ∀ (E : String) (ce : Cell) (q9 : Addr) (u : SX) (t : State) (H1 : Heap) (locs1 : List Loc), t.heap = H1 → s.vm.Alike t.vm → px u → BX E u t → H.size ≤ H1.size → (∀ q : Nat, q < H.size → ¬ AX q → H1[q]? = H[q]?) → va_S A0 H0 H1 locs1 → H1[q9]? = some ce → ce.vm = .none → s.vm.findClass E = some ce.cls → vx_W p l e R s m args below meth c H1 locs1 (cells + mc) (slots + ms) Q (F0 m pc ls rest) q9)
    (kk : ∀ (r : UInt64) (u : S) (t : State) (H1 : Heap) (locs1 : List Loc), t.heap = H1 → s.vm.Alike t.vm → post r u → B u t → H.size ≤ H1.size → (∀ q : Nat, q < H.size → ¬ A1 q → H1[q]? = H[q]?) → va_S A0 H0 H1 locs1 → W p l e R s m args below meth c H1 locs1 (cells + mc) (slots + ms) Q (F0 m (pc + 3) ls (.double r :: rest))) : W p l e R s m args below meth c H locs cells slots Q (F0 m pc ls st0) := by
  intro T hT X
  rcases hr T hT X with ⟨v, st₀, t, T', L, h0, X', hL, e1, e2, ⟨⟨r, u, hv, hp, hb⟩, hF⟩, st⟩ | ⟨q, st₀, t, T', L, E, ce, h0, X', hL, e1, e2, ⟨u, hp, hb, hF⟩, hce, hcv, hcl, st⟩
  · cases hv
    obtain ⟨k1, k2, k3⟩ := vx_keep h0 e1 hS hA hf hL hF
    obtain ⟨t2, a1, b1⟩ := kk r u t T'.heap (locs ++ L) e1.symm (by rw [← e2]; exact X'.warmed.alike) hp hb k1 k2 k3 T' rfl X'
    exact ⟨t2, st t2 a1, b1⟩
  · obtain ⟨k1, k2, k3⟩ := vx_keep h0 e1 hS hAX hf hL hF
    obtain ⟨t2, a1, b1⟩ := kx E ce q u t T'.heap (locs ++ L) e1.symm (by rw [← e2]; exact X'.warmed.alike) hp hb k1 k2 k3 (by rw [e1]; exact hce) hcv hcl T' rfl X'
    exact ⟨t2, st.trans a1, b1⟩
theorem vx_callv {S SX : Type} {post : S → Prop} {px : SX → Prop} {B : S → State → Prop} {BX : String → SX → State → Prop} {AX : Nat → Prop} (hr : vx_Run p l e R s m args below meth c H locs cells slots mc ms (F0 m pc ls st0) rest (va_Qv post B A1 a) (vx_X px BX AX) free) (hS : va_S A0 H0 H locs) (hA : ∀ q, q < H.size → A1 q → A0 q) (hf : ∀ q, free q → A0 q) (hAX : ∀ q, q < H.size → AX q → A0 q)
    (kx : ∀ (E : String) (ce : Cell) (q9 : Addr) (u : SX) (t : State) (H1 : Heap) (locs1 : List Loc), t.heap = H1 → s.vm.Alike t.vm → px u → BX E u t → H.size ≤ H1.size → (∀ q : Nat, q < H.size → ¬ AX q → H1[q]? = H[q]?) → va_S A0 H0 H1 locs1 → H1[q9]? = some ce → ce.vm = .none → s.vm.findClass E = some ce.cls → vx_W p l e R s m args below meth c H1 locs1 (cells + mc) (slots + ms) Q (F0 m pc ls rest) q9)
    (kk : ∀ (u : S) (t : State) (H1 : Heap) (locs1 : List Loc), t.heap = H1 → s.vm.Alike t.vm → post u → B u t → H.size ≤ H1.size → (∀ q : Nat, q < H.size → ¬ A1 q → H1[q]? = H[q]?) → va_S A0 H0 H1 locs1 → W p l e R s m args below meth c H1 locs1 (cells + mc) (slots + ms) Q (F0 m (pc + 3) ls (rest))) : W p l e R s m args below meth c H locs cells slots Q (F0 m pc ls st0) := by
  intro T hT X
  rcases hr T hT X with ⟨v, st₀, t, T', L, h0, X', hL, e1, e2, ⟨⟨u, hv, hp, hb⟩, hF⟩, st⟩ | ⟨q, st₀, t, T', L, E, ce, h0, X', hL, e1, e2, ⟨u, hp, hb, hF⟩, hce, hcv, hcl, st⟩
  · cases hv
    obtain ⟨k1, k2, k3⟩ := vx_keep h0 e1 hS hA hf hL hF
    obtain ⟨t2, a1, b1⟩ := kk u t T'.heap (locs ++ L) e1.symm (by rw [← e2]; exact X'.warmed.alike) hp hb k1 k2 k3 T' rfl X'
    exact ⟨t2, st t2 a1, b1⟩
  · obtain ⟨k1, k2, k3⟩ := vx_keep h0 e1 hS hAX hf hL hF
    obtain ⟨t2, a1, b1⟩ := kx E ce q u t T'.heap (locs ++ L) e1.symm (by rw [← e2]; exact X'.warmed.alike) hp hb k1 k2 k3 (by rw [e1]; exact hce) hcv hcl T' rfl X'
    exact ⟨t2, st.trans a1, b1⟩
/-- caught by the row x of this method's table; the rows ahead don't take it -/
theorem vx_catch {own name : String} {E : String} {ce : Cell} {q : Addr} (hown : s.vm.findClass own = some m.cls) (pre : List ExceptionTableEntry) (x : ExceptionTableEntry) (suf : List ExceptionTableEntry) (hsplit : c.exceptionTable.toList = pre ++ x :: suf)
    (hpass : ∀ z ∈ pre, covers z pc = false ∨ (z.catchType ≠ 0 ∧ ∃ nm : String, (Cond.classLink own z.catchType nm).before args s = true ∧ va_Nc E nm s)) (hx : covers x pc = true) (h0 : x.catchType ≠ 0)
    (hlink : (Cond.classLink own x.catchType name).before args s = true) (hcast : (Cond.castable E name).before args s = true) (hcell : H[q]? = some ce) (hv : ce.vm = .none) (hcl : s.vm.findClass E = some ce.cls)
    (kk : W p l e R s m args below meth c H locs cells slots Q (F0 m x.handlerPc ls [.ref q])) : vx_W p l e R s m args below meth c H locs cells slots Q (F0 m pc ls rest) q := by
  intro T hT X
  have hpl : e.platform.magicAccessors = ({} : Platform).magicAccessors := by rw [X.admits.platform]
  obtain ⟨c3, c4, hc3, hc4, hasg⟩ := Cond.castable_spec hcast
  cases Option.some.inj (hc3.symm.trans hcl)
  obtain ⟨c5, hc5, hcl5⟩ := Cond.classLink_spec hown hlink e.platform hpl
  cases Option.some.inj (hc4.symm.trans hc5)
  obtain ⟨vm', X', st⟩ := X.thenCaughtThrough q (g := F0 m pc ls rest) rfl (Steps.refl _) (by rw [hT]; exact hcell) (by rw [hv]; rfl) (by obtain ⟨k9, h9, -⟩ := Vm.findClass_spec hcl; exact ⟨k9, h9⟩) pre x suf hsplit
    (fun z hz => by
      rcases hpass z hz with h | ⟨hz0, nm, hl1, hn1⟩
      · exact Or.inl h
      · obtain ⟨c6, hc6, hcl6⟩ := Cond.classLink_spec hown hl1 e.platform hpl
        obtain ⟨a8, b8, h1, h2, h3⟩ := hn1
        cases Option.some.inj (h1.symm.trans hcl)
        cases Option.some.inj (h2.symm.trans hc6)
        exact Or.inr ⟨hz0, _, hcl6, h3⟩) hx (Or.inr ⟨h0, c4, hcl5, hasg⟩)
  obtain ⟨t, a1, b1⟩ := kk (T.setVm vm') hT X'
  exact ⟨t, st.trans a1, b1⟩
end Rows
section Ends
variable {p : Program} {l : Launch} {e : Env} {R : Room} {s : State} {m : MethodId} {args : Array Value} {below : List Frame} {meth : Method} {c : Code} {H : Heap} {locs : List Loc} {cells slots : Nat} {Q : State → Prop}
variable {mc ms : Nat} {free : Addr → Prop} {A0 A1 : Nat → Prop} {H0 : Heap} {a : Array Value} {ls : Array Slot} {st0 rest : List Value}
variable {Qc : Array Value → State → Outcome → State → Prop} {XC : String → State → State → Prop}
/-- what a body that may throw owes at its end -/
def vx_MQ (below : List Frame) (Qc : Array Value → State → Outcome → State → Prop) (XC : String → State → State → Prop) (a : Array Value) (s : State) (mc ms : Nat) (free : Addr → Prop) : State → Prop := fun t =>
  ∃ o, t.status = .running ∧ Ended t below o ∧ vx_Q Qc XC mc ms free a s o t
theorem vx_ret {g : JFrame} {mc ms : Nat} (k : W p l e R s m args below meth c H locs cells slots (MQ below Qc args s mc ms free) g) : W p l e R s m args below meth c H locs cells slots (vx_MQ below Qc XC args s mc ms free) g := by
  intro T hT X
  obtain ⟨t, a1, o, b1, b2, b3, b4⟩ := k T hT X
  exact ⟨t, a1, o, b1, b2, Or.inl ⟨b3, b4⟩⟩
/-- not caught here: it goes on to the caller -/
theorem vx_widen {g : JFrame} {q : Addr} {k n : Nat} (h1 : cells ≤ k) (h2 : slots ≤ n) (kk : vx_W p l e R s m args below meth c H locs k n Q g q) : vx_W p l e R s m args below meth c H locs cells slots Q g q := fun T hT X => kk T hT (stand_widen X h1 h2)
theorem vx_out {pc : Nat} {E : String} {ce : Cell} {q : Addr} {mc ms : Nat} (hout : ∀ x ∈ c.exceptionTable.toList, covers x pc = false) (hlocks : meth.locks = false) (hcell : H[q]? = some ce) (hv : ce.vm = .none) (hcl : s.vm.findClass E = some ce.cls)
    (hx : ∀ t : State, t.heap = H → s.vm.Alike t.vm → XC E s t) (hf : ∀ z ∈ locs, free z.base) (hc : cells ≤ mc) (hs : slots ≤ ms) :
    vx_W p l e R s m args below meth c H locs cells slots (vx_MQ below Qc XC args s mc ms free) (F0 m pc ls rest) q := by
  intro T hT X
  obtain ⟨st1, hrun, hend, hW, hsm⟩ := X.leaveThrown q (g := F0 m pc ls rest) rfl rfl rfl hout hlocks
  have hcell9 : (T.setFrames (.throwing q :: below)).heap[q]? = some ce := by
    show T.heap[q]? = some ce
    rw [hT]; exact hcell
  exact ⟨_, st1, .threw q, hrun, hend, Or.inr ⟨q, rfl, E, ce, locs, hx _ hT hW.alike, hcell9, hv, hcl, hW, hsm.mono hc hs, hf⟩⟩
theorem vx_frame {U : State} {k n : Nat} (h : s.sameButNew ({ U with vm := s.vm } : State) locs k n) : s.heap.size ≤ U.heap.size ∧ ∀ q : Nat, q < s.heap.size → (∀ z ∈ locs, z.base ≠ q) → U.heap[q]? = s.heap[q]? := by
  obtain ⟨-, h2, -, -, -, h6⟩ := h
  refine ⟨h2, fun q hq hz => ?_⟩
  obtain ⟨c9, e1, e2, e3, e4⟩ := h6 q _ (Array.getElem?_eq_getElem hq)
  have hs : c9.slots = (s.heap[q]).slots := Array.ext_getElem? fun i => e4 i fun hm => hz _ hm rfl
  have h9 : c9 = s.heap[q] := by
    rw [hs] at e2
    exact e2
  have e5 : U.heap[q]? = some c9 := e1
  rw [e5, h9, Array.getElem?_eq_getElem hq]
/-- the words of a throw but the four that speak of the heap -/
def vx_no (w : Cond) : Bool := decide (w ≠ .isRef (.static Bundle.tN "UNASSIGNED_STACK" Bundle.steD)) && decide (w ≠ .isRef (.static Bundle.tN "SUPPRESSED_SENTINEL" Bundle.listD)) && decide (w ≠ .laysStatic Bundle.tN "UNASSIGNED_STACK" Bundle.steD) && decide (w ≠ .laysStatic Bundle.tN "SUPPRESSED_SENTINEL" Bundle.listD)
def vx_at0 (own : String) (ic : Nat) (X : String) (names : List String) : List Cond := (Bundle.ownAtoms0 own ic X names).filter vx_no
def vx_atS (own : String) (ic : Nat) (X : String) (names : List String) : List Cond := (Bundle.ownAtoms own ic X names).filter vx_no
/-- a word that the tables alone decide, or a good one -/
def vx_ot (w : Cond) : Bool := w.onTables || goodWord w
theorem vx_ot_at {args a' : Array Value} {s U : State} {w : Cond} (hW : s.WarmedH U.vm) (hvm : s.vm = U.vm) (hg : vx_ot w = true) (h : w.before args s = true) : w.before a' U = true := by
  simp only [vx_ot, Bool.or_eq_true] at hg
  rcases hg with hg | hg
  · exact va_tabs hg hvm h
  · exact word_at hW (good_of_word hg) h
/-- a list's words: the good ones out of the method's own list, the others by premises of their own -/
theorem vx_hat {args : Array Value} {s : State} {L B : List Cond} (h1 : ∀ w ∈ L.filter goodWord, w.before args s = true) (h2 : ∀ w ∈ L.filter (fun w => !goodWord w), w ∈ B) (h3 : ∀ w ∈ B, w.before args s = true) : ∀ w ∈ L, w.before args s = true := by
  intro w hw
  by_cases g : goodWord w = true
  · exact h1 w (List.mem_filter.mpr ⟨hw, g⟩)
  · refine h3 w (h2 w (List.mem_filter.mpr ⟨hw, ?_⟩))
    show (!goodWord w) = true
    cases hgw : goodWord w
    · rfl
    · exact absurd hgw g
theorem vx_c {args : Array Value} {s : State} {w : Cond} {B : List Cond} (h : w.before args s = true) (t : ∀ w ∈ B, w.before args s = true) : ∀ w' ∈ w :: B, w'.before args s = true := fun w' h' => (List.mem_cons.mp h').elim (fun e => by rw [e]; exact h) (t w')
theorem vx_n {args : Array Value} {s : State} : ∀ w ∈ ([] : List Cond), w.before args s = true := fun _ h => nomatch h
theorem vx_own {args : Array Value} {s : State} {L : List Cond} (h1 : ∀ w ∈ L.filter vx_no, w.before args s = true)
    (hU : (Cond.isRef (.static Bundle.tN "UNASSIGNED_STACK" Bundle.steD)).before args s = true) (hN : (Cond.isRef (.static Bundle.tN "SUPPRESSED_SENTINEL" Bundle.listD)).before args s = true)
    (lU : (Cond.laysStatic Bundle.tN "UNASSIGNED_STACK" Bundle.steD).before args s = true) (lN : (Cond.laysStatic Bundle.tN "SUPPRESSED_SENTINEL" Bundle.listD).before args s = true) : ∀ w ∈ L, w.before args s = true := by
  intro w hw
  by_cases e1 : w = .isRef (.static Bundle.tN "UNASSIGNED_STACK" Bundle.steD)
  · rw [e1]; exact hU
  · by_cases e2 : w = .isRef (.static Bundle.tN "SUPPRESSED_SENTINEL" Bundle.listD)
    · rw [e2]; exact hN
    · by_cases e3 : w = .laysStatic Bundle.tN "UNASSIGNED_STACK" Bundle.steD
      · rw [e3]; exact lU
      · by_cases e4 : w = .laysStatic Bundle.tN "SUPPRESSED_SENTINEL" Bundle.listD
        · rw [e4]; exact lN
        · exact h1 w (List.mem_filter.mpr ⟨hw, by unfold vx_no; rw [decide_eq_true e1, decide_eq_true e2, decide_eq_true e3, decide_eq_true e4]; rfl⟩)
/-- where a static field lies, its class's statics cell in H -/
def vx_L (C n d : String) (A : Nat → Prop) (U : State) (H : Heap) : Prop := ∃ (c : ClassId) (k : Class) (i : Nat) (f : Field) (a : Nat) (cell : Cell), U.vm.findClass C = some c ∧ U.fieldFound? C n d = some (c, k, i, f) ∧ f.isStatic = true ∧ k.statics = some a ∧ H[a]? = some cell ∧ cell.vm.isStatics = true ∧ cell.cls = c ∧ f.slot < cell.slots.size ∧ k.staticTypes[f.slot]? = some f.type ∧ ¬ A a
theorem vx_L.moved {C n d : String} {A : Nat → Prop} {u U : State} {H : Heap} (hvm : u.vm.Alike U.vm) (h : vx_L C n d A u H) : vx_L C n d A U H := by
  obtain ⟨c, k, i, f, a, cell, h1, h2, h3, h4, h5, h6, h7, h8, h9, h10⟩ := h
  obtain ⟨k', hi', he⟩ := State.fieldFound?_setVm hvm h2
  exact ⟨c, k', i, f, a, cell, by rw [hvm.findClass]; exact h1, hi', h3, by rw [he]; exact h4, h5, h6, h7, h8, by rw [he]; exact h9, h10⟩
theorem vx_L.kept {C n d : String} {A : Nat → Prop} {U : State} {H H1 : Heap} (h : vx_L C n d A U H) (hq : ∀ a : Nat, a < H.size → ¬ A a → H1[a]? = H[a]?) : vx_L C n d A U H1 := by
  obtain ⟨c, k, i, f, a, cell, h1, h2, h3, h4, h5, h6, h7, h8, h9, h10⟩ := h
  exact ⟨c, k, i, f, a, cell, h1, h2, h3, h4, by rw [hq a (Array.getElem?_eq_some_iff.mp h5).1 h10]; exact h5, h6, h7, h8, h9, h10⟩
theorem vx_L.narrow {C n d : String} {A B : Nat → Prop} {U : State} {H : Heap} (h : vx_L C n d A U H) (hAB : ∀ q, B q → A q) : vx_L C n d B U H := by
  obtain ⟨c, k, i, f, a, cell, h1, h2, h3, h4, h5, h6, h7, h8, h9, h10⟩ := h
  exact ⟨c, k, i, f, a, cell, h1, h2, h3, h4, h5, h6, h7, h8, h9, fun z => h10 (hAB _ z)⟩
theorem vx_L.word {C n d : String} {A : Nat → Prop} {s : State} {args : Array Value} (h : vx_L C n d A s s.heap) : (Cond.laysStatic C n d).before args s = true := by
  obtain ⟨c, k, i, f, a, cell, h1, h2, h3, h4, h5, h6, h7, h8, h9, -⟩ := h
  show (Cond.laysStatic C n d).holds args s none s [] = true
  exact Cond.laysStatic_of h1 h2 h3 h4 h5 h6 h7 h8 h9
/-- .. and what it holds: null or some reference -/
def vx_Zq (C n d : String) (A : Nat → Prop) (U : State) (H : Heap) : Prop := va_Zq C n d A U H ∧ vx_L C n d A U H
theorem vx_Zq.moved {C n d : String} {A : Nat → Prop} {u U : State} {H : Heap} (hvm : u.vm.Alike U.vm) (h : vx_Zq C n d A u H) : vx_Zq C n d A U H := ⟨va_Zq.moved hvm h.1, vx_L.moved hvm h.2⟩
theorem vx_Zq.kept {C n d : String} {A : Nat → Prop} {U : State} {H H1 : Heap} (h : vx_Zq C n d A U H) (hq : ∀ a : Nat, a < H.size → ¬ A a → H1[a]? = H[a]?) : vx_Zq C n d A U H1 := ⟨va_Zq.kept h.1 hq, vx_L.kept h.2 hq⟩
theorem vx_Zq.narrow {C n d : String} {A B : Nat → Prop} {U : State} {H : Heap} (h : vx_Zq C n d A U H) (hAB : ∀ q, B q → A q) : vx_Zq C n d B U H := ⟨va_Zq.narrow h.1 hAB, vx_L.narrow h.2 hAB⟩
theorem vx_Zqof {args : Array Value} {s : State} {C n d : String} {A : Nat → Prop} (hl : (Cond.laysStatic C n d).before args s = true) (hini : (Cond.initialized C).before args s = true) (h : (Cond.isRef (.static C n d)).before args s = true) (hA : ∀ a : Nat, a < s.heap.size → ¬ A a) : vx_Zq C n d A s s.heap := by
  refine ⟨va_Zqof hl hini h hA, ?_⟩
  obtain ⟨c, k, i, f, a, cell, h1, h2, h3, h4, h5, h6, h7, h8, h9⟩ := Cond.laysStatic_spec hl
  exact ⟨c, k, i, f, a, cell, h1, h2, h3, h4, h5, h6, h7, h8, h9, hA a (Array.getElem?_eq_some_iff.mp h5).1⟩
theorem vx_isRef {C n d : String} {v : Value} {A : Nat → Prop} {s : State} {args : Array Value} (h : va_Z C n d v A s s.heap) (hv : v.isRef = true) : (Cond.isRef (.static C n d)).before args s = true := by
  obtain ⟨cf, kf, fi, f, a, cell, h1, h2, h3, h4, h5, h6, h7, -⟩ := h
  have he : (Term.static C n d).eval args s none [] s = some v := by
    simp [Term.eval, State.fieldNamed?, h1, h2, h4, h5, h6, h7]
  simp only [Cond.before, Cond.holds, Cond.value, he]
  cases v <;> simp_all [Value.isRef]
theorem vx_isRefq {C n d : String} {A : Nat → Prop} {s : State} {args : Array Value} (h : va_Zq C n d A s s.heap) : (Cond.isRef (.static C n d)).before args s = true := by
  rcases h with h | ⟨t, h⟩
  · exact vx_isRef h rfl
  · exact vx_isRef h rfl
/-- the same frame, seen from here: as if the method were called anew in this heap -/
theorem vx_rebase {T : State} (X : Stand p l e R s m args below meth c T locs cells slots) {R' : Room} (hf : R'.frames ≤ R.frames) (hl : R'.locals ≤ R.locals) (hc : cells + R'.cells ≤ R.cells) (hs : slots + R'.slots ≤ R.slots) :
    Stand p l e R' ((T.setVm s.vm).setFrames (.invoking m args :: below)) m args below meth c T [] 0 0 := by
  have htop : (T.setVm s.vm).topJava?.isSome := X.here.top
  have hF : ((T.setVm s.vm).setFrames (.invoking m args :: below)).frames = .invoking m args :: below := State.frames_setFrames _ (State.cur_lt_of_top htop)
  obtain ⟨g₀, hg0⟩ := Option.isSome_iff_exists.mp htop
  obtain ⟨r, hr⟩ := State.topJava?_eq_some.mp hg0
  have hl9 : e.platform.stackLimits (T.setVm s.vm).me = e.platform.stackLimits s.me := X.limits
  have hb9 : (T.setVm s.vm).me.stackBytes = s.me.stackBytes := X.bytes
  refine ⟨X.admits, X.cas, X.clock, hF, ?_, X.hears, X.method, X.code, X.here, X.tail, X.warmed, ?_, ?_, ?_⟩
  · have h := X.room
    have hU : ((T.setVm s.vm).setFrames (.invoking m args :: below)).localsInUse = s.localsInUse := by
      rw [State.localsInUse_invoking hF (meth := meth) (c := c) X.method X.code, State.localsInUse_invoking X.frames X.method X.code]
    simp only [State.hasRoom, Bool.and_eq_true, decide_eq_true_eq] at h ⊢
    obtain ⟨⟨⟨⟨h1, h2, h3, h4, h5, h6⟩, h7⟩, h8⟩, h9⟩ := h
    rw [X.frames, List.length_cons] at h2 h3
    have q1 := X.heapSize
    have q2 := X.used
    simp only [hF, hU, List.length_cons, State.stackLimits_setFrames, State.stackBytes_setFrames, hl9, hb9]
    refine ⟨⟨⟨⟨by omega, by omega, by omega, by omega, by omega, h6⟩, ?_⟩, ?_⟩, X.book⟩
    · show T.heap.size + R'.cells ≤ e.platform.maxCells
      omega
    · show T.slotsUsed + R'.slots ≤ e.platform.maxSlots
      omega
  · rw [State.stackLimits_setFrames]; rfl
  · rw [State.stackBytes_setFrames]; rfl
  · refine ⟨?_, Nat.le_refl _, Nat.le_refl _, ?_, ?_, fun a c9 h9 => ⟨c9, h9, rfl, rfl, fun _ _ => rfl⟩⟩
    · obtain ⟨t, ht, -⟩ := State.frames_cons hr
      show T.setVm s.vm = { ((T.setVm s.vm).setFrames (.invoking m args :: below)).setFrames (T.setVm s.vm).frames with heap := T.heap, slotsUsed := T.slotsUsed }
      rw [State.setFrames_setFrames, State.setFrames_self ht]
      rfl
    · show T.slotsUsed = T.slotsUsed + ((T.heap.toList.drop T.heap.size).map (·.slots.size)).sum
      rw [List.drop_eq_nil_of_le (Nat.le_of_eq Array.length_toList)]
      rfl
    · show ((T.heap.toList.drop T.heap.size).map (·.slots.size)).sum ≤ 0
      rw [List.drop_eq_nil_of_le (Nat.le_of_eq Array.length_toList)]
      exact Nat.le_refl _
/-- 'throw new E()': new; dup; invokespecial; athrow -/
theorem vx_throw0 {cc : ByteArray} {pc : Nat} (hexec : p.tables.exec = Jvm.exec) (hb : c.code = cc) (hl : l.stackTraces = false) {own cls : String} {names : List String} {ik ic mc ms : Nat} {A : Nat → Prop}
    (hown : s.vm.findClass own = some m.cls) (hcls : Bundle.fit cls = true) (hnames : ∀ n ∈ names, Bundle.fit n = true)
    (hk : (Cond.classLink own ik cls).before args s = true) (hini : (Cond.initialized cls).before args s = true) (hat : ∀ w ∈ vx_at0 own ic cls names, w.before args s = true)
    (hgood : ∀ w ∈ Cond.classLink own ik cls :: Cond.initialized cls :: vx_at0 own ic cls names, vx_ot w = true)
    (hU : vx_Zq Bundle.tN "UNASSIGNED_STACK" Bundle.steD A s s.heap) (hN : vx_Zq Bundle.tN "SUPPRESSED_SENTINEL" Bundle.listD A s s.heap) (hS : va_S A s.heap H locs) (hsize : ls.size = c.maxLocals)
    (d0 : decode cc pc = .ok (.new ik, 3)) (d3 : decode cc (pc + 3) = .ok (.dup, 1)) (d4 : decode cc (pc + 4) = .ok (.invokespecial ic, 3)) (d7 : decode cc (pc + 7) = .ok (.athrow, 1))
    (hout : ∀ x ∈ c.exceptionTable.toList, covers x (pc + 7) = false)
    (hRframes : names.length + 3 < R.frames) (hRlocals : (rest.map fun v => v.category).sum + (13 * (names.length + 1) + 42) ≤ R.locals) (hRcells : cells + 1 ≤ R.cells) (hRslots : slots + 6 ≤ R.slots) (hlocks : meth.locks = false)
    (hx : ∀ t : State, s.vm.Alike t.vm → H.size ≤ t.heap.size → (∀ q : Nat, q < H.size → t.heap[q]? = H[q]?) → XC cls s t)
    (hf : ∀ z ∈ locs, free z.base) (hc : cells + 1 ≤ mc) (hs : slots + 6 ≤ ms) :
    W p l e R s m args below meth c H locs cells slots (vx_MQ below Qc XC args s mc ms free) (F0 m pc ls rest) := by
  intro T hT X
  have htr : e.platform.stackTraces = false := (show e.platform.stackTraces = l.stackTraces by rw [X.admits.platform]).trans hl
  have Y := vx_rebase X (R' := { frames := R.frames, locals := R.locals, cells := 1, slots := 6 }) (Nat.le_refl _) (Nat.le_refl _) hRcells hRslots
  obtain ⟨s', hA⟩ : ∃ z, z = (T.setVm s.vm).setFrames (.invoking m args :: below) := ⟨_, rfl⟩
  rw [← hA] at Y
  have hvm : s'.vm = s.vm := by rw [hA]; rfl
  have hhp : s'.heap = H := by rw [hA]; exact hT
  have hW0 : s.WarmedH s'.vm := by rw [hvm]; exact State.WarmedH.refl s
  have hat' : ∀ w ∈ vx_at0 own ic cls names, w.before args s' = true := fun w hw => vx_ot_at hW0 hvm.symm (hgood w (List.mem_cons_of_mem _ (List.mem_cons_of_mem _ hw))) (hat w hw)
  have hk' : (Cond.classLink own ik cls).before args s' = true := vx_ot_at hW0 hvm.symm (hgood _ List.mem_cons_self) hk
  have hini' : (Cond.initialized cls).before args s' = true := vx_ot_at hW0 hvm.symm (hgood _ (List.mem_cons_of_mem _ List.mem_cons_self)) hini
  have hU' : vx_Zq Bundle.tN "UNASSIGNED_STACK" Bundle.steD A s' s'.heap := by rw [hhp]; exact vx_Zq.moved hW0.alike (hU.kept hS.2.1)
  have hN' : vx_Zq Bundle.tN "SUPPRESSED_SENTINEL" Bundle.listD A s' s'.heap := by rw [hhp]; exact vx_Zq.moved hW0.alike (hN.kept hS.2.1)
  have h : ∀ w ∈ Bundle.ownAtoms0 own ic cls names, w.before args s' = true := vx_own hat' (vx_isRefq hU'.1) (vx_isRefq hN'.1) hU'.2.word hN'.2.word
  have hown' : s'.vm.findClass own = some m.cls := by rw [hvm]; exact hown
  have hins : (Cond.instantiable cls 6).before args s' = true := h _ (by simp [Bundle.ownAtoms0])
  obtain ⟨vm₁, cX, kX, hfX, hkX, -, -, X₁, st1⟩ := Y.newCold hexec (own := own) (C := cls) (index := ik) (n := 6) hown' hk' hins hini'
    (g := F0 m pc ls rest) rfl (by rw [hb]; exact d0) (Nat.le_refl _) (Nat.le_refl _)
  generalize hT1 : (T.setVm vm₁).pushCell { cls := cX, slots := kX.instanceTypes.map defaultValue, vm := .none } = T1 at X₁ st1
  have hcat : (Value.ref T.heap.size).category = 1 := rfl
  have hcellA : T1.heap[T.heap.size]? = some (freshCell cX kX) := by rw [← hT1]; exact State.heap_pushCell_size _ _
  have d3' : decode c.code (pc + 3) = .ok (.dup, 1) := by rw [hb]; exact d3
  obtain ⟨U, hsteps, hrun, hend, hW, hsame, ce, hce, hO⟩ := X₁.ctorThrow0 hexec htr (own := own) (cls := cls) (names := names) (ic := ic) hown' hcls hnames h (fun x hx => nomatch hx) hfX hkX hcellA (by rw [hhp, hT]; exact Nat.le_refl _)
    (g := { method := m, pc := pc + 4, locals := ls, stack := .ref T.heap.size :: .ref T.heap.size :: rest, locked := none }) rfl hsize rfl rfl (rest := rest) rfl
    (by rw [hb]; exact d4) (by rw [hb]; exact d7) hout hRframes (by simp only [List.map_cons, List.sum_cons, hcat]; omega) hlocks
  obtain ⟨f1, f2⟩ := vx_frame hsame
  rw [hhp] at f1 f2
  have hWs : s.WarmedH U.vm := State.WarmedH.trans hW0 hW
  have hcl : s.vm.findClass cls = some ce.cls := by
    have h9 := hO.cls
    rw [hvm] at h9
    exact h9
  have hall : s.sameButNew ({ U with vm := s.vm } : State) locs mc ms := by
    subst hA
    obtain ⟨e1, e2⟩ := hsame
    rw [State.setFrames_setFrames] at e1
    have h2 : (T.setVm s.vm).sameButNew ({ U with vm := s.vm } : State) [] (0 + 1) (0 + 6) := ⟨e1, e2⟩
    have h3 := X.same.trans h2
    rw [List.append_nil] at h3
    exact h3.mono hc hs
  refine ⟨U, ?_, .threw T.heap.size, hrun, hend, Or.inr ⟨T.heap.size, rfl, cls, ce, locs, hx U hWs.alike f1 (fun q hq => f2 q hq (fun z hz => nomatch hz)), hce, hO.vm, hcl, hWs, hall, hf⟩⟩
  refine st1 _ ?_
  show Steps p.tables e below (T1.setTop { method := m, pc := pc + 3, locals := ls, stack := .ref T.heap.size :: rest, locked := none }) _
  jvm_step X₁.here [X₁.here.top, hexec, d3', Value.category]
  exact hsteps
/-- 'throw new E("text")': new; dup; ldc; invokespecial; athrow -/
theorem vx_throwS {cc : ByteArray} {pc : Nat} (hexec : p.tables.exec = Jvm.exec) (hb : c.code = cc) (hl : l.stackTraces = false) {own cls text : String} {names : List String} {ik is ic mc ms sa : Nat} {A : Nat → Prop}
    (hown : s.vm.findClass own = some m.cls) (hcls : Bundle.fit cls = true) (hnames : ∀ n ∈ names, Bundle.fit n = true)
    (hk : (Cond.classLink own ik cls).before args s = true) (hini : (Cond.initialized cls).before args s = true) (hstr : vk_R own is text sa s) (hat : ∀ w ∈ vx_atS own ic cls names, w.before args s = true)
    (hgood : ∀ w ∈ Cond.classLink own ik cls :: Cond.initialized cls :: vx_atS own ic cls names, vx_ot w = true)
    (hU : vx_Zq Bundle.tN "UNASSIGNED_STACK" Bundle.steD A s s.heap) (hN : vx_Zq Bundle.tN "SUPPRESSED_SENTINEL" Bundle.listD A s s.heap) (hS : va_S A s.heap H locs) (hsize : ls.size = c.maxLocals)
    (d0 : decode cc pc = .ok (.new ik, 3)) (d3 : decode cc (pc + 3) = .ok (.dup, 1)) (d4 : decode cc (pc + 4) = .ok (.ldc is, 2)) (d6 : decode cc (pc + 6) = .ok (.invokespecial ic, 3)) (d9 : decode cc (pc + 9) = .ok (.athrow, 1))
    (hout : ∀ x ∈ c.exceptionTable.toList, covers x (pc + 9) = false)
    (hRframes : names.length + 3 < R.frames) (hRlocals : (rest.map fun v => v.category).sum + (13 * (names.length + 1) + 43) ≤ R.locals) (hRcells : cells + 1 ≤ R.cells) (hRslots : slots + 6 ≤ R.slots) (hlocks : meth.locks = false)
    (hx : ∀ t : State, s.vm.Alike t.vm → H.size ≤ t.heap.size → (∀ q : Nat, q < H.size → t.heap[q]? = H[q]?) → XC cls s t)
    (hf : ∀ z ∈ locs, free z.base) (hc : cells + 1 ≤ mc) (hs : slots + 6 ≤ ms) :
    W p l e R s m args below meth c H locs cells slots (vx_MQ below Qc XC args s mc ms free) (F0 m pc ls rest) := by
  intro T hT X
  have htr : e.platform.stackTraces = false := (show e.platform.stackTraces = l.stackTraces by rw [X.admits.platform]).trans hl
  have Y := vx_rebase X (R' := { frames := R.frames, locals := R.locals, cells := 1, slots := 6 }) (Nat.le_refl _) (Nat.le_refl _) hRcells hRslots
  obtain ⟨s', hA⟩ : ∃ z, z = (T.setVm s.vm).setFrames (.invoking m args :: below) := ⟨_, rfl⟩
  rw [← hA] at Y
  have hvm : s'.vm = s.vm := by rw [hA]; rfl
  have hhp : s'.heap = H := by rw [hA]; exact hT
  have hW0 : s.WarmedH s'.vm := by rw [hvm]; exact State.WarmedH.refl s
  have hat' : ∀ w ∈ vx_atS own ic cls names, w.before args s' = true := fun w hw => vx_ot_at hW0 hvm.symm (hgood w (List.mem_cons_of_mem _ (List.mem_cons_of_mem _ hw))) (hat w hw)
  have hk' : (Cond.classLink own ik cls).before args s' = true := vx_ot_at hW0 hvm.symm (hgood _ List.mem_cons_self) hk
  have hini' : (Cond.initialized cls).before args s' = true := vx_ot_at hW0 hvm.symm (hgood _ (List.mem_cons_of_mem _ List.mem_cons_self)) hini
  have hU' : vx_Zq Bundle.tN "UNASSIGNED_STACK" Bundle.steD A s' s'.heap := by rw [hhp]; exact vx_Zq.moved hW0.alike (hU.kept hS.2.1)
  have hN' : vx_Zq Bundle.tN "SUPPRESSED_SENTINEL" Bundle.listD A s' s'.heap := by rw [hhp]; exact vx_Zq.moved hW0.alike (hN.kept hS.2.1)
  have h : ∀ w ∈ Bundle.ownAtoms own ic cls names, w.before args s' = true := vx_own hat' (vx_isRefq hU'.1) (vx_isRefq hN'.1) hU'.2.word hN'.2.word
  have hown' : s'.vm.findClass own = some m.cls := by rw [hvm]; exact hown
  have hins : (Cond.instantiable cls 6).before args s' = true := h _ (by simp [Bundle.ownAtoms])
  obtain ⟨vm₁, cX, kX, hfX, hkX, -, -, X₁, st1⟩ := Y.newCold hexec (own := own) (C := cls) (index := ik) (n := 6) hown' hk' hins hini'
    (g := F0 m pc ls rest) rfl (by rw [hb]; exact d0) (Nat.le_refl _) (Nat.le_refl _)
  generalize hT1 : (T.setVm vm₁).pushCell { cls := cX, slots := kX.instanceTypes.map defaultValue, vm := .none } = T1 at X₁ st1
  have hcat : (Value.ref T.heap.size).category = 1 := rfl
  have hcellA : T1.heap[T.heap.size]? = some (freshCell cX kX) := by rw [← hT1]; exact State.heap_pushCell_size _ _
  have d3' : decode c.code (pc + 3) = .ok (.dup, 1) := by rw [hb]; exact d3
  have d4' : decode c.code (pc + 4) = .ok (.ldc is, 2) := by rw [hb]; exact d4
  have hstr' : vk_R own is text sa s' := vk_R.warm hW0 hstr
  obtain ⟨U, hsteps, hrun, hend, hW, hsame, ce, hce, hO⟩ := X₁.ctorThrowS hexec htr (own := own) (cls := cls) (names := names) (ic := ic) hown' hcls hnames h (fun x hx => nomatch hx) hfX hkX hcellA (by rw [hhp, hT]; exact Nat.le_refl _) (msg := .ref sa) rfl
    (g := { method := m, pc := pc + 6, locals := ls, stack := .ref sa :: .ref T.heap.size :: .ref T.heap.size :: rest, locked := none }) rfl hsize rfl rfl (rest := rest) rfl
    (by rw [hb]; exact d6) (by rw [hb]; exact d9) hout hRframes (by simp only [List.map_cons, List.sum_cons, hcat]; omega) hlocks
  obtain ⟨f1, f2⟩ := vx_frame hsame
  rw [hhp] at f1 f2
  have hWs : s.WarmedH U.vm := State.WarmedH.trans hW0 hW
  have hcl : s.vm.findClass cls = some ce.cls := by
    have h9 := hO.cls
    rw [hvm] at h9
    exact h9
  have hall : s.sameButNew ({ U with vm := s.vm } : State) locs mc ms := by
    subst hA
    obtain ⟨e1, e2⟩ := hsame
    rw [State.setFrames_setFrames] at e1
    have h2 : (T.setVm s.vm).sameButNew ({ U with vm := s.vm } : State) [] (0 + 1) (0 + 6) := ⟨e1, e2⟩
    have h3 := X.same.trans h2
    rw [List.append_nil] at h3
    exact h3.mono hc hs
  refine ⟨U, ?_, .threw T.heap.size, hrun, hend, Or.inr ⟨T.heap.size, rfl, cls, ce, locs, hx U hWs.alike f1 (fun q hq => f2 q hq (fun z hz => nomatch hz)), hce, hO.vm, hcl, hWs, hall, hf⟩⟩
  refine st1 _ ?_
  show Steps p.tables e below (T1.setTop { method := m, pc := pc + 3, locals := ls, stack := .ref T.heap.size :: rest, locked := none }) _
  jvm_step X₁.here [X₁.here.top, hexec, d3', Value.category]
  exact X₁.ldcString hexec (own := own) (text := text) (index := is) (a := sa) hown' hstr'.1 hstr'.2
    (g := { method := m, pc := pc + 4, locals := ls, stack := .ref T.heap.size :: .ref T.heap.size :: rest, locked := none }) rfl d4' _ hsteps
/-- 'throw new E("text")', the text by a wide index -/
theorem vx_throwSW {cc : ByteArray} {pc : Nat} (hexec : p.tables.exec = Jvm.exec) (hb : c.code = cc) (hl : l.stackTraces = false) {own cls text : String} {names : List String} {ik is ic mc ms sa : Nat} {A : Nat → Prop}
    (hown : s.vm.findClass own = some m.cls) (hcls : Bundle.fit cls = true) (hnames : ∀ n ∈ names, Bundle.fit n = true)
    (hk : (Cond.classLink own ik cls).before args s = true) (hini : (Cond.initialized cls).before args s = true) (hstr : vk_R own is text sa s) (hat : ∀ w ∈ vx_atS own ic cls names, w.before args s = true)
    (hgood : ∀ w ∈ Cond.classLink own ik cls :: Cond.initialized cls :: vx_atS own ic cls names, vx_ot w = true)
    (hU : vx_Zq Bundle.tN "UNASSIGNED_STACK" Bundle.steD A s s.heap) (hN : vx_Zq Bundle.tN "SUPPRESSED_SENTINEL" Bundle.listD A s s.heap) (hS : va_S A s.heap H locs) (hsize : ls.size = c.maxLocals)
    (d0 : decode cc pc = .ok (.new ik, 3)) (d3 : decode cc (pc + 3) = .ok (.dup, 1)) (d4 : decode cc (pc + 4) = .ok (.ldc_w is, 3)) (d7 : decode cc (pc + 7) = .ok (.invokespecial ic, 3)) (d10 : decode cc (pc + 10) = .ok (.athrow, 1))
    (hout : ∀ x ∈ c.exceptionTable.toList, covers x (pc + 10) = false)
    (hRframes : names.length + 3 < R.frames) (hRlocals : (rest.map fun v => v.category).sum + (13 * (names.length + 1) + 43) ≤ R.locals) (hRcells : cells + 1 ≤ R.cells) (hRslots : slots + 6 ≤ R.slots) (hlocks : meth.locks = false)
    (hx : ∀ t : State, s.vm.Alike t.vm → H.size ≤ t.heap.size → (∀ q : Nat, q < H.size → t.heap[q]? = H[q]?) → XC cls s t)
    (hf : ∀ z ∈ locs, free z.base) (hc : cells + 1 ≤ mc) (hs : slots + 6 ≤ ms) :
    W p l e R s m args below meth c H locs cells slots (vx_MQ below Qc XC args s mc ms free) (F0 m pc ls rest) := by
  intro T hT X
  have htr : e.platform.stackTraces = false := (show e.platform.stackTraces = l.stackTraces by rw [X.admits.platform]).trans hl
  have Y := vx_rebase X (R' := { frames := R.frames, locals := R.locals, cells := 1, slots := 6 }) (Nat.le_refl _) (Nat.le_refl _) hRcells hRslots
  obtain ⟨s', hA⟩ : ∃ z, z = (T.setVm s.vm).setFrames (.invoking m args :: below) := ⟨_, rfl⟩
  rw [← hA] at Y
  have hvm : s'.vm = s.vm := by rw [hA]; rfl
  have hhp : s'.heap = H := by rw [hA]; exact hT
  have hW0 : s.WarmedH s'.vm := by rw [hvm]; exact State.WarmedH.refl s
  have hat' : ∀ w ∈ vx_atS own ic cls names, w.before args s' = true := fun w hw => vx_ot_at hW0 hvm.symm (hgood w (List.mem_cons_of_mem _ (List.mem_cons_of_mem _ hw))) (hat w hw)
  have hk' : (Cond.classLink own ik cls).before args s' = true := vx_ot_at hW0 hvm.symm (hgood _ List.mem_cons_self) hk
  have hini' : (Cond.initialized cls).before args s' = true := vx_ot_at hW0 hvm.symm (hgood _ (List.mem_cons_of_mem _ List.mem_cons_self)) hini
  have hU' : vx_Zq Bundle.tN "UNASSIGNED_STACK" Bundle.steD A s' s'.heap := by rw [hhp]; exact vx_Zq.moved hW0.alike (hU.kept hS.2.1)
  have hN' : vx_Zq Bundle.tN "SUPPRESSED_SENTINEL" Bundle.listD A s' s'.heap := by rw [hhp]; exact vx_Zq.moved hW0.alike (hN.kept hS.2.1)
  have h : ∀ w ∈ Bundle.ownAtoms own ic cls names, w.before args s' = true := vx_own hat' (vx_isRefq hU'.1) (vx_isRefq hN'.1) hU'.2.word hN'.2.word
  have hown' : s'.vm.findClass own = some m.cls := by rw [hvm]; exact hown
  have hins : (Cond.instantiable cls 6).before args s' = true := h _ (by simp [Bundle.ownAtoms])
  obtain ⟨vm₁, cX, kX, hfX, hkX, -, -, X₁, st1⟩ := Y.newCold hexec (own := own) (C := cls) (index := ik) (n := 6) hown' hk' hins hini'
    (g := F0 m pc ls rest) rfl (by rw [hb]; exact d0) (Nat.le_refl _) (Nat.le_refl _)
  generalize hT1 : (T.setVm vm₁).pushCell { cls := cX, slots := kX.instanceTypes.map defaultValue, vm := .none } = T1 at X₁ st1
  have hcat : (Value.ref T.heap.size).category = 1 := rfl
  have hcellA : T1.heap[T.heap.size]? = some (freshCell cX kX) := by rw [← hT1]; exact State.heap_pushCell_size _ _
  have d3' : decode c.code (pc + 3) = .ok (.dup, 1) := by rw [hb]; exact d3
  have d4' : decode c.code (pc + 4) = .ok (.ldc_w is, 3) := by rw [hb]; exact d4
  have hstr' : vk_R own is text sa s' := vk_R.warm hW0 hstr
  obtain ⟨U, hsteps, hrun, hend, hW, hsame, ce, hce, hO⟩ := X₁.ctorThrowS hexec htr (own := own) (cls := cls) (names := names) (ic := ic) hown' hcls hnames h (fun x hx => nomatch hx) hfX hkX hcellA (by rw [hhp, hT]; exact Nat.le_refl _) (msg := .ref sa) rfl
    (g := { method := m, pc := pc + 7, locals := ls, stack := .ref sa :: .ref T.heap.size :: .ref T.heap.size :: rest, locked := none }) rfl hsize rfl rfl (rest := rest) rfl
    (by rw [hb]; exact d7) (by rw [hb]; exact d10) hout hRframes (by simp only [List.map_cons, List.sum_cons, hcat]; omega) hlocks
  obtain ⟨f1, f2⟩ := vx_frame hsame
  rw [hhp] at f1 f2
  have hWs : s.WarmedH U.vm := State.WarmedH.trans hW0 hW
  have hcl : s.vm.findClass cls = some ce.cls := by
    have h9 := hO.cls
    rw [hvm] at h9
    exact h9
  have hall : s.sameButNew ({ U with vm := s.vm } : State) locs mc ms := by
    subst hA
    obtain ⟨e1, e2⟩ := hsame
    rw [State.setFrames_setFrames] at e1
    have h2 : (T.setVm s.vm).sameButNew ({ U with vm := s.vm } : State) [] (0 + 1) (0 + 6) := ⟨e1, e2⟩
    have h3 := X.same.trans h2
    rw [List.append_nil] at h3
    exact h3.mono hc hs
  refine ⟨U, ?_, .threw T.heap.size, hrun, hend, Or.inr ⟨T.heap.size, rfl, cls, ce, locs, hx U hWs.alike f1 (fun q hq => f2 q hq (fun z hz => nomatch hz)), hce, hO.vm, hcl, hWs, hall, hf⟩⟩
  refine st1 _ ?_
  show Steps p.tables e below (T1.setTop { method := m, pc := pc + 3, locals := ls, stack := .ref T.heap.size :: rest, locked := none }) _
  jvm_step X₁.here [X₁.here.top, hexec, d3', Value.category]
  exact X₁.ldcStringW hexec (own := own) (text := text) (index := is) (a := sa) hown' hstr'.1 hstr'.2
    (g := { method := m, pc := pc + 4, locals := ls, stack := .ref T.heap.size :: .ref T.heap.size :: rest, locked := none }) rfl d4' _ hsteps
end Ends
section Bodies
variable {l : Launch}
theorem vx_ofW {y : MethodName} {ws ws' : List Cond} {rm : Room} {Pc : Array Value → State → Prop} {Qc : Array Value → State → Outcome → State → Prop} {XC : String → State → State → Prop} {mc ms : Nat} {free : Addr → Prop} {cc : ByteArray} {maxL : Nat} {ret : Option FieldType}
    (hy : plainName y.cls = true) (hw : ws = Cond.code y cc maxL ret :: ws')
    (body : ∀ p e s m args below meth c s₁, BodyLoose p l y (headSpec ws rm) cc maxL ret e s m args below meth c s₁ → c.maxLocals = maxL → (∀ x ∈ c.exceptionTable.toList, False) → Pc args s →
      W p l e (headSpec ws rm).room s m args below meth c s.heap [] 0 0 (vx_MQ below Qc XC args s mc ms free) (entryFrame m args maxL)) : vx_Met l y ws rm Pc Qc XC mc ms free := by
  refine MetFree.of_bodyS (code := cc) (maxLocals := maxL) (ret := ret) hy ?_ ?_
  · intro args s m h hn
    obtain ⟨meth, c, h1, h2, h3, h4, h5, h6, -, -⟩ := Cond.code_spec hn (atoms_spec (ws := ws) h _ (by rw [hw]; exact List.mem_cons_self))
    exact ⟨meth, c, h1, h2, h3, h4, h5, h6⟩
  · intro p e s m args below meth c s₁ B hml hP _
    have hh0 : s₁.heap = s.heap := by rw [B.state]; rfl
    have ht : ∀ x ∈ c.exceptionTable.toList, False := by
      obtain ⟨meth9, c9, h1, h2, -, -, -, -, h7, -⟩ := Cond.code_spec B.named (atoms_spec (ws := ws) B.pre _ (by rw [hw]; exact List.mem_cons_self))
      cases Option.some.inj (h1.symm.trans B.method)
      cases Option.some.inj (h2.symm.trans (Stand.of_body B).code)
      intro x hx
      rw [Array.isEmpty_iff.mp h7] at hx
      cases hx
    obtain ⟨t, a1, o, b1, b2, b3⟩ := body p e s m args below meth c s₁ B hml ht hP s₁ hh0 (Stand.of_body B)
    exact ⟨t, o, a1, b1, b2, b3⟩
/-- the table of a body with handlers -/
theorem vx_table {p : Program} {x y : MethodName} {S : Spec} {cc bytes : ByteArray} {maxL maxL' : Nat} {ret ret' : Option FieldType} {e : Env} {s s₁ : State} {m : MethodId} {args : Array Value} {below : List Frame} {meth : Method} {c : Code} {hh : List (Nat × Nat × Nat × Nat)}
    (B : BodyLoose p l y S cc maxL ret e s m args below meth c s₁) (h : (Cond.codeWith y bytes maxL' ret' hh).before args s = true) : c.exceptionTable.toList = tableOf hh := by
  obtain ⟨m9, meth9, c9, hn9, h1, h2, -, -, h6, -⟩ := Cond.codeWith_spec h
  cases Option.some.inj (hn9.symm.trans B.named)
  cases Option.some.inj (h1.symm.trans B.method)
  cases Option.some.inj (h2.symm.trans (Stand.of_body B).code)
  rw [← h6, table_eq]
end Bodies
end VXA
/-! ===== END ===== -/
/-! ===== BEGIN a static call of a method with an exception table ===== -/
section VXS
variable {p : Program} {l : Launch} {e : Env} {R : Room} {s : State} {m : MethodId} {args : Array Value} {below : List Frame} {meth : Method} {c : Code} {T : State} {H : Heap} {locs : List Loc} {cells slots : Nat}
abbrev vx_CSW (R : Room) (s : State) (args : Array Value) (own : String) (index : Nat) (y : MethodName) (bytes : ByteArray) (maxL : Nat) (ret : Option FieldType) (hh : List (Nat × Nat × Nat × Nat)) (ws : List Cond) (rm : Room) (mc ms n : Nat) : Prop :=
  (rm.cells = mc ∧ rm.slots = ms ∧ rm.frames + 1 ≤ R.frames ∧ 8 + (maxL + 11) + rm.locals ≤ R.locals ∧ (∀ w ∈ ws, ∀ (a' : Array Value) (U : State), s.WarmedH U.vm → w.before a' U = true) ∧ Cond.codeWith y bytes maxL ret hh ∈ ws) ∧
  (Cond.codeWith y bytes maxL ret hh).before args s = true ∧ (Cond.initialized y.cls).before args s = true ∧ (y.cls ≠ "java/lang/invoke/MethodHandle" ∧ y.cls ≠ "java/lang/invoke/VarHandle") ∧
  (∀ sig, parseMethodDescriptor y.desc = some sig → n = sig.parameters.length) ∧ (Cond.methodLink own index y).before args s = true ∧ (Cond.static y).before args s = true
theorem vx_cwSW {own : String} {index maxL mc ms : Nat} {y : MethodName} {bytes : ByteArray} {ret : Option FieldType} {hh : List (Nat × Nat × Nat × Nat)} {Ts ws ws' : List Cond} {rm : Room} (n : Nat) (ht : ∀ w ∈ Ts, w.before args s = true) (hT : GoodIn Ts (va_wsS own index y ws)) (hw : ws = Cond.codeWith y bytes maxL ret hh :: ws') (hrc : rm.cells = mc) (hrs : rm.slots = ms)
    (hd : y.cls ≠ "java/lang/invoke/MethodHandle" ∧ y.cls ≠ "java/lang/invoke/VarHandle" ∧ (parseMethodDescriptor y.desc).map (fun d => d.parameters.length) = some n) (hR : rm.frames + 1 ≤ R.frames ∧ 8 + (maxL + 11) + rm.locals ≤ R.locals) :
    vx_CSW R s args own index y bytes maxL ret hh ws rm mc ms n := by
  have ok : ∀ w ∈ va_wsS own index y ws, w.before args s = true := fun w h => ht w (hT w h).1
  have hG : GoodIn Ts ws := fun w h => hT w (by unfold va_wsS; exact List.mem_append_right _ h)
  have hc : Cond.codeWith y bytes maxL ret hh ∈ ws := by rw [hw]; exact List.mem_cons_self
  refine ⟨⟨hrc, hrs, hR.1, hR.2, pay_in ht hG, hc⟩, ht _ (hG _ hc).1, ok _ (by simp [va_wsS]), ⟨hd.1, hd.2.1⟩, fun sig h => ?_, ok _ (by simp [va_wsS]), ok _ (by simp [va_wsS])⟩
  have h2 := hd.2.2
  rw [h] at h2
  exact (Option.some.inj h2).symm
theorem vx_callSW (X : Stand p l e R s m args below meth c T locs cells slots) (hexec : p.tables.exec = Jvm.exec) {own : String} {index : Nat} {y : MethodName} {bytes : ByteArray} {maxL : Nat} {ret : Option FieldType} {hh : List (Nat × Nat × Nat × Nat)}
    (hown : s.vm.findClass own = some m.cls) (hlink : (Cond.methodLink own index y).before args s = true) (hstat : (Cond.static y).before args s = true) (hinit : (Cond.initialized y.cls).before args s = true)
    (hcode : (Cond.codeWith y bytes maxL ret hh).before args s = true) (hy : y.cls ≠ "java/lang/invoke/MethodHandle" ∧ y.cls ≠ "java/lang/invoke/VarHandle")
    {W9 : Nat} {Pre : Pt → Array Value → Prop} {Post : Pt → Array Value → Option Value → Pt → Prop} (hK : Back l R p e below s args y 3 W9 Pre Post)
    {g : JFrame} (hg : g.method = m) (hsize : g.locals.size = c.maxLocals) {argsL rest : List Value} (hlen : ∀ sig, parseMethodDescriptor y.desc = some sig → argsL.length = sig.parameters.length)
    (hstack : g.stack = argsL.reverse ++ rest) (hW : 2 * g.monitorRoom + (rest.map fun v => v.category).sum ≤ W9) (hdg : decode c.code g.pc = .ok (.invokestatic index, 3))
    (hpre : ∀ vm₁, s.WarmedH vm₁ → Pre ⟨T.setVm vm₁, locs, cells, slots⟩ argsL.toArray) :
    ∃ (v : Option Value) (vm₁ : Vm) (B : Pt), s.WarmedH vm₁ ∧ Stand p l e R s m args below meth c B.U B.locs B.cells B.slots ∧ Post ⟨T.setVm vm₁, locs, cells, slots⟩ argsL.toArray v B ∧
      ∀ target, Steps p.tables e below (B.U.setTop { g with pc := g.pc + 3, stack := v.toList ++ rest }) target → Steps p.tables e below (T.setTop g) target := by
  obtain ⟨mk, methM, cM, hnamed, hmethM, -, -, -, -, -, -, hsigM⟩ := Cond.codeWith_spec hcode
  have hstatic : methM.isStatic = true := Cond.static_spec hnamed hmethM hstat
  obtain ⟨kP, hkP, -⟩ := className_of_methodNamed hnamed
  have hinitP : kP.init = .initialized := Cond.initialized_spec (findClass_of_methodNamed hnamed) hkP hinit
  obtain ⟨vm₁, X₁, hstep₁⟩ := X.invokestatic hexec hown hlink hnamed hmethM hstatic hkP hinitP hy (g := g) hg (argsL := argsL) (rest := rest) (hlen _ hsigM) hstack hdg
  obtain ⟨v, B, X', hpost, hsteps⟩ := hK m meth c ⟨T.setVm vm₁, locs, cells, slots⟩ { g with stack := rest } (.invokestatic index) mk argsL.toArray X₁ hg hsize hdg hW (X₁.named hnamed) (hpre vm₁ X₁.warmed)
  exact ⟨v, vm₁, B, X₁.warmed, X', hpost, fun target h => hstep₁ _ fun acts => by rw [doInvoke_state]; exact hsteps.trans h⟩
theorem vx_runSW {y : MethodName} {bytes cc : ByteArray} {maxL nL mc ms n index : Nat} {ret : Option FieldType} {hh : List (Nat × Nat × Nat × Nat)} {ws : List Cond} {rm : Room} {Pc : Array Value → State → Prop} {Qc : Array Value → State → Outcome → State → Prop} {free : Addr → Prop} {Ts : List Cond} {own : String} {As rest : List Value} {g : JFrame}
    (S : CallFix p m c cc nL s args Ts own) (hM : Met l y ws rm Pc Qc mc ms free) (cw : vx_CSW R s args own index y bytes maxL ret hh ws rm mc ms n) (hp : PreS s H Pc As)
    (hg : g.method = m) (hn : As.length = n) (hsize : g.locals.size = nL) (hstack : g.stack = As.reverse ++ rest) (hW : 2 * g.monitorRoom + (rest.map fun v => v.category).sum ≤ 8) (hdg : decode cc g.pc = .ok (.invokestatic index, 3)) (hf : cells + mc ≤ R.cells ∧ slots + ms ≤ R.slots) :
    va_Run p l e R s m args below meth c H locs cells slots mc ms g rest (Qc As.toArray) (free) := by
  obtain ⟨⟨hrc, hrs, hfr, hlo, hws, hcw⟩, hcode, hini, hy, hlen, hl, hstt⟩ := cw
  have hK : Back l R p e below s args y 3 8 (PreOf R mc ms Pc) (PostOf Qc mc ms free) := va_backW (hh := hh) (bytes := bytes) (maxL := maxL) (ret := ret) hM hp.1 hrc hrs hfr hlo hws hcw (fun a' U hW => word_at hW (Or.inl (by first | rfl | simp [Cond.onTables, Cond.keeps, Cond.steady])) hini)
  obtain ⟨hx, hb, hml, ho, -⟩ := S
  intro T hT X
  obtain ⟨v, vm₁, ⟨U', l2, c2, s2⟩, hW₁, X', ⟨g', mk, t, L, e1, e2, hq, h1, hL, h2, h3⟩, st⟩ := vx_callSW X hx (hh := hh) (bytes := bytes) (maxL := maxL) (ret := ret) ho hl hstt hini hcode hy hK hg (hsize.trans hml.symm) (argsL := As) (rest := rest) (fun sig h => hn.trans (hlen sig h)) hstack hW (by rw [hb]; exact hdg)
    (fun vm₁ hW₁ => ⟨hf.1, hf.2, hp.2 (T.setVm vm₁) hT hW₁⟩)
  dsimp only [Pt.U, Pt.locs, Pt.cells, Pt.slots] at X' e1 e2 h1 h2 h3 st
  subst h1; subst h2; subst h3
  exact ⟨v, (T.setVm vm₁).calling g' mk As.toArray, t, U', L, hT, X', hL, e1, e2, hq, st⟩
/-- not caught here, past rows that name other classes: it goes on to the caller -/
theorem vx_outP {p : Program} {l : Launch} {e : Env} {R : Room} {s : State} {m : MethodId} {args : Array Value} {below : List Frame} {meth : Method} {c : Code} {H : Heap} {locs : List Loc} {cells slots : Nat} {free : Addr → Prop} {ls : Array Slot} {rest : List Value} {Qc : Array Value → State → Outcome → State → Prop} {XC : String → State → State → Prop}
    {pc : Nat} {own E : String} {ce : Cell} {q : Addr} {mc ms : Nat} (hown : s.vm.findClass own = some m.cls) (hlocks : meth.locks = false)
    (hpass : ∀ z ∈ c.exceptionTable.toList, covers z pc = false ∨ (z.catchType ≠ 0 ∧ ∃ nm : String, (Cond.classLink own z.catchType nm).before args s = true ∧ va_Nc E nm s)) (hcell : H[q]? = some ce) (hv : ce.vm = .none) (hcl : s.vm.findClass E = some ce.cls)
    (hx : ∀ t : State, t.heap = H → s.vm.Alike t.vm → XC E s t) (hf : ∀ z ∈ locs, free z.base) (hc : cells ≤ mc) (hs : slots ≤ ms) :
    vx_W p l e R s m args below meth c H locs cells slots (vx_MQ below Qc XC args s mc ms free) (F0 m pc ls rest) q := by
  intro T hT X
  have hpl : e.platform.magicAccessors = ({} : Platform).magicAccessors := by rw [X.admits.platform]
  obtain ⟨vm', hW', X', st⟩ := X.outThrough hlocks q (g := F0 m pc ls rest) rfl rfl rfl (cell := ce) (by rw [hT]; exact hcell) (by rw [hv]; rfl)
    (by obtain ⟨k9, h9, -⟩ := Vm.findClass_spec hcl; exact ⟨k9, h9⟩) (fun z hz => by
      rcases hpass z hz with h | ⟨hz0, nm, hl1, hn1⟩
      · exact Or.inl h
      · obtain ⟨c6, hc6, hcl6⟩ := Cond.classLink_spec hown hl1 e.platform hpl
        obtain ⟨a8, b8, h1, h2, h3⟩ := hn1
        cases Option.some.inj (h1.symm.trans hcl)
        cases Option.some.inj (h2.symm.trans hc6)
        exact Or.inr ⟨hz0, _, hcl6, h3⟩)
  obtain ⟨g₀, hfr⟩ := X'.frames_eq
  have hcell9 : ((T.setVm vm').setFrames (.throwing q :: below)).heap[q]? = some ce := by
    show T.heap[q]? = some ce
    rw [hT]; exact hcell
  have hend : Ended ((T.setVm vm').setFrames (.throwing q :: below)) below (.threw q) := State.frames_setFrames _ (State.cur_lt_of_frames hfr)
  refine ⟨(T.setVm vm').setFrames (.throwing q :: below), ?_, .threw q, X'.here.running, hend, Or.inr ⟨q, rfl, E, ce, locs, hx _ hT (X'.ends _).1.alike, hcell9, hv, hcl, (X'.ends _).1, (X'.ends _).2.mono hc hs, hf⟩⟩
  rw [X.pushThrowing_eq]
  exact st
/-- a thing of a world lies in the heap -/
theorem vx_lt {D : va_G} {cl : List vw_C} {ws : va_W} {H1 : Heap} (h : va_P D cl ws H1) {k : Nat} {q : Nat × va_E} (hk : ws[k]? = some q) : q.1 < H1.size := (h k q hk).lt
end VXS
/-! ===== END ===== -/
/-! ===== BEGIN methods with a table of their own: called by a name, returning or throwing ===== -/
section VXH
/-! vx_backW, vx_callVX, vx_callSX, vx_callVW, vx_runVW, vx_runVX, vx_runSX, vx_ofWH follow the same proofs as their sisters above (Free/Laws.lean, Shelf42/LK1.lean); vx_outP calls Shelf42/NT130.lean (outThrough). -/
section
variable {l : Launch} {R : Room} {p : Program} {e : Env} {below : List Frame} {s : State} {sargs : Array Value} {y : MethodName} {len W9 : Nat}
theorem vx_backW {ws : List Cond} {rm : Room} {Pc : Array Value → State → Prop} {Qc : Array Value → State → Outcome → State → Prop} {XC : String → State → State → Prop} {mc ms : Nat} {free : Addr → Prop} {bytes : ByteArray} {maxL : Nat} {ret : Option FieldType} {hh : List (Nat × Nat × Nat × Nat)}
    (hM : vx_Met l y ws rm Pc Qc XC mc ms free) (hblind : FrameBlind Pc) (hrc : rm.cells = mc) (hrs : rm.slots = ms)
    (hframes : rm.frames + 1 ≤ R.frames) (hlocals : W9 + (maxL + 11) + rm.locals ≤ R.locals)
    (hws : ∀ w ∈ ws, ∀ a' U, s.WarmedH U.vm → w.before a' U = true) (hcode : Cond.codeWith y bytes maxL ret hh ∈ ws) (hinit : ∀ a' U, s.WarmedH U.vm → (Cond.initialized y.cls).before a' U = true) :
    vx_Back l R p e below s sargs y len W9 (PreOf R mc ms Pc) (PostOf Qc mc ms free) (vx_Post XC mc ms free) := by
  intro m meth c A g ig mk a X hg hsize hdg hW hn hp
  have h1 : (headSpec ws rm).pre.before a A.U = true := atoms_intro fun w hw => hws w hw _ _ X.warmed
  have h2 : (Cond.codeWith y bytes maxL ret hh).before a A.U = true := hws _ hcode _ _ X.warmed
  have h3 : (Cond.initialized y.cls).before a A.U = true := hinit _ _ X.warmed
  have h4 : A.cells + (headSpec ws rm).room.cells ≤ R.cells := by rw [show (headSpec ws rm).room.cells = mc from hrc]; exact hp.1
  have h5 : A.slots + (headSpec ws rm).room.slots ≤ R.slots := by rw [show (headSpec ws rm).room.slots = ms from hrs]; exact hp.2.1
  have hPc : Pc a (A.U.calling g mk a) := hblind _ _ _ _ hp.2.2
  obtain ⟨U, Ls, c0, s0⟩ := A
  dsimp only [Pt.U, Pt.locs, Pt.cells, Pt.slots] at h1 h2 h3 h4 h5 X hn hPc ⊢
  obtain ⟨m9, methY, cY, hn9, hmY, hcY, -, hlY, -⟩ := Cond.codeWith_spec h2
  cases Option.some.inj (hn9.symm.trans hn)
  obtain ⟨kY, hkY, -⟩ := className_of_methodNamed hn
  have hinitY : kY.init = .initialized := Cond.initialized_spec (findClass_of_methodNamed hn) hkY h3
  have h : At U g.method c below := by rw [hg]; exact X.here
  have hlocals9 : W9 + (maxL + 11) + (headSpec ws rm).room.locals ≤ R.locals := hlocals
  have happ : (headSpec ws rm).appliesLoose y e.platform (U.calling g mk a) = true :=
    Spec.appliesLoose_calling (g := g) h hdg hn hkY hinitY
      (X.room_calling (g := g) (R' := (headSpec ws rm).room) hsize hmY hcY hframes (by rw [hlY]; omega) h4 h5) h1
  obtain ⟨mid, hmid⟩ := h.above
  have hfr : (U.setTop g).frames = (.java g :: mid) ++ below := by rw [State.frames_setTop' g h.top, hmid]; rfl
  obtain ⟨o, s₂, hsteps, -, hend, hq⟩ := Steps.callFree hM p X.admits X.cas X.clock (acts := []) hfr happ hPc trivial
  have hq' : vx_Q Qc XC mc ms free a (U.calling g mk a) o s₂ := hq
  rw [State.frames_setTop' g h.top] at hend
  obtain ⟨g₀, hg0⟩ := Option.isSome_iff_exists.mp h.top
  obtain ⟨r, hr⟩ := State.topJava?_eq_some.mp hg0
  have hr' : (({ U with heap := s₂.heap, slotsUsed := s₂.slotsUsed } : State).setVm s₂.vm).frames = .java g₀ :: r := hr
  rcases hq' with ⟨hqc, L, hfe, hL⟩ | ⟨q, rfl, E, ce, L, hx, hce, hcv, hcl, hW₂, hsm, hL⟩
  · obtain ⟨⟨v, rfl⟩, hW₂, e2, q2, q3, q4, q5, q6⟩ := id hfe
    have e3 : s₂ = ({ (U.calling g mk a).setFrames s₂.frames with heap := s₂.heap, slotsUsed := s₂.slotsUsed } : State).setVm s₂.vm := by
      have : s₂ = ({ s₂ with vm := (U.calling g mk a).vm } : State).setVm s₂.vm := rfl
      rw [e2] at this
      exact this
    obtain ⟨c₂, i₂, len₂, hc₂, hd₂, hf₂⟩ := hend
    have hW' : U.WarmedH s₂.vm := hW₂
    have hcc : c₂ = c := by
      have h1 : s₂.code? g.method = U.code? g.method := by
        rw [State.code?_eq, State.code?_eq, hW'.alike.method?]
      exact Option.some.inj (hc₂.symm.trans (h1.trans h.code))
    subst hcc
    have hlen : len₂ = len := by rw [hdg] at hd₂; cases hd₂; rfl
    subst hlen
    have hs₂ : s₂ = (({ U with heap := s₂.heap, slotsUsed := s₂.slotsUsed } : State).setVm s₂.vm).setTop { g with pc := g.pc + len₂, stack := v.toList ++ g.stack } := by
      refine e3.trans ?_
      rw [hf₂, State.calling_eq h.top, State.setFrames_setFrames, State.setTop_of_frames _ hr', hr]
      rfl
    have hsame : U.sameButNew ({ U with heap := s₂.heap, slotsUsed := s₂.slotsUsed } : State) L mc ms := by
      refine ⟨?_, q2, q3, q4, q5, q6⟩
      obtain ⟨t, ht, -⟩ := State.frames_cons hr
      show ({ U with heap := s₂.heap, slotsUsed := s₂.slotsUsed } : State) = { U.setFrames U.frames with heap := s₂.heap, slotsUsed := s₂.slotsUsed }
      rw [State.setFrames_self ht]
    subst hg
    refine Or.inl ⟨v, ⟨(({ U with heap := s₂.heap, slotsUsed := s₂.slotsUsed } : State).setVm s₂.vm), Ls ++ L, c0 + mc, s0 + ms⟩,
      ⟨X.admits, X.cas, X.clock, X.frames, X.room, X.hears, X.method, X.code, (X.here.setHeapUsed s₂.heap s₂.slotsUsed).setVm hW'.alike, X.tail, State.WarmedH.trans X.warmed hW', X.limits, X.bytes, X.same.trans (hsame.setVm s.vm)⟩,
      ⟨g, mk, s₂, L, rfl, rfl, hqc, rfl, hL, rfl, rfl⟩, ?_⟩
    show Steps p.tables e below _ ((({ U with heap := s₂.heap, slotsUsed := s₂.slotsUsed } : State).setVm s₂.vm).setTop { g with pc := g.pc + len₂, stack := v.toList ++ g.stack })
    rw [← hs₂]
    exact hsteps
  · obtain ⟨e2, q2, q3, q4, q5, q6⟩ := id hsm
    have e3 : s₂ = ({ (U.calling g mk a).setFrames s₂.frames with heap := s₂.heap, slotsUsed := s₂.slotsUsed } : State).setVm s₂.vm := by
      have : s₂ = ({ s₂ with vm := (U.calling g mk a).vm } : State).setVm s₂.vm := rfl
      rw [e2] at this
      exact this
    have hf₂ : s₂.frames = .throwing q :: .java g :: U.frames.tail := hend
    have hW' : U.WarmedH s₂.vm := hW₂
    have hs₂ : s₂ = ((({ U with heap := s₂.heap, slotsUsed := s₂.slotsUsed } : State).setVm s₂.vm).setTop g).pushFrame (.throwing q) := by
      refine e3.trans ?_
      rw [hf₂, State.calling_eq h.top, State.setFrames_setFrames, State.pushFrame, State.frames_setTop _ hr', State.setTop_of_frames _ hr', State.setFrames_setFrames, hr]
      rfl
    have hsame : U.sameButNew ({ U with heap := s₂.heap, slotsUsed := s₂.slotsUsed } : State) L mc ms := by
      refine ⟨?_, q2, q3, q4, q5, q6⟩
      obtain ⟨t, ht, -⟩ := State.frames_cons hr
      show ({ U with heap := s₂.heap, slotsUsed := s₂.slotsUsed } : State) = { U.setFrames U.frames with heap := s₂.heap, slotsUsed := s₂.slotsUsed }
      rw [State.setFrames_self ht]
    subst hg
    refine Or.inr ⟨q, ⟨(({ U with heap := s₂.heap, slotsUsed := s₂.slotsUsed } : State).setVm s₂.vm), Ls ++ L, c0 + mc, s0 + ms⟩,
      ⟨X.admits, X.cas, X.clock, X.frames, X.room, X.hears, X.method, X.code, (X.here.setHeapUsed s₂.heap s₂.slotsUsed).setVm hW'.alike, X.tail, State.WarmedH.trans X.warmed hW', X.limits, X.bytes, X.same.trans (hsame.setVm s.vm)⟩,
      ⟨g, mk, s₂, L, E, ce, rfl, rfl, hx, hce, hcv, hcl, rfl, hL, rfl, rfl⟩, ?_⟩
    show Steps p.tables e below _ (((({ U with heap := s₂.heap, slotsUsed := s₂.slotsUsed } : State).setVm s₂.vm).setTop g).pushFrame (.throwing q))
    rw [← hs₂]
    exact hsteps
end
variable {p : Program} {l : Launch} {e : Env} {R : Room} {s : State} {m : MethodId} {args : Array Value} {below : List Frame} {meth : Method} {c : Code} {T : State} {H : Heap} {locs : List Loc} {cells slots : Nat}
theorem vx_callVX (X : Stand p l e R s m args below meth c T locs cells slots) (hexec : p.tables.exec = Jvm.exec) {own C : String} {index : Nat} {y : MethodName} {bytes : ByteArray} {maxL : Nat} {ret : Option FieldType} {hh : List (Nat × Nat × Nat × Nat)}
    (hown : s.vm.findClass own = some m.cls) (hlink : (Cond.methodLink own index y).before args s = true) (hinst : (Cond.instanceMethod y).before args s = true) (hsel : (Cond.selects C y y).before args s = true)
    (hcode : (Cond.codeWith y bytes maxL ret hh).before args s = true) (hy : y.cls ≠ "java/lang/invoke/MethodHandle" ∧ y.cls ≠ "java/lang/invoke/VarHandle")
    {W9 : Nat} {Pre : Pt → Array Value → Prop} {Post : Pt → Array Value → Option Value → Pt → Prop} {PostX : Pt → Array Value → Addr → Pt → Prop} (hK : vx_Back l R p e below s args y 3 W9 Pre Post PostX)
    {b : Addr} {cellB : Cell} (hcell : T.heap[b]? = some cellB) (hobj : cellB.vm.isStatics = false) (hcls : s.vm.findClass C = some cellB.cls)
    {g : JFrame} (hg : g.method = m) (hsize : g.locals.size = c.maxLocals) {argsL rest : List Value} (hlen : ∀ sig, parseMethodDescriptor y.desc = some sig → argsL.length = sig.parameters.length)
    (hstack : g.stack = argsL.reverse ++ .ref b :: rest) (hW : 2 * g.monitorRoom + (rest.map fun v => v.category).sum ≤ W9) (hdg : decode c.code g.pc = .ok (.invokevirtual index, 3))
    (hpre : ∀ vm₁, s.WarmedH vm₁ → Pre ⟨T.setVm vm₁, locs, cells, slots⟩ (Value.ref b :: argsL).toArray) :
    (∃ (v : Option Value) (vm₁ : Vm) (B : Pt), s.WarmedH vm₁ ∧ Stand p l e R s m args below meth c B.U B.locs B.cells B.slots ∧ Post ⟨T.setVm vm₁, locs, cells, slots⟩ (Value.ref b :: argsL).toArray v B ∧
      ∀ target, Steps p.tables e below (B.U.setTop { g with pc := g.pc + 3, stack := v.toList ++ rest }) target → Steps p.tables e below (T.setTop g) target) ∨
    (∃ (q : Addr) (vm₁ : Vm) (B : Pt), s.WarmedH vm₁ ∧ Stand p l e R s m args below meth c B.U B.locs B.cells B.slots ∧ PostX ⟨T.setVm vm₁, locs, cells, slots⟩ (Value.ref b :: argsL).toArray q B ∧
      Steps p.tables e below (T.setTop g) ((B.U.setTop { g with stack := rest }).pushFrame (.throwing q))) := by
  obtain ⟨mk, methM, hnamed, hmethM, hstM, habM⟩ := Cond.instanceMethod_spec hinst
  obtain ⟨m8, methM', cM, hn8, hmethM', -, -, -, -, -, -, hsigM⟩ := Cond.codeWith_spec hcode
  cases Option.some.inj (hn8.symm.trans hnamed)
  cases hmethM.symm.trans hmethM'
  obtain ⟨c2, r2, m2, q1, q2, q3, q4, kP, hkP, hkPi⟩ := Cond.selects_spec hsel
  cases hcls.symm.trans q1
  cases (State.methodFound?_of_named hnamed hy).symm.trans q2
  cases hnamed.symm.trans q3
  have hselP : selectMethod e.platform s.vm cellB.cls mk = .method mk := by rw [Launch.admits_selectMethod X.admits]; exact q4
  obtain ⟨vm₁, X₁, hstep₁⟩ := X.invokevirtual hexec hown hlink hnamed hmethM hstM hkP hkPi hy (a := b) (cell := cellB) hcell
    (fun z h => by rw [h] at hobj; cases hobj) hselP hmethM habM hkP hkPi (g := g) hg (argsL := argsL) (rest := rest) (hlen _ hsigM) hstack hdg
  rcases hK m meth c ⟨T.setVm vm₁, locs, cells, slots⟩ { g with stack := rest } (.invokevirtual index) mk (Value.ref b :: argsL).toArray X₁ hg hsize hdg hW (X₁.named hnamed) (hpre vm₁ X₁.warmed) with ⟨v, B, X', hpost, hsteps⟩ | ⟨q, B, X', hpost, hsteps⟩
  · exact Or.inl ⟨v, vm₁, B, X₁.warmed, X', hpost, fun target h => hstep₁ _ fun acts => by rw [doInvoke_state]; exact hsteps.trans h⟩
  · exact Or.inr ⟨q, vm₁, B, X₁.warmed, X', hpost, hstep₁ _ fun acts => by rw [doInvoke_state]; exact hsteps⟩
theorem vx_callSX (X : Stand p l e R s m args below meth c T locs cells slots) (hexec : p.tables.exec = Jvm.exec) {own : String} {index : Nat} {y : MethodName} {bytes : ByteArray} {maxL : Nat} {ret : Option FieldType} {hh : List (Nat × Nat × Nat × Nat)}
    (hown : s.vm.findClass own = some m.cls) (hlink : (Cond.methodLink own index y).before args s = true) (hstat : (Cond.static y).before args s = true) (hinit : (Cond.initialized y.cls).before args s = true)
    (hcode : (Cond.codeWith y bytes maxL ret hh).before args s = true) (hy : y.cls ≠ "java/lang/invoke/MethodHandle" ∧ y.cls ≠ "java/lang/invoke/VarHandle")
    {W9 : Nat} {Pre : Pt → Array Value → Prop} {Post : Pt → Array Value → Option Value → Pt → Prop} {PostX : Pt → Array Value → Addr → Pt → Prop} (hK : vx_Back l R p e below s args y 3 W9 Pre Post PostX)
    {g : JFrame} (hg : g.method = m) (hsize : g.locals.size = c.maxLocals) {argsL rest : List Value} (hlen : ∀ sig, parseMethodDescriptor y.desc = some sig → argsL.length = sig.parameters.length)
    (hstack : g.stack = argsL.reverse ++ rest) (hW : 2 * g.monitorRoom + (rest.map fun v => v.category).sum ≤ W9) (hdg : decode c.code g.pc = .ok (.invokestatic index, 3))
    (hpre : ∀ vm₁, s.WarmedH vm₁ → Pre ⟨T.setVm vm₁, locs, cells, slots⟩ argsL.toArray) :
    (∃ (v : Option Value) (vm₁ : Vm) (B : Pt), s.WarmedH vm₁ ∧ Stand p l e R s m args below meth c B.U B.locs B.cells B.slots ∧ Post ⟨T.setVm vm₁, locs, cells, slots⟩ argsL.toArray v B ∧
      ∀ target, Steps p.tables e below (B.U.setTop { g with pc := g.pc + 3, stack := v.toList ++ rest }) target → Steps p.tables e below (T.setTop g) target) ∨
    (∃ (q : Addr) (vm₁ : Vm) (B : Pt), s.WarmedH vm₁ ∧ Stand p l e R s m args below meth c B.U B.locs B.cells B.slots ∧ PostX ⟨T.setVm vm₁, locs, cells, slots⟩ argsL.toArray q B ∧
      Steps p.tables e below (T.setTop g) ((B.U.setTop { g with stack := rest }).pushFrame (.throwing q))) := by
  obtain ⟨mk, methM, cM, hnamed, hmethM, -, -, -, -, -, -, hsigM⟩ := Cond.codeWith_spec hcode
  have hstatic : methM.isStatic = true := Cond.static_spec hnamed hmethM hstat
  obtain ⟨kP, hkP, -⟩ := className_of_methodNamed hnamed
  have hinitP : kP.init = .initialized := Cond.initialized_spec (findClass_of_methodNamed hnamed) hkP hinit
  obtain ⟨vm₁, X₁, hstep₁⟩ := X.invokestatic hexec hown hlink hnamed hmethM hstatic hkP hinitP hy (g := g) hg (argsL := argsL) (rest := rest) (hlen _ hsigM) hstack hdg
  rcases hK m meth c ⟨T.setVm vm₁, locs, cells, slots⟩ { g with stack := rest } (.invokestatic index) mk argsL.toArray X₁ hg hsize hdg hW (X₁.named hnamed) (hpre vm₁ X₁.warmed) with ⟨v, B, X', hpost, hsteps⟩ | ⟨q, B, X', hpost, hsteps⟩
  · exact Or.inl ⟨v, vm₁, B, X₁.warmed, X', hpost, fun target h => hstep₁ _ fun acts => by rw [doInvoke_state]; exact hsteps.trans h⟩
  · exact Or.inr ⟨q, vm₁, B, X₁.warmed, X', hpost, hstep₁ _ fun acts => by rw [doInvoke_state]; exact hsteps⟩
theorem vx_callVW (X : Stand p l e R s m args below meth c T locs cells slots) (hexec : p.tables.exec = Jvm.exec) {own C : String} {index : Nat} {y : MethodName} {bytes : ByteArray} {maxL : Nat} {ret : Option FieldType} {hh : List (Nat × Nat × Nat × Nat)}
    (hown : s.vm.findClass own = some m.cls) (hlink : (Cond.methodLink own index y).before args s = true) (hinst : (Cond.instanceMethod y).before args s = true) (hsel : (Cond.selects C y y).before args s = true)
    (hcode : (Cond.codeWith y bytes maxL ret hh).before args s = true) (hy : y.cls ≠ "java/lang/invoke/MethodHandle" ∧ y.cls ≠ "java/lang/invoke/VarHandle")
    {W9 : Nat} {Pre : Pt → Array Value → Prop} {Post : Pt → Array Value → Option Value → Pt → Prop} (hK : Back l R p e below s args y 3 W9 Pre Post)
    {b : Addr} {cellB : Cell} (hcell : T.heap[b]? = some cellB) (hobj : cellB.vm.isStatics = false) (hcls : s.vm.findClass C = some cellB.cls)
    {g : JFrame} (hg : g.method = m) (hsize : g.locals.size = c.maxLocals) {argsL rest : List Value} (hlen : ∀ sig, parseMethodDescriptor y.desc = some sig → argsL.length = sig.parameters.length)
    (hstack : g.stack = argsL.reverse ++ .ref b :: rest) (hW : 2 * g.monitorRoom + (rest.map fun v => v.category).sum ≤ W9) (hdg : decode c.code g.pc = .ok (.invokevirtual index, 3))
    (hpre : ∀ vm₁, s.WarmedH vm₁ → Pre ⟨T.setVm vm₁, locs, cells, slots⟩ (Value.ref b :: argsL).toArray) :
    ∃ (v : Option Value) (vm₁ : Vm) (B : Pt), s.WarmedH vm₁ ∧ Stand p l e R s m args below meth c B.U B.locs B.cells B.slots ∧ Post ⟨T.setVm vm₁, locs, cells, slots⟩ (Value.ref b :: argsL).toArray v B ∧
      ∀ target, Steps p.tables e below (B.U.setTop { g with pc := g.pc + 3, stack := v.toList ++ rest }) target → Steps p.tables e below (T.setTop g) target := by
  obtain ⟨mk, methM, hnamed, hmethM, hstM, habM⟩ := Cond.instanceMethod_spec hinst
  obtain ⟨m8, methM', cM, hn8, hmethM', -, -, -, -, -, -, hsigM⟩ := Cond.codeWith_spec hcode
  cases Option.some.inj (hn8.symm.trans hnamed)
  cases hmethM.symm.trans hmethM'
  obtain ⟨c2, r2, m2, q1, q2, q3, q4, kP, hkP, hkPi⟩ := Cond.selects_spec hsel
  cases hcls.symm.trans q1
  cases (State.methodFound?_of_named hnamed hy).symm.trans q2
  cases hnamed.symm.trans q3
  have hselP : selectMethod e.platform s.vm cellB.cls mk = .method mk := by rw [Launch.admits_selectMethod X.admits]; exact q4
  obtain ⟨vm₁, X₁, hstep₁⟩ := X.invokevirtual hexec hown hlink hnamed hmethM hstM hkP hkPi hy (a := b) (cell := cellB) hcell
    (fun z h => by rw [h] at hobj; cases hobj) hselP hmethM habM hkP hkPi (g := g) hg (argsL := argsL) (rest := rest) (hlen _ hsigM) hstack hdg
  obtain ⟨v, B, X', hpost, hsteps⟩ := hK m meth c ⟨T.setVm vm₁, locs, cells, slots⟩ { g with stack := rest } (.invokevirtual index) mk (Value.ref b :: argsL).toArray X₁ hg hsize hdg hW (X₁.named hnamed) (hpre vm₁ X₁.warmed)
  exact ⟨v, vm₁, B, X₁.warmed, X', hpost, fun target h => hstep₁ _ fun acts => by rw [doInvoke_state]; exact hsteps.trans h⟩
abbrev vx_CVW (R : Room) (s : State) (args : Array Value) (own C : String) (index : Nat) (y : MethodName) (bytes : ByteArray) (maxL : Nat) (ret : Option FieldType) (hh : List (Nat × Nat × Nat × Nat)) (ws : List Cond) (rm : Room) (mc ms n : Nat) : Prop :=
  (rm.cells = mc ∧ rm.slots = ms ∧ rm.frames + 1 ≤ R.frames ∧ 8 + (maxL + 11) + rm.locals ≤ R.locals ∧ (∀ w ∈ ws, ∀ (a' : Array Value) (U : State), s.WarmedH U.vm → w.before a' U = true) ∧ Cond.codeWith y bytes maxL ret hh ∈ ws) ∧
  (Cond.codeWith y bytes maxL ret hh).before args s = true ∧ (Cond.initialized y.cls).before args s = true ∧ (y.cls ≠ "java/lang/invoke/MethodHandle" ∧ y.cls ≠ "java/lang/invoke/VarHandle") ∧
  (∀ sig, parseMethodDescriptor y.desc = some sig → n = sig.parameters.length) ∧ (Cond.methodLink own index y).before args s = true ∧ (Cond.instanceMethod y).before args s = true ∧ (Cond.selects C y y).before args s = true
theorem vx_cwVW {own C : String} {index maxL mc ms : Nat} {y : MethodName} {bytes : ByteArray} {ret : Option FieldType} {hh : List (Nat × Nat × Nat × Nat)} {Ts ws ws' : List Cond} {rm : Room} (n : Nat) (ht : ∀ w ∈ Ts, w.before args s = true) (hT : GoodIn Ts (wsV own index C y ws)) (hw : ws = Cond.codeWith y bytes maxL ret hh :: ws') (hrc : rm.cells = mc) (hrs : rm.slots = ms)
    (hd : y.cls = C ∧ y.cls ≠ "java/lang/invoke/MethodHandle" ∧ y.cls ≠ "java/lang/invoke/VarHandle" ∧ (parseMethodDescriptor y.desc).map (fun d => d.parameters.length) = some n) (hR : rm.frames + 1 ≤ R.frames ∧ 8 + (maxL + 11) + rm.locals ≤ R.locals) :
    vx_CVW R s args own C index y bytes maxL ret hh ws rm mc ms n := by
  obtain ⟨hC, hd⟩ := hd
  subst hC
  have ok : ∀ w ∈ wsV own index y.cls y ws, w.before args s = true := fun w h => ht w (hT w h).1
  have hG : GoodIn Ts ws := fun w h => hT w (by unfold wsV; exact List.mem_append_right _ h)
  have hc : Cond.codeWith y bytes maxL ret hh ∈ ws := by rw [hw]; exact List.mem_cons_self
  refine ⟨⟨hrc, hrs, hR.1, hR.2, pay_in ht hG, hc⟩, ht _ (hG _ hc).1, ok _ (by simp [wsV]), ⟨hd.1, hd.2.1⟩, fun sig h => ?_, ok _ (by simp [wsV]), ok _ (by simp [wsV]), ok _ (by simp [wsV])⟩
  have h2 := hd.2.2
  rw [h] at h2
  exact (Option.some.inj h2).symm
theorem vx_runVW {y : MethodName} {bytes cc : ByteArray} {maxL nL mc ms n index : Nat} {ret : Option FieldType} {hh : List (Nat × Nat × Nat × Nat)} {ws : List Cond} {rm : Room} {Pc : Array Value → State → Prop} {Qc : Array Value → State → Outcome → State → Prop} {free : Addr → Prop} {Ts : List Cond} {own C : String} {b : Addr} {As rest : List Value} {g : JFrame}
    (S : CallFix p m c cc nL s args Ts own) (hM : Met l y ws rm Pc Qc mc ms free) (cw : vx_CVW R s args own C index y bytes maxL ret hh ws rm mc ms n) (hp : PreV s H C b Pc As)
    (hg : g.method = m) (hn : As.length = n) (hsize : g.locals.size = nL) (hstack : g.stack = As.reverse ++ .ref b :: rest) (hW : 2 * g.monitorRoom + (rest.map fun v => v.category).sum ≤ 8) (hdg : decode cc g.pc = .ok (.invokevirtual index, 3)) (hf : cells + mc ≤ R.cells ∧ slots + ms ≤ R.slots) :
    va_Run p l e R s m args below meth c H locs cells slots mc ms g rest (Qc (Value.ref b :: As).toArray) free := by
  obtain ⟨⟨hrc, hrs, hfr, hlo, hws, hcw⟩, hcode, hini, hy, hlen, hl, hin, hse⟩ := cw
  have hK : Back l R p e below s args y 3 8 (PreOf R mc ms Pc) (PostOf Qc mc ms free) := va_backW (hh := hh) (bytes := bytes) (maxL := maxL) (ret := ret) hM hp.1 hrc hrs hfr hlo hws hcw (fun a' U hW => word_at hW (Or.inl (by first | rfl | simp [Cond.onTables, Cond.keeps, Cond.steady])) hini)
  obtain ⟨hx, hb, hml, ho, -⟩ := S
  obtain ⟨-, ⟨cellB, hcB, hoB, hclB⟩, hPc⟩ := hp
  intro T hT X
  obtain ⟨v, vm₁, ⟨U', l2, c2, s2⟩, hW₁, X', ⟨g', mk, t, L, e1, e2, hq, h1, hL, h2, h3⟩, st⟩ := vx_callVW X hx (C := C) (hh := hh) (bytes := bytes) (maxL := maxL) (ret := ret) ho hl hin hse hcode hy hK (by rw [hT]; exact hcB) hoB hclB hg (hsize.trans hml.symm) (argsL := As) (rest := rest) (fun sig h => hn.trans (hlen sig h)) hstack hW (by rw [hb]; exact hdg)
    (fun vm₁ hW₁ => ⟨hf.1, hf.2, hPc (T.setVm vm₁) hT hW₁⟩)
  dsimp only [Pt.U, Pt.locs, Pt.cells, Pt.slots] at X' e1 e2 h1 h2 h3 st
  subst h1; subst h2; subst h3
  exact ⟨v, (T.setVm vm₁).calling g' mk (Value.ref b :: As).toArray, t, U', L, hT, X', hL, e1, e2, hq, st⟩
section
variable {y : MethodName} {bytes cc : ByteArray} {maxL nL mc ms n index : Nat} {ret : Option FieldType} {ws : List Cond} {rm : Room} {Pc : Array Value → State → Prop} {Qc : Array Value → State → Outcome → State → Prop} {XC : String → State → State → Prop} {free : Addr → Prop} {Ts : List Cond} {own C : String} {b : Addr} {As rest : List Value} {g : JFrame}
theorem vx_runVX {hh : List (Nat × Nat × Nat × Nat)} (S : CallFix p m c cc nL s args Ts own) (hM : vx_Met l y ws rm Pc Qc XC mc ms free) (cw : vx_CVW R s args own C index y bytes maxL ret hh ws rm mc ms n) (hp : PreV s H C b Pc As)
    (hg : g.method = m) (hn : As.length = n) (hsize : g.locals.size = nL) (hstack : g.stack = As.reverse ++ .ref b :: rest) (hW : 2 * g.monitorRoom + (rest.map fun v => v.category).sum ≤ 8) (hdg : decode cc g.pc = .ok (.invokevirtual index, 3)) (hf : cells + mc ≤ R.cells ∧ slots + ms ≤ R.slots) :
    vx_Run p l e R s m args below meth c H locs cells slots mc ms g rest (Qc (Value.ref b :: As).toArray) XC free := by
  obtain ⟨⟨hrc, hrs, hfr, hlo, hws, hcw⟩, hcode, hini, hy, hlen, hl, hin, hse⟩ := cw
  have hK : vx_Back l R p e below s args y 3 8 (PreOf R mc ms Pc) (PostOf Qc mc ms free) (vx_Post XC mc ms free) := vx_backW (hh := hh) (bytes := bytes) (maxL := maxL) (ret := ret) hM hp.1 hrc hrs hfr hlo hws hcw (fun a' U hW => word_at hW (Or.inl (by first | rfl | simp [Cond.onTables, Cond.keeps, Cond.steady])) hini)
  obtain ⟨hx, hb, hml, ho, -⟩ := S
  obtain ⟨-, ⟨cellB, hcB, hoB, hclB⟩, hPc⟩ := hp
  intro T hT X
  rcases vx_callVX X hx (C := C) (hh := hh) (bytes := bytes) (maxL := maxL) (ret := ret) ho hl hin hse hcode hy hK (by rw [hT]; exact hcB) hoB hclB hg (hsize.trans hml.symm) (argsL := As) (rest := rest) (fun sig h => hn.trans (hlen sig h)) hstack hW (by rw [hb]; exact hdg)
    (fun vm₁ hW₁ => ⟨hf.1, hf.2, hPc (T.setVm vm₁) hT hW₁⟩) with ⟨v, vm₁, ⟨U', l2, c2, s2⟩, hW₁, X', ⟨g', mk, t, L, e1, e2, hq, h1, hL, h2, h3⟩, st⟩ | ⟨q, vm₁, ⟨U', l2, c2, s2⟩, hW₁, X', ⟨g', mk, t, L, E, ce, e1, e2, hq, hce, hcv, hcl, h1, hL, h2, h3⟩, st⟩
  · dsimp only [Pt.U, Pt.locs, Pt.cells, Pt.slots] at X' e1 e2 h1 h2 h3 st
    subst h1; subst h2; subst h3
    exact Or.inl ⟨v, (T.setVm vm₁).calling g' mk (Value.ref b :: As).toArray, t, U', L, hT, X', hL, e1, e2, hq, st⟩
  · dsimp only [Pt.U, Pt.locs, Pt.cells, Pt.slots] at X' e1 e2 h1 h2 h3 st hcl
    subst h1; subst h2; subst h3
    exact Or.inr ⟨q, (T.setVm vm₁).calling g' mk (Value.ref b :: As).toArray, t, U', L, E, ce, hT, X', hL, e1, e2, hq, hce, hcv, vx_cls hW₁ hcl, st⟩
theorem vx_runSX {hh : List (Nat × Nat × Nat × Nat)} (S : CallFix p m c cc nL s args Ts own) (hM : vx_Met l y ws rm Pc Qc XC mc ms free) (cw : vx_CSW R s args own index y bytes maxL ret hh ws rm mc ms n) (hp : PreS s H Pc As)
    (hg : g.method = m) (hn : As.length = n) (hsize : g.locals.size = nL) (hstack : g.stack = As.reverse ++ rest) (hW : 2 * g.monitorRoom + (rest.map fun v => v.category).sum ≤ 8) (hdg : decode cc g.pc = .ok (.invokestatic index, 3)) (hf : cells + mc ≤ R.cells ∧ slots + ms ≤ R.slots) :
    vx_Run p l e R s m args below meth c H locs cells slots mc ms g rest (Qc As.toArray) XC free := by
  obtain ⟨⟨hrc, hrs, hfr, hlo, hws, hcw⟩, hcode, hini, hy, hlen, hl, hstt⟩ := cw
  have hK : vx_Back l R p e below s args y 3 8 (PreOf R mc ms Pc) (PostOf Qc mc ms free) (vx_Post XC mc ms free) := vx_backW (hh := hh) (bytes := bytes) (maxL := maxL) (ret := ret) hM hp.1 hrc hrs hfr hlo hws hcw (fun a' U hW => word_at hW (Or.inl (by first | rfl | simp [Cond.onTables, Cond.keeps, Cond.steady])) hini)
  obtain ⟨hx, hb, hml, ho, -⟩ := S
  intro T hT X
  rcases vx_callSX X hx (hh := hh) (bytes := bytes) (maxL := maxL) (ret := ret) ho hl hstt hini hcode hy hK hg (hsize.trans hml.symm) (argsL := As) (rest := rest) (fun sig h => hn.trans (hlen sig h)) hstack hW (by rw [hb]; exact hdg)
    (fun vm₁ hW₁ => ⟨hf.1, hf.2, hp.2 (T.setVm vm₁) hT hW₁⟩) with ⟨v, vm₁, ⟨U', l2, c2, s2⟩, hW₁, X', ⟨g', mk, t, L, e1, e2, hq, h1, hL, h2, h3⟩, st⟩ | ⟨q, vm₁, ⟨U', l2, c2, s2⟩, hW₁, X', ⟨g', mk, t, L, E, ce, e1, e2, hq, hce, hcv, hcl, h1, hL, h2, h3⟩, st⟩
  · dsimp only [Pt.U, Pt.locs, Pt.cells, Pt.slots] at X' e1 e2 h1 h2 h3 st
    subst h1; subst h2; subst h3
    exact Or.inl ⟨v, (T.setVm vm₁).calling g' mk As.toArray, t, U', L, hT, X', hL, e1, e2, hq, st⟩
  · dsimp only [Pt.U, Pt.locs, Pt.cells, Pt.slots] at X' e1 e2 h1 h2 h3 st hcl
    subst h1; subst h2; subst h3
    exact Or.inr ⟨q, (T.setVm vm₁).calling g' mk As.toArray, t, U', L, E, ce, hT, X', hL, e1, e2, hq, hce, hcv, vx_cls hW₁ hcl, st⟩
end
end VXH
theorem vx_ofWH {l : Launch} {y : MethodName} {ws ws' : List Cond} {rm : Room} {Pc : Array Value → State → Prop} {Qc : Array Value → State → Outcome → State → Prop} {XC : String → State → State → Prop} {mc ms : Nat} {free : Addr → Prop} {cc : ByteArray} {maxL : Nat} {ret : Option FieldType} {hh : List (Nat × Nat × Nat × Nat)}
    (hy : plainName y.cls = true) (hw : ws = Cond.codeWith y cc maxL ret hh :: ws')
    (body : ∀ p e s m args below meth c s₁, BodyLoose p l y (headSpec ws rm) cc maxL ret e s m args below meth c s₁ → c.maxLocals = maxL → Pc args s →
      W p l e (headSpec ws rm).room s m args below meth c s.heap [] 0 0 (vx_MQ below Qc XC args s mc ms free) (entryFrame m args maxL)) : vx_Met l y ws rm Pc Qc XC mc ms free := by
  refine MetFree.of_bodyS (code := cc) (maxLocals := maxL) (ret := ret) hy ?_ ?_
  · intro args s m h hn
    obtain ⟨m9, meth, c, hn9, h1, h2, h3, h4, -, h5, h6, -⟩ := Cond.codeWith_spec (atoms_spec (ws := ws) h _ (by rw [hw]; exact List.mem_cons_self))
    cases hn.symm.trans hn9
    exact ⟨meth, c, h1, h2, h3, h4, h5, h6⟩
  · intro p e s m args below meth c s₁ B hml hP _
    have hh0 : s₁.heap = s.heap := by rw [B.state]; rfl
    obtain ⟨t, a1, o, b1, b2, b3⟩ := body p e s m args below meth c s₁ B hml hP s₁ hh0 (Stand.of_body B)
    exact ⟨t, o, a1, b1, b2, b3⟩
/-! ===== END ===== -/
end
section
/-! ===== BEGIN printed: names, fields, word lists, decode rows ===== -/
def RX0 : String := "SlittingOffice$Coil"
def TX0 : u_T := fun k => match k with
  | 0 => ("SlittingOffice$Coil", "width", "I", false)
  | 1 => ("SlittingOffice$Coil", "weight", "I", false)
  | 2 => ("SlittingOffice$Coil", "length", "I", false)
  | 3 => ("SlittingOffice$Coil", "heat", "I", false)
  | 4 => ("SlittingOffice$Coil", "defectFroms", "[I", true)
  | 5 => ("SlittingOffice$Coil", "defectTos", "[I", true)
  | 6 => ("SlittingOffice$Coil", "defectCount", "I", false)
  | 7 => ("SlittingOffice$Coil", "slitWidths", "[I", true)
  | 8 => ("SlittingOffice$Coil", "slitWeights", "[I", true)
  | 9 => ("SlittingOffice$Coil", "slitOrders", "[I", true)
  | 10 => ("SlittingOffice$Coil", "slitCount", "I", false)
  | 11 => ("SlittingOffice$Coil", "innerTurns", "I", false)
  | 12 => ("SlittingOffice$Coil", "cutOut", "I", false)
  | _ => ("SlittingOffice$Coil", "trim", "I", false)
def tyX0 : Nat → FieldType := fun k => match k with
  | 0 => .int
  | 1 => .int
  | 2 => .int
  | 3 => .int
  | 4 => .array .int
  | 5 => .array .int
  | 6 => .int
  | 7 => .array .int
  | 8 => .array .int
  | 9 => .array .int
  | 10 => .int
  | 11 => .int
  | 12 => .int
  | _ => .int
abbrev wsX00 : List Cond := u_ws RX0 TX0 14
theorem nmX0 : ∀ a, a < 14 → ∀ b, b < 14 → a ≠ b → (TX0 a).2.1 ≠ (TX0 b).2.1 := by decide +kernel
theorem tyX0_ok : ∀ k, k < 14 → parseFieldDescriptor (TX0 k).2.2.1 = some (tyX0 k) := by decide +kernel
abbrev cX0_init : ByteArray := prog_2_method_1_code
def yX0_init : MethodName := ⟨RX0, "<init>", "()V"⟩
abbrev cX0_describe : ByteArray := prog_2_method_2_code
def yX0_describe : MethodName := ⟨RX0, "describe", "(IIII)V"⟩
abbrev cX0_isSlit : ByteArray := prog_2_method_3_code
def yX0_isSlit : MethodName := ⟨RX0, "isSlit", "()Z"⟩
abbrev cX0_hasSlitAt : ByteArray := prog_2_method_4_code
def yX0_hasSlitAt : MethodName := ⟨RX0, "hasSlitAt", "(I)Z"⟩
abbrev cX0_hasMostDefects : ByteArray := prog_2_method_5_code
def yX0_hasMostDefects : MethodName := ⟨RX0, "hasMostDefects", "()Z"⟩
abbrev cX0_addDefect : ByteArray := prog_2_method_6_code
def yX0_addDefect : MethodName := ⟨RX0, "addDefect", "(II)V"⟩
abbrev cX0_cutOutLength : ByteArray := prog_2_method_7_code
def yX0_cutOutLength : MethodName := ⟨RX0, "cutOutLength", "()I"⟩
abbrev cX0_slitBy : ByteArray := prog_2_method_8_code
def yX0_slitBy : MethodName := ⟨RX0, "slitBy", "(LSlittingOffice$Pattern;I)V"⟩
abbrev cX0_stockOf : ByteArray := prog_2_method_9_code
def yX0_stockOf : MethodName := ⟨RX0, "stockOf", "(I)I"⟩
abbrev cX0_share : ByteArray := prog_2_method_10_code
def yX0_share : MethodName := ⟨RX0, "share", "(III)I"⟩
def RX1 : String := "SlittingOffice$Filling"
def TX1 : u_T := fun k => match k with
  | 0 => ("SlittingOffice$Filling", "widths", "[I", true)
  | 1 => ("SlittingOffice$Filling", "widthCount", "I", false)
  | _ => ("SlittingOffice$Filling", "fewestSlits", "[I", true)
def tyX1 : Nat → FieldType := fun k => match k with
  | 0 => .array .int
  | 1 => .int
  | _ => .array .int
abbrev wsX10 : List Cond := u_ws RX1 TX1 3
theorem nmX1 : ∀ a, a < 3 → ∀ b, b < 3 → a ≠ b → (TX1 a).2.1 ≠ (TX1 b).2.1 := by decide +kernel
theorem tyX1_ok : ∀ k, k < 3 → parseFieldDescriptor (TX1 k).2.2.1 = some (tyX1 k) := by decide +kernel
abbrev cX1_init : ByteArray := prog_3_method_1_code
def yX1_init : MethodName := ⟨RX1, "<init>", "()V"⟩
abbrev cX1_forgetWidths : ByteArray := prog_3_method_2_code
def yX1_forgetWidths : MethodName := ⟨RX1, "forgetWidths", "()V"⟩
abbrev cX1_offerWidth : ByteArray := prog_3_method_3_code
def yX1_offerWidth : MethodName := ⟨RX1, "offerWidth", "(I)V"⟩
abbrev cX1_greatestTotal : ByteArray := prog_3_method_4_code
def yX1_greatestTotal : MethodName := ⟨RX1, "greatestTotal", "(II)I"⟩
abbrev cX1_fewestSlitsFor : ByteArray := prog_3_method_5_code
def yX1_fewestSlitsFor : MethodName := ⟨RX1, "fewestSlitsFor", "(I)I"⟩
abbrev cX1_layOut : ByteArray := prog_3_method_6_code
def yX1_layOut : MethodName := ⟨RX1, "layOut", "(ILSlittingOffice$Pattern;)V"⟩
abbrev cX1_greatestBefore : ByteArray := prog_3_method_7_code
def yX1_greatestBefore : MethodName := ⟨RX1, "greatestBefore", "(II)I"⟩
abbrev cX1_greatestTotalByTrying : ByteArray := prog_3_method_8_code
def yX1_greatestTotalByTrying : MethodName := ⟨RX1, "greatestTotalByTrying", "(II)I"⟩
abbrev cX1_tryFrom : ByteArray := prog_3_method_9_code
def yX1_tryFrom : MethodName := ⟨RX1, "tryFrom", "([IIIII)I"⟩
def RX2 : String := "SlittingOffice$Order"
def TX2 : u_T := fun k => match k with
  | 0 => ("SlittingOffice$Order", "width", "I", false)
  | 1 => ("SlittingOffice$Order", "weight", "I", false)
  | 2 => ("SlittingOffice$Order", "received", "I", false)
  | _ => ("SlittingOffice$Order", "heat", "I", false)
def tyX2 : Nat → FieldType := fun k => match k with
  | 0 => .int
  | 1 => .int
  | 2 => .int
  | _ => .int
abbrev wsX20 : List Cond := u_ws RX2 TX2 4
theorem nmX2 : ∀ a, a < 4 → ∀ b, b < 4 → a ≠ b → (TX2 a).2.1 ≠ (TX2 b).2.1 := by decide +kernel
theorem tyX2_ok : ∀ k, k < 4 → parseFieldDescriptor (TX2 k).2.2.1 = some (tyX2 k) := by decide +kernel
abbrev cX2_init : ByteArray := prog_4_method_1_code
def yX2_init : MethodName := ⟨RX2, "<init>", "()V"⟩
abbrev cX2_describe : ByteArray := prog_4_method_2_code
def yX2_describe : MethodName := ⟨RX2, "describe", "(II)V"⟩
abbrev cX2_wouldTakeHeat : ByteArray := prog_4_method_3_code
def yX2_wouldTakeHeat : MethodName := ⟨RX2, "wouldTakeHeat", "(I)Z"⟩
abbrev cX2_receive : ByteArray := prog_4_method_4_code
def yX2_receive : MethodName := ⟨RX2, "receive", "(II)V"⟩
def RX3 : String := "SlittingOffice$Pattern"
def TX3 : u_T := fun k => match k with
  | 0 => ("SlittingOffice$Pattern", "widths", "[I", true)
  | _ => ("SlittingOffice$Pattern", "count", "I", false)
def tyX3 : Nat → FieldType := fun k => match k with
  | 0 => .array .int
  | _ => .int
abbrev wsX30 : List Cond := u_ws RX3 TX3 2
theorem nmX3 : ∀ a, a < 2 → ∀ b, b < 2 → a ≠ b → (TX3 a).2.1 ≠ (TX3 b).2.1 := by decide +kernel
theorem tyX3_ok : ∀ k, k < 2 → parseFieldDescriptor (TX3 k).2.2.1 = some (tyX3 k) := by decide +kernel
abbrev cX3_init : ByteArray := prog_5_method_1_code
def yX3_init : MethodName := ⟨RX3, "<init>", "()V"⟩
abbrev cX3_isFull : ByteArray := prog_5_method_2_code
def yX3_isFull : MethodName := ⟨RX3, "isFull", "()Z"⟩
abbrev cX3_hasSlitAt : ByteArray := prog_5_method_3_code
def yX3_hasSlitAt : MethodName := ⟨RX3, "hasSlitAt", "(I)Z"⟩
abbrev cX3_empty : ByteArray := prog_5_method_4_code
def yX3_empty : MethodName := ⟨RX3, "empty", "()V"⟩
abbrev cX3_append : ByteArray := prog_5_method_5_code
def yX3_append : MethodName := ⟨RX3, "append", "(I)V"⟩
abbrev cX3_becomeCopyOf : ByteArray := prog_5_method_6_code
def yX3_becomeCopyOf : MethodName := ⟨RX3, "becomeCopyOf", "(LSlittingOffice$Pattern;)V"⟩
abbrev cX3_totalWidth : ByteArray := prog_5_method_7_code
def yX3_totalWidth : MethodName := ⟨RX3, "totalWidth", "()I"⟩
abbrev cX3_knivesNeeded : ByteArray := prog_5_method_8_code
def yX3_knivesNeeded : MethodName := ⟨RX3, "knivesNeeded", "()I"⟩
abbrev cX3_knivesNotIn : ByteArray := prog_5_method_9_code
def yX3_knivesNotIn : MethodName := ⟨RX3, "knivesNotIn", "(LSlittingOffice$Pattern;)I"⟩
abbrev cX3_hasKnifeAt : ByteArray := prog_5_method_10_code
def yX3_hasKnifeAt : MethodName := ⟨RX3, "hasKnifeAt", "(I)Z"⟩
def RX4 : String := "SlittingOffice$RunOrder"
def TX4 : u_T := fun k => match k with
  | 0 => ("SlittingOffice$RunOrder", "moves", "[[I", true)
  | 1 => ("SlittingOffice$RunOrder", "fewest", "[[I", true)
  | _ => ("SlittingOffice$RunOrder", "best", "[I", true)
def tyX4 : Nat → FieldType := fun k => match k with
  | 0 => .array (.array .int)
  | 1 => .array (.array .int)
  | _ => .array .int
abbrev wsX40 : List Cond := u_ws RX4 TX4 3
theorem nmX4 : ∀ a, a < 3 → ∀ b, b < 3 → a ≠ b → (TX4 a).2.1 ≠ (TX4 b).2.1 := by decide +kernel
theorem tyX4_ok : ∀ k, k < 3 → parseFieldDescriptor (TX4 k).2.2.1 = some (tyX4 k) := by decide +kernel
abbrev cX4_init : ByteArray := prog_6_method_1_code
def yX4_init : MethodName := ⟨RX4, "<init>", "()V"⟩
abbrev cX4_fewestBySets : ByteArray := prog_6_method_2_code
def yX4_fewestBySets : MethodName := ⟨RX4, "fewestBySets", "(I)I"⟩
abbrev cX4_fewestAfter : ByteArray := prog_6_method_3_code
def yX4_fewestAfter : MethodName := ⟨RX4, "fewestAfter", "(III)I"⟩
abbrev cX4_movesThrough : ByteArray := prog_6_method_4_code
def yX4_movesThrough : MethodName := ⟨RX4, "movesThrough", "(III)I"⟩
abbrev cX4_findBest : ByteArray := prog_6_method_5_code
def yX4_findBest : MethodName := ⟨RX4, "findBest", "(I)V"⟩
abbrev cX4_leastNext : ByteArray := prog_6_method_6_code
def yX4_leastNext : MethodName := ⟨RX4, "leastNext", "(III)I"⟩
abbrev cX4_fewestByOrders : ByteArray := prog_6_method_7_code
def yX4_fewestByOrders : MethodName := ⟨RX4, "fewestByOrders", "(I)I"⟩
abbrev cX4_tryOrders : ByteArray := prog_6_method_8_code
def yX4_tryOrders : MethodName := ⟨RX4, "tryOrders", "([[IIIII)I"⟩
abbrev cX4_holds : ByteArray := prog_6_method_9_code
def yX4_holds : MethodName := ⟨RX4, "holds", "(II)Z"⟩
abbrev cX4_without : ByteArray := prog_6_method_10_code
def yX4_without : MethodName := ⟨RX4, "without", "(II)I"⟩
def RX5 : String := "SlittingOffice"
def TX5 : u_T := fun k => match k with
  | 0 => ("SlittingOffice", "coils", "[LSlittingOffice$Coil;", true)
  | 1 => ("SlittingOffice", "coilCount", "I", false)
  | 2 => ("SlittingOffice", "orders", "[LSlittingOffice$Order;", true)
  | 3 => ("SlittingOffice", "orderCount", "I", false)
  | 4 => ("SlittingOffice", "patterns", "[LSlittingOffice$Pattern;", true)
  | 5 => ("SlittingOffice", "patternCount", "I", false)
  | 6 => ("SlittingOffice", "draft", "LSlittingOffice$Pattern;", true)
  | 7 => ("SlittingOffice", "edge", "I", false)
  | 8 => ("SlittingOffice", "loss", "I", false)
  | 9 => ("SlittingOffice", "knives", "I", false)
  | 10 => ("SlittingOffice", "setup", "I", false)
  | 11 => ("SlittingOffice", "movedKnives", "I", false)
  | 12 => ("SlittingOffice", "waitingCoils", "[I", true)
  | 13 => ("SlittingOffice", "waitingPatterns", "[I", true)
  | 14 => ("SlittingOffice", "waitingCount", "I", false)
  | 15 => ("SlittingOffice", "filling", "LSlittingOffice$Filling;", true)
  | _ => ("SlittingOffice", "runOrder", "LSlittingOffice$RunOrder;", true)
def tyX5 : Nat → FieldType := fun k => match k with
  | 0 => .array (.object "SlittingOffice$Coil")
  | 1 => .int
  | 2 => .array (.object "SlittingOffice$Order")
  | 3 => .int
  | 4 => .array (.object "SlittingOffice$Pattern")
  | 5 => .int
  | 6 => .object "SlittingOffice$Pattern"
  | 7 => .int
  | 8 => .int
  | 9 => .int
  | 10 => .int
  | 11 => .int
  | 12 => .array .int
  | 13 => .array .int
  | 14 => .int
  | 15 => .object "SlittingOffice$Filling"
  | _ => .object "SlittingOffice$RunOrder"
abbrev wsX50 : List Cond := u_ws RX5 TX5 17
theorem nmX5 : ∀ a, a < 17 → ∀ b, b < 17 → a ≠ b → (TX5 a).2.1 ≠ (TX5 b).2.1 := by decide +kernel
theorem tyX5_ok : ∀ k, k < 17 → parseFieldDescriptor (TX5 k).2.2.1 = some (tyX5 k) := by decide +kernel
abbrev cX5_init : ByteArray := prog_1_method_1_code
def yX5_init : MethodName := ⟨RX5, "<init>", "()V"⟩
abbrev cX5_coil : ByteArray := prog_1_method_2_code
def yX5_coil : MethodName := ⟨RX5, "coil", "(IIII)I"⟩
abbrev cX5_defect : ByteArray := prog_1_method_3_code
def yX5_defect : MethodName := ⟨RX5, "defect", "(III)I"⟩
abbrev cX5_setRules : ByteArray := prog_1_method_4_code
def yX5_setRules : MethodName := ⟨RX5, "setRules", "(III)I"⟩
abbrev cX5_order : ByteArray := prog_1_method_5_code
def yX5_order : MethodName := ⟨RX5, "order", "(II)I"⟩
abbrev cX5_addSlit : ByteArray := prog_1_method_6_code
def yX5_addSlit : MethodName := ⟨RX5, "addSlit", "(I)I"⟩
abbrev cX5_clearDraft : ByteArray := prog_1_method_7_code
def yX5_clearDraft : MethodName := ⟨RX5, "clearDraft", "()I"⟩
abbrev cX5_draftSlits : ByteArray := prog_1_method_8_code
def yX5_draftSlits : MethodName := ⟨RX5, "draftSlits", "()I"⟩
abbrev cX5_draftWidth : ByteArray := prog_1_method_9_code
def yX5_draftWidth : MethodName := ⟨RX5, "draftWidth", "(I)I"⟩
abbrev cX5_keep : ByteArray := prog_1_method_10_code
def yX5_keep : MethodName := ⟨RX5, "keep", "()I"⟩
abbrev cX5_fits : ByteArray := prog_1_method_11_code
def yX5_fits : MethodName := ⟨RX5, "fits", "(II)Z"⟩
abbrev cX5_fill : ByteArray := prog_1_method_12_code
def yX5_fill : MethodName := ⟨RX5, "fill", "(I)I"⟩
abbrev cX5_fullestByTrying : ByteArray := prog_1_method_13_code
def yX5_fullestByTrying : MethodName := ⟨RX5, "fullestByTrying", "(I)I"⟩
abbrev cX5_run : ByteArray := prog_1_method_14_code
def yX5_run : MethodName := ⟨RX5, "run", "(II)I"⟩
abbrev cX5_moves : ByteArray := prog_1_method_15_code
def yX5_moves : MethodName := ⟨RX5, "moves", "(I)I"⟩
abbrev cX5_moved : ByteArray := prog_1_method_16_code
def yX5_moved : MethodName := ⟨RX5, "moved", "()I"⟩
abbrev cX5_plan : ByteArray := prog_1_method_17_code
def yX5_plan : MethodName := ⟨RX5, "plan", "(II)I"⟩
abbrev cX5_waiting : ByteArray := prog_1_method_18_code
def yX5_waiting : MethodName := ⟨RX5, "waiting", "()I"⟩
abbrev cX5_fewestMoves : ByteArray := prog_1_method_19_code
def yX5_fewestMoves : MethodName := ⟨RX5, "fewestMoves", "()I"⟩
abbrev cX5_fewestByTrying : ByteArray := prog_1_method_20_code
def yX5_fewestByTrying : MethodName := ⟨RX5, "fewestByTrying", "()I"⟩
abbrev cX5_nextAt : ByteArray := prog_1_method_21_code
def yX5_nextAt : MethodName := ⟨RX5, "nextAt", "(I)I"⟩
abbrev cX5_runAll : ByteArray := prog_1_method_22_code
def yX5_runAll : MethodName := ⟨RX5, "runAll", "()I"⟩
abbrev cX5_slits : ByteArray := prog_1_method_23_code
def yX5_slits : MethodName := ⟨RX5, "slits", "(I)I"⟩
abbrev cX5_slitWeight : ByteArray := prog_1_method_24_code
def yX5_slitWeight : MethodName := ⟨RX5, "slitWeight", "(II)I"⟩
abbrev cX5_slitOrder : ByteArray := prog_1_method_25_code
def yX5_slitOrder : MethodName := ⟨RX5, "slitOrder", "(II)I"⟩
abbrev cX5_lost : ByteArray := prog_1_method_26_code
def yX5_lost : MethodName := ⟨RX5, "lost", "(II)I"⟩
abbrev cX5_delivered : ByteArray := prog_1_method_27_code
def yX5_delivered : MethodName := ⟨RX5, "delivered", "(I)I"⟩
abbrev cX5_heatOf : ByteArray := prog_1_method_28_code
def yX5_heatOf : MethodName := ⟨RX5, "heatOf", "(I)I"⟩
abbrev cX5_stock : ByteArray := prog_1_method_29_code
def yX5_stock : MethodName := ⟨RX5, "stock", "(I)I"⟩
abbrev cX5_requireRange : ByteArray := prog_1_method_30_code
def yX5_requireRange : MethodName := ⟨RX5, "requireRange", "(III)V"⟩
abbrev cX5_hasCoil : ByteArray := prog_1_method_31_code
def yX5_hasCoil : MethodName := ⟨RX5, "hasCoil", "(I)Z"⟩
abbrev cX5_hasPattern : ByteArray := prog_1_method_32_code
def yX5_hasPattern : MethodName := ⟨RX5, "hasPattern", "(I)Z"⟩
abbrev cX5_requireCoil : ByteArray := prog_1_method_33_code
def yX5_requireCoil : MethodName := ⟨RX5, "requireCoil", "(I)V"⟩
abbrev cX5_requirePattern : ByteArray := prog_1_method_34_code
def yX5_requirePattern : MethodName := ⟨RX5, "requirePattern", "(I)V"⟩
abbrev cX5_requireOrder : ByteArray := prog_1_method_35_code
def yX5_requireOrder : MethodName := ⟨RX5, "requireOrder", "(I)V"⟩
abbrev cX5_requireSlit : ByteArray := prog_1_method_36_code
def yX5_requireSlit : MethodName := ⟨RX5, "requireSlit", "(II)V"⟩
abbrev cX5_roomOf : ByteArray := prog_1_method_37_code
def yX5_roomOf : MethodName := ⟨RX5, "roomOf", "(LSlittingOffice$Coil;)I"⟩
abbrev cX5_canBeCutFrom : ByteArray := prog_1_method_38_code
def yX5_canBeCutFrom : MethodName := ⟨RX5, "canBeCutFrom", "(LSlittingOffice$Pattern;LSlittingOffice$Coil;)Z"⟩
abbrev cX5_offerWidthsFor : ByteArray := prog_1_method_39_code
def yX5_offerWidthsFor : MethodName := ⟨RX5, "offerWidthsFor", "(LSlittingOffice$Coil;)V"⟩
abbrev cX5_canBeRun : ByteArray := prog_1_method_40_code
def yX5_canBeRun : MethodName := ⟨RX5, "canBeRun", "(II)Z"⟩
abbrev cX5_slitCoil : ByteArray := prog_1_method_41_code
def yX5_slitCoil : MethodName := ⟨RX5, "slitCoil", "(II)I"⟩
abbrev cX5_deliverSlits : ByteArray := prog_1_method_42_code
def yX5_deliverSlits : MethodName := ⟨RX5, "deliverSlits", "(LSlittingOffice$Coil;)I"⟩
abbrev cX5_takerOf : ByteArray := prog_1_method_43_code
def yX5_takerOf : MethodName := ⟨RX5, "takerOf", "(II)I"⟩
abbrev cX5_movesBetween : ByteArray := prog_1_method_44_code
def yX5_movesBetween : MethodName := ⟨RX5, "movesBetween", "(II)I"⟩
abbrev cX5_coilWaits : ByteArray := prog_1_method_45_code
def yX5_coilWaits : MethodName := ⟨RX5, "coilWaits", "(I)Z"⟩
abbrev cX5_readMoves : ByteArray := prog_1_method_46_code
def yX5_readMoves : MethodName := ⟨RX5, "readMoves", "()V"⟩
def RX6 : String := "SlittingOfficeModel"
def TX6 : u_T := fun k => match k with
  | 0 => ("SlittingOfficeModel", "width", "[I", true)
  | 1 => ("SlittingOfficeModel", "weight", "[I", true)
  | 2 => ("SlittingOfficeModel", "length", "[I", true)
  | 3 => ("SlittingOfficeModel", "heat", "[I", true)
  | 4 => ("SlittingOfficeModel", "coils", "I", false)
  | 5 => ("SlittingOfficeModel", "from", "[I", true)
  | 6 => ("SlittingOfficeModel", "to", "[I", true)
  | 7 => ("SlittingOfficeModel", "defects", "[I", true)
  | 8 => ("SlittingOfficeModel", "edge", "I", false)
  | 9 => ("SlittingOfficeModel", "loss", "I", false)
  | 10 => ("SlittingOfficeModel", "knives", "I", false)
  | 11 => ("SlittingOfficeModel", "wants", "[I", true)
  | 12 => ("SlittingOfficeModel", "most", "[I", true)
  | 13 => ("SlittingOfficeModel", "got", "[I", true)
  | 14 => ("SlittingOfficeModel", "has", "[I", true)
  | 15 => ("SlittingOfficeModel", "orders", "I", false)
  | 16 => ("SlittingOfficeModel", "slit", "[I", true)
  | 17 => ("SlittingOfficeModel", "many", "[I", true)
  | 18 => ("SlittingOfficeModel", "patterns", "I", false)
  | 19 => ("SlittingOfficeModel", "by", "[I", true)
  | 20 => ("SlittingOfficeModel", "weighs", "[I", true)
  | 21 => ("SlittingOfficeModel", "went", "[I", true)
  | 22 => ("SlittingOfficeModel", "lost", "[I", true)
  | 23 => ("SlittingOfficeModel", "setup", "I", false)
  | 24 => ("SlittingOfficeModel", "moved", "I", false)
  | 25 => ("SlittingOfficeModel", "waitCoil", "[I", true)
  | 26 => ("SlittingOfficeModel", "waitPattern", "[I", true)
  | 27 => ("SlittingOfficeModel", "waiting", "I", false)
  | 28 => ("SlittingOfficeModel", "fewest", "[I", true)
  | 29 => ("SlittingOfficeModel", "rest", "[I", true)
  | 30 => ("SlittingOfficeModel", "next", "[I", true)
  | _ => ("SlittingOfficeModel", "thrown", "I", false)
def tyX6 : Nat → FieldType := fun k => match k with
  | 0 => .array .int
  | 1 => .array .int
  | 2 => .array .int
  | 3 => .array .int
  | 4 => .int
  | 5 => .array .int
  | 6 => .array .int
  | 7 => .array .int
  | 8 => .int
  | 9 => .int
  | 10 => .int
  | 11 => .array .int
  | 12 => .array .int
  | 13 => .array .int
  | 14 => .array .int
  | 15 => .int
  | 16 => .array .int
  | 17 => .array .int
  | 18 => .int
  | 19 => .array .int
  | 20 => .array .int
  | 21 => .array .int
  | 22 => .array .int
  | 23 => .int
  | 24 => .int
  | 25 => .array .int
  | 26 => .array .int
  | 27 => .int
  | 28 => .array .int
  | 29 => .array .int
  | 30 => .array .int
  | _ => .int
abbrev wsX60 : List Cond := u_ws RX6 TX6 32
theorem nmX6 : ∀ a, a < 32 → ∀ b, b < 32 → a ≠ b → (TX6 a).2.1 ≠ (TX6 b).2.1 := by decide +kernel
theorem tyX6_ok : ∀ k, k < 32 → parseFieldDescriptor (TX6 k).2.2.1 = some (tyX6 k) := by decide +kernel
abbrev cX6_init : ByteArray := prog_8_method_1_code
def yX6_init : MethodName := ⟨RX6, "<init>", "()V"⟩
abbrev cX6_thrown : ByteArray := prog_8_method_2_code
def yX6_thrown : MethodName := ⟨RX6, "thrown", "()I"⟩
abbrev cX6_in : ByteArray := prog_8_method_3_code
def yX6_in : MethodName := ⟨RX6, "in", "(III)Z"⟩
abbrev cX6_asked : ByteArray := prog_8_method_4_code
def yX6_asked : MethodName := ⟨RX6, "asked", "(Z)Z"⟩
abbrev cX6_asked_ : ByteArray := prog_8_method_5_code
def yX6_asked_ : MethodName := ⟨RX6, "asked", "(ZZ)Z"⟩
abbrev cX6_asked__ : ByteArray := prog_8_method_6_code
def yX6_asked__ : MethodName := ⟨RX6, "asked", "(ZZZ)Z"⟩
abbrev cX6_told : ByteArray := prog_8_method_7_code
def yX6_told : MethodName := ⟨RX6, "told", "(I)I"⟩
abbrev cX6_isCoil : ByteArray := prog_8_method_8_code
def yX6_isCoil : MethodName := ⟨RX6, "isCoil", "(I)Z"⟩
abbrev cX6_isPattern : ByteArray := prog_8_method_9_code
def yX6_isPattern : MethodName := ⟨RX6, "isPattern", "(I)Z"⟩
abbrev cX6_coil : ByteArray := prog_8_method_10_code
def yX6_coil : MethodName := ⟨RX6, "coil", "(IIII)I"⟩
abbrev cX6_cutOut : ByteArray := prog_8_method_11_code
def yX6_cutOut : MethodName := ⟨RX6, "cutOut", "(I)I"⟩
abbrev cX6_defect : ByteArray := prog_8_method_12_code
def yX6_defect : MethodName := ⟨RX6, "defect", "(III)I"⟩
abbrev cX6_setRules : ByteArray := prog_8_method_13_code
def yX6_setRules : MethodName := ⟨RX6, "setRules", "(III)I"⟩
abbrev cX6_order : ByteArray := prog_8_method_14_code
def yX6_order : MethodName := ⟨RX6, "order", "(II)I"⟩
abbrev cX6_drafts : ByteArray := prog_8_method_15_code
def yX6_drafts : MethodName := ⟨RX6, "drafts", "(I)V"⟩
abbrev cX6_addSlit : ByteArray := prog_8_method_16_code
def yX6_addSlit : MethodName := ⟨RX6, "addSlit", "(I)I"⟩
abbrev cX6_clearDraft : ByteArray := prog_8_method_17_code
def yX6_clearDraft : MethodName := ⟨RX6, "clearDraft", "()I"⟩
abbrev cX6_draftSlits : ByteArray := prog_8_method_18_code
def yX6_draftSlits : MethodName := ⟨RX6, "draftSlits", "()I"⟩
abbrev cX6_draftWidth : ByteArray := prog_8_method_19_code
def yX6_draftWidth : MethodName := ⟨RX6, "draftWidth", "(I)I"⟩
abbrev cX6_keep : ByteArray := prog_8_method_20_code
def yX6_keep : MethodName := ⟨RX6, "keep", "()I"⟩
abbrev cX6_canRun : ByteArray := prog_8_method_21_code
def yX6_canRun : MethodName := ⟨RX6, "canRun", "(II)Z"⟩
abbrev cX6_fits : ByteArray := prog_8_method_22_code
def yX6_fits : MethodName := ⟨RX6, "fits", "(II)Z"⟩
abbrev cX6_takes : ByteArray := prog_8_method_23_code
def yX6_takes : MethodName := ⟨RX6, "takes", "(II)Z"⟩
abbrev cX6_fullest : ByteArray := prog_8_method_24_code
def yX6_fullest : MethodName := ⟨RX6, "fullest", "(I)I"⟩
abbrev cX6_fill : ByteArray := prog_8_method_25_code
def yX6_fill : MethodName := ⟨RX6, "fill", "(I)I"⟩
abbrev cX6_fullestByTrying : ByteArray := prog_8_method_26_code
def yX6_fullestByTrying : MethodName := ⟨RX6, "fullestByTrying", "(I)I"⟩
abbrev cX6_isPosition : ByteArray := prog_8_method_27_code
def yX6_isPosition : MethodName := ⟨RX6, "isPosition", "(II)Z"⟩
abbrev cX6_movesFrom : ByteArray := prog_8_method_28_code
def yX6_movesFrom : MethodName := ⟨RX6, "movesFrom", "(II)I"⟩
abbrev cX6_runs : ByteArray := prog_8_method_29_code
def yX6_runs : MethodName := ⟨RX6, "runs", "(II)I"⟩
abbrev cX6_run : ByteArray := prog_8_method_30_code
def yX6_run : MethodName := ⟨RX6, "run", "(II)I"⟩
abbrev cX6_moves : ByteArray := prog_8_method_31_code
def yX6_moves : MethodName := ⟨RX6, "moves", "(I)I"⟩
abbrev cX6_moved : ByteArray := prog_8_method_32_code
def yX6_moved : MethodName := ⟨RX6, "moved", "()I"⟩
abbrev cX6_plan : ByteArray := prog_8_method_33_code
def yX6_plan : MethodName := ⟨RX6, "plan", "(II)I"⟩
abbrev cX6_waiting : ByteArray := prog_8_method_34_code
def yX6_waiting : MethodName := ⟨RX6, "waiting", "()I"⟩
abbrev cX6_between : ByteArray := prog_8_method_35_code
def yX6_between : MethodName := ⟨RX6, "between", "(II)I"⟩
abbrev cX6_best : ByteArray := prog_8_method_36_code
def yX6_best : MethodName := ⟨RX6, "best", "()I"⟩
abbrev cX6_fewestMoves : ByteArray := prog_8_method_37_code
def yX6_fewestMoves : MethodName := ⟨RX6, "fewestMoves", "()I"⟩
abbrev cX6_fewestByTrying : ByteArray := prog_8_method_38_code
def yX6_fewestByTrying : MethodName := ⟨RX6, "fewestByTrying", "()I"⟩
abbrev cX6_nextAt : ByteArray := prog_8_method_39_code
def yX6_nextAt : MethodName := ⟨RX6, "nextAt", "(I)I"⟩
abbrev cX6_runAll : ByteArray := prog_8_method_40_code
def yX6_runAll : MethodName := ⟨RX6, "runAll", "()I"⟩
abbrev cX6_slits : ByteArray := prog_8_method_41_code
def yX6_slits : MethodName := ⟨RX6, "slits", "(I)I"⟩
abbrev cX6_isSlit : ByteArray := prog_8_method_42_code
def yX6_isSlit : MethodName := ⟨RX6, "isSlit", "(II)Z"⟩
abbrev cX6_slitWeight : ByteArray := prog_8_method_43_code
def yX6_slitWeight : MethodName := ⟨RX6, "slitWeight", "(II)I"⟩
abbrev cX6_slitOrder : ByteArray := prog_8_method_44_code
def yX6_slitOrder : MethodName := ⟨RX6, "slitOrder", "(II)I"⟩
abbrev cX6_lost : ByteArray := prog_8_method_45_code
def yX6_lost : MethodName := ⟨RX6, "lost", "(II)I"⟩
abbrev cX6_isOrder : ByteArray := prog_8_method_46_code
def yX6_isOrder : MethodName := ⟨RX6, "isOrder", "(I)Z"⟩
abbrev cX6_delivered : ByteArray := prog_8_method_47_code
def yX6_delivered : MethodName := ⟨RX6, "delivered", "(I)I"⟩
abbrev cX6_heatOf : ByteArray := prog_8_method_48_code
def yX6_heatOf : MethodName := ⟨RX6, "heatOf", "(I)I"⟩
abbrev cX6_stock : ByteArray := prog_8_method_49_code
def yX6_stock : MethodName := ⟨RX6, "stock", "(I)I"⟩
def RJ9 : String := "java/lang/Math"
def TJ9 : u_T := fun k => match k with
  | _ => ("", "", "", false)
def tyJ9 : Nat → FieldType := fun k => match k with
  | _ => .int
abbrev wsJ90 : List Cond := u_ws RJ9 TJ9 0
theorem nmJ9 : ∀ a, a < 0 → ∀ b, b < 0 → a ≠ b → (TJ9 a).2.1 ≠ (TJ9 b).2.1 := by decide +kernel
theorem tyJ9_ok : ∀ k, k < 0 → parseFieldDescriptor (TJ9 k).2.2.1 = some (tyJ9 k) := by decide +kernel
abbrev cJ9_max_7cf53 : ByteArray := prog_13_method_65_code
def yJ9_max_7cf53 : MethodName := ⟨RJ9, "max", "(II)I"⟩
abbrev cJ9_min_7cf53 : ByteArray := prog_13_method_69_code
def yJ9_min_7cf53 : MethodName := ⟨RJ9, "min", "(II)I"⟩
def RJ0 : String := "java/lang/String"
def TJ0 : u_T := fun k => match k with
  | _ => ("", "", "", false)
def tyJ0 : Nat → FieldType := fun k => match k with
  | _ => .int
abbrev wsJ00 : List Cond := u_ws RJ0 TJ0 0
theorem nmJ0 : ∀ a, a < 0 → ∀ b, b < 0 → a ≠ b → (TJ0 a).2.1 ≠ (TJ0 b).2.1 := by decide +kernel
theorem tyJ0_ok : ∀ k, k < 0 → parseFieldDescriptor (TJ0 k).2.2.1 = some (tyJ0 k) := by decide +kernel
def RL : String := "SlittingOfficeLaw"
abbrev cL_coil : ByteArray := method_3_code
def yL_coil : MethodName := ⟨RL, "coil", "(LSlittingOffice;IIII[J)I"⟩
abbrev cL_defect : ByteArray := method_4_code
def yL_defect : MethodName := ⟨RL, "defect", "(LSlittingOffice;III[J)I"⟩
abbrev cL_setRules : ByteArray := method_5_code
def yL_setRules : MethodName := ⟨RL, "setRules", "(LSlittingOffice;III[J)I"⟩
abbrev cL_order : ByteArray := method_6_code
def yL_order : MethodName := ⟨RL, "order", "(LSlittingOffice;II[J)I"⟩
abbrev cL_addSlit : ByteArray := method_7_code
def yL_addSlit : MethodName := ⟨RL, "addSlit", "(LSlittingOffice;I[J)I"⟩
abbrev cL_draftWidth : ByteArray := method_8_code
def yL_draftWidth : MethodName := ⟨RL, "draftWidth", "(LSlittingOffice;I[J)I"⟩
abbrev cL_keep : ByteArray := method_9_code
def yL_keep : MethodName := ⟨RL, "keep", "(LSlittingOffice;[J)I"⟩
abbrev cL_fits : ByteArray := method_10_code
def yL_fits : MethodName := ⟨RL, "fits", "(LSlittingOffice;II[J)I"⟩
abbrev cL_fill : ByteArray := method_11_code
def yL_fill : MethodName := ⟨RL, "fill", "(LSlittingOffice;I[J)I"⟩
abbrev cL_fullestByTrying : ByteArray := method_12_code
def yL_fullestByTrying : MethodName := ⟨RL, "fullestByTrying", "(LSlittingOffice;I[J)I"⟩
abbrev cL_run : ByteArray := method_13_code
def yL_run : MethodName := ⟨RL, "run", "(LSlittingOffice;II[J)I"⟩
abbrev cL_moves : ByteArray := method_14_code
def yL_moves : MethodName := ⟨RL, "moves", "(LSlittingOffice;I[J)I"⟩
abbrev cL_plan : ByteArray := method_15_code
def yL_plan : MethodName := ⟨RL, "plan", "(LSlittingOffice;II[J)I"⟩
abbrev cL_nextAt : ByteArray := method_16_code
def yL_nextAt : MethodName := ⟨RL, "nextAt", "(LSlittingOffice;I[J)I"⟩
abbrev cL_slits : ByteArray := method_17_code
def yL_slits : MethodName := ⟨RL, "slits", "(LSlittingOffice;I[J)I"⟩
abbrev cL_slitWeight : ByteArray := method_18_code
def yL_slitWeight : MethodName := ⟨RL, "slitWeight", "(LSlittingOffice;II[J)I"⟩
abbrev cL_slitOrder : ByteArray := method_19_code
def yL_slitOrder : MethodName := ⟨RL, "slitOrder", "(LSlittingOffice;II[J)I"⟩
abbrev cL_lost : ByteArray := method_20_code
def yL_lost : MethodName := ⟨RL, "lost", "(LSlittingOffice;II[J)I"⟩
abbrev cL_delivered : ByteArray := method_21_code
def yL_delivered : MethodName := ⟨RL, "delivered", "(LSlittingOffice;I[J)I"⟩
abbrev cL_heatOf : ByteArray := method_22_code
def yL_heatOf : MethodName := ⟨RL, "heatOf", "(LSlittingOffice;I[J)I"⟩
abbrev cL_law : ByteArray := code
def yL_law : MethodName := ⟨RL, "law", "([I)Z"⟩
def wsJ9_max_7cf53 : List Cond := .code yJ9_max_7cf53 cJ9_max_7cf53 2 (some .int) :: ([])
def wsJ9_min_7cf53 : List Cond := .code yJ9_min_7cf53 cJ9_min_7cf53 2 (some .int) :: ([])
def wsL_law0_r1 : List Cond := [Cond.classLink RL 8 RX5, Cond.instantiable RX5 17, Cond.initialized RX5, Cond.classLink RL 82 RX6, Cond.instantiable RX6 32, Cond.initialized RX6, Cond.arrayClass .long, Cond.methodLink RL 81 yX5_init, Cond.instanceMethod yX5_init, Cond.code yX5_init cX5_init 2 none, Cond.methodLink RX5 1 objectInit, Cond.instanceMethod objectInit, Cond.code objectInit ⟨#[0xb1]⟩ 1 none, Cond.classLink RX5 9 RX0, Cond.fieldLink RX5 11 "SlittingOffice" "coils" "[LSlittingOffice$Coil;", Cond.fieldLink RX5 15 "SlittingOffice" "coilCount" "I", Cond.classLink RX5 19 RX2, Cond.fieldLink RX5 21 "SlittingOffice" "orders" "[LSlittingOffice$Order;", Cond.fieldLink RX5 25 "SlittingOffice" "orderCount" "I", Cond.classLink RX5 28 RX3, Cond.fieldLink RX5 30 "SlittingOffice" "patterns" "[LSlittingOffice$Pattern;", Cond.fieldLink RX5 34 "SlittingOffice" "patternCount" "I", Cond.instantiable RX3 2, Cond.initialized RX3]
def wsL_law0_r2 : List Cond := [Cond.fieldLink RX5 38 "SlittingOffice" "draft" "LSlittingOffice$Pattern;", Cond.fieldLink RX5 42 "SlittingOffice" "edge" "I", Cond.fieldLink RX5 45 "SlittingOffice" "loss" "I", Cond.fieldLink RX5 48 "SlittingOffice" "knives" "I", Cond.fieldLink RX5 51 "SlittingOffice" "setup" "I", Cond.fieldLink RX5 54 "SlittingOffice" "movedKnives" "I", Cond.arrayClass .int, Cond.fieldLink RX5 57 "SlittingOffice" "waitingCoils" "[I", Cond.fieldLink RX5 61 "SlittingOffice" "waitingPatterns" "[I", Cond.fieldLink RX5 64 "SlittingOffice" "waitingCount" "I", Cond.classLink RX5 67 RX1, Cond.instantiable RX1 3, Cond.initialized RX1, Cond.fieldLink RX5 70 "SlittingOffice" "filling" "LSlittingOffice$Filling;", Cond.classLink RX5 74 RX4, Cond.instantiable RX4 3, Cond.initialized RX4, Cond.fieldLink RX5 77 "SlittingOffice" "runOrder" "LSlittingOffice$RunOrder;", Cond.instantiable RX0 14, Cond.initialized RX0, Cond.instantiable RX2 4, Cond.initialized RX2, Cond.instanceMethod yX3_init, Cond.code yX3_init cX3_init 1 none]
def wsL_law0_r3 : List Cond := [Cond.methodLink RX3 3 objectInit, Cond.fieldLink RX3 9 "SlittingOffice$Pattern" "widths" "[I", Cond.fieldLink RX3 15 "SlittingOffice$Pattern" "count" "I", Cond.instanceMethod yX1_init, Cond.code yX1_init cX1_init 1 none, Cond.methodLink RX1 3 objectInit, Cond.fieldLink RX1 9 "SlittingOffice$Filling" "widths" "[I", Cond.fieldLink RX1 15 "SlittingOffice$Filling" "widthCount" "I", Cond.fieldLink RX1 19 "SlittingOffice$Filling" "fewestSlits" "[I", Cond.instanceMethod yX4_init, Cond.code yX4_init cX4_init 1 none, Cond.methodLink RX4 3 objectInit, Cond.classLink RX4 9 "[[I", Cond.fieldLink RX4 11 "SlittingOffice$RunOrder" "moves" "[[I", Cond.fieldLink RX4 16 "SlittingOffice$RunOrder" "fewest" "[[I", Cond.fieldLink RX4 19 "SlittingOffice$RunOrder" "best" "[I", Cond.instanceMethod yX0_init, Cond.code yX0_init cX0_init 1 none, Cond.methodLink RX0 3 objectInit, Cond.fieldLink RX0 9 "SlittingOffice$Coil" "width" "I", Cond.fieldLink RX0 15 "SlittingOffice$Coil" "weight" "I", Cond.fieldLink RX0 18 "SlittingOffice$Coil" "length" "I", Cond.fieldLink RX0 21 "SlittingOffice$Coil" "heat" "I", Cond.fieldLink RX0 24 "SlittingOffice$Coil" "defectFroms" "[I"]
def wsL_law0_r4 : List Cond := [Cond.fieldLink RX0 28 "SlittingOffice$Coil" "defectTos" "[I", Cond.fieldLink RX0 31 "SlittingOffice$Coil" "defectCount" "I", Cond.fieldLink RX0 34 "SlittingOffice$Coil" "slitWidths" "[I", Cond.fieldLink RX0 37 "SlittingOffice$Coil" "slitWeights" "[I", Cond.fieldLink RX0 40 "SlittingOffice$Coil" "slitOrders" "[I", Cond.fieldLink RX0 43 "SlittingOffice$Coil" "slitCount" "I", Cond.fieldLink RX0 46 "SlittingOffice$Coil" "innerTurns" "I", Cond.fieldLink RX0 49 "SlittingOffice$Coil" "cutOut" "I", Cond.fieldLink RX0 52 "SlittingOffice$Coil" "trim" "I", Cond.instanceMethod yX2_init, Cond.code yX2_init cX2_init 1 none, Cond.methodLink RX2 3 objectInit, Cond.fieldLink RX2 9 "SlittingOffice$Order" "width" "I", Cond.fieldLink RX2 15 "SlittingOffice$Order" "weight" "I", Cond.fieldLink RX2 18 "SlittingOffice$Order" "received" "I", Cond.fieldLink RX2 21 "SlittingOffice$Order" "heat" "I", Cond.methodLink RL 84 yX6_init, Cond.instanceMethod yX6_init, Cond.code yX6_init cX6_init 1 none, Cond.methodLink RX6 1 objectInit, Cond.fieldLink RX6 7 "SlittingOfficeModel" "width" "[I", Cond.fieldLink RX6 13 "SlittingOfficeModel" "weight" "[I", Cond.fieldLink RX6 16 "SlittingOfficeModel" "length" "[I", Cond.fieldLink RX6 19 "SlittingOfficeModel" "heat" "[I"]
def wsL_law0_r5 : List Cond := [Cond.fieldLink RX6 22 "SlittingOfficeModel" "from" "[I", Cond.fieldLink RX6 25 "SlittingOfficeModel" "to" "[I", Cond.fieldLink RX6 28 "SlittingOfficeModel" "defects" "[I", Cond.fieldLink RX6 31 "SlittingOfficeModel" "edge" "I", Cond.fieldLink RX6 35 "SlittingOfficeModel" "loss" "I", Cond.fieldLink RX6 38 "SlittingOfficeModel" "knives" "I", Cond.fieldLink RX6 41 "SlittingOfficeModel" "wants" "[I", Cond.fieldLink RX6 44 "SlittingOfficeModel" "most" "[I", Cond.fieldLink RX6 47 "SlittingOfficeModel" "got" "[I", Cond.fieldLink RX6 50 "SlittingOfficeModel" "has" "[I", Cond.fieldLink RX6 53 "SlittingOfficeModel" "slit" "[I", Cond.fieldLink RX6 56 "SlittingOfficeModel" "many" "[I", Cond.fieldLink RX6 59 "SlittingOfficeModel" "by" "[I", Cond.fieldLink RX6 62 "SlittingOfficeModel" "weighs" "[I", Cond.fieldLink RX6 65 "SlittingOfficeModel" "went" "[I", Cond.fieldLink RX6 68 "SlittingOfficeModel" "lost" "[I", Cond.fieldLink RX6 71 "SlittingOfficeModel" "setup" "I", Cond.fieldLink RX6 74 "SlittingOfficeModel" "waitCoil" "[I", Cond.fieldLink RX6 77 "SlittingOfficeModel" "waitPattern" "[I", Cond.fieldLink RX6 80 "SlittingOfficeModel" "fewest" "[I", Cond.fieldLink RX6 83 "SlittingOfficeModel" "rest" "[I", Cond.fieldLink RX6 86 "SlittingOfficeModel" "next" "[I", Cond.methodLink RL 85 yL_coil, Cond.static yL_coil]
def wsL_law0_r6 : List Cond := [Cond.initialized RL, Cond.codeWith yL_coil cL_coil 7 (some .int) [(0, 14, 17, 13), (0, 14, 21, 15)], Cond.classLink RL 13 "java/lang/IllegalArgumentException", Cond.classLink RL 15 "java/lang/IllegalStateException", Cond.methodLink RL 7 yX5_coil, Cond.instanceMethod yX5_coil, Cond.selects RX5 yX5_coil yX5_coil, Cond.code yX5_coil cX5_coil 5 (some .int), Cond.classLink RX5 87 "java/lang/IllegalStateException", Cond.initialized "java/lang/IllegalStateException", Cond.methodLink RX5 83 yX5_requireRange, Cond.static yX5_requireRange, Cond.code yX5_requireRange cX5_requireRange 3 none, Cond.classLink RX5 255 "java/lang/IllegalArgumentException", Cond.initialized "java/lang/IllegalArgumentException", Cond.instanceMethod yX0_describe, Cond.selects RX0 yX0_describe yX0_describe, Cond.code yX0_describe cX0_describe 5 none, Cond.methodLink RL 90 yX6_coil, Cond.instanceMethod yX6_coil, Cond.selects RX6 yX6_coil yX6_coil, Cond.code yX6_coil cX6_coil 6 (some .int), Cond.fieldLink RX6 92 "SlittingOfficeModel" "coils" "I", Cond.methodLink RX6 95 yX6_in]
def wsL_law0_r7 : List Cond := [Cond.static yX6_in, Cond.code yX6_in cX6_in 3 (some .boolean), Cond.methodLink RX6 102 yX6_asked_, Cond.instanceMethod yX6_asked_, Cond.selects RX6 yX6_asked_ yX6_asked_, Cond.code yX6_asked_ cX6_asked_ 3 (some .boolean), Cond.fieldLink RX6 89 "SlittingOfficeModel" "thrown" "I", Cond.methodLink RL 91 yX6_thrown, Cond.instanceMethod yX6_thrown, Cond.selects RX6 yX6_thrown yX6_thrown, Cond.code yX6_thrown cX6_thrown 1 (some .int), Cond.methodLink RL 94 yL_defect, Cond.static yL_defect, Cond.codeWith yL_defect cL_defect 6 (some .int) [(0, 12, 15, 21), (0, 12, 19, 13), (0, 12, 23, 15)], Cond.classLink RL 21 "java/lang/IndexOutOfBoundsException", Cond.methodLink RL 17 yX5_defect, Cond.instanceMethod yX5_defect, Cond.selects RX5 yX5_defect yX5_defect, Cond.code yX5_defect cX5_defect 5 (some .int), Cond.methodLink RX5 98 yX5_requireCoil, Cond.instanceMethod yX5_requireCoil, Cond.selects RX5 yX5_requireCoil yX5_requireCoil, Cond.code yX5_requireCoil cX5_requireCoil 2 none, Cond.classLink RX5 145 "java/lang/IndexOutOfBoundsException"]
def wsL_law0_r8 : List Cond := [Cond.initialized "java/lang/IndexOutOfBoundsException", Cond.methodLink RX5 260 yX5_hasCoil, Cond.instanceMethod yX5_hasCoil, Cond.selects RX5 yX5_hasCoil yX5_hasCoil, Cond.code yX5_hasCoil cX5_hasCoil 2 (some .boolean), Cond.instanceMethod yX0_isSlit, Cond.selects RX0 yX0_isSlit yX0_isSlit, Cond.code yX0_isSlit cX0_isSlit 1 (some .boolean), Cond.instanceMethod yX0_hasMostDefects, Cond.selects RX0 yX0_hasMostDefects yX0_hasMostDefects, Cond.code yX0_hasMostDefects cX0_hasMostDefects 1 (some .boolean), Cond.instanceMethod yX0_addDefect, Cond.selects RX0 yX0_addDefect yX0_addDefect, Cond.code yX0_addDefect cX0_addDefect 4 none, Cond.methodLink RX0 55 yX0_hasMostDefects, Cond.instanceMethod yX0_cutOutLength, Cond.selects RX0 yX0_cutOutLength yX0_cutOutLength, Cond.code yX0_cutOutLength cX0_cutOutLength 5 (some .int), Cond.methodLink RX0 59 Lib.Math.max.name, Cond.static Lib.Math.max.name, Cond.initialized "java/lang/Math", Cond.code Lib.Math.max.name Lib.Math.max.code 2 (some .int), Cond.methodLink RL 97 yX6_defect, Cond.instanceMethod yX6_defect]
def wsL_law0_r9 : List Cond := [Cond.selects RX6 yX6_defect yX6_defect, Cond.code yX6_defect cX6_defect 6 (some .int), Cond.methodLink RX6 106 yX6_isCoil, Cond.instanceMethod yX6_isCoil, Cond.selects RX6 yX6_isCoil yX6_isCoil, Cond.code yX6_isCoil cX6_isCoil 2 (some .boolean), Cond.methodLink RX6 110 yX6_asked__, Cond.instanceMethod yX6_asked__, Cond.selects RX6 yX6_asked__ yX6_asked__, Cond.code yX6_asked__ cX6_asked__ 4 (some .boolean), Cond.methodLink RX6 113 yX6_cutOut, Cond.instanceMethod yX6_cutOut, Cond.selects RX6 yX6_cutOut yX6_cutOut, Cond.code yX6_cutOut cX6_cutOut 6 (some .int), Cond.methodLink RL 98 yL_setRules, Cond.static yL_setRules, Cond.codeWith yL_setRules cL_setRules 6 (some .int) [(0, 12, 15, 13)], Cond.methodLink RL 23 yX5_setRules, Cond.instanceMethod yX5_setRules, Cond.selects RX5 yX5_setRules yX5_setRules, Cond.code yX5_setRules cX5_setRules 5 (some .int), Cond.methodLink RL 100 yX6_setRules, Cond.instanceMethod yX6_setRules, Cond.selects RX6 yX6_setRules yX6_setRules]
def wsL_law0_r10 : List Cond := [Cond.code yX6_setRules cX6_setRules 5 (some .int), Cond.methodLink RX6 117 yX6_asked, Cond.instanceMethod yX6_asked, Cond.selects RX6 yX6_asked yX6_asked, Cond.code yX6_asked cX6_asked 2 (some .boolean), Cond.methodLink RL 101 yL_order, Cond.static yL_order, Cond.codeWith yL_order cL_order 5 (some .int) [(0, 10, 13, 13), (0, 10, 17, 15)], Cond.methodLink RL 26 yX5_order, Cond.instanceMethod yX5_order, Cond.selects RX5 yX5_order yX5_order, Cond.code yX5_order cX5_order 3 (some .int), Cond.constant RX5 122 (50000), Cond.instanceMethod yX2_describe, Cond.selects RX2 yX2_describe yX2_describe, Cond.code yX2_describe cX2_describe 3 none, Cond.methodLink RL 104 yX6_order, Cond.instanceMethod yX6_order, Cond.selects RX6 yX6_order yX6_order, Cond.code yX6_order cX6_order 3 (some .int), Cond.constant RX6 120 (50000), Cond.fieldLink RX6 121 "SlittingOfficeModel" "orders" "I", Cond.methodLink RL 105 yL_addSlit, Cond.static yL_addSlit]
def wsL_law0_r11 : List Cond := [Cond.codeWith yL_addSlit cL_addSlit 4 (some .int) [(0, 9, 12, 13), (0, 9, 15, 15)], Cond.methodLink RL 30 yX5_addSlit, Cond.instanceMethod yX5_addSlit, Cond.selects RX5 yX5_addSlit yX5_addSlit, Cond.code yX5_addSlit cX5_addSlit 2 (some .int), Cond.instanceMethod yX3_isFull, Cond.selects RX3 yX3_isFull yX3_isFull, Cond.code yX3_isFull cX3_isFull 1 (some .boolean), Cond.instanceMethod yX3_append, Cond.selects RX3 yX3_append yX3_append, Cond.code yX3_append cX3_append 2 none, Cond.methodLink RX3 19 yX3_isFull, Cond.methodLink RL 108 yX6_addSlit, Cond.instanceMethod yX6_addSlit, Cond.selects RX6 yX6_addSlit yX6_addSlit, Cond.code yX6_addSlit cX6_addSlit 2 (some .int), Cond.methodLink RX6 124 yX6_drafts, Cond.instanceMethod yX6_drafts, Cond.selects RX6 yX6_drafts yX6_drafts, Cond.code yX6_drafts cX6_drafts 2 none, Cond.methodLink RL 109 yX5_clearDraft, Cond.instanceMethod yX5_clearDraft, Cond.selects RX5 yX5_clearDraft yX5_clearDraft, Cond.code yX5_clearDraft cX5_clearDraft 2 (some .int)]
def wsL_law0_r12 : List Cond := [Cond.instanceMethod yX3_empty, Cond.selects RX3 yX3_empty yX3_empty, Cond.code yX3_empty cX3_empty 1 none, Cond.methodLink RL 112 yX6_clearDraft, Cond.instanceMethod yX6_clearDraft, Cond.selects RX6 yX6_clearDraft yX6_clearDraft, Cond.code yX6_clearDraft cX6_clearDraft 2 (some .int), Cond.methodLink RX6 128 yX6_told, Cond.instanceMethod yX6_told, Cond.selects RX6 yX6_told yX6_told, Cond.code yX6_told cX6_told 2 (some .int), Cond.methodLink RL 113 yX5_draftSlits, Cond.instanceMethod yX5_draftSlits, Cond.selects RX5 yX5_draftSlits yX5_draftSlits, Cond.code yX5_draftSlits cX5_draftSlits 1 (some .int), Cond.methodLink RL 116 yX6_draftSlits, Cond.instanceMethod yX6_draftSlits, Cond.selects RX6 yX6_draftSlits yX6_draftSlits, Cond.code yX6_draftSlits cX6_draftSlits 1 (some .int), Cond.methodLink RL 117 yL_draftWidth, Cond.static yL_draftWidth, Cond.codeWith yL_draftWidth cL_draftWidth 4 (some .int) [(0, 9, 12, 21)], Cond.methodLink RL 34 yX5_draftWidth, Cond.instanceMethod yX5_draftWidth]
def wsL_law0_r13 : List Cond := [Cond.selects RX5 yX5_draftWidth yX5_draftWidth, Cond.code yX5_draftWidth cX5_draftWidth 2 (some .int), Cond.instanceMethod yX3_hasSlitAt, Cond.selects RX3 yX3_hasSlitAt yX3_hasSlitAt, Cond.code yX3_hasSlitAt cX3_hasSlitAt 2 (some .boolean), Cond.methodLink RL 119 yX6_draftWidth, Cond.instanceMethod yX6_draftWidth, Cond.selects RX6 yX6_draftWidth yX6_draftWidth, Cond.code yX6_draftWidth cX6_draftWidth 2 (some .int), Cond.methodLink RL 120 yL_keep, Cond.static yL_keep, Cond.codeWith yL_keep cL_keep 3 (some .int) [(0, 8, 11, 15)], Cond.methodLink RL 37 yX5_keep, Cond.instanceMethod yX5_keep, Cond.selects RX5 yX5_keep yX5_keep, Cond.code yX5_keep cX5_keep 1 (some .int), Cond.instanceMethod yX3_becomeCopyOf, Cond.selects RX3 yX3_becomeCopyOf yX3_becomeCopyOf, Cond.code yX3_becomeCopyOf cX3_becomeCopyOf 3 none, Cond.methodLink RX3 23 yX3_empty, Cond.methodLink RX3 26 yX3_append, Cond.methodLink RL 123 yX6_keep, Cond.instanceMethod yX6_keep, Cond.selects RX6 yX6_keep yX6_keep]
def wsL_law0_r14 : List Cond := [Cond.code yX6_keep cX6_keep 2 (some .int), Cond.fieldLink RX6 99 "SlittingOfficeModel" "patterns" "I", Cond.methodLink RL 124 yL_fits, Cond.static yL_fits, Cond.codeWith yL_fits cL_fits 5 (some .int) [(0, 17, 20, 21)], Cond.methodLink RL 41 yX5_fits, Cond.instanceMethod yX5_fits, Cond.selects RX5 yX5_fits yX5_fits, Cond.code yX5_fits cX5_fits 3 (some .boolean), Cond.methodLink RX5 159 yX5_requirePattern, Cond.instanceMethod yX5_requirePattern, Cond.selects RX5 yX5_requirePattern yX5_requirePattern, Cond.code yX5_requirePattern cX5_requirePattern 2 none, Cond.methodLink RX5 265 yX5_hasPattern, Cond.instanceMethod yX5_hasPattern, Cond.selects RX5 yX5_hasPattern yX5_hasPattern, Cond.code yX5_hasPattern cX5_hasPattern 2 (some .boolean), Cond.methodLink RX5 162 yX5_canBeCutFrom, Cond.instanceMethod yX5_canBeCutFrom, Cond.selects RX5 yX5_canBeCutFrom yX5_canBeCutFrom, Cond.code yX5_canBeCutFrom cX5_canBeCutFrom 3 (some .boolean), Cond.instanceMethod yX3_totalWidth, Cond.selects RX3 yX3_totalWidth yX3_totalWidth, Cond.code yX3_totalWidth cX3_totalWidth 3 (some .int)]
def wsL_law0_r15 : List Cond := [Cond.methodLink RX5 170 yX5_roomOf, Cond.instanceMethod yX5_roomOf, Cond.selects RX5 yX5_roomOf yX5_roomOf, Cond.code yX5_roomOf cX5_roomOf 2 (some .int), Cond.instanceMethod yX3_knivesNeeded, Cond.selects RX3 yX3_knivesNeeded yX3_knivesNeeded, Cond.code yX3_knivesNeeded cX3_knivesNeeded 1 (some .int), Cond.methodLink RL 126 yX6_fits, Cond.instanceMethod yX6_fits, Cond.selects RX6 yX6_fits yX6_fits, Cond.code yX6_fits cX6_fits 3 (some .boolean), Cond.methodLink RX6 131 yX6_isPattern, Cond.instanceMethod yX6_isPattern, Cond.selects RX6 yX6_isPattern yX6_isPattern, Cond.code yX6_isPattern cX6_isPattern 2 (some .boolean), Cond.methodLink RX6 134 yX6_canRun, Cond.instanceMethod yX6_canRun, Cond.selects RX6 yX6_canRun yX6_canRun, Cond.code yX6_canRun cX6_canRun 5 (some .boolean), Cond.methodLink RL 127 yL_fill, Cond.static yL_fill, Cond.codeWith yL_fill cL_fill 4 (some .int) [(0, 9, 12, 21)], Cond.methodLink RL 45 yX5_fill, Cond.instanceMethod yX5_fill]
def wsL_law0_r16 : List Cond := [Cond.selects RX5 yX5_fill yX5_fill, Cond.code yX5_fill cX5_fill 3 (some .int), Cond.methodLink RX5 166 yX5_offerWidthsFor, Cond.instanceMethod yX5_offerWidthsFor, Cond.selects RX5 yX5_offerWidthsFor yX5_offerWidthsFor, Cond.code yX5_offerWidthsFor cX5_offerWidthsFor 3 none, Cond.instanceMethod yX1_forgetWidths, Cond.selects RX1 yX1_forgetWidths yX1_forgetWidths, Cond.code yX1_forgetWidths cX1_forgetWidths 1 none, Cond.instanceMethod yX2_wouldTakeHeat, Cond.selects RX2 yX2_wouldTakeHeat yX2_wouldTakeHeat, Cond.code yX2_wouldTakeHeat cX2_wouldTakeHeat 2 (some .boolean), Cond.instanceMethod yX1_offerWidth, Cond.selects RX1 yX1_offerWidth yX1_offerWidth, Cond.code yX1_offerWidth cX1_offerWidth 5 none, Cond.instanceMethod yX1_greatestTotal, Cond.selects RX1 yX1_greatestTotal yX1_greatestTotal, Cond.code yX1_greatestTotal cX1_greatestTotal 5 (some .int), Cond.methodLink RX1 22 yX1_fewestSlitsFor, Cond.instanceMethod yX1_fewestSlitsFor, Cond.selects RX1 yX1_fewestSlitsFor yX1_fewestSlitsFor, Cond.code yX1_fewestSlitsFor cX1_fewestSlitsFor 4 (some .int), Cond.methodLink RX1 26 Lib.Math.min.name, Cond.static Lib.Math.min.name]
def wsL_law0_r17 : List Cond := [Cond.code Lib.Math.min.name Lib.Math.min.code 2 (some .int), Cond.instanceMethod yX1_layOut, Cond.selects RX1 yX1_layOut yX1_layOut, Cond.code yX1_layOut cX1_layOut 6 none, Cond.methodLink RX1 37 yX1_greatestBefore, Cond.instanceMethod yX1_greatestBefore, Cond.selects RX1 yX1_greatestBefore yX1_greatestBefore, Cond.code yX1_greatestBefore cX1_greatestBefore 4 (some .int), Cond.methodLink RL 129 yX6_fill, Cond.instanceMethod yX6_fill, Cond.selects RX6 yX6_fill yX6_fill, Cond.code yX6_fill cX6_fill 7 (some .int), Cond.methodLink RX6 141 yX6_fullest, Cond.instanceMethod yX6_fullest, Cond.selects RX6 yX6_fullest yX6_fullest, Cond.code yX6_fullest cX6_fullest 6 (some .int), Cond.methodLink RX6 138 yX6_takes, Cond.instanceMethod yX6_takes, Cond.selects RX6 yX6_takes yX6_takes, Cond.code yX6_takes cX6_takes 3 (some .boolean), Cond.methodLink RL 130 yL_fullestByTrying, Cond.static yL_fullestByTrying, Cond.codeWith yL_fullestByTrying cL_fullestByTrying 4 (some .int) [(0, 9, 12, 21), (0, 9, 15, 15)], Cond.methodLink RL 48 yX5_fullestByTrying]
def wsL_law0_r18 : List Cond := [Cond.instanceMethod yX5_fullestByTrying, Cond.selects RX5 yX5_fullestByTrying yX5_fullestByTrying, Cond.code yX5_fullestByTrying cX5_fullestByTrying 2 (some .int), Cond.instanceMethod yX1_greatestTotalByTrying, Cond.selects RX1 yX1_greatestTotalByTrying yX1_greatestTotalByTrying, Cond.code yX1_greatestTotalByTrying cX1_greatestTotalByTrying 3 (some .int), Cond.methodLink RX1 44 yX1_tryFrom, Cond.static yX1_tryFrom, Cond.code yX1_tryFrom cX1_tryFrom 8 (some .int), Cond.methodLink RX1 48 Lib.Math.max.name, Cond.methodLink RL 132 yX6_fullestByTrying, Cond.instanceMethod yX6_fullestByTrying, Cond.selects RX6 yX6_fullestByTrying yX6_fullestByTrying, Cond.code yX6_fullestByTrying cX6_fullestByTrying 3 (some .int), Cond.methodLink RL 133 yL_run, Cond.static yL_run, Cond.codeWith yL_run cL_run 5 (some .int) [(0, 10, 13, 21), (0, 10, 17, 15)], Cond.methodLink RL 51 yX5_run, Cond.instanceMethod yX5_run, Cond.selects RX5 yX5_run yX5_run, Cond.code yX5_run cX5_run 3 (some .int), Cond.methodLink RX5 187 yX5_canBeRun, Cond.instanceMethod yX5_canBeRun, Cond.selects RX5 yX5_canBeRun yX5_canBeRun]
def wsL_law0_r19 : List Cond := [Cond.code yX5_canBeRun cX5_canBeRun 3 (some .boolean), Cond.methodLink RX5 193 yX5_slitCoil, Cond.instanceMethod yX5_slitCoil, Cond.selects RX5 yX5_slitCoil yX5_slitCoil, Cond.code yX5_slitCoil cX5_slitCoil 3 (some .int), Cond.methodLink RX5 196 yX5_movesBetween, Cond.instanceMethod yX5_movesBetween, Cond.selects RX5 yX5_movesBetween yX5_movesBetween, Cond.code yX5_movesBetween cX5_movesBetween 3 (some .int), Cond.instanceMethod yX3_knivesNotIn, Cond.selects RX3 yX3_knivesNotIn yX3_knivesNotIn, Cond.code yX3_knivesNotIn cX3_knivesNotIn 5 (some .int), Cond.methodLink RX3 30 yX3_hasKnifeAt, Cond.instanceMethod yX3_hasKnifeAt, Cond.selects RX3 yX3_hasKnifeAt yX3_hasKnifeAt, Cond.code yX3_hasKnifeAt cX3_hasKnifeAt 4 (some .boolean), Cond.instanceMethod yX0_slitBy, Cond.selects RX0 yX0_slitBy yX0_slitBy, Cond.code yX0_slitBy cX0_slitBy 6 none, Cond.methodLink RX0 65 Lib.Math.min.name, Cond.methodLink RX0 68 yX0_cutOutLength, Cond.methodLink RX0 72 yX0_share, Cond.static yX0_share, Cond.code yX0_share cX0_share 3 (some .int)]
def wsL_law0_r20 : List Cond := [Cond.methodLink RX5 299 yX5_deliverSlits, Cond.instanceMethod yX5_deliverSlits, Cond.selects RX5 yX5_deliverSlits yX5_deliverSlits, Cond.code yX5_deliverSlits cX5_deliverSlits 5 (some .int), Cond.methodLink RX5 305 yX5_takerOf, Cond.instanceMethod yX5_takerOf, Cond.selects RX5 yX5_takerOf yX5_takerOf, Cond.code yX5_takerOf cX5_takerOf 4 (some .int), Cond.instanceMethod yX2_receive, Cond.selects RX2 yX2_receive yX2_receive, Cond.code yX2_receive cX2_receive 3 none, Cond.methodLink RL 135 yX6_run, Cond.instanceMethod yX6_run, Cond.selects RX6 yX6_run yX6_run, Cond.code yX6_run cX6_run 4 (some .int), Cond.methodLink RX6 154 yX6_runs, Cond.instanceMethod yX6_runs, Cond.selects RX6 yX6_runs yX6_runs, Cond.code yX6_runs cX6_runs 14 (some .int), Cond.fieldLink RX6 147 "SlittingOfficeModel" "moved" "I", Cond.methodLink RX6 150 yX6_movesFrom, Cond.instanceMethod yX6_movesFrom, Cond.selects RX6 yX6_movesFrom yX6_movesFrom, Cond.code yX6_movesFrom cX6_movesFrom 6 (some .int)]
def wsL_law0_r21 : List Cond := [Cond.methodLink RX6 144 yX6_isPosition, Cond.instanceMethod yX6_isPosition, Cond.selects RX6 yX6_isPosition yX6_isPosition, Cond.code yX6_isPosition cX6_isPosition 6 (some .boolean), Cond.methodLink RL 136 yL_moves, Cond.static yL_moves, Cond.codeWith yL_moves cL_moves 4 (some .int) [(0, 9, 12, 21)], Cond.methodLink RL 54 yX5_moves, Cond.instanceMethod yX5_moves, Cond.selects RX5 yX5_moves yX5_moves, Cond.code yX5_moves cX5_moves 2 (some .int), Cond.methodLink RL 138 yX6_moves, Cond.instanceMethod yX6_moves, Cond.selects RX6 yX6_moves yX6_moves, Cond.code yX6_moves cX6_moves 2 (some .int), Cond.methodLink RL 139 yX5_moved, Cond.instanceMethod yX5_moved, Cond.selects RX5 yX5_moved yX5_moved, Cond.code yX5_moved cX5_moved 1 (some .int), Cond.methodLink RL 142 yX6_moved, Cond.instanceMethod yX6_moved, Cond.selects RX6 yX6_moved yX6_moved, Cond.code yX6_moved cX6_moved 1 (some .int), Cond.methodLink RL 143 yL_plan]
def wsL_law0_r22 : List Cond := [Cond.static yL_plan, Cond.codeWith yL_plan cL_plan 5 (some .int) [(0, 10, 13, 21), (0, 10, 17, 15)], Cond.methodLink RL 57 yX5_plan, Cond.instanceMethod yX5_plan, Cond.selects RX5 yX5_plan yX5_plan, Cond.code yX5_plan cX5_plan 3 (some .int), Cond.methodLink RX5 199 yX5_coilWaits, Cond.instanceMethod yX5_coilWaits, Cond.selects RX5 yX5_coilWaits yX5_coilWaits, Cond.code yX5_coilWaits cX5_coilWaits 3 (some .boolean), Cond.methodLink RL 145 yX6_plan, Cond.instanceMethod yX6_plan, Cond.selects RX6 yX6_plan yX6_plan, Cond.code yX6_plan cX6_plan 6 (some .int), Cond.fieldLink RX6 157 "SlittingOfficeModel" "waiting" "I", Cond.methodLink RL 146 yX5_waiting, Cond.instanceMethod yX5_waiting, Cond.selects RX5 yX5_waiting yX5_waiting, Cond.code yX5_waiting cX5_waiting 1 (some .int), Cond.methodLink RL 149 yX6_waiting, Cond.instanceMethod yX6_waiting, Cond.selects RX6 yX6_waiting yX6_waiting, Cond.code yX6_waiting cX6_waiting 1 (some .int), Cond.methodLink RL 150 yX5_fewestMoves]
def wsL_law0_r23 : List Cond := [Cond.instanceMethod yX5_fewestMoves, Cond.selects RX5 yX5_fewestMoves yX5_fewestMoves, Cond.code yX5_fewestMoves cX5_fewestMoves 1 (some .int), Cond.methodLink RX5 204 yX5_readMoves, Cond.instanceMethod yX5_readMoves, Cond.selects RX5 yX5_readMoves yX5_readMoves, Cond.code yX5_readMoves cX5_readMoves 3 none, Cond.instanceMethod yX4_fewestBySets, Cond.selects RX4 yX4_fewestBySets yX4_fewestBySets, Cond.code yX4_fewestBySets cX4_fewestBySets 5 (some .int), Cond.methodLink RX4 23 yX4_fewestAfter, Cond.instanceMethod yX4_fewestAfter, Cond.selects RX4 yX4_fewestAfter yX4_fewestAfter, Cond.code yX4_fewestAfter cX4_fewestAfter 6 (some .int), Cond.methodLink RX4 34 Lib.Math.min.name, Cond.methodLink RX4 27 yX4_holds, Cond.static yX4_holds, Cond.code yX4_holds cX4_holds 2 (some .boolean), Cond.methodLink RX4 31 yX4_movesThrough, Cond.instanceMethod yX4_movesThrough, Cond.selects RX4 yX4_movesThrough yX4_movesThrough, Cond.code yX4_movesThrough cX4_movesThrough 4 (some .int), Cond.methodLink RX4 40 yX4_without, Cond.static yX4_without]
def wsL_law0_r24 : List Cond := [Cond.code yX4_without cX4_without 2 (some .int), Cond.methodLink RL 153 yX6_fewestMoves, Cond.instanceMethod yX6_fewestMoves, Cond.selects RX6 yX6_fewestMoves yX6_fewestMoves, Cond.code yX6_fewestMoves cX6_fewestMoves 1 (some .int), Cond.methodLink RX6 163 yX6_best, Cond.instanceMethod yX6_best, Cond.selects RX6 yX6_best yX6_best, Cond.code yX6_best cX6_best 8 (some .int), Cond.methodLink RX6 160 yX6_between, Cond.instanceMethod yX6_between, Cond.selects RX6 yX6_between yX6_between, Cond.code yX6_between cX6_between 3 (some .int), Cond.methodLink RL 154 yX5_fewestByTrying, Cond.instanceMethod yX5_fewestByTrying, Cond.selects RX5 yX5_fewestByTrying yX5_fewestByTrying, Cond.code yX5_fewestByTrying cX5_fewestByTrying 1 (some .int), Cond.instanceMethod yX4_fewestByOrders, Cond.selects RX4 yX4_fewestByOrders yX4_fewestByOrders, Cond.code yX4_fewestByOrders cX4_fewestByOrders 2 (some .int), Cond.methodLink RX4 50 yX4_tryOrders, Cond.static yX4_tryOrders, Cond.code yX4_tryOrders cX4_tryOrders 8 (some .int), Cond.methodLink RL 157 yX6_fewestByTrying]
def wsL_law0_r25 : List Cond := [Cond.instanceMethod yX6_fewestByTrying, Cond.selects RX6 yX6_fewestByTrying yX6_fewestByTrying, Cond.code yX6_fewestByTrying cX6_fewestByTrying 1 (some .int), Cond.methodLink RL 158 yL_nextAt, Cond.static yL_nextAt, Cond.codeWith yL_nextAt cL_nextAt 4 (some .int) [(0, 9, 12, 21)], Cond.methodLink RL 60 yX5_nextAt, Cond.instanceMethod yX5_nextAt, Cond.selects RX5 yX5_nextAt yX5_nextAt, Cond.code yX5_nextAt cX5_nextAt 2 (some .int), Cond.instanceMethod yX4_findBest, Cond.selects RX4 yX4_findBest yX4_findBest, Cond.code yX4_findBest cX4_findBest 6 none, Cond.methodLink RX4 43 yX4_fewestBySets, Cond.methodLink RX4 47 yX4_leastNext, Cond.instanceMethod yX4_leastNext, Cond.selects RX4 yX4_leastNext yX4_leastNext, Cond.code yX4_leastNext cX4_leastNext 5 (some .int), Cond.methodLink RL 160 yX6_nextAt, Cond.instanceMethod yX6_nextAt, Cond.selects RX6 yX6_nextAt yX6_nextAt, Cond.code yX6_nextAt cX6_nextAt 2 (some .int), Cond.methodLink RL 161 yX5_runAll, Cond.instanceMethod yX5_runAll]
def wsL_law0_r26 : List Cond := [Cond.selects RX5 yX5_runAll yX5_runAll, Cond.code yX5_runAll cX5_runAll 4 (some .int), Cond.methodLink RL 164 yX6_runAll, Cond.instanceMethod yX6_runAll, Cond.selects RX6 yX6_runAll yX6_runAll, Cond.code yX6_runAll cX6_runAll 5 (some .int), Cond.methodLink RL 165 yL_slits, Cond.static yL_slits, Cond.codeWith yL_slits cL_slits 4 (some .int) [(0, 9, 12, 21)], Cond.methodLink RL 63 yX5_slits, Cond.instanceMethod yX5_slits, Cond.selects RX5 yX5_slits yX5_slits, Cond.code yX5_slits cX5_slits 2 (some .int), Cond.methodLink RL 167 yX6_slits, Cond.instanceMethod yX6_slits, Cond.selects RX6 yX6_slits yX6_slits, Cond.code yX6_slits cX6_slits 2 (some .int), Cond.methodLink RL 168 yL_slitWeight, Cond.static yL_slitWeight, Cond.codeWith yL_slitWeight cL_slitWeight 5 (some .int) [(0, 10, 13, 21)], Cond.methodLink RL 66 yX5_slitWeight, Cond.instanceMethod yX5_slitWeight, Cond.selects RX5 yX5_slitWeight yX5_slitWeight, Cond.code yX5_slitWeight cX5_slitWeight 3 (some .int)]
def wsL_law0_r27 : List Cond := [Cond.methodLink RX5 225 yX5_requireSlit, Cond.instanceMethod yX5_requireSlit, Cond.selects RX5 yX5_requireSlit yX5_requireSlit, Cond.code yX5_requireSlit cX5_requireSlit 3 none, Cond.instanceMethod yX0_hasSlitAt, Cond.selects RX0 yX0_hasSlitAt yX0_hasSlitAt, Cond.code yX0_hasSlitAt cX0_hasSlitAt 2 (some .boolean), Cond.methodLink RL 170 yX6_slitWeight, Cond.instanceMethod yX6_slitWeight, Cond.selects RX6 yX6_slitWeight yX6_slitWeight, Cond.code yX6_slitWeight cX6_slitWeight 3 (some .int), Cond.methodLink RX6 167 yX6_isSlit, Cond.instanceMethod yX6_isSlit, Cond.selects RX6 yX6_isSlit yX6_isSlit, Cond.code yX6_isSlit cX6_isSlit 4 (some .boolean), Cond.methodLink RL 171 yL_slitOrder, Cond.static yL_slitOrder, Cond.codeWith yL_slitOrder cL_slitOrder 5 (some .int) [(0, 10, 13, 21)], Cond.methodLink RL 69 yX5_slitOrder, Cond.instanceMethod yX5_slitOrder, Cond.selects RX5 yX5_slitOrder yX5_slitOrder, Cond.code yX5_slitOrder cX5_slitOrder 3 (some .int), Cond.methodLink RL 173 yX6_slitOrder, Cond.instanceMethod yX6_slitOrder]
def wsL_law0_r28 : List Cond := [Cond.selects RX6 yX6_slitOrder yX6_slitOrder, Cond.code yX6_slitOrder cX6_slitOrder 3 (some .int), Cond.methodLink RL 174 yL_lost, Cond.static yL_lost, Cond.codeWith yL_lost cL_lost 5 (some .int) [(0, 10, 13, 21), (0, 10, 17, 13)], Cond.methodLink RL 72 yX5_lost, Cond.instanceMethod yX5_lost, Cond.selects RX5 yX5_lost yX5_lost, Cond.code yX5_lost cX5_lost 3 (some .int), Cond.methodLink RL 176 yX6_lost, Cond.instanceMethod yX6_lost, Cond.selects RX6 yX6_lost yX6_lost, Cond.code yX6_lost cX6_lost 3 (some .int), Cond.methodLink RL 177 yL_delivered, Cond.static yL_delivered, Cond.codeWith yL_delivered cL_delivered 4 (some .int) [(0, 9, 12, 21)], Cond.methodLink RL 75 yX5_delivered, Cond.instanceMethod yX5_delivered, Cond.selects RX5 yX5_delivered yX5_delivered, Cond.code yX5_delivered cX5_delivered 2 (some .int), Cond.methodLink RX5 243 yX5_requireOrder, Cond.instanceMethod yX5_requireOrder, Cond.selects RX5 yX5_requireOrder yX5_requireOrder, Cond.code yX5_requireOrder cX5_requireOrder 2 none]
def wsL_law0_r29 : List Cond := [Cond.methodLink RL 179 yX6_delivered, Cond.instanceMethod yX6_delivered, Cond.selects RX6 yX6_delivered yX6_delivered, Cond.code yX6_delivered cX6_delivered 2 (some .int), Cond.methodLink RX6 170 yX6_isOrder, Cond.instanceMethod yX6_isOrder, Cond.selects RX6 yX6_isOrder yX6_isOrder, Cond.code yX6_isOrder cX6_isOrder 2 (some .boolean), Cond.methodLink RL 180 yL_heatOf, Cond.static yL_heatOf, Cond.codeWith yL_heatOf cL_heatOf 4 (some .int) [(0, 9, 12, 21)], Cond.methodLink RL 78 yX5_heatOf, Cond.instanceMethod yX5_heatOf, Cond.selects RX5 yX5_heatOf yX5_heatOf, Cond.code yX5_heatOf cX5_heatOf 2 (some .int), Cond.methodLink RL 182 yX6_heatOf, Cond.instanceMethod yX6_heatOf, Cond.selects RX6 yX6_heatOf yX6_heatOf, Cond.code yX6_heatOf cX6_heatOf 2 (some .int), Cond.methodLink RL 183 yX5_stock, Cond.instanceMethod yX5_stock, Cond.selects RX5 yX5_stock yX5_stock, Cond.code yX5_stock cX5_stock 4 (some .int), Cond.instanceMethod yX0_stockOf]
def wsL_law0_r30 : List Cond := [Cond.selects RX0 yX0_stockOf yX0_stockOf, Cond.code yX0_stockOf cX0_stockOf 4 (some .int), Cond.methodLink RL 186 yX6_stock, Cond.instanceMethod yX6_stock, Cond.selects RX6 yX6_stock yX6_stock, Cond.code yX6_stock cX6_stock 6 (some .int)]
def wsL_law0 : List Cond := (wsL_law0_r1 ++ (wsL_law0_r2 ++ (wsL_law0_r3 ++ (wsL_law0_r4 ++ (wsL_law0_r5 ++ (wsL_law0_r6 ++ (wsL_law0_r7 ++ (wsL_law0_r8 ++ (wsL_law0_r9 ++ (wsL_law0_r10 ++ (wsL_law0_r11 ++ (wsL_law0_r12 ++ (wsL_law0_r13 ++ (wsL_law0_r14 ++ (wsL_law0_r15 ++ (wsL_law0_r16 ++ (wsL_law0_r17 ++ (wsL_law0_r18 ++ (wsL_law0_r19 ++ (wsL_law0_r20 ++ (wsL_law0_r21 ++ (wsL_law0_r22 ++ (wsL_law0_r23 ++ (wsL_law0_r24 ++ (wsL_law0_r25 ++ (wsL_law0_r26 ++ (wsL_law0_r27 ++ (wsL_law0_r28 ++ (wsL_law0_r29 ++ wsL_law0_r30))))))))))))))))))))))))))))) ++ wsX50 ++ wsX60 ++ wsX30 ++ wsX10 ++ wsX40 ++ wsX00 ++ wsX20 ++ ([] : List Cond)
def wsL_law : List Cond := wsL_law0 ++ (vx_atS RX5 91 "java/lang/IllegalStateException" ["java/lang/RuntimeException", "java/lang/Exception"]).filter goodWord ++ (vx_atS RX5 259 "java/lang/IllegalArgumentException" ["java/lang/RuntimeException", "java/lang/Exception"]).filter goodWord ++ (vx_atS RX5 149 "java/lang/IndexOutOfBoundsException" ["java/lang/RuntimeException", "java/lang/Exception"]).filter goodWord
end
section
theorem inlX0 : ∀ w ∈ wsX00, w ∈ wsL_law := fun _ h => List.mem_append_left _ (List.mem_append_left _ (List.mem_append_left _ (List.mem_append_left _ (List.mem_append_left _ (List.mem_append_right _ h)))))
theorem inlX1 : ∀ w ∈ wsX10, w ∈ wsL_law := fun _ h => List.mem_append_left _ (List.mem_append_left _ (List.mem_append_left _ (List.mem_append_left _ (List.mem_append_left _ (List.mem_append_left _ (List.mem_append_left _ (List.mem_append_right _ h)))))))
theorem inlX2 : ∀ w ∈ wsX20, w ∈ wsL_law := fun _ h => List.mem_append_left _ (List.mem_append_left _ (List.mem_append_left _ (List.mem_append_left _ (List.mem_append_right _ h))))
theorem inlX3 : ∀ w ∈ wsX30, w ∈ wsL_law := fun _ h => List.mem_append_left _ (List.mem_append_left _ (List.mem_append_left _ (List.mem_append_left _ (List.mem_append_left _ (List.mem_append_left _ (List.mem_append_left _ (List.mem_append_left _ (List.mem_append_right _ h))))))))
theorem inlX4 : ∀ w ∈ wsX40, w ∈ wsL_law := fun _ h => List.mem_append_left _ (List.mem_append_left _ (List.mem_append_left _ (List.mem_append_left _ (List.mem_append_left _ (List.mem_append_left _ (List.mem_append_right _ h))))))
theorem inlX5 : ∀ w ∈ wsX50, w ∈ wsL_law := fun _ h => List.mem_append_left _ (List.mem_append_left _ (List.mem_append_left _ (List.mem_append_left _ (List.mem_append_left _ (List.mem_append_left _ (List.mem_append_left _ (List.mem_append_left _ (List.mem_append_left _ (List.mem_append_left _ (List.mem_append_right _ h))))))))))
theorem inlX6 : ∀ w ∈ wsX60, w ∈ wsL_law := fun _ h => List.mem_append_left _ (List.mem_append_left _ (List.mem_append_left _ (List.mem_append_left _ (List.mem_append_left _ (List.mem_append_left _ (List.mem_append_left _ (List.mem_append_left _ (List.mem_append_left _ (List.mem_append_right _ h)))))))))
abbrev vwCl : List vw_C := [(RX0, TX0, 14), (RX1, TX1, 3), (RX2, TX2, 4), (RX3, TX3, 2), (RX4, TX4, 3), (RX5, TX5, 17), (RX6, TX6, 32)]
theorem wc_1 : ∀ w ∈ wsL_law0_r1, w ∈ wsL_law := fun _ h => List.mem_append_left _ (List.mem_append_left _ (List.mem_append_left _ (List.mem_append_left _ (List.mem_append_left _ (List.mem_append_left _ (List.mem_append_left _ (List.mem_append_left _ (List.mem_append_left _ (List.mem_append_left _ (List.mem_append_left _ (List.mem_append_left _ h)))))))))))
theorem kw_1_0 : Cond.classLink RL 8 RX5 ∈ wsL_law := wc_1 _ (List.mem_of_getElem? (i := 0) rfl)
theorem kw_1_1 : Cond.instantiable RX5 17 ∈ wsL_law := wc_1 _ (List.mem_of_getElem? (i := 1) rfl)
theorem kw_1_2 : Cond.initialized RX5 ∈ wsL_law := wc_1 _ (List.mem_of_getElem? (i := 2) rfl)
theorem kw_1_3 : Cond.classLink RL 82 RX6 ∈ wsL_law := wc_1 _ (List.mem_of_getElem? (i := 3) rfl)
theorem kw_1_4 : Cond.instantiable RX6 32 ∈ wsL_law := wc_1 _ (List.mem_of_getElem? (i := 4) rfl)
theorem kw_1_5 : Cond.initialized RX6 ∈ wsL_law := wc_1 _ (List.mem_of_getElem? (i := 5) rfl)
theorem kw_1_6 : Cond.arrayClass .long ∈ wsL_law := wc_1 _ (List.mem_of_getElem? (i := 6) rfl)
theorem kw_1_7 : Cond.methodLink RL 81 yX5_init ∈ wsL_law := wc_1 _ (List.mem_of_getElem? (i := 7) rfl)
theorem kw_1_8 : Cond.instanceMethod yX5_init ∈ wsL_law := wc_1 _ (List.mem_of_getElem? (i := 8) rfl)
theorem kw_1_9 : Cond.code yX5_init cX5_init 2 none ∈ wsL_law := wc_1 _ (List.mem_of_getElem? (i := 9) rfl)
theorem kw_1_10 : Cond.methodLink RX5 1 objectInit ∈ wsL_law := wc_1 _ (List.mem_of_getElem? (i := 10) rfl)
theorem kw_1_11 : Cond.instanceMethod objectInit ∈ wsL_law := wc_1 _ (List.mem_of_getElem? (i := 11) rfl)
theorem kw_1_12 : Cond.code objectInit ⟨#[0xb1]⟩ 1 none ∈ wsL_law := wc_1 _ (List.mem_of_getElem? (i := 12) rfl)
theorem kw_1_13 : Cond.classLink RX5 9 RX0 ∈ wsL_law := wc_1 _ (List.mem_of_getElem? (i := 13) rfl)
theorem kw_1_14 : Cond.fieldLink RX5 11 "SlittingOffice" "coils" "[LSlittingOffice$Coil;" ∈ wsL_law := wc_1 _ (List.mem_of_getElem? (i := 14) rfl)
theorem kw_1_15 : Cond.fieldLink RX5 15 "SlittingOffice" "coilCount" "I" ∈ wsL_law := wc_1 _ (List.mem_of_getElem? (i := 15) rfl)
theorem kw_1_16 : Cond.classLink RX5 19 RX2 ∈ wsL_law := wc_1 _ (List.mem_of_getElem? (i := 16) rfl)
theorem kw_1_17 : Cond.fieldLink RX5 21 "SlittingOffice" "orders" "[LSlittingOffice$Order;" ∈ wsL_law := wc_1 _ (List.mem_of_getElem? (i := 17) rfl)
theorem kw_1_18 : Cond.fieldLink RX5 25 "SlittingOffice" "orderCount" "I" ∈ wsL_law := wc_1 _ (List.mem_of_getElem? (i := 18) rfl)
theorem kw_1_19 : Cond.classLink RX5 28 RX3 ∈ wsL_law := wc_1 _ (List.mem_of_getElem? (i := 19) rfl)
theorem kw_1_20 : Cond.fieldLink RX5 30 "SlittingOffice" "patterns" "[LSlittingOffice$Pattern;" ∈ wsL_law := wc_1 _ (List.mem_of_getElem? (i := 20) rfl)
theorem kw_1_21 : Cond.fieldLink RX5 34 "SlittingOffice" "patternCount" "I" ∈ wsL_law := wc_1 _ (List.mem_of_getElem? (i := 21) rfl)
theorem kw_1_22 : Cond.instantiable RX3 2 ∈ wsL_law := wc_1 _ (List.mem_of_getElem? (i := 22) rfl)
theorem kw_1_23 : Cond.initialized RX3 ∈ wsL_law := wc_1 _ (List.mem_of_getElem? (i := 23) rfl)
theorem wc_2 : ∀ w ∈ wsL_law0_r2, w ∈ wsL_law := fun _ h => List.mem_append_left _ (List.mem_append_left _ (List.mem_append_left _ (List.mem_append_left _ (List.mem_append_left _ (List.mem_append_left _ (List.mem_append_left _ (List.mem_append_left _ (List.mem_append_left _ (List.mem_append_left _ (List.mem_append_left _ (List.mem_append_right _ (List.mem_append_left _ h))))))))))))
theorem kw_2_0 : Cond.fieldLink RX5 38 "SlittingOffice" "draft" "LSlittingOffice$Pattern;" ∈ wsL_law := wc_2 _ (List.mem_of_getElem? (i := 0) rfl)
theorem kw_2_1 : Cond.fieldLink RX5 42 "SlittingOffice" "edge" "I" ∈ wsL_law := wc_2 _ (List.mem_of_getElem? (i := 1) rfl)
theorem kw_2_2 : Cond.fieldLink RX5 45 "SlittingOffice" "loss" "I" ∈ wsL_law := wc_2 _ (List.mem_of_getElem? (i := 2) rfl)
theorem kw_2_3 : Cond.fieldLink RX5 48 "SlittingOffice" "knives" "I" ∈ wsL_law := wc_2 _ (List.mem_of_getElem? (i := 3) rfl)
theorem kw_2_4 : Cond.fieldLink RX5 51 "SlittingOffice" "setup" "I" ∈ wsL_law := wc_2 _ (List.mem_of_getElem? (i := 4) rfl)
theorem kw_2_5 : Cond.fieldLink RX5 54 "SlittingOffice" "movedKnives" "I" ∈ wsL_law := wc_2 _ (List.mem_of_getElem? (i := 5) rfl)
theorem kw_2_6 : Cond.arrayClass .int ∈ wsL_law := wc_2 _ (List.mem_of_getElem? (i := 6) rfl)
theorem kw_2_7 : Cond.fieldLink RX5 57 "SlittingOffice" "waitingCoils" "[I" ∈ wsL_law := wc_2 _ (List.mem_of_getElem? (i := 7) rfl)
theorem kw_2_8 : Cond.fieldLink RX5 61 "SlittingOffice" "waitingPatterns" "[I" ∈ wsL_law := wc_2 _ (List.mem_of_getElem? (i := 8) rfl)
theorem kw_2_9 : Cond.fieldLink RX5 64 "SlittingOffice" "waitingCount" "I" ∈ wsL_law := wc_2 _ (List.mem_of_getElem? (i := 9) rfl)
theorem kw_2_10 : Cond.classLink RX5 67 RX1 ∈ wsL_law := wc_2 _ (List.mem_of_getElem? (i := 10) rfl)
theorem kw_2_11 : Cond.instantiable RX1 3 ∈ wsL_law := wc_2 _ (List.mem_of_getElem? (i := 11) rfl)
theorem kw_2_12 : Cond.initialized RX1 ∈ wsL_law := wc_2 _ (List.mem_of_getElem? (i := 12) rfl)
theorem kw_2_13 : Cond.fieldLink RX5 70 "SlittingOffice" "filling" "LSlittingOffice$Filling;" ∈ wsL_law := wc_2 _ (List.mem_of_getElem? (i := 13) rfl)
theorem kw_2_14 : Cond.classLink RX5 74 RX4 ∈ wsL_law := wc_2 _ (List.mem_of_getElem? (i := 14) rfl)
theorem kw_2_15 : Cond.instantiable RX4 3 ∈ wsL_law := wc_2 _ (List.mem_of_getElem? (i := 15) rfl)
theorem kw_2_16 : Cond.initialized RX4 ∈ wsL_law := wc_2 _ (List.mem_of_getElem? (i := 16) rfl)
theorem kw_2_17 : Cond.fieldLink RX5 77 "SlittingOffice" "runOrder" "LSlittingOffice$RunOrder;" ∈ wsL_law := wc_2 _ (List.mem_of_getElem? (i := 17) rfl)
theorem kw_2_18 : Cond.instantiable RX0 14 ∈ wsL_law := wc_2 _ (List.mem_of_getElem? (i := 18) rfl)
theorem kw_2_19 : Cond.initialized RX0 ∈ wsL_law := wc_2 _ (List.mem_of_getElem? (i := 19) rfl)
theorem kw_2_20 : Cond.instantiable RX2 4 ∈ wsL_law := wc_2 _ (List.mem_of_getElem? (i := 20) rfl)
theorem kw_2_21 : Cond.initialized RX2 ∈ wsL_law := wc_2 _ (List.mem_of_getElem? (i := 21) rfl)
theorem kw_2_22 : Cond.instanceMethod yX3_init ∈ wsL_law := wc_2 _ (List.mem_of_getElem? (i := 22) rfl)
theorem kw_2_23 : Cond.code yX3_init cX3_init 1 none ∈ wsL_law := wc_2 _ (List.mem_of_getElem? (i := 23) rfl)
theorem wc_3 : ∀ w ∈ wsL_law0_r3, w ∈ wsL_law := fun _ h => List.mem_append_left _ (List.mem_append_left _ (List.mem_append_left _ (List.mem_append_left _ (List.mem_append_left _ (List.mem_append_left _ (List.mem_append_left _ (List.mem_append_left _ (List.mem_append_left _ (List.mem_append_left _ (List.mem_append_left _ (List.mem_append_right _ (List.mem_append_right _ (List.mem_append_left _ h)))))))))))))
theorem kw_3_0 : Cond.methodLink RX3 3 objectInit ∈ wsL_law := wc_3 _ (List.mem_of_getElem? (i := 0) rfl)
theorem kw_3_1 : Cond.fieldLink RX3 9 "SlittingOffice$Pattern" "widths" "[I" ∈ wsL_law := wc_3 _ (List.mem_of_getElem? (i := 1) rfl)
theorem kw_3_2 : Cond.fieldLink RX3 15 "SlittingOffice$Pattern" "count" "I" ∈ wsL_law := wc_3 _ (List.mem_of_getElem? (i := 2) rfl)
theorem kw_3_3 : Cond.instanceMethod yX1_init ∈ wsL_law := wc_3 _ (List.mem_of_getElem? (i := 3) rfl)
theorem kw_3_4 : Cond.code yX1_init cX1_init 1 none ∈ wsL_law := wc_3 _ (List.mem_of_getElem? (i := 4) rfl)
theorem kw_3_5 : Cond.methodLink RX1 3 objectInit ∈ wsL_law := wc_3 _ (List.mem_of_getElem? (i := 5) rfl)
theorem kw_3_6 : Cond.fieldLink RX1 9 "SlittingOffice$Filling" "widths" "[I" ∈ wsL_law := wc_3 _ (List.mem_of_getElem? (i := 6) rfl)
theorem kw_3_7 : Cond.fieldLink RX1 15 "SlittingOffice$Filling" "widthCount" "I" ∈ wsL_law := wc_3 _ (List.mem_of_getElem? (i := 7) rfl)
theorem kw_3_8 : Cond.fieldLink RX1 19 "SlittingOffice$Filling" "fewestSlits" "[I" ∈ wsL_law := wc_3 _ (List.mem_of_getElem? (i := 8) rfl)
theorem kw_3_9 : Cond.instanceMethod yX4_init ∈ wsL_law := wc_3 _ (List.mem_of_getElem? (i := 9) rfl)
theorem kw_3_10 : Cond.code yX4_init cX4_init 1 none ∈ wsL_law := wc_3 _ (List.mem_of_getElem? (i := 10) rfl)
theorem kw_3_11 : Cond.methodLink RX4 3 objectInit ∈ wsL_law := wc_3 _ (List.mem_of_getElem? (i := 11) rfl)
theorem kw_3_12 : Cond.classLink RX4 9 "[[I" ∈ wsL_law := wc_3 _ (List.mem_of_getElem? (i := 12) rfl)
theorem kw_3_13 : Cond.fieldLink RX4 11 "SlittingOffice$RunOrder" "moves" "[[I" ∈ wsL_law := wc_3 _ (List.mem_of_getElem? (i := 13) rfl)
theorem kw_3_14 : Cond.fieldLink RX4 16 "SlittingOffice$RunOrder" "fewest" "[[I" ∈ wsL_law := wc_3 _ (List.mem_of_getElem? (i := 14) rfl)
theorem kw_3_15 : Cond.fieldLink RX4 19 "SlittingOffice$RunOrder" "best" "[I" ∈ wsL_law := wc_3 _ (List.mem_of_getElem? (i := 15) rfl)
theorem kw_3_16 : Cond.instanceMethod yX0_init ∈ wsL_law := wc_3 _ (List.mem_of_getElem? (i := 16) rfl)
theorem kw_3_17 : Cond.code yX0_init cX0_init 1 none ∈ wsL_law := wc_3 _ (List.mem_of_getElem? (i := 17) rfl)
theorem kw_3_18 : Cond.methodLink RX0 3 objectInit ∈ wsL_law := wc_3 _ (List.mem_of_getElem? (i := 18) rfl)
theorem kw_3_19 : Cond.fieldLink RX0 9 "SlittingOffice$Coil" "width" "I" ∈ wsL_law := wc_3 _ (List.mem_of_getElem? (i := 19) rfl)
theorem kw_3_20 : Cond.fieldLink RX0 15 "SlittingOffice$Coil" "weight" "I" ∈ wsL_law := wc_3 _ (List.mem_of_getElem? (i := 20) rfl)
theorem kw_3_21 : Cond.fieldLink RX0 18 "SlittingOffice$Coil" "length" "I" ∈ wsL_law := wc_3 _ (List.mem_of_getElem? (i := 21) rfl)
theorem kw_3_22 : Cond.fieldLink RX0 21 "SlittingOffice$Coil" "heat" "I" ∈ wsL_law := wc_3 _ (List.mem_of_getElem? (i := 22) rfl)
theorem kw_3_23 : Cond.fieldLink RX0 24 "SlittingOffice$Coil" "defectFroms" "[I" ∈ wsL_law := wc_3 _ (List.mem_of_getElem? (i := 23) rfl)
theorem wc_4 : ∀ w ∈ wsL_law0_r4, w ∈ wsL_law := fun _ h => List.mem_append_left _ (List.mem_append_left _ (List.mem_append_left _ (List.mem_append_left _ (List.mem_append_left _ (List.mem_append_left _ (List.mem_append_left _ (List.mem_append_left _ (List.mem_append_left _ (List.mem_append_left _ (List.mem_append_left _ (List.mem_append_right _ (List.mem_append_right _ (List.mem_append_right _ (List.mem_append_left _ h))))))))))))))
theorem kw_4_0 : Cond.fieldLink RX0 28 "SlittingOffice$Coil" "defectTos" "[I" ∈ wsL_law := wc_4 _ (List.mem_of_getElem? (i := 0) rfl)
theorem kw_4_1 : Cond.fieldLink RX0 31 "SlittingOffice$Coil" "defectCount" "I" ∈ wsL_law := wc_4 _ (List.mem_of_getElem? (i := 1) rfl)
theorem kw_4_2 : Cond.fieldLink RX0 34 "SlittingOffice$Coil" "slitWidths" "[I" ∈ wsL_law := wc_4 _ (List.mem_of_getElem? (i := 2) rfl)
theorem kw_4_3 : Cond.fieldLink RX0 37 "SlittingOffice$Coil" "slitWeights" "[I" ∈ wsL_law := wc_4 _ (List.mem_of_getElem? (i := 3) rfl)
theorem kw_4_4 : Cond.fieldLink RX0 40 "SlittingOffice$Coil" "slitOrders" "[I" ∈ wsL_law := wc_4 _ (List.mem_of_getElem? (i := 4) rfl)
theorem kw_4_5 : Cond.fieldLink RX0 43 "SlittingOffice$Coil" "slitCount" "I" ∈ wsL_law := wc_4 _ (List.mem_of_getElem? (i := 5) rfl)
theorem kw_4_6 : Cond.fieldLink RX0 46 "SlittingOffice$Coil" "innerTurns" "I" ∈ wsL_law := wc_4 _ (List.mem_of_getElem? (i := 6) rfl)
theorem kw_4_7 : Cond.fieldLink RX0 49 "SlittingOffice$Coil" "cutOut" "I" ∈ wsL_law := wc_4 _ (List.mem_of_getElem? (i := 7) rfl)
theorem kw_4_8 : Cond.fieldLink RX0 52 "SlittingOffice$Coil" "trim" "I" ∈ wsL_law := wc_4 _ (List.mem_of_getElem? (i := 8) rfl)
theorem kw_4_9 : Cond.instanceMethod yX2_init ∈ wsL_law := wc_4 _ (List.mem_of_getElem? (i := 9) rfl)
theorem kw_4_10 : Cond.code yX2_init cX2_init 1 none ∈ wsL_law := wc_4 _ (List.mem_of_getElem? (i := 10) rfl)
theorem kw_4_11 : Cond.methodLink RX2 3 objectInit ∈ wsL_law := wc_4 _ (List.mem_of_getElem? (i := 11) rfl)
theorem kw_4_12 : Cond.fieldLink RX2 9 "SlittingOffice$Order" "width" "I" ∈ wsL_law := wc_4 _ (List.mem_of_getElem? (i := 12) rfl)
theorem kw_4_13 : Cond.fieldLink RX2 15 "SlittingOffice$Order" "weight" "I" ∈ wsL_law := wc_4 _ (List.mem_of_getElem? (i := 13) rfl)
theorem kw_4_14 : Cond.fieldLink RX2 18 "SlittingOffice$Order" "received" "I" ∈ wsL_law := wc_4 _ (List.mem_of_getElem? (i := 14) rfl)
theorem kw_4_15 : Cond.fieldLink RX2 21 "SlittingOffice$Order" "heat" "I" ∈ wsL_law := wc_4 _ (List.mem_of_getElem? (i := 15) rfl)
theorem kw_4_16 : Cond.methodLink RL 84 yX6_init ∈ wsL_law := wc_4 _ (List.mem_of_getElem? (i := 16) rfl)
theorem kw_4_17 : Cond.instanceMethod yX6_init ∈ wsL_law := wc_4 _ (List.mem_of_getElem? (i := 17) rfl)
theorem kw_4_18 : Cond.code yX6_init cX6_init 1 none ∈ wsL_law := wc_4 _ (List.mem_of_getElem? (i := 18) rfl)
theorem kw_4_19 : Cond.methodLink RX6 1 objectInit ∈ wsL_law := wc_4 _ (List.mem_of_getElem? (i := 19) rfl)
theorem kw_4_20 : Cond.fieldLink RX6 7 "SlittingOfficeModel" "width" "[I" ∈ wsL_law := wc_4 _ (List.mem_of_getElem? (i := 20) rfl)
theorem kw_4_21 : Cond.fieldLink RX6 13 "SlittingOfficeModel" "weight" "[I" ∈ wsL_law := wc_4 _ (List.mem_of_getElem? (i := 21) rfl)
theorem kw_4_22 : Cond.fieldLink RX6 16 "SlittingOfficeModel" "length" "[I" ∈ wsL_law := wc_4 _ (List.mem_of_getElem? (i := 22) rfl)
theorem kw_4_23 : Cond.fieldLink RX6 19 "SlittingOfficeModel" "heat" "[I" ∈ wsL_law := wc_4 _ (List.mem_of_getElem? (i := 23) rfl)
theorem wc_5 : ∀ w ∈ wsL_law0_r5, w ∈ wsL_law := fun _ h => List.mem_append_left _ (List.mem_append_left _ (List.mem_append_left _ (List.mem_append_left _ (List.mem_append_left _ (List.mem_append_left _ (List.mem_append_left _ (List.mem_append_left _ (List.mem_append_left _ (List.mem_append_left _ (List.mem_append_left _ (List.mem_append_right _ (List.mem_append_right _ (List.mem_append_right _ (List.mem_append_right _ (List.mem_append_left _ h)))))))))))))))
theorem kw_5_0 : Cond.fieldLink RX6 22 "SlittingOfficeModel" "from" "[I" ∈ wsL_law := wc_5 _ (List.mem_of_getElem? (i := 0) rfl)
theorem kw_5_1 : Cond.fieldLink RX6 25 "SlittingOfficeModel" "to" "[I" ∈ wsL_law := wc_5 _ (List.mem_of_getElem? (i := 1) rfl)
theorem kw_5_2 : Cond.fieldLink RX6 28 "SlittingOfficeModel" "defects" "[I" ∈ wsL_law := wc_5 _ (List.mem_of_getElem? (i := 2) rfl)
theorem kw_5_3 : Cond.fieldLink RX6 31 "SlittingOfficeModel" "edge" "I" ∈ wsL_law := wc_5 _ (List.mem_of_getElem? (i := 3) rfl)
theorem kw_5_4 : Cond.fieldLink RX6 35 "SlittingOfficeModel" "loss" "I" ∈ wsL_law := wc_5 _ (List.mem_of_getElem? (i := 4) rfl)
theorem kw_5_5 : Cond.fieldLink RX6 38 "SlittingOfficeModel" "knives" "I" ∈ wsL_law := wc_5 _ (List.mem_of_getElem? (i := 5) rfl)
theorem kw_5_6 : Cond.fieldLink RX6 41 "SlittingOfficeModel" "wants" "[I" ∈ wsL_law := wc_5 _ (List.mem_of_getElem? (i := 6) rfl)
theorem kw_5_7 : Cond.fieldLink RX6 44 "SlittingOfficeModel" "most" "[I" ∈ wsL_law := wc_5 _ (List.mem_of_getElem? (i := 7) rfl)
theorem kw_5_8 : Cond.fieldLink RX6 47 "SlittingOfficeModel" "got" "[I" ∈ wsL_law := wc_5 _ (List.mem_of_getElem? (i := 8) rfl)
theorem kw_5_9 : Cond.fieldLink RX6 50 "SlittingOfficeModel" "has" "[I" ∈ wsL_law := wc_5 _ (List.mem_of_getElem? (i := 9) rfl)
theorem kw_5_10 : Cond.fieldLink RX6 53 "SlittingOfficeModel" "slit" "[I" ∈ wsL_law := wc_5 _ (List.mem_of_getElem? (i := 10) rfl)
theorem kw_5_11 : Cond.fieldLink RX6 56 "SlittingOfficeModel" "many" "[I" ∈ wsL_law := wc_5 _ (List.mem_of_getElem? (i := 11) rfl)
theorem kw_5_12 : Cond.fieldLink RX6 59 "SlittingOfficeModel" "by" "[I" ∈ wsL_law := wc_5 _ (List.mem_of_getElem? (i := 12) rfl)
theorem kw_5_13 : Cond.fieldLink RX6 62 "SlittingOfficeModel" "weighs" "[I" ∈ wsL_law := wc_5 _ (List.mem_of_getElem? (i := 13) rfl)
theorem kw_5_14 : Cond.fieldLink RX6 65 "SlittingOfficeModel" "went" "[I" ∈ wsL_law := wc_5 _ (List.mem_of_getElem? (i := 14) rfl)
theorem kw_5_15 : Cond.fieldLink RX6 68 "SlittingOfficeModel" "lost" "[I" ∈ wsL_law := wc_5 _ (List.mem_of_getElem? (i := 15) rfl)
theorem kw_5_16 : Cond.fieldLink RX6 71 "SlittingOfficeModel" "setup" "I" ∈ wsL_law := wc_5 _ (List.mem_of_getElem? (i := 16) rfl)
theorem kw_5_17 : Cond.fieldLink RX6 74 "SlittingOfficeModel" "waitCoil" "[I" ∈ wsL_law := wc_5 _ (List.mem_of_getElem? (i := 17) rfl)
theorem kw_5_18 : Cond.fieldLink RX6 77 "SlittingOfficeModel" "waitPattern" "[I" ∈ wsL_law := wc_5 _ (List.mem_of_getElem? (i := 18) rfl)
theorem kw_5_19 : Cond.fieldLink RX6 80 "SlittingOfficeModel" "fewest" "[I" ∈ wsL_law := wc_5 _ (List.mem_of_getElem? (i := 19) rfl)
theorem kw_5_20 : Cond.fieldLink RX6 83 "SlittingOfficeModel" "rest" "[I" ∈ wsL_law := wc_5 _ (List.mem_of_getElem? (i := 20) rfl)
theorem kw_5_21 : Cond.fieldLink RX6 86 "SlittingOfficeModel" "next" "[I" ∈ wsL_law := wc_5 _ (List.mem_of_getElem? (i := 21) rfl)
theorem kw_5_22 : Cond.methodLink RL 85 yL_coil ∈ wsL_law := wc_5 _ (List.mem_of_getElem? (i := 22) rfl)
theorem kw_5_23 : Cond.static yL_coil ∈ wsL_law := wc_5 _ (List.mem_of_getElem? (i := 23) rfl)
theorem wc_6 : ∀ w ∈ wsL_law0_r6, w ∈ wsL_law := fun _ h => List.mem_append_left _ (List.mem_append_left _ (List.mem_append_left _ (List.mem_append_left _ (List.mem_append_left _ (List.mem_append_left _ (List.mem_append_left _ (List.mem_append_left _ (List.mem_append_left _ (List.mem_append_left _ (List.mem_append_left _ (List.mem_append_right _ (List.mem_append_right _ (List.mem_append_right _ (List.mem_append_right _ (List.mem_append_right _ (List.mem_append_left _ h))))))))))))))))
theorem kw_6_0 : Cond.initialized RL ∈ wsL_law := wc_6 _ (List.mem_of_getElem? (i := 0) rfl)
theorem kw_6_1 : Cond.codeWith yL_coil cL_coil 7 (some .int) [(0, 14, 17, 13), (0, 14, 21, 15)] ∈ wsL_law := wc_6 _ (List.mem_of_getElem? (i := 1) rfl)
theorem kw_6_2 : Cond.classLink RL 13 "java/lang/IllegalArgumentException" ∈ wsL_law := wc_6 _ (List.mem_of_getElem? (i := 2) rfl)
theorem kw_6_3 : Cond.classLink RL 15 "java/lang/IllegalStateException" ∈ wsL_law := wc_6 _ (List.mem_of_getElem? (i := 3) rfl)
theorem kw_6_4 : Cond.methodLink RL 7 yX5_coil ∈ wsL_law := wc_6 _ (List.mem_of_getElem? (i := 4) rfl)
theorem kw_6_5 : Cond.instanceMethod yX5_coil ∈ wsL_law := wc_6 _ (List.mem_of_getElem? (i := 5) rfl)
theorem kw_6_6 : Cond.selects RX5 yX5_coil yX5_coil ∈ wsL_law := wc_6 _ (List.mem_of_getElem? (i := 6) rfl)
theorem kw_6_7 : Cond.code yX5_coil cX5_coil 5 (some .int) ∈ wsL_law := wc_6 _ (List.mem_of_getElem? (i := 7) rfl)
theorem kw_6_8 : Cond.classLink RX5 87 "java/lang/IllegalStateException" ∈ wsL_law := wc_6 _ (List.mem_of_getElem? (i := 8) rfl)
theorem kw_6_9 : Cond.initialized "java/lang/IllegalStateException" ∈ wsL_law := wc_6 _ (List.mem_of_getElem? (i := 9) rfl)
theorem kw_6_10 : Cond.methodLink RX5 83 yX5_requireRange ∈ wsL_law := wc_6 _ (List.mem_of_getElem? (i := 10) rfl)
theorem kw_6_11 : Cond.static yX5_requireRange ∈ wsL_law := wc_6 _ (List.mem_of_getElem? (i := 11) rfl)
theorem kw_6_12 : Cond.code yX5_requireRange cX5_requireRange 3 none ∈ wsL_law := wc_6 _ (List.mem_of_getElem? (i := 12) rfl)
theorem kw_6_13 : Cond.classLink RX5 255 "java/lang/IllegalArgumentException" ∈ wsL_law := wc_6 _ (List.mem_of_getElem? (i := 13) rfl)
theorem kw_6_14 : Cond.initialized "java/lang/IllegalArgumentException" ∈ wsL_law := wc_6 _ (List.mem_of_getElem? (i := 14) rfl)
theorem kw_6_15 : Cond.instanceMethod yX0_describe ∈ wsL_law := wc_6 _ (List.mem_of_getElem? (i := 15) rfl)
theorem kw_6_16 : Cond.selects RX0 yX0_describe yX0_describe ∈ wsL_law := wc_6 _ (List.mem_of_getElem? (i := 16) rfl)
theorem kw_6_17 : Cond.code yX0_describe cX0_describe 5 none ∈ wsL_law := wc_6 _ (List.mem_of_getElem? (i := 17) rfl)
theorem kw_6_18 : Cond.methodLink RL 90 yX6_coil ∈ wsL_law := wc_6 _ (List.mem_of_getElem? (i := 18) rfl)
theorem kw_6_19 : Cond.instanceMethod yX6_coil ∈ wsL_law := wc_6 _ (List.mem_of_getElem? (i := 19) rfl)
theorem kw_6_20 : Cond.selects RX6 yX6_coil yX6_coil ∈ wsL_law := wc_6 _ (List.mem_of_getElem? (i := 20) rfl)
theorem kw_6_21 : Cond.code yX6_coil cX6_coil 6 (some .int) ∈ wsL_law := wc_6 _ (List.mem_of_getElem? (i := 21) rfl)
theorem kw_6_22 : Cond.fieldLink RX6 92 "SlittingOfficeModel" "coils" "I" ∈ wsL_law := wc_6 _ (List.mem_of_getElem? (i := 22) rfl)
theorem kw_6_23 : Cond.methodLink RX6 95 yX6_in ∈ wsL_law := wc_6 _ (List.mem_of_getElem? (i := 23) rfl)
theorem wc_7 : ∀ w ∈ wsL_law0_r7, w ∈ wsL_law := fun _ h => List.mem_append_left _ (List.mem_append_left _ (List.mem_append_left _ (List.mem_append_left _ (List.mem_append_left _ (List.mem_append_left _ (List.mem_append_left _ (List.mem_append_left _ (List.mem_append_left _ (List.mem_append_left _ (List.mem_append_left _ (List.mem_append_right _ (List.mem_append_right _ (List.mem_append_right _ (List.mem_append_right _ (List.mem_append_right _ (List.mem_append_right _ (List.mem_append_left _ h)))))))))))))))))
theorem kw_7_0 : Cond.static yX6_in ∈ wsL_law := wc_7 _ (List.mem_of_getElem? (i := 0) rfl)
theorem kw_7_1 : Cond.code yX6_in cX6_in 3 (some .boolean) ∈ wsL_law := wc_7 _ (List.mem_of_getElem? (i := 1) rfl)
theorem kw_7_2 : Cond.methodLink RX6 102 yX6_asked_ ∈ wsL_law := wc_7 _ (List.mem_of_getElem? (i := 2) rfl)
theorem kw_7_3 : Cond.instanceMethod yX6_asked_ ∈ wsL_law := wc_7 _ (List.mem_of_getElem? (i := 3) rfl)
theorem kw_7_4 : Cond.selects RX6 yX6_asked_ yX6_asked_ ∈ wsL_law := wc_7 _ (List.mem_of_getElem? (i := 4) rfl)
theorem kw_7_5 : Cond.code yX6_asked_ cX6_asked_ 3 (some .boolean) ∈ wsL_law := wc_7 _ (List.mem_of_getElem? (i := 5) rfl)
theorem kw_7_6 : Cond.fieldLink RX6 89 "SlittingOfficeModel" "thrown" "I" ∈ wsL_law := wc_7 _ (List.mem_of_getElem? (i := 6) rfl)
theorem kw_7_7 : Cond.methodLink RL 91 yX6_thrown ∈ wsL_law := wc_7 _ (List.mem_of_getElem? (i := 7) rfl)
theorem kw_7_8 : Cond.instanceMethod yX6_thrown ∈ wsL_law := wc_7 _ (List.mem_of_getElem? (i := 8) rfl)
theorem kw_7_9 : Cond.selects RX6 yX6_thrown yX6_thrown ∈ wsL_law := wc_7 _ (List.mem_of_getElem? (i := 9) rfl)
theorem kw_7_10 : Cond.code yX6_thrown cX6_thrown 1 (some .int) ∈ wsL_law := wc_7 _ (List.mem_of_getElem? (i := 10) rfl)
theorem kw_7_11 : Cond.methodLink RL 94 yL_defect ∈ wsL_law := wc_7 _ (List.mem_of_getElem? (i := 11) rfl)
theorem kw_7_12 : Cond.static yL_defect ∈ wsL_law := wc_7 _ (List.mem_of_getElem? (i := 12) rfl)
theorem kw_7_13 : Cond.codeWith yL_defect cL_defect 6 (some .int) [(0, 12, 15, 21), (0, 12, 19, 13), (0, 12, 23, 15)] ∈ wsL_law := wc_7 _ (List.mem_of_getElem? (i := 13) rfl)
theorem kw_7_14 : Cond.classLink RL 21 "java/lang/IndexOutOfBoundsException" ∈ wsL_law := wc_7 _ (List.mem_of_getElem? (i := 14) rfl)
theorem kw_7_15 : Cond.methodLink RL 17 yX5_defect ∈ wsL_law := wc_7 _ (List.mem_of_getElem? (i := 15) rfl)
theorem kw_7_16 : Cond.instanceMethod yX5_defect ∈ wsL_law := wc_7 _ (List.mem_of_getElem? (i := 16) rfl)
theorem kw_7_17 : Cond.selects RX5 yX5_defect yX5_defect ∈ wsL_law := wc_7 _ (List.mem_of_getElem? (i := 17) rfl)
theorem kw_7_18 : Cond.code yX5_defect cX5_defect 5 (some .int) ∈ wsL_law := wc_7 _ (List.mem_of_getElem? (i := 18) rfl)
theorem kw_7_19 : Cond.methodLink RX5 98 yX5_requireCoil ∈ wsL_law := wc_7 _ (List.mem_of_getElem? (i := 19) rfl)
theorem kw_7_20 : Cond.instanceMethod yX5_requireCoil ∈ wsL_law := wc_7 _ (List.mem_of_getElem? (i := 20) rfl)
theorem kw_7_21 : Cond.selects RX5 yX5_requireCoil yX5_requireCoil ∈ wsL_law := wc_7 _ (List.mem_of_getElem? (i := 21) rfl)
theorem kw_7_22 : Cond.code yX5_requireCoil cX5_requireCoil 2 none ∈ wsL_law := wc_7 _ (List.mem_of_getElem? (i := 22) rfl)
theorem kw_7_23 : Cond.classLink RX5 145 "java/lang/IndexOutOfBoundsException" ∈ wsL_law := wc_7 _ (List.mem_of_getElem? (i := 23) rfl)
theorem wc_8 : ∀ w ∈ wsL_law0_r8, w ∈ wsL_law := fun _ h => List.mem_append_left _ (List.mem_append_left _ (List.mem_append_left _ (List.mem_append_left _ (List.mem_append_left _ (List.mem_append_left _ (List.mem_append_left _ (List.mem_append_left _ (List.mem_append_left _ (List.mem_append_left _ (List.mem_append_left _ (List.mem_append_right _ (List.mem_append_right _ (List.mem_append_right _ (List.mem_append_right _ (List.mem_append_right _ (List.mem_append_right _ (List.mem_append_right _ (List.mem_append_left _ h))))))))))))))))))
theorem kw_8_0 : Cond.initialized "java/lang/IndexOutOfBoundsException" ∈ wsL_law := wc_8 _ (List.mem_of_getElem? (i := 0) rfl)
theorem kw_8_1 : Cond.methodLink RX5 260 yX5_hasCoil ∈ wsL_law := wc_8 _ (List.mem_of_getElem? (i := 1) rfl)
theorem kw_8_2 : Cond.instanceMethod yX5_hasCoil ∈ wsL_law := wc_8 _ (List.mem_of_getElem? (i := 2) rfl)
theorem kw_8_3 : Cond.selects RX5 yX5_hasCoil yX5_hasCoil ∈ wsL_law := wc_8 _ (List.mem_of_getElem? (i := 3) rfl)
theorem kw_8_4 : Cond.code yX5_hasCoil cX5_hasCoil 2 (some .boolean) ∈ wsL_law := wc_8 _ (List.mem_of_getElem? (i := 4) rfl)
theorem kw_8_5 : Cond.instanceMethod yX0_isSlit ∈ wsL_law := wc_8 _ (List.mem_of_getElem? (i := 5) rfl)
theorem kw_8_6 : Cond.selects RX0 yX0_isSlit yX0_isSlit ∈ wsL_law := wc_8 _ (List.mem_of_getElem? (i := 6) rfl)
theorem kw_8_7 : Cond.code yX0_isSlit cX0_isSlit 1 (some .boolean) ∈ wsL_law := wc_8 _ (List.mem_of_getElem? (i := 7) rfl)
theorem kw_8_8 : Cond.instanceMethod yX0_hasMostDefects ∈ wsL_law := wc_8 _ (List.mem_of_getElem? (i := 8) rfl)
theorem kw_8_9 : Cond.selects RX0 yX0_hasMostDefects yX0_hasMostDefects ∈ wsL_law := wc_8 _ (List.mem_of_getElem? (i := 9) rfl)
theorem kw_8_10 : Cond.code yX0_hasMostDefects cX0_hasMostDefects 1 (some .boolean) ∈ wsL_law := wc_8 _ (List.mem_of_getElem? (i := 10) rfl)
theorem kw_8_11 : Cond.instanceMethod yX0_addDefect ∈ wsL_law := wc_8 _ (List.mem_of_getElem? (i := 11) rfl)
theorem kw_8_12 : Cond.selects RX0 yX0_addDefect yX0_addDefect ∈ wsL_law := wc_8 _ (List.mem_of_getElem? (i := 12) rfl)
theorem kw_8_13 : Cond.code yX0_addDefect cX0_addDefect 4 none ∈ wsL_law := wc_8 _ (List.mem_of_getElem? (i := 13) rfl)
theorem kw_8_14 : Cond.methodLink RX0 55 yX0_hasMostDefects ∈ wsL_law := wc_8 _ (List.mem_of_getElem? (i := 14) rfl)
theorem kw_8_15 : Cond.instanceMethod yX0_cutOutLength ∈ wsL_law := wc_8 _ (List.mem_of_getElem? (i := 15) rfl)
theorem kw_8_16 : Cond.selects RX0 yX0_cutOutLength yX0_cutOutLength ∈ wsL_law := wc_8 _ (List.mem_of_getElem? (i := 16) rfl)
theorem kw_8_17 : Cond.code yX0_cutOutLength cX0_cutOutLength 5 (some .int) ∈ wsL_law := wc_8 _ (List.mem_of_getElem? (i := 17) rfl)
theorem kw_8_18 : Cond.methodLink RX0 59 Lib.Math.max.name ∈ wsL_law := wc_8 _ (List.mem_of_getElem? (i := 18) rfl)
theorem kw_8_19 : Cond.static Lib.Math.max.name ∈ wsL_law := wc_8 _ (List.mem_of_getElem? (i := 19) rfl)
theorem kw_8_20 : Cond.initialized "java/lang/Math" ∈ wsL_law := wc_8 _ (List.mem_of_getElem? (i := 20) rfl)
theorem kw_8_21 : Cond.code Lib.Math.max.name Lib.Math.max.code 2 (some .int) ∈ wsL_law := wc_8 _ (List.mem_of_getElem? (i := 21) rfl)
theorem kw_8_22 : Cond.methodLink RL 97 yX6_defect ∈ wsL_law := wc_8 _ (List.mem_of_getElem? (i := 22) rfl)
theorem kw_8_23 : Cond.instanceMethod yX6_defect ∈ wsL_law := wc_8 _ (List.mem_of_getElem? (i := 23) rfl)
theorem wc_9 : ∀ w ∈ wsL_law0_r9, w ∈ wsL_law := fun _ h => List.mem_append_left _ (List.mem_append_left _ (List.mem_append_left _ (List.mem_append_left _ (List.mem_append_left _ (List.mem_append_left _ (List.mem_append_left _ (List.mem_append_left _ (List.mem_append_left _ (List.mem_append_left _ (List.mem_append_left _ (List.mem_append_right _ (List.mem_append_right _ (List.mem_append_right _ (List.mem_append_right _ (List.mem_append_right _ (List.mem_append_right _ (List.mem_append_right _ (List.mem_append_right _ (List.mem_append_left _ h)))))))))))))))))))
theorem kw_9_0 : Cond.selects RX6 yX6_defect yX6_defect ∈ wsL_law := wc_9 _ (List.mem_of_getElem? (i := 0) rfl)
theorem kw_9_1 : Cond.code yX6_defect cX6_defect 6 (some .int) ∈ wsL_law := wc_9 _ (List.mem_of_getElem? (i := 1) rfl)
theorem kw_9_2 : Cond.methodLink RX6 106 yX6_isCoil ∈ wsL_law := wc_9 _ (List.mem_of_getElem? (i := 2) rfl)
theorem kw_9_3 : Cond.instanceMethod yX6_isCoil ∈ wsL_law := wc_9 _ (List.mem_of_getElem? (i := 3) rfl)
theorem kw_9_4 : Cond.selects RX6 yX6_isCoil yX6_isCoil ∈ wsL_law := wc_9 _ (List.mem_of_getElem? (i := 4) rfl)
theorem kw_9_5 : Cond.code yX6_isCoil cX6_isCoil 2 (some .boolean) ∈ wsL_law := wc_9 _ (List.mem_of_getElem? (i := 5) rfl)
theorem kw_9_6 : Cond.methodLink RX6 110 yX6_asked__ ∈ wsL_law := wc_9 _ (List.mem_of_getElem? (i := 6) rfl)
theorem kw_9_7 : Cond.instanceMethod yX6_asked__ ∈ wsL_law := wc_9 _ (List.mem_of_getElem? (i := 7) rfl)
theorem kw_9_8 : Cond.selects RX6 yX6_asked__ yX6_asked__ ∈ wsL_law := wc_9 _ (List.mem_of_getElem? (i := 8) rfl)
theorem kw_9_9 : Cond.code yX6_asked__ cX6_asked__ 4 (some .boolean) ∈ wsL_law := wc_9 _ (List.mem_of_getElem? (i := 9) rfl)
theorem kw_9_10 : Cond.methodLink RX6 113 yX6_cutOut ∈ wsL_law := wc_9 _ (List.mem_of_getElem? (i := 10) rfl)
theorem kw_9_11 : Cond.instanceMethod yX6_cutOut ∈ wsL_law := wc_9 _ (List.mem_of_getElem? (i := 11) rfl)
theorem kw_9_12 : Cond.selects RX6 yX6_cutOut yX6_cutOut ∈ wsL_law := wc_9 _ (List.mem_of_getElem? (i := 12) rfl)
theorem kw_9_13 : Cond.code yX6_cutOut cX6_cutOut 6 (some .int) ∈ wsL_law := wc_9 _ (List.mem_of_getElem? (i := 13) rfl)
theorem kw_9_14 : Cond.methodLink RL 98 yL_setRules ∈ wsL_law := wc_9 _ (List.mem_of_getElem? (i := 14) rfl)
theorem kw_9_15 : Cond.static yL_setRules ∈ wsL_law := wc_9 _ (List.mem_of_getElem? (i := 15) rfl)
theorem kw_9_16 : Cond.codeWith yL_setRules cL_setRules 6 (some .int) [(0, 12, 15, 13)] ∈ wsL_law := wc_9 _ (List.mem_of_getElem? (i := 16) rfl)
theorem kw_9_17 : Cond.methodLink RL 23 yX5_setRules ∈ wsL_law := wc_9 _ (List.mem_of_getElem? (i := 17) rfl)
theorem kw_9_18 : Cond.instanceMethod yX5_setRules ∈ wsL_law := wc_9 _ (List.mem_of_getElem? (i := 18) rfl)
theorem kw_9_19 : Cond.selects RX5 yX5_setRules yX5_setRules ∈ wsL_law := wc_9 _ (List.mem_of_getElem? (i := 19) rfl)
theorem kw_9_20 : Cond.code yX5_setRules cX5_setRules 5 (some .int) ∈ wsL_law := wc_9 _ (List.mem_of_getElem? (i := 20) rfl)
theorem kw_9_21 : Cond.methodLink RL 100 yX6_setRules ∈ wsL_law := wc_9 _ (List.mem_of_getElem? (i := 21) rfl)
theorem kw_9_22 : Cond.instanceMethod yX6_setRules ∈ wsL_law := wc_9 _ (List.mem_of_getElem? (i := 22) rfl)
theorem kw_9_23 : Cond.selects RX6 yX6_setRules yX6_setRules ∈ wsL_law := wc_9 _ (List.mem_of_getElem? (i := 23) rfl)
theorem wc_10 : ∀ w ∈ wsL_law0_r10, w ∈ wsL_law := fun _ h => List.mem_append_left _ (List.mem_append_left _ (List.mem_append_left _ (List.mem_append_left _ (List.mem_append_left _ (List.mem_append_left _ (List.mem_append_left _ (List.mem_append_left _ (List.mem_append_left _ (List.mem_append_left _ (List.mem_append_left _ (List.mem_append_right _ (List.mem_append_right _ (List.mem_append_right _ (List.mem_append_right _ (List.mem_append_right _ (List.mem_append_right _ (List.mem_append_right _ (List.mem_append_right _ (List.mem_append_right _ (List.mem_append_left _ h))))))))))))))))))))
theorem kw_10_0 : Cond.code yX6_setRules cX6_setRules 5 (some .int) ∈ wsL_law := wc_10 _ (List.mem_of_getElem? (i := 0) rfl)
theorem kw_10_1 : Cond.methodLink RX6 117 yX6_asked ∈ wsL_law := wc_10 _ (List.mem_of_getElem? (i := 1) rfl)
theorem kw_10_2 : Cond.instanceMethod yX6_asked ∈ wsL_law := wc_10 _ (List.mem_of_getElem? (i := 2) rfl)
theorem kw_10_3 : Cond.selects RX6 yX6_asked yX6_asked ∈ wsL_law := wc_10 _ (List.mem_of_getElem? (i := 3) rfl)
theorem kw_10_4 : Cond.code yX6_asked cX6_asked 2 (some .boolean) ∈ wsL_law := wc_10 _ (List.mem_of_getElem? (i := 4) rfl)
theorem kw_10_5 : Cond.methodLink RL 101 yL_order ∈ wsL_law := wc_10 _ (List.mem_of_getElem? (i := 5) rfl)
theorem kw_10_6 : Cond.static yL_order ∈ wsL_law := wc_10 _ (List.mem_of_getElem? (i := 6) rfl)
theorem kw_10_7 : Cond.codeWith yL_order cL_order 5 (some .int) [(0, 10, 13, 13), (0, 10, 17, 15)] ∈ wsL_law := wc_10 _ (List.mem_of_getElem? (i := 7) rfl)
theorem kw_10_8 : Cond.methodLink RL 26 yX5_order ∈ wsL_law := wc_10 _ (List.mem_of_getElem? (i := 8) rfl)
theorem kw_10_9 : Cond.instanceMethod yX5_order ∈ wsL_law := wc_10 _ (List.mem_of_getElem? (i := 9) rfl)
theorem kw_10_10 : Cond.selects RX5 yX5_order yX5_order ∈ wsL_law := wc_10 _ (List.mem_of_getElem? (i := 10) rfl)
theorem kw_10_11 : Cond.code yX5_order cX5_order 3 (some .int) ∈ wsL_law := wc_10 _ (List.mem_of_getElem? (i := 11) rfl)
theorem kw_10_12 : Cond.constant RX5 122 (50000) ∈ wsL_law := wc_10 _ (List.mem_of_getElem? (i := 12) rfl)
theorem kw_10_13 : Cond.instanceMethod yX2_describe ∈ wsL_law := wc_10 _ (List.mem_of_getElem? (i := 13) rfl)
theorem kw_10_14 : Cond.selects RX2 yX2_describe yX2_describe ∈ wsL_law := wc_10 _ (List.mem_of_getElem? (i := 14) rfl)
theorem kw_10_15 : Cond.code yX2_describe cX2_describe 3 none ∈ wsL_law := wc_10 _ (List.mem_of_getElem? (i := 15) rfl)
theorem kw_10_16 : Cond.methodLink RL 104 yX6_order ∈ wsL_law := wc_10 _ (List.mem_of_getElem? (i := 16) rfl)
theorem kw_10_17 : Cond.instanceMethod yX6_order ∈ wsL_law := wc_10 _ (List.mem_of_getElem? (i := 17) rfl)
theorem kw_10_18 : Cond.selects RX6 yX6_order yX6_order ∈ wsL_law := wc_10 _ (List.mem_of_getElem? (i := 18) rfl)
theorem kw_10_19 : Cond.code yX6_order cX6_order 3 (some .int) ∈ wsL_law := wc_10 _ (List.mem_of_getElem? (i := 19) rfl)
theorem kw_10_20 : Cond.constant RX6 120 (50000) ∈ wsL_law := wc_10 _ (List.mem_of_getElem? (i := 20) rfl)
theorem kw_10_21 : Cond.fieldLink RX6 121 "SlittingOfficeModel" "orders" "I" ∈ wsL_law := wc_10 _ (List.mem_of_getElem? (i := 21) rfl)
theorem kw_10_22 : Cond.methodLink RL 105 yL_addSlit ∈ wsL_law := wc_10 _ (List.mem_of_getElem? (i := 22) rfl)
theorem kw_10_23 : Cond.static yL_addSlit ∈ wsL_law := wc_10 _ (List.mem_of_getElem? (i := 23) rfl)
theorem wc_11 : ∀ w ∈ wsL_law0_r11, w ∈ wsL_law := fun _ h => List.mem_append_left _ (List.mem_append_left _ (List.mem_append_left _ (List.mem_append_left _ (List.mem_append_left _ (List.mem_append_left _ (List.mem_append_left _ (List.mem_append_left _ (List.mem_append_left _ (List.mem_append_left _ (List.mem_append_left _ (List.mem_append_right _ (List.mem_append_right _ (List.mem_append_right _ (List.mem_append_right _ (List.mem_append_right _ (List.mem_append_right _ (List.mem_append_right _ (List.mem_append_right _ (List.mem_append_right _ (List.mem_append_right _ (List.mem_append_left _ h)))))))))))))))))))))
theorem kw_11_0 : Cond.codeWith yL_addSlit cL_addSlit 4 (some .int) [(0, 9, 12, 13), (0, 9, 15, 15)] ∈ wsL_law := wc_11 _ (List.mem_of_getElem? (i := 0) rfl)
theorem kw_11_1 : Cond.methodLink RL 30 yX5_addSlit ∈ wsL_law := wc_11 _ (List.mem_of_getElem? (i := 1) rfl)
theorem kw_11_2 : Cond.instanceMethod yX5_addSlit ∈ wsL_law := wc_11 _ (List.mem_of_getElem? (i := 2) rfl)
theorem kw_11_3 : Cond.selects RX5 yX5_addSlit yX5_addSlit ∈ wsL_law := wc_11 _ (List.mem_of_getElem? (i := 3) rfl)
theorem kw_11_4 : Cond.code yX5_addSlit cX5_addSlit 2 (some .int) ∈ wsL_law := wc_11 _ (List.mem_of_getElem? (i := 4) rfl)
theorem kw_11_5 : Cond.instanceMethod yX3_isFull ∈ wsL_law := wc_11 _ (List.mem_of_getElem? (i := 5) rfl)
theorem kw_11_6 : Cond.selects RX3 yX3_isFull yX3_isFull ∈ wsL_law := wc_11 _ (List.mem_of_getElem? (i := 6) rfl)
theorem kw_11_7 : Cond.code yX3_isFull cX3_isFull 1 (some .boolean) ∈ wsL_law := wc_11 _ (List.mem_of_getElem? (i := 7) rfl)
theorem kw_11_8 : Cond.instanceMethod yX3_append ∈ wsL_law := wc_11 _ (List.mem_of_getElem? (i := 8) rfl)
theorem kw_11_9 : Cond.selects RX3 yX3_append yX3_append ∈ wsL_law := wc_11 _ (List.mem_of_getElem? (i := 9) rfl)
theorem kw_11_10 : Cond.code yX3_append cX3_append 2 none ∈ wsL_law := wc_11 _ (List.mem_of_getElem? (i := 10) rfl)
theorem kw_11_11 : Cond.methodLink RX3 19 yX3_isFull ∈ wsL_law := wc_11 _ (List.mem_of_getElem? (i := 11) rfl)
theorem kw_11_12 : Cond.methodLink RL 108 yX6_addSlit ∈ wsL_law := wc_11 _ (List.mem_of_getElem? (i := 12) rfl)
theorem kw_11_13 : Cond.instanceMethod yX6_addSlit ∈ wsL_law := wc_11 _ (List.mem_of_getElem? (i := 13) rfl)
theorem kw_11_14 : Cond.selects RX6 yX6_addSlit yX6_addSlit ∈ wsL_law := wc_11 _ (List.mem_of_getElem? (i := 14) rfl)
theorem kw_11_15 : Cond.code yX6_addSlit cX6_addSlit 2 (some .int) ∈ wsL_law := wc_11 _ (List.mem_of_getElem? (i := 15) rfl)
theorem kw_11_16 : Cond.methodLink RX6 124 yX6_drafts ∈ wsL_law := wc_11 _ (List.mem_of_getElem? (i := 16) rfl)
theorem kw_11_17 : Cond.instanceMethod yX6_drafts ∈ wsL_law := wc_11 _ (List.mem_of_getElem? (i := 17) rfl)
theorem kw_11_18 : Cond.selects RX6 yX6_drafts yX6_drafts ∈ wsL_law := wc_11 _ (List.mem_of_getElem? (i := 18) rfl)
theorem kw_11_19 : Cond.code yX6_drafts cX6_drafts 2 none ∈ wsL_law := wc_11 _ (List.mem_of_getElem? (i := 19) rfl)
theorem kw_11_20 : Cond.methodLink RL 109 yX5_clearDraft ∈ wsL_law := wc_11 _ (List.mem_of_getElem? (i := 20) rfl)
theorem kw_11_21 : Cond.instanceMethod yX5_clearDraft ∈ wsL_law := wc_11 _ (List.mem_of_getElem? (i := 21) rfl)
theorem kw_11_22 : Cond.selects RX5 yX5_clearDraft yX5_clearDraft ∈ wsL_law := wc_11 _ (List.mem_of_getElem? (i := 22) rfl)
theorem kw_11_23 : Cond.code yX5_clearDraft cX5_clearDraft 2 (some .int) ∈ wsL_law := wc_11 _ (List.mem_of_getElem? (i := 23) rfl)
theorem wc_12 : ∀ w ∈ wsL_law0_r12, w ∈ wsL_law := fun _ h => List.mem_append_left _ (List.mem_append_left _ (List.mem_append_left _ (List.mem_append_left _ (List.mem_append_left _ (List.mem_append_left _ (List.mem_append_left _ (List.mem_append_left _ (List.mem_append_left _ (List.mem_append_left _ (List.mem_append_left _ (List.mem_append_right _ (List.mem_append_right _ (List.mem_append_right _ (List.mem_append_right _ (List.mem_append_right _ (List.mem_append_right _ (List.mem_append_right _ (List.mem_append_right _ (List.mem_append_right _ (List.mem_append_right _ (List.mem_append_right _ (List.mem_append_left _ h))))))))))))))))))))))
theorem kw_12_0 : Cond.instanceMethod yX3_empty ∈ wsL_law := wc_12 _ (List.mem_of_getElem? (i := 0) rfl)
theorem kw_12_1 : Cond.selects RX3 yX3_empty yX3_empty ∈ wsL_law := wc_12 _ (List.mem_of_getElem? (i := 1) rfl)
theorem kw_12_2 : Cond.code yX3_empty cX3_empty 1 none ∈ wsL_law := wc_12 _ (List.mem_of_getElem? (i := 2) rfl)
theorem kw_12_3 : Cond.methodLink RL 112 yX6_clearDraft ∈ wsL_law := wc_12 _ (List.mem_of_getElem? (i := 3) rfl)
theorem kw_12_4 : Cond.instanceMethod yX6_clearDraft ∈ wsL_law := wc_12 _ (List.mem_of_getElem? (i := 4) rfl)
theorem kw_12_5 : Cond.selects RX6 yX6_clearDraft yX6_clearDraft ∈ wsL_law := wc_12 _ (List.mem_of_getElem? (i := 5) rfl)
theorem kw_12_6 : Cond.code yX6_clearDraft cX6_clearDraft 2 (some .int) ∈ wsL_law := wc_12 _ (List.mem_of_getElem? (i := 6) rfl)
theorem kw_12_7 : Cond.methodLink RX6 128 yX6_told ∈ wsL_law := wc_12 _ (List.mem_of_getElem? (i := 7) rfl)
theorem kw_12_8 : Cond.instanceMethod yX6_told ∈ wsL_law := wc_12 _ (List.mem_of_getElem? (i := 8) rfl)
theorem kw_12_9 : Cond.selects RX6 yX6_told yX6_told ∈ wsL_law := wc_12 _ (List.mem_of_getElem? (i := 9) rfl)
theorem kw_12_10 : Cond.code yX6_told cX6_told 2 (some .int) ∈ wsL_law := wc_12 _ (List.mem_of_getElem? (i := 10) rfl)
theorem kw_12_11 : Cond.methodLink RL 113 yX5_draftSlits ∈ wsL_law := wc_12 _ (List.mem_of_getElem? (i := 11) rfl)
theorem kw_12_12 : Cond.instanceMethod yX5_draftSlits ∈ wsL_law := wc_12 _ (List.mem_of_getElem? (i := 12) rfl)
theorem kw_12_13 : Cond.selects RX5 yX5_draftSlits yX5_draftSlits ∈ wsL_law := wc_12 _ (List.mem_of_getElem? (i := 13) rfl)
theorem kw_12_14 : Cond.code yX5_draftSlits cX5_draftSlits 1 (some .int) ∈ wsL_law := wc_12 _ (List.mem_of_getElem? (i := 14) rfl)
theorem kw_12_15 : Cond.methodLink RL 116 yX6_draftSlits ∈ wsL_law := wc_12 _ (List.mem_of_getElem? (i := 15) rfl)
theorem kw_12_16 : Cond.instanceMethod yX6_draftSlits ∈ wsL_law := wc_12 _ (List.mem_of_getElem? (i := 16) rfl)
theorem kw_12_17 : Cond.selects RX6 yX6_draftSlits yX6_draftSlits ∈ wsL_law := wc_12 _ (List.mem_of_getElem? (i := 17) rfl)
theorem kw_12_18 : Cond.code yX6_draftSlits cX6_draftSlits 1 (some .int) ∈ wsL_law := wc_12 _ (List.mem_of_getElem? (i := 18) rfl)
theorem kw_12_19 : Cond.methodLink RL 117 yL_draftWidth ∈ wsL_law := wc_12 _ (List.mem_of_getElem? (i := 19) rfl)
theorem kw_12_20 : Cond.static yL_draftWidth ∈ wsL_law := wc_12 _ (List.mem_of_getElem? (i := 20) rfl)
theorem kw_12_21 : Cond.codeWith yL_draftWidth cL_draftWidth 4 (some .int) [(0, 9, 12, 21)] ∈ wsL_law := wc_12 _ (List.mem_of_getElem? (i := 21) rfl)
theorem kw_12_22 : Cond.methodLink RL 34 yX5_draftWidth ∈ wsL_law := wc_12 _ (List.mem_of_getElem? (i := 22) rfl)
theorem kw_12_23 : Cond.instanceMethod yX5_draftWidth ∈ wsL_law := wc_12 _ (List.mem_of_getElem? (i := 23) rfl)
theorem wc_13 : ∀ w ∈ wsL_law0_r13, w ∈ wsL_law := fun _ h => List.mem_append_left _ (List.mem_append_left _ (List.mem_append_left _ (List.mem_append_left _ (List.mem_append_left _ (List.mem_append_left _ (List.mem_append_left _ (List.mem_append_left _ (List.mem_append_left _ (List.mem_append_left _ (List.mem_append_left _ (List.mem_append_right _ (List.mem_append_right _ (List.mem_append_right _ (List.mem_append_right _ (List.mem_append_right _ (List.mem_append_right _ (List.mem_append_right _ (List.mem_append_right _ (List.mem_append_right _ (List.mem_append_right _ (List.mem_append_right _ (List.mem_append_right _ (List.mem_append_left _ h)))))))))))))))))))))))
theorem kw_13_0 : Cond.selects RX5 yX5_draftWidth yX5_draftWidth ∈ wsL_law := wc_13 _ (List.mem_of_getElem? (i := 0) rfl)
theorem kw_13_1 : Cond.code yX5_draftWidth cX5_draftWidth 2 (some .int) ∈ wsL_law := wc_13 _ (List.mem_of_getElem? (i := 1) rfl)
theorem kw_13_2 : Cond.instanceMethod yX3_hasSlitAt ∈ wsL_law := wc_13 _ (List.mem_of_getElem? (i := 2) rfl)
theorem kw_13_3 : Cond.selects RX3 yX3_hasSlitAt yX3_hasSlitAt ∈ wsL_law := wc_13 _ (List.mem_of_getElem? (i := 3) rfl)
theorem kw_13_4 : Cond.code yX3_hasSlitAt cX3_hasSlitAt 2 (some .boolean) ∈ wsL_law := wc_13 _ (List.mem_of_getElem? (i := 4) rfl)
theorem kw_13_5 : Cond.methodLink RL 119 yX6_draftWidth ∈ wsL_law := wc_13 _ (List.mem_of_getElem? (i := 5) rfl)
theorem kw_13_6 : Cond.instanceMethod yX6_draftWidth ∈ wsL_law := wc_13 _ (List.mem_of_getElem? (i := 6) rfl)
theorem kw_13_7 : Cond.selects RX6 yX6_draftWidth yX6_draftWidth ∈ wsL_law := wc_13 _ (List.mem_of_getElem? (i := 7) rfl)
theorem kw_13_8 : Cond.code yX6_draftWidth cX6_draftWidth 2 (some .int) ∈ wsL_law := wc_13 _ (List.mem_of_getElem? (i := 8) rfl)
theorem kw_13_9 : Cond.methodLink RL 120 yL_keep ∈ wsL_law := wc_13 _ (List.mem_of_getElem? (i := 9) rfl)
theorem kw_13_10 : Cond.static yL_keep ∈ wsL_law := wc_13 _ (List.mem_of_getElem? (i := 10) rfl)
theorem kw_13_11 : Cond.codeWith yL_keep cL_keep 3 (some .int) [(0, 8, 11, 15)] ∈ wsL_law := wc_13 _ (List.mem_of_getElem? (i := 11) rfl)
theorem kw_13_12 : Cond.methodLink RL 37 yX5_keep ∈ wsL_law := wc_13 _ (List.mem_of_getElem? (i := 12) rfl)
theorem kw_13_13 : Cond.instanceMethod yX5_keep ∈ wsL_law := wc_13 _ (List.mem_of_getElem? (i := 13) rfl)
theorem kw_13_14 : Cond.selects RX5 yX5_keep yX5_keep ∈ wsL_law := wc_13 _ (List.mem_of_getElem? (i := 14) rfl)
theorem kw_13_15 : Cond.code yX5_keep cX5_keep 1 (some .int) ∈ wsL_law := wc_13 _ (List.mem_of_getElem? (i := 15) rfl)
theorem kw_13_16 : Cond.instanceMethod yX3_becomeCopyOf ∈ wsL_law := wc_13 _ (List.mem_of_getElem? (i := 16) rfl)
theorem kw_13_17 : Cond.selects RX3 yX3_becomeCopyOf yX3_becomeCopyOf ∈ wsL_law := wc_13 _ (List.mem_of_getElem? (i := 17) rfl)
theorem kw_13_18 : Cond.code yX3_becomeCopyOf cX3_becomeCopyOf 3 none ∈ wsL_law := wc_13 _ (List.mem_of_getElem? (i := 18) rfl)
theorem kw_13_19 : Cond.methodLink RX3 23 yX3_empty ∈ wsL_law := wc_13 _ (List.mem_of_getElem? (i := 19) rfl)
theorem kw_13_20 : Cond.methodLink RX3 26 yX3_append ∈ wsL_law := wc_13 _ (List.mem_of_getElem? (i := 20) rfl)
theorem kw_13_21 : Cond.methodLink RL 123 yX6_keep ∈ wsL_law := wc_13 _ (List.mem_of_getElem? (i := 21) rfl)
theorem kw_13_22 : Cond.instanceMethod yX6_keep ∈ wsL_law := wc_13 _ (List.mem_of_getElem? (i := 22) rfl)
theorem kw_13_23 : Cond.selects RX6 yX6_keep yX6_keep ∈ wsL_law := wc_13 _ (List.mem_of_getElem? (i := 23) rfl)
theorem wc_14 : ∀ w ∈ wsL_law0_r14, w ∈ wsL_law := fun _ h => List.mem_append_left _ (List.mem_append_left _ (List.mem_append_left _ (List.mem_append_left _ (List.mem_append_left _ (List.mem_append_left _ (List.mem_append_left _ (List.mem_append_left _ (List.mem_append_left _ (List.mem_append_left _ (List.mem_append_left _ (List.mem_append_right _ (List.mem_append_right _ (List.mem_append_right _ (List.mem_append_right _ (List.mem_append_right _ (List.mem_append_right _ (List.mem_append_right _ (List.mem_append_right _ (List.mem_append_right _ (List.mem_append_right _ (List.mem_append_right _ (List.mem_append_right _ (List.mem_append_right _ (List.mem_append_left _ h))))))))))))))))))))))))
theorem kw_14_0 : Cond.code yX6_keep cX6_keep 2 (some .int) ∈ wsL_law := wc_14 _ (List.mem_of_getElem? (i := 0) rfl)
theorem kw_14_1 : Cond.fieldLink RX6 99 "SlittingOfficeModel" "patterns" "I" ∈ wsL_law := wc_14 _ (List.mem_of_getElem? (i := 1) rfl)
theorem kw_14_2 : Cond.methodLink RL 124 yL_fits ∈ wsL_law := wc_14 _ (List.mem_of_getElem? (i := 2) rfl)
theorem kw_14_3 : Cond.static yL_fits ∈ wsL_law := wc_14 _ (List.mem_of_getElem? (i := 3) rfl)
theorem kw_14_4 : Cond.codeWith yL_fits cL_fits 5 (some .int) [(0, 17, 20, 21)] ∈ wsL_law := wc_14 _ (List.mem_of_getElem? (i := 4) rfl)
theorem kw_14_5 : Cond.methodLink RL 41 yX5_fits ∈ wsL_law := wc_14 _ (List.mem_of_getElem? (i := 5) rfl)
theorem kw_14_6 : Cond.instanceMethod yX5_fits ∈ wsL_law := wc_14 _ (List.mem_of_getElem? (i := 6) rfl)
theorem kw_14_7 : Cond.selects RX5 yX5_fits yX5_fits ∈ wsL_law := wc_14 _ (List.mem_of_getElem? (i := 7) rfl)
theorem kw_14_8 : Cond.code yX5_fits cX5_fits 3 (some .boolean) ∈ wsL_law := wc_14 _ (List.mem_of_getElem? (i := 8) rfl)
theorem kw_14_9 : Cond.methodLink RX5 159 yX5_requirePattern ∈ wsL_law := wc_14 _ (List.mem_of_getElem? (i := 9) rfl)
theorem kw_14_10 : Cond.instanceMethod yX5_requirePattern ∈ wsL_law := wc_14 _ (List.mem_of_getElem? (i := 10) rfl)
theorem kw_14_11 : Cond.selects RX5 yX5_requirePattern yX5_requirePattern ∈ wsL_law := wc_14 _ (List.mem_of_getElem? (i := 11) rfl)
theorem kw_14_12 : Cond.code yX5_requirePattern cX5_requirePattern 2 none ∈ wsL_law := wc_14 _ (List.mem_of_getElem? (i := 12) rfl)
theorem kw_14_13 : Cond.methodLink RX5 265 yX5_hasPattern ∈ wsL_law := wc_14 _ (List.mem_of_getElem? (i := 13) rfl)
theorem kw_14_14 : Cond.instanceMethod yX5_hasPattern ∈ wsL_law := wc_14 _ (List.mem_of_getElem? (i := 14) rfl)
theorem kw_14_15 : Cond.selects RX5 yX5_hasPattern yX5_hasPattern ∈ wsL_law := wc_14 _ (List.mem_of_getElem? (i := 15) rfl)
theorem kw_14_16 : Cond.code yX5_hasPattern cX5_hasPattern 2 (some .boolean) ∈ wsL_law := wc_14 _ (List.mem_of_getElem? (i := 16) rfl)
theorem kw_14_17 : Cond.methodLink RX5 162 yX5_canBeCutFrom ∈ wsL_law := wc_14 _ (List.mem_of_getElem? (i := 17) rfl)
theorem kw_14_18 : Cond.instanceMethod yX5_canBeCutFrom ∈ wsL_law := wc_14 _ (List.mem_of_getElem? (i := 18) rfl)
theorem kw_14_19 : Cond.selects RX5 yX5_canBeCutFrom yX5_canBeCutFrom ∈ wsL_law := wc_14 _ (List.mem_of_getElem? (i := 19) rfl)
theorem kw_14_20 : Cond.code yX5_canBeCutFrom cX5_canBeCutFrom 3 (some .boolean) ∈ wsL_law := wc_14 _ (List.mem_of_getElem? (i := 20) rfl)
theorem kw_14_21 : Cond.instanceMethod yX3_totalWidth ∈ wsL_law := wc_14 _ (List.mem_of_getElem? (i := 21) rfl)
theorem kw_14_22 : Cond.selects RX3 yX3_totalWidth yX3_totalWidth ∈ wsL_law := wc_14 _ (List.mem_of_getElem? (i := 22) rfl)
theorem kw_14_23 : Cond.code yX3_totalWidth cX3_totalWidth 3 (some .int) ∈ wsL_law := wc_14 _ (List.mem_of_getElem? (i := 23) rfl)
theorem wc_15 : ∀ w ∈ wsL_law0_r15, w ∈ wsL_law := fun _ h => List.mem_append_left _ (List.mem_append_left _ (List.mem_append_left _ (List.mem_append_left _ (List.mem_append_left _ (List.mem_append_left _ (List.mem_append_left _ (List.mem_append_left _ (List.mem_append_left _ (List.mem_append_left _ (List.mem_append_left _ (List.mem_append_right _ (List.mem_append_right _ (List.mem_append_right _ (List.mem_append_right _ (List.mem_append_right _ (List.mem_append_right _ (List.mem_append_right _ (List.mem_append_right _ (List.mem_append_right _ (List.mem_append_right _ (List.mem_append_right _ (List.mem_append_right _ (List.mem_append_right _ (List.mem_append_right _ (List.mem_append_left _ h)))))))))))))))))))))))))
theorem kw_15_0 : Cond.methodLink RX5 170 yX5_roomOf ∈ wsL_law := wc_15 _ (List.mem_of_getElem? (i := 0) rfl)
theorem kw_15_1 : Cond.instanceMethod yX5_roomOf ∈ wsL_law := wc_15 _ (List.mem_of_getElem? (i := 1) rfl)
theorem kw_15_2 : Cond.selects RX5 yX5_roomOf yX5_roomOf ∈ wsL_law := wc_15 _ (List.mem_of_getElem? (i := 2) rfl)
theorem kw_15_3 : Cond.code yX5_roomOf cX5_roomOf 2 (some .int) ∈ wsL_law := wc_15 _ (List.mem_of_getElem? (i := 3) rfl)
theorem kw_15_4 : Cond.instanceMethod yX3_knivesNeeded ∈ wsL_law := wc_15 _ (List.mem_of_getElem? (i := 4) rfl)
theorem kw_15_5 : Cond.selects RX3 yX3_knivesNeeded yX3_knivesNeeded ∈ wsL_law := wc_15 _ (List.mem_of_getElem? (i := 5) rfl)
theorem kw_15_6 : Cond.code yX3_knivesNeeded cX3_knivesNeeded 1 (some .int) ∈ wsL_law := wc_15 _ (List.mem_of_getElem? (i := 6) rfl)
theorem kw_15_7 : Cond.methodLink RL 126 yX6_fits ∈ wsL_law := wc_15 _ (List.mem_of_getElem? (i := 7) rfl)
theorem kw_15_8 : Cond.instanceMethod yX6_fits ∈ wsL_law := wc_15 _ (List.mem_of_getElem? (i := 8) rfl)
theorem kw_15_9 : Cond.selects RX6 yX6_fits yX6_fits ∈ wsL_law := wc_15 _ (List.mem_of_getElem? (i := 9) rfl)
theorem kw_15_10 : Cond.code yX6_fits cX6_fits 3 (some .boolean) ∈ wsL_law := wc_15 _ (List.mem_of_getElem? (i := 10) rfl)
theorem kw_15_11 : Cond.methodLink RX6 131 yX6_isPattern ∈ wsL_law := wc_15 _ (List.mem_of_getElem? (i := 11) rfl)
theorem kw_15_12 : Cond.instanceMethod yX6_isPattern ∈ wsL_law := wc_15 _ (List.mem_of_getElem? (i := 12) rfl)
theorem kw_15_13 : Cond.selects RX6 yX6_isPattern yX6_isPattern ∈ wsL_law := wc_15 _ (List.mem_of_getElem? (i := 13) rfl)
theorem kw_15_14 : Cond.code yX6_isPattern cX6_isPattern 2 (some .boolean) ∈ wsL_law := wc_15 _ (List.mem_of_getElem? (i := 14) rfl)
theorem kw_15_15 : Cond.methodLink RX6 134 yX6_canRun ∈ wsL_law := wc_15 _ (List.mem_of_getElem? (i := 15) rfl)
theorem kw_15_16 : Cond.instanceMethod yX6_canRun ∈ wsL_law := wc_15 _ (List.mem_of_getElem? (i := 16) rfl)
theorem kw_15_17 : Cond.selects RX6 yX6_canRun yX6_canRun ∈ wsL_law := wc_15 _ (List.mem_of_getElem? (i := 17) rfl)
theorem kw_15_18 : Cond.code yX6_canRun cX6_canRun 5 (some .boolean) ∈ wsL_law := wc_15 _ (List.mem_of_getElem? (i := 18) rfl)
theorem kw_15_19 : Cond.methodLink RL 127 yL_fill ∈ wsL_law := wc_15 _ (List.mem_of_getElem? (i := 19) rfl)
theorem kw_15_20 : Cond.static yL_fill ∈ wsL_law := wc_15 _ (List.mem_of_getElem? (i := 20) rfl)
theorem kw_15_21 : Cond.codeWith yL_fill cL_fill 4 (some .int) [(0, 9, 12, 21)] ∈ wsL_law := wc_15 _ (List.mem_of_getElem? (i := 21) rfl)
theorem kw_15_22 : Cond.methodLink RL 45 yX5_fill ∈ wsL_law := wc_15 _ (List.mem_of_getElem? (i := 22) rfl)
theorem kw_15_23 : Cond.instanceMethod yX5_fill ∈ wsL_law := wc_15 _ (List.mem_of_getElem? (i := 23) rfl)
theorem wc_16 : ∀ w ∈ wsL_law0_r16, w ∈ wsL_law := fun _ h => List.mem_append_left _ (List.mem_append_left _ (List.mem_append_left _ (List.mem_append_left _ (List.mem_append_left _ (List.mem_append_left _ (List.mem_append_left _ (List.mem_append_left _ (List.mem_append_left _ (List.mem_append_left _ (List.mem_append_left _ (List.mem_append_right _ (List.mem_append_right _ (List.mem_append_right _ (List.mem_append_right _ (List.mem_append_right _ (List.mem_append_right _ (List.mem_append_right _ (List.mem_append_right _ (List.mem_append_right _ (List.mem_append_right _ (List.mem_append_right _ (List.mem_append_right _ (List.mem_append_right _ (List.mem_append_right _ (List.mem_append_right _ (List.mem_append_left _ h))))))))))))))))))))))))))
theorem kw_16_0 : Cond.selects RX5 yX5_fill yX5_fill ∈ wsL_law := wc_16 _ (List.mem_of_getElem? (i := 0) rfl)
theorem kw_16_1 : Cond.code yX5_fill cX5_fill 3 (some .int) ∈ wsL_law := wc_16 _ (List.mem_of_getElem? (i := 1) rfl)
theorem kw_16_2 : Cond.methodLink RX5 166 yX5_offerWidthsFor ∈ wsL_law := wc_16 _ (List.mem_of_getElem? (i := 2) rfl)
theorem kw_16_3 : Cond.instanceMethod yX5_offerWidthsFor ∈ wsL_law := wc_16 _ (List.mem_of_getElem? (i := 3) rfl)
theorem kw_16_4 : Cond.selects RX5 yX5_offerWidthsFor yX5_offerWidthsFor ∈ wsL_law := wc_16 _ (List.mem_of_getElem? (i := 4) rfl)
theorem kw_16_5 : Cond.code yX5_offerWidthsFor cX5_offerWidthsFor 3 none ∈ wsL_law := wc_16 _ (List.mem_of_getElem? (i := 5) rfl)
theorem kw_16_6 : Cond.instanceMethod yX1_forgetWidths ∈ wsL_law := wc_16 _ (List.mem_of_getElem? (i := 6) rfl)
theorem kw_16_7 : Cond.selects RX1 yX1_forgetWidths yX1_forgetWidths ∈ wsL_law := wc_16 _ (List.mem_of_getElem? (i := 7) rfl)
theorem kw_16_8 : Cond.code yX1_forgetWidths cX1_forgetWidths 1 none ∈ wsL_law := wc_16 _ (List.mem_of_getElem? (i := 8) rfl)
theorem kw_16_9 : Cond.instanceMethod yX2_wouldTakeHeat ∈ wsL_law := wc_16 _ (List.mem_of_getElem? (i := 9) rfl)
theorem kw_16_10 : Cond.selects RX2 yX2_wouldTakeHeat yX2_wouldTakeHeat ∈ wsL_law := wc_16 _ (List.mem_of_getElem? (i := 10) rfl)
theorem kw_16_11 : Cond.code yX2_wouldTakeHeat cX2_wouldTakeHeat 2 (some .boolean) ∈ wsL_law := wc_16 _ (List.mem_of_getElem? (i := 11) rfl)
theorem kw_16_12 : Cond.instanceMethod yX1_offerWidth ∈ wsL_law := wc_16 _ (List.mem_of_getElem? (i := 12) rfl)
theorem kw_16_13 : Cond.selects RX1 yX1_offerWidth yX1_offerWidth ∈ wsL_law := wc_16 _ (List.mem_of_getElem? (i := 13) rfl)
theorem kw_16_14 : Cond.code yX1_offerWidth cX1_offerWidth 5 none ∈ wsL_law := wc_16 _ (List.mem_of_getElem? (i := 14) rfl)
theorem kw_16_15 : Cond.instanceMethod yX1_greatestTotal ∈ wsL_law := wc_16 _ (List.mem_of_getElem? (i := 15) rfl)
theorem kw_16_16 : Cond.selects RX1 yX1_greatestTotal yX1_greatestTotal ∈ wsL_law := wc_16 _ (List.mem_of_getElem? (i := 16) rfl)
theorem kw_16_17 : Cond.code yX1_greatestTotal cX1_greatestTotal 5 (some .int) ∈ wsL_law := wc_16 _ (List.mem_of_getElem? (i := 17) rfl)
theorem kw_16_18 : Cond.methodLink RX1 22 yX1_fewestSlitsFor ∈ wsL_law := wc_16 _ (List.mem_of_getElem? (i := 18) rfl)
theorem kw_16_19 : Cond.instanceMethod yX1_fewestSlitsFor ∈ wsL_law := wc_16 _ (List.mem_of_getElem? (i := 19) rfl)
theorem kw_16_20 : Cond.selects RX1 yX1_fewestSlitsFor yX1_fewestSlitsFor ∈ wsL_law := wc_16 _ (List.mem_of_getElem? (i := 20) rfl)
theorem kw_16_21 : Cond.code yX1_fewestSlitsFor cX1_fewestSlitsFor 4 (some .int) ∈ wsL_law := wc_16 _ (List.mem_of_getElem? (i := 21) rfl)
theorem kw_16_22 : Cond.methodLink RX1 26 Lib.Math.min.name ∈ wsL_law := wc_16 _ (List.mem_of_getElem? (i := 22) rfl)
theorem kw_16_23 : Cond.static Lib.Math.min.name ∈ wsL_law := wc_16 _ (List.mem_of_getElem? (i := 23) rfl)
theorem wc_17 : ∀ w ∈ wsL_law0_r17, w ∈ wsL_law := fun _ h => List.mem_append_left _ (List.mem_append_left _ (List.mem_append_left _ (List.mem_append_left _ (List.mem_append_left _ (List.mem_append_left _ (List.mem_append_left _ (List.mem_append_left _ (List.mem_append_left _ (List.mem_append_left _ (List.mem_append_left _ (List.mem_append_right _ (List.mem_append_right _ (List.mem_append_right _ (List.mem_append_right _ (List.mem_append_right _ (List.mem_append_right _ (List.mem_append_right _ (List.mem_append_right _ (List.mem_append_right _ (List.mem_append_right _ (List.mem_append_right _ (List.mem_append_right _ (List.mem_append_right _ (List.mem_append_right _ (List.mem_append_right _ (List.mem_append_right _ (List.mem_append_left _ h)))))))))))))))))))))))))))
theorem kw_17_0 : Cond.code Lib.Math.min.name Lib.Math.min.code 2 (some .int) ∈ wsL_law := wc_17 _ (List.mem_of_getElem? (i := 0) rfl)
theorem kw_17_1 : Cond.instanceMethod yX1_layOut ∈ wsL_law := wc_17 _ (List.mem_of_getElem? (i := 1) rfl)
theorem kw_17_2 : Cond.selects RX1 yX1_layOut yX1_layOut ∈ wsL_law := wc_17 _ (List.mem_of_getElem? (i := 2) rfl)
theorem kw_17_3 : Cond.code yX1_layOut cX1_layOut 6 none ∈ wsL_law := wc_17 _ (List.mem_of_getElem? (i := 3) rfl)
theorem kw_17_4 : Cond.methodLink RX1 37 yX1_greatestBefore ∈ wsL_law := wc_17 _ (List.mem_of_getElem? (i := 4) rfl)
theorem kw_17_5 : Cond.instanceMethod yX1_greatestBefore ∈ wsL_law := wc_17 _ (List.mem_of_getElem? (i := 5) rfl)
theorem kw_17_6 : Cond.selects RX1 yX1_greatestBefore yX1_greatestBefore ∈ wsL_law := wc_17 _ (List.mem_of_getElem? (i := 6) rfl)
theorem kw_17_7 : Cond.code yX1_greatestBefore cX1_greatestBefore 4 (some .int) ∈ wsL_law := wc_17 _ (List.mem_of_getElem? (i := 7) rfl)
theorem kw_17_8 : Cond.methodLink RL 129 yX6_fill ∈ wsL_law := wc_17 _ (List.mem_of_getElem? (i := 8) rfl)
theorem kw_17_9 : Cond.instanceMethod yX6_fill ∈ wsL_law := wc_17 _ (List.mem_of_getElem? (i := 9) rfl)
theorem kw_17_10 : Cond.selects RX6 yX6_fill yX6_fill ∈ wsL_law := wc_17 _ (List.mem_of_getElem? (i := 10) rfl)
theorem kw_17_11 : Cond.code yX6_fill cX6_fill 7 (some .int) ∈ wsL_law := wc_17 _ (List.mem_of_getElem? (i := 11) rfl)
theorem kw_17_12 : Cond.methodLink RX6 141 yX6_fullest ∈ wsL_law := wc_17 _ (List.mem_of_getElem? (i := 12) rfl)
theorem kw_17_13 : Cond.instanceMethod yX6_fullest ∈ wsL_law := wc_17 _ (List.mem_of_getElem? (i := 13) rfl)
theorem kw_17_14 : Cond.selects RX6 yX6_fullest yX6_fullest ∈ wsL_law := wc_17 _ (List.mem_of_getElem? (i := 14) rfl)
theorem kw_17_15 : Cond.code yX6_fullest cX6_fullest 6 (some .int) ∈ wsL_law := wc_17 _ (List.mem_of_getElem? (i := 15) rfl)
theorem kw_17_16 : Cond.methodLink RX6 138 yX6_takes ∈ wsL_law := wc_17 _ (List.mem_of_getElem? (i := 16) rfl)
theorem kw_17_17 : Cond.instanceMethod yX6_takes ∈ wsL_law := wc_17 _ (List.mem_of_getElem? (i := 17) rfl)
theorem kw_17_18 : Cond.selects RX6 yX6_takes yX6_takes ∈ wsL_law := wc_17 _ (List.mem_of_getElem? (i := 18) rfl)
theorem kw_17_19 : Cond.code yX6_takes cX6_takes 3 (some .boolean) ∈ wsL_law := wc_17 _ (List.mem_of_getElem? (i := 19) rfl)
theorem kw_17_20 : Cond.methodLink RL 130 yL_fullestByTrying ∈ wsL_law := wc_17 _ (List.mem_of_getElem? (i := 20) rfl)
theorem kw_17_21 : Cond.static yL_fullestByTrying ∈ wsL_law := wc_17 _ (List.mem_of_getElem? (i := 21) rfl)
theorem kw_17_22 : Cond.codeWith yL_fullestByTrying cL_fullestByTrying 4 (some .int) [(0, 9, 12, 21), (0, 9, 15, 15)] ∈ wsL_law := wc_17 _ (List.mem_of_getElem? (i := 22) rfl)
theorem kw_17_23 : Cond.methodLink RL 48 yX5_fullestByTrying ∈ wsL_law := wc_17 _ (List.mem_of_getElem? (i := 23) rfl)
theorem wc_18 : ∀ w ∈ wsL_law0_r18, w ∈ wsL_law := fun _ h => List.mem_append_left _ (List.mem_append_left _ (List.mem_append_left _ (List.mem_append_left _ (List.mem_append_left _ (List.mem_append_left _ (List.mem_append_left _ (List.mem_append_left _ (List.mem_append_left _ (List.mem_append_left _ (List.mem_append_left _ (List.mem_append_right _ (List.mem_append_right _ (List.mem_append_right _ (List.mem_append_right _ (List.mem_append_right _ (List.mem_append_right _ (List.mem_append_right _ (List.mem_append_right _ (List.mem_append_right _ (List.mem_append_right _ (List.mem_append_right _ (List.mem_append_right _ (List.mem_append_right _ (List.mem_append_right _ (List.mem_append_right _ (List.mem_append_right _ (List.mem_append_right _ (List.mem_append_left _ h))))))))))))))))))))))))))))
theorem kw_18_0 : Cond.instanceMethod yX5_fullestByTrying ∈ wsL_law := wc_18 _ (List.mem_of_getElem? (i := 0) rfl)
theorem kw_18_1 : Cond.selects RX5 yX5_fullestByTrying yX5_fullestByTrying ∈ wsL_law := wc_18 _ (List.mem_of_getElem? (i := 1) rfl)
theorem kw_18_2 : Cond.code yX5_fullestByTrying cX5_fullestByTrying 2 (some .int) ∈ wsL_law := wc_18 _ (List.mem_of_getElem? (i := 2) rfl)
theorem kw_18_3 : Cond.instanceMethod yX1_greatestTotalByTrying ∈ wsL_law := wc_18 _ (List.mem_of_getElem? (i := 3) rfl)
theorem kw_18_4 : Cond.selects RX1 yX1_greatestTotalByTrying yX1_greatestTotalByTrying ∈ wsL_law := wc_18 _ (List.mem_of_getElem? (i := 4) rfl)
theorem kw_18_5 : Cond.code yX1_greatestTotalByTrying cX1_greatestTotalByTrying 3 (some .int) ∈ wsL_law := wc_18 _ (List.mem_of_getElem? (i := 5) rfl)
theorem kw_18_6 : Cond.methodLink RX1 44 yX1_tryFrom ∈ wsL_law := wc_18 _ (List.mem_of_getElem? (i := 6) rfl)
theorem kw_18_7 : Cond.static yX1_tryFrom ∈ wsL_law := wc_18 _ (List.mem_of_getElem? (i := 7) rfl)
theorem kw_18_8 : Cond.code yX1_tryFrom cX1_tryFrom 8 (some .int) ∈ wsL_law := wc_18 _ (List.mem_of_getElem? (i := 8) rfl)
theorem kw_18_9 : Cond.methodLink RX1 48 Lib.Math.max.name ∈ wsL_law := wc_18 _ (List.mem_of_getElem? (i := 9) rfl)
theorem kw_18_10 : Cond.methodLink RL 132 yX6_fullestByTrying ∈ wsL_law := wc_18 _ (List.mem_of_getElem? (i := 10) rfl)
theorem kw_18_11 : Cond.instanceMethod yX6_fullestByTrying ∈ wsL_law := wc_18 _ (List.mem_of_getElem? (i := 11) rfl)
theorem kw_18_12 : Cond.selects RX6 yX6_fullestByTrying yX6_fullestByTrying ∈ wsL_law := wc_18 _ (List.mem_of_getElem? (i := 12) rfl)
theorem kw_18_13 : Cond.code yX6_fullestByTrying cX6_fullestByTrying 3 (some .int) ∈ wsL_law := wc_18 _ (List.mem_of_getElem? (i := 13) rfl)
theorem kw_18_14 : Cond.methodLink RL 133 yL_run ∈ wsL_law := wc_18 _ (List.mem_of_getElem? (i := 14) rfl)
theorem kw_18_15 : Cond.static yL_run ∈ wsL_law := wc_18 _ (List.mem_of_getElem? (i := 15) rfl)
theorem kw_18_16 : Cond.codeWith yL_run cL_run 5 (some .int) [(0, 10, 13, 21), (0, 10, 17, 15)] ∈ wsL_law := wc_18 _ (List.mem_of_getElem? (i := 16) rfl)
theorem kw_18_17 : Cond.methodLink RL 51 yX5_run ∈ wsL_law := wc_18 _ (List.mem_of_getElem? (i := 17) rfl)
theorem kw_18_18 : Cond.instanceMethod yX5_run ∈ wsL_law := wc_18 _ (List.mem_of_getElem? (i := 18) rfl)
theorem kw_18_19 : Cond.selects RX5 yX5_run yX5_run ∈ wsL_law := wc_18 _ (List.mem_of_getElem? (i := 19) rfl)
theorem kw_18_20 : Cond.code yX5_run cX5_run 3 (some .int) ∈ wsL_law := wc_18 _ (List.mem_of_getElem? (i := 20) rfl)
theorem kw_18_21 : Cond.methodLink RX5 187 yX5_canBeRun ∈ wsL_law := wc_18 _ (List.mem_of_getElem? (i := 21) rfl)
theorem kw_18_22 : Cond.instanceMethod yX5_canBeRun ∈ wsL_law := wc_18 _ (List.mem_of_getElem? (i := 22) rfl)
theorem kw_18_23 : Cond.selects RX5 yX5_canBeRun yX5_canBeRun ∈ wsL_law := wc_18 _ (List.mem_of_getElem? (i := 23) rfl)
theorem wc_19 : ∀ w ∈ wsL_law0_r19, w ∈ wsL_law := fun _ h => List.mem_append_left _ (List.mem_append_left _ (List.mem_append_left _ (List.mem_append_left _ (List.mem_append_left _ (List.mem_append_left _ (List.mem_append_left _ (List.mem_append_left _ (List.mem_append_left _ (List.mem_append_left _ (List.mem_append_left _ (List.mem_append_right _ (List.mem_append_right _ (List.mem_append_right _ (List.mem_append_right _ (List.mem_append_right _ (List.mem_append_right _ (List.mem_append_right _ (List.mem_append_right _ (List.mem_append_right _ (List.mem_append_right _ (List.mem_append_right _ (List.mem_append_right _ (List.mem_append_right _ (List.mem_append_right _ (List.mem_append_right _ (List.mem_append_right _ (List.mem_append_right _ (List.mem_append_right _ (List.mem_append_left _ h)))))))))))))))))))))))))))))
theorem kw_19_0 : Cond.code yX5_canBeRun cX5_canBeRun 3 (some .boolean) ∈ wsL_law := wc_19 _ (List.mem_of_getElem? (i := 0) rfl)
theorem kw_19_1 : Cond.methodLink RX5 193 yX5_slitCoil ∈ wsL_law := wc_19 _ (List.mem_of_getElem? (i := 1) rfl)
theorem kw_19_2 : Cond.instanceMethod yX5_slitCoil ∈ wsL_law := wc_19 _ (List.mem_of_getElem? (i := 2) rfl)
theorem kw_19_3 : Cond.selects RX5 yX5_slitCoil yX5_slitCoil ∈ wsL_law := wc_19 _ (List.mem_of_getElem? (i := 3) rfl)
theorem kw_19_4 : Cond.code yX5_slitCoil cX5_slitCoil 3 (some .int) ∈ wsL_law := wc_19 _ (List.mem_of_getElem? (i := 4) rfl)
theorem kw_19_5 : Cond.methodLink RX5 196 yX5_movesBetween ∈ wsL_law := wc_19 _ (List.mem_of_getElem? (i := 5) rfl)
theorem kw_19_6 : Cond.instanceMethod yX5_movesBetween ∈ wsL_law := wc_19 _ (List.mem_of_getElem? (i := 6) rfl)
theorem kw_19_7 : Cond.selects RX5 yX5_movesBetween yX5_movesBetween ∈ wsL_law := wc_19 _ (List.mem_of_getElem? (i := 7) rfl)
theorem kw_19_8 : Cond.code yX5_movesBetween cX5_movesBetween 3 (some .int) ∈ wsL_law := wc_19 _ (List.mem_of_getElem? (i := 8) rfl)
theorem kw_19_9 : Cond.instanceMethod yX3_knivesNotIn ∈ wsL_law := wc_19 _ (List.mem_of_getElem? (i := 9) rfl)
theorem kw_19_10 : Cond.selects RX3 yX3_knivesNotIn yX3_knivesNotIn ∈ wsL_law := wc_19 _ (List.mem_of_getElem? (i := 10) rfl)
theorem kw_19_11 : Cond.code yX3_knivesNotIn cX3_knivesNotIn 5 (some .int) ∈ wsL_law := wc_19 _ (List.mem_of_getElem? (i := 11) rfl)
theorem kw_19_12 : Cond.methodLink RX3 30 yX3_hasKnifeAt ∈ wsL_law := wc_19 _ (List.mem_of_getElem? (i := 12) rfl)
theorem kw_19_13 : Cond.instanceMethod yX3_hasKnifeAt ∈ wsL_law := wc_19 _ (List.mem_of_getElem? (i := 13) rfl)
theorem kw_19_14 : Cond.selects RX3 yX3_hasKnifeAt yX3_hasKnifeAt ∈ wsL_law := wc_19 _ (List.mem_of_getElem? (i := 14) rfl)
theorem kw_19_15 : Cond.code yX3_hasKnifeAt cX3_hasKnifeAt 4 (some .boolean) ∈ wsL_law := wc_19 _ (List.mem_of_getElem? (i := 15) rfl)
theorem kw_19_16 : Cond.instanceMethod yX0_slitBy ∈ wsL_law := wc_19 _ (List.mem_of_getElem? (i := 16) rfl)
theorem kw_19_17 : Cond.selects RX0 yX0_slitBy yX0_slitBy ∈ wsL_law := wc_19 _ (List.mem_of_getElem? (i := 17) rfl)
theorem kw_19_18 : Cond.code yX0_slitBy cX0_slitBy 6 none ∈ wsL_law := wc_19 _ (List.mem_of_getElem? (i := 18) rfl)
theorem kw_19_19 : Cond.methodLink RX0 65 Lib.Math.min.name ∈ wsL_law := wc_19 _ (List.mem_of_getElem? (i := 19) rfl)
theorem kw_19_20 : Cond.methodLink RX0 68 yX0_cutOutLength ∈ wsL_law := wc_19 _ (List.mem_of_getElem? (i := 20) rfl)
theorem kw_19_21 : Cond.methodLink RX0 72 yX0_share ∈ wsL_law := wc_19 _ (List.mem_of_getElem? (i := 21) rfl)
theorem kw_19_22 : Cond.static yX0_share ∈ wsL_law := wc_19 _ (List.mem_of_getElem? (i := 22) rfl)
theorem kw_19_23 : Cond.code yX0_share cX0_share 3 (some .int) ∈ wsL_law := wc_19 _ (List.mem_of_getElem? (i := 23) rfl)
theorem wc_20 : ∀ w ∈ wsL_law0_r20, w ∈ wsL_law := fun _ h => List.mem_append_left _ (List.mem_append_left _ (List.mem_append_left _ (List.mem_append_left _ (List.mem_append_left _ (List.mem_append_left _ (List.mem_append_left _ (List.mem_append_left _ (List.mem_append_left _ (List.mem_append_left _ (List.mem_append_left _ (List.mem_append_right _ (List.mem_append_right _ (List.mem_append_right _ (List.mem_append_right _ (List.mem_append_right _ (List.mem_append_right _ (List.mem_append_right _ (List.mem_append_right _ (List.mem_append_right _ (List.mem_append_right _ (List.mem_append_right _ (List.mem_append_right _ (List.mem_append_right _ (List.mem_append_right _ (List.mem_append_right _ (List.mem_append_right _ (List.mem_append_right _ (List.mem_append_right _ (List.mem_append_right _ (List.mem_append_left _ h))))))))))))))))))))))))))))))
theorem kw_20_0 : Cond.methodLink RX5 299 yX5_deliverSlits ∈ wsL_law := wc_20 _ (List.mem_of_getElem? (i := 0) rfl)
theorem kw_20_1 : Cond.instanceMethod yX5_deliverSlits ∈ wsL_law := wc_20 _ (List.mem_of_getElem? (i := 1) rfl)
theorem kw_20_2 : Cond.selects RX5 yX5_deliverSlits yX5_deliverSlits ∈ wsL_law := wc_20 _ (List.mem_of_getElem? (i := 2) rfl)
theorem kw_20_3 : Cond.code yX5_deliverSlits cX5_deliverSlits 5 (some .int) ∈ wsL_law := wc_20 _ (List.mem_of_getElem? (i := 3) rfl)
theorem kw_20_4 : Cond.methodLink RX5 305 yX5_takerOf ∈ wsL_law := wc_20 _ (List.mem_of_getElem? (i := 4) rfl)
theorem kw_20_5 : Cond.instanceMethod yX5_takerOf ∈ wsL_law := wc_20 _ (List.mem_of_getElem? (i := 5) rfl)
theorem kw_20_6 : Cond.selects RX5 yX5_takerOf yX5_takerOf ∈ wsL_law := wc_20 _ (List.mem_of_getElem? (i := 6) rfl)
theorem kw_20_7 : Cond.code yX5_takerOf cX5_takerOf 4 (some .int) ∈ wsL_law := wc_20 _ (List.mem_of_getElem? (i := 7) rfl)
theorem kw_20_8 : Cond.instanceMethod yX2_receive ∈ wsL_law := wc_20 _ (List.mem_of_getElem? (i := 8) rfl)
theorem kw_20_9 : Cond.selects RX2 yX2_receive yX2_receive ∈ wsL_law := wc_20 _ (List.mem_of_getElem? (i := 9) rfl)
theorem kw_20_10 : Cond.code yX2_receive cX2_receive 3 none ∈ wsL_law := wc_20 _ (List.mem_of_getElem? (i := 10) rfl)
theorem kw_20_11 : Cond.methodLink RL 135 yX6_run ∈ wsL_law := wc_20 _ (List.mem_of_getElem? (i := 11) rfl)
theorem kw_20_12 : Cond.instanceMethod yX6_run ∈ wsL_law := wc_20 _ (List.mem_of_getElem? (i := 12) rfl)
theorem kw_20_13 : Cond.selects RX6 yX6_run yX6_run ∈ wsL_law := wc_20 _ (List.mem_of_getElem? (i := 13) rfl)
theorem kw_20_14 : Cond.code yX6_run cX6_run 4 (some .int) ∈ wsL_law := wc_20 _ (List.mem_of_getElem? (i := 14) rfl)
theorem kw_20_15 : Cond.methodLink RX6 154 yX6_runs ∈ wsL_law := wc_20 _ (List.mem_of_getElem? (i := 15) rfl)
theorem kw_20_16 : Cond.instanceMethod yX6_runs ∈ wsL_law := wc_20 _ (List.mem_of_getElem? (i := 16) rfl)
theorem kw_20_17 : Cond.selects RX6 yX6_runs yX6_runs ∈ wsL_law := wc_20 _ (List.mem_of_getElem? (i := 17) rfl)
theorem kw_20_18 : Cond.code yX6_runs cX6_runs 14 (some .int) ∈ wsL_law := wc_20 _ (List.mem_of_getElem? (i := 18) rfl)
theorem kw_20_19 : Cond.fieldLink RX6 147 "SlittingOfficeModel" "moved" "I" ∈ wsL_law := wc_20 _ (List.mem_of_getElem? (i := 19) rfl)
theorem kw_20_20 : Cond.methodLink RX6 150 yX6_movesFrom ∈ wsL_law := wc_20 _ (List.mem_of_getElem? (i := 20) rfl)
theorem kw_20_21 : Cond.instanceMethod yX6_movesFrom ∈ wsL_law := wc_20 _ (List.mem_of_getElem? (i := 21) rfl)
theorem kw_20_22 : Cond.selects RX6 yX6_movesFrom yX6_movesFrom ∈ wsL_law := wc_20 _ (List.mem_of_getElem? (i := 22) rfl)
theorem kw_20_23 : Cond.code yX6_movesFrom cX6_movesFrom 6 (some .int) ∈ wsL_law := wc_20 _ (List.mem_of_getElem? (i := 23) rfl)
theorem wc_21 : ∀ w ∈ wsL_law0_r21, w ∈ wsL_law := fun _ h => List.mem_append_left _ (List.mem_append_left _ (List.mem_append_left _ (List.mem_append_left _ (List.mem_append_left _ (List.mem_append_left _ (List.mem_append_left _ (List.mem_append_left _ (List.mem_append_left _ (List.mem_append_left _ (List.mem_append_left _ (List.mem_append_right _ (List.mem_append_right _ (List.mem_append_right _ (List.mem_append_right _ (List.mem_append_right _ (List.mem_append_right _ (List.mem_append_right _ (List.mem_append_right _ (List.mem_append_right _ (List.mem_append_right _ (List.mem_append_right _ (List.mem_append_right _ (List.mem_append_right _ (List.mem_append_right _ (List.mem_append_right _ (List.mem_append_right _ (List.mem_append_right _ (List.mem_append_right _ (List.mem_append_right _ (List.mem_append_right _ (List.mem_append_left _ h)))))))))))))))))))))))))))))))
theorem kw_21_0 : Cond.methodLink RX6 144 yX6_isPosition ∈ wsL_law := wc_21 _ (List.mem_of_getElem? (i := 0) rfl)
theorem kw_21_1 : Cond.instanceMethod yX6_isPosition ∈ wsL_law := wc_21 _ (List.mem_of_getElem? (i := 1) rfl)
theorem kw_21_2 : Cond.selects RX6 yX6_isPosition yX6_isPosition ∈ wsL_law := wc_21 _ (List.mem_of_getElem? (i := 2) rfl)
theorem kw_21_3 : Cond.code yX6_isPosition cX6_isPosition 6 (some .boolean) ∈ wsL_law := wc_21 _ (List.mem_of_getElem? (i := 3) rfl)
theorem kw_21_4 : Cond.methodLink RL 136 yL_moves ∈ wsL_law := wc_21 _ (List.mem_of_getElem? (i := 4) rfl)
theorem kw_21_5 : Cond.static yL_moves ∈ wsL_law := wc_21 _ (List.mem_of_getElem? (i := 5) rfl)
theorem kw_21_6 : Cond.codeWith yL_moves cL_moves 4 (some .int) [(0, 9, 12, 21)] ∈ wsL_law := wc_21 _ (List.mem_of_getElem? (i := 6) rfl)
theorem kw_21_7 : Cond.methodLink RL 54 yX5_moves ∈ wsL_law := wc_21 _ (List.mem_of_getElem? (i := 7) rfl)
theorem kw_21_8 : Cond.instanceMethod yX5_moves ∈ wsL_law := wc_21 _ (List.mem_of_getElem? (i := 8) rfl)
theorem kw_21_9 : Cond.selects RX5 yX5_moves yX5_moves ∈ wsL_law := wc_21 _ (List.mem_of_getElem? (i := 9) rfl)
theorem kw_21_10 : Cond.code yX5_moves cX5_moves 2 (some .int) ∈ wsL_law := wc_21 _ (List.mem_of_getElem? (i := 10) rfl)
theorem kw_21_11 : Cond.methodLink RL 138 yX6_moves ∈ wsL_law := wc_21 _ (List.mem_of_getElem? (i := 11) rfl)
theorem kw_21_12 : Cond.instanceMethod yX6_moves ∈ wsL_law := wc_21 _ (List.mem_of_getElem? (i := 12) rfl)
theorem kw_21_13 : Cond.selects RX6 yX6_moves yX6_moves ∈ wsL_law := wc_21 _ (List.mem_of_getElem? (i := 13) rfl)
theorem kw_21_14 : Cond.code yX6_moves cX6_moves 2 (some .int) ∈ wsL_law := wc_21 _ (List.mem_of_getElem? (i := 14) rfl)
theorem kw_21_15 : Cond.methodLink RL 139 yX5_moved ∈ wsL_law := wc_21 _ (List.mem_of_getElem? (i := 15) rfl)
theorem kw_21_16 : Cond.instanceMethod yX5_moved ∈ wsL_law := wc_21 _ (List.mem_of_getElem? (i := 16) rfl)
theorem kw_21_17 : Cond.selects RX5 yX5_moved yX5_moved ∈ wsL_law := wc_21 _ (List.mem_of_getElem? (i := 17) rfl)
theorem kw_21_18 : Cond.code yX5_moved cX5_moved 1 (some .int) ∈ wsL_law := wc_21 _ (List.mem_of_getElem? (i := 18) rfl)
theorem kw_21_19 : Cond.methodLink RL 142 yX6_moved ∈ wsL_law := wc_21 _ (List.mem_of_getElem? (i := 19) rfl)
theorem kw_21_20 : Cond.instanceMethod yX6_moved ∈ wsL_law := wc_21 _ (List.mem_of_getElem? (i := 20) rfl)
theorem kw_21_21 : Cond.selects RX6 yX6_moved yX6_moved ∈ wsL_law := wc_21 _ (List.mem_of_getElem? (i := 21) rfl)
theorem kw_21_22 : Cond.code yX6_moved cX6_moved 1 (some .int) ∈ wsL_law := wc_21 _ (List.mem_of_getElem? (i := 22) rfl)
theorem kw_21_23 : Cond.methodLink RL 143 yL_plan ∈ wsL_law := wc_21 _ (List.mem_of_getElem? (i := 23) rfl)
theorem wc_22 : ∀ w ∈ wsL_law0_r22, w ∈ wsL_law := fun _ h => List.mem_append_left _ (List.mem_append_left _ (List.mem_append_left _ (List.mem_append_left _ (List.mem_append_left _ (List.mem_append_left _ (List.mem_append_left _ (List.mem_append_left _ (List.mem_append_left _ (List.mem_append_left _ (List.mem_append_left _ (List.mem_append_right _ (List.mem_append_right _ (List.mem_append_right _ (List.mem_append_right _ (List.mem_append_right _ (List.mem_append_right _ (List.mem_append_right _ (List.mem_append_right _ (List.mem_append_right _ (List.mem_append_right _ (List.mem_append_right _ (List.mem_append_right _ (List.mem_append_right _ (List.mem_append_right _ (List.mem_append_right _ (List.mem_append_right _ (List.mem_append_right _ (List.mem_append_right _ (List.mem_append_right _ (List.mem_append_right _ (List.mem_append_right _ (List.mem_append_left _ h))))))))))))))))))))))))))))))))
theorem kw_22_0 : Cond.static yL_plan ∈ wsL_law := wc_22 _ (List.mem_of_getElem? (i := 0) rfl)
theorem kw_22_1 : Cond.codeWith yL_plan cL_plan 5 (some .int) [(0, 10, 13, 21), (0, 10, 17, 15)] ∈ wsL_law := wc_22 _ (List.mem_of_getElem? (i := 1) rfl)
theorem kw_22_2 : Cond.methodLink RL 57 yX5_plan ∈ wsL_law := wc_22 _ (List.mem_of_getElem? (i := 2) rfl)
theorem kw_22_3 : Cond.instanceMethod yX5_plan ∈ wsL_law := wc_22 _ (List.mem_of_getElem? (i := 3) rfl)
theorem kw_22_4 : Cond.selects RX5 yX5_plan yX5_plan ∈ wsL_law := wc_22 _ (List.mem_of_getElem? (i := 4) rfl)
theorem kw_22_5 : Cond.code yX5_plan cX5_plan 3 (some .int) ∈ wsL_law := wc_22 _ (List.mem_of_getElem? (i := 5) rfl)
theorem kw_22_6 : Cond.methodLink RX5 199 yX5_coilWaits ∈ wsL_law := wc_22 _ (List.mem_of_getElem? (i := 6) rfl)
theorem kw_22_7 : Cond.instanceMethod yX5_coilWaits ∈ wsL_law := wc_22 _ (List.mem_of_getElem? (i := 7) rfl)
theorem kw_22_8 : Cond.selects RX5 yX5_coilWaits yX5_coilWaits ∈ wsL_law := wc_22 _ (List.mem_of_getElem? (i := 8) rfl)
theorem kw_22_9 : Cond.code yX5_coilWaits cX5_coilWaits 3 (some .boolean) ∈ wsL_law := wc_22 _ (List.mem_of_getElem? (i := 9) rfl)
theorem kw_22_10 : Cond.methodLink RL 145 yX6_plan ∈ wsL_law := wc_22 _ (List.mem_of_getElem? (i := 10) rfl)
theorem kw_22_11 : Cond.instanceMethod yX6_plan ∈ wsL_law := wc_22 _ (List.mem_of_getElem? (i := 11) rfl)
theorem kw_22_12 : Cond.selects RX6 yX6_plan yX6_plan ∈ wsL_law := wc_22 _ (List.mem_of_getElem? (i := 12) rfl)
theorem kw_22_13 : Cond.code yX6_plan cX6_plan 6 (some .int) ∈ wsL_law := wc_22 _ (List.mem_of_getElem? (i := 13) rfl)
theorem kw_22_14 : Cond.fieldLink RX6 157 "SlittingOfficeModel" "waiting" "I" ∈ wsL_law := wc_22 _ (List.mem_of_getElem? (i := 14) rfl)
theorem kw_22_15 : Cond.methodLink RL 146 yX5_waiting ∈ wsL_law := wc_22 _ (List.mem_of_getElem? (i := 15) rfl)
theorem kw_22_16 : Cond.instanceMethod yX5_waiting ∈ wsL_law := wc_22 _ (List.mem_of_getElem? (i := 16) rfl)
theorem kw_22_17 : Cond.selects RX5 yX5_waiting yX5_waiting ∈ wsL_law := wc_22 _ (List.mem_of_getElem? (i := 17) rfl)
theorem kw_22_18 : Cond.code yX5_waiting cX5_waiting 1 (some .int) ∈ wsL_law := wc_22 _ (List.mem_of_getElem? (i := 18) rfl)
theorem kw_22_19 : Cond.methodLink RL 149 yX6_waiting ∈ wsL_law := wc_22 _ (List.mem_of_getElem? (i := 19) rfl)
theorem kw_22_20 : Cond.instanceMethod yX6_waiting ∈ wsL_law := wc_22 _ (List.mem_of_getElem? (i := 20) rfl)
theorem kw_22_21 : Cond.selects RX6 yX6_waiting yX6_waiting ∈ wsL_law := wc_22 _ (List.mem_of_getElem? (i := 21) rfl)
theorem kw_22_22 : Cond.code yX6_waiting cX6_waiting 1 (some .int) ∈ wsL_law := wc_22 _ (List.mem_of_getElem? (i := 22) rfl)
theorem kw_22_23 : Cond.methodLink RL 150 yX5_fewestMoves ∈ wsL_law := wc_22 _ (List.mem_of_getElem? (i := 23) rfl)
theorem wc_23 : ∀ w ∈ wsL_law0_r23, w ∈ wsL_law := fun _ h => List.mem_append_left _ (List.mem_append_left _ (List.mem_append_left _ (List.mem_append_left _ (List.mem_append_left _ (List.mem_append_left _ (List.mem_append_left _ (List.mem_append_left _ (List.mem_append_left _ (List.mem_append_left _ (List.mem_append_left _ (List.mem_append_right _ (List.mem_append_right _ (List.mem_append_right _ (List.mem_append_right _ (List.mem_append_right _ (List.mem_append_right _ (List.mem_append_right _ (List.mem_append_right _ (List.mem_append_right _ (List.mem_append_right _ (List.mem_append_right _ (List.mem_append_right _ (List.mem_append_right _ (List.mem_append_right _ (List.mem_append_right _ (List.mem_append_right _ (List.mem_append_right _ (List.mem_append_right _ (List.mem_append_right _ (List.mem_append_right _ (List.mem_append_right _ (List.mem_append_right _ (List.mem_append_left _ h)))))))))))))))))))))))))))))))))
theorem kw_23_0 : Cond.instanceMethod yX5_fewestMoves ∈ wsL_law := wc_23 _ (List.mem_of_getElem? (i := 0) rfl)
theorem kw_23_1 : Cond.selects RX5 yX5_fewestMoves yX5_fewestMoves ∈ wsL_law := wc_23 _ (List.mem_of_getElem? (i := 1) rfl)
theorem kw_23_2 : Cond.code yX5_fewestMoves cX5_fewestMoves 1 (some .int) ∈ wsL_law := wc_23 _ (List.mem_of_getElem? (i := 2) rfl)
theorem kw_23_3 : Cond.methodLink RX5 204 yX5_readMoves ∈ wsL_law := wc_23 _ (List.mem_of_getElem? (i := 3) rfl)
theorem kw_23_4 : Cond.instanceMethod yX5_readMoves ∈ wsL_law := wc_23 _ (List.mem_of_getElem? (i := 4) rfl)
theorem kw_23_5 : Cond.selects RX5 yX5_readMoves yX5_readMoves ∈ wsL_law := wc_23 _ (List.mem_of_getElem? (i := 5) rfl)
theorem kw_23_6 : Cond.code yX5_readMoves cX5_readMoves 3 none ∈ wsL_law := wc_23 _ (List.mem_of_getElem? (i := 6) rfl)
theorem kw_23_7 : Cond.instanceMethod yX4_fewestBySets ∈ wsL_law := wc_23 _ (List.mem_of_getElem? (i := 7) rfl)
theorem kw_23_8 : Cond.selects RX4 yX4_fewestBySets yX4_fewestBySets ∈ wsL_law := wc_23 _ (List.mem_of_getElem? (i := 8) rfl)
theorem kw_23_9 : Cond.code yX4_fewestBySets cX4_fewestBySets 5 (some .int) ∈ wsL_law := wc_23 _ (List.mem_of_getElem? (i := 9) rfl)
theorem kw_23_10 : Cond.methodLink RX4 23 yX4_fewestAfter ∈ wsL_law := wc_23 _ (List.mem_of_getElem? (i := 10) rfl)
theorem kw_23_11 : Cond.instanceMethod yX4_fewestAfter ∈ wsL_law := wc_23 _ (List.mem_of_getElem? (i := 11) rfl)
theorem kw_23_12 : Cond.selects RX4 yX4_fewestAfter yX4_fewestAfter ∈ wsL_law := wc_23 _ (List.mem_of_getElem? (i := 12) rfl)
theorem kw_23_13 : Cond.code yX4_fewestAfter cX4_fewestAfter 6 (some .int) ∈ wsL_law := wc_23 _ (List.mem_of_getElem? (i := 13) rfl)
theorem kw_23_14 : Cond.methodLink RX4 34 Lib.Math.min.name ∈ wsL_law := wc_23 _ (List.mem_of_getElem? (i := 14) rfl)
theorem kw_23_15 : Cond.methodLink RX4 27 yX4_holds ∈ wsL_law := wc_23 _ (List.mem_of_getElem? (i := 15) rfl)
theorem kw_23_16 : Cond.static yX4_holds ∈ wsL_law := wc_23 _ (List.mem_of_getElem? (i := 16) rfl)
theorem kw_23_17 : Cond.code yX4_holds cX4_holds 2 (some .boolean) ∈ wsL_law := wc_23 _ (List.mem_of_getElem? (i := 17) rfl)
theorem kw_23_18 : Cond.methodLink RX4 31 yX4_movesThrough ∈ wsL_law := wc_23 _ (List.mem_of_getElem? (i := 18) rfl)
theorem kw_23_19 : Cond.instanceMethod yX4_movesThrough ∈ wsL_law := wc_23 _ (List.mem_of_getElem? (i := 19) rfl)
theorem kw_23_20 : Cond.selects RX4 yX4_movesThrough yX4_movesThrough ∈ wsL_law := wc_23 _ (List.mem_of_getElem? (i := 20) rfl)
theorem kw_23_21 : Cond.code yX4_movesThrough cX4_movesThrough 4 (some .int) ∈ wsL_law := wc_23 _ (List.mem_of_getElem? (i := 21) rfl)
theorem kw_23_22 : Cond.methodLink RX4 40 yX4_without ∈ wsL_law := wc_23 _ (List.mem_of_getElem? (i := 22) rfl)
theorem kw_23_23 : Cond.static yX4_without ∈ wsL_law := wc_23 _ (List.mem_of_getElem? (i := 23) rfl)
theorem wc_24 : ∀ w ∈ wsL_law0_r24, w ∈ wsL_law := fun _ h => List.mem_append_left _ (List.mem_append_left _ (List.mem_append_left _ (List.mem_append_left _ (List.mem_append_left _ (List.mem_append_left _ (List.mem_append_left _ (List.mem_append_left _ (List.mem_append_left _ (List.mem_append_left _ (List.mem_append_left _ (List.mem_append_right _ (List.mem_append_right _ (List.mem_append_right _ (List.mem_append_right _ (List.mem_append_right _ (List.mem_append_right _ (List.mem_append_right _ (List.mem_append_right _ (List.mem_append_right _ (List.mem_append_right _ (List.mem_append_right _ (List.mem_append_right _ (List.mem_append_right _ (List.mem_append_right _ (List.mem_append_right _ (List.mem_append_right _ (List.mem_append_right _ (List.mem_append_right _ (List.mem_append_right _ (List.mem_append_right _ (List.mem_append_right _ (List.mem_append_right _ (List.mem_append_right _ (List.mem_append_left _ h))))))))))))))))))))))))))))))))))
theorem kw_24_0 : Cond.code yX4_without cX4_without 2 (some .int) ∈ wsL_law := wc_24 _ (List.mem_of_getElem? (i := 0) rfl)
theorem kw_24_1 : Cond.methodLink RL 153 yX6_fewestMoves ∈ wsL_law := wc_24 _ (List.mem_of_getElem? (i := 1) rfl)
theorem kw_24_2 : Cond.instanceMethod yX6_fewestMoves ∈ wsL_law := wc_24 _ (List.mem_of_getElem? (i := 2) rfl)
theorem kw_24_3 : Cond.selects RX6 yX6_fewestMoves yX6_fewestMoves ∈ wsL_law := wc_24 _ (List.mem_of_getElem? (i := 3) rfl)
theorem kw_24_4 : Cond.code yX6_fewestMoves cX6_fewestMoves 1 (some .int) ∈ wsL_law := wc_24 _ (List.mem_of_getElem? (i := 4) rfl)
theorem kw_24_5 : Cond.methodLink RX6 163 yX6_best ∈ wsL_law := wc_24 _ (List.mem_of_getElem? (i := 5) rfl)
theorem kw_24_6 : Cond.instanceMethod yX6_best ∈ wsL_law := wc_24 _ (List.mem_of_getElem? (i := 6) rfl)
theorem kw_24_7 : Cond.selects RX6 yX6_best yX6_best ∈ wsL_law := wc_24 _ (List.mem_of_getElem? (i := 7) rfl)
theorem kw_24_8 : Cond.code yX6_best cX6_best 8 (some .int) ∈ wsL_law := wc_24 _ (List.mem_of_getElem? (i := 8) rfl)
theorem kw_24_9 : Cond.methodLink RX6 160 yX6_between ∈ wsL_law := wc_24 _ (List.mem_of_getElem? (i := 9) rfl)
theorem kw_24_10 : Cond.instanceMethod yX6_between ∈ wsL_law := wc_24 _ (List.mem_of_getElem? (i := 10) rfl)
theorem kw_24_11 : Cond.selects RX6 yX6_between yX6_between ∈ wsL_law := wc_24 _ (List.mem_of_getElem? (i := 11) rfl)
theorem kw_24_12 : Cond.code yX6_between cX6_between 3 (some .int) ∈ wsL_law := wc_24 _ (List.mem_of_getElem? (i := 12) rfl)
theorem kw_24_13 : Cond.methodLink RL 154 yX5_fewestByTrying ∈ wsL_law := wc_24 _ (List.mem_of_getElem? (i := 13) rfl)
theorem kw_24_14 : Cond.instanceMethod yX5_fewestByTrying ∈ wsL_law := wc_24 _ (List.mem_of_getElem? (i := 14) rfl)
theorem kw_24_15 : Cond.selects RX5 yX5_fewestByTrying yX5_fewestByTrying ∈ wsL_law := wc_24 _ (List.mem_of_getElem? (i := 15) rfl)
theorem kw_24_16 : Cond.code yX5_fewestByTrying cX5_fewestByTrying 1 (some .int) ∈ wsL_law := wc_24 _ (List.mem_of_getElem? (i := 16) rfl)
theorem kw_24_17 : Cond.instanceMethod yX4_fewestByOrders ∈ wsL_law := wc_24 _ (List.mem_of_getElem? (i := 17) rfl)
theorem kw_24_18 : Cond.selects RX4 yX4_fewestByOrders yX4_fewestByOrders ∈ wsL_law := wc_24 _ (List.mem_of_getElem? (i := 18) rfl)
theorem kw_24_19 : Cond.code yX4_fewestByOrders cX4_fewestByOrders 2 (some .int) ∈ wsL_law := wc_24 _ (List.mem_of_getElem? (i := 19) rfl)
theorem kw_24_20 : Cond.methodLink RX4 50 yX4_tryOrders ∈ wsL_law := wc_24 _ (List.mem_of_getElem? (i := 20) rfl)
theorem kw_24_21 : Cond.static yX4_tryOrders ∈ wsL_law := wc_24 _ (List.mem_of_getElem? (i := 21) rfl)
theorem kw_24_22 : Cond.code yX4_tryOrders cX4_tryOrders 8 (some .int) ∈ wsL_law := wc_24 _ (List.mem_of_getElem? (i := 22) rfl)
theorem kw_24_23 : Cond.methodLink RL 157 yX6_fewestByTrying ∈ wsL_law := wc_24 _ (List.mem_of_getElem? (i := 23) rfl)
theorem wc_25 : ∀ w ∈ wsL_law0_r25, w ∈ wsL_law := fun _ h => List.mem_append_left _ (List.mem_append_left _ (List.mem_append_left _ (List.mem_append_left _ (List.mem_append_left _ (List.mem_append_left _ (List.mem_append_left _ (List.mem_append_left _ (List.mem_append_left _ (List.mem_append_left _ (List.mem_append_left _ (List.mem_append_right _ (List.mem_append_right _ (List.mem_append_right _ (List.mem_append_right _ (List.mem_append_right _ (List.mem_append_right _ (List.mem_append_right _ (List.mem_append_right _ (List.mem_append_right _ (List.mem_append_right _ (List.mem_append_right _ (List.mem_append_right _ (List.mem_append_right _ (List.mem_append_right _ (List.mem_append_right _ (List.mem_append_right _ (List.mem_append_right _ (List.mem_append_right _ (List.mem_append_right _ (List.mem_append_right _ (List.mem_append_right _ (List.mem_append_right _ (List.mem_append_right _ (List.mem_append_right _ (List.mem_append_left _ h)))))))))))))))))))))))))))))))))))
theorem kw_25_0 : Cond.instanceMethod yX6_fewestByTrying ∈ wsL_law := wc_25 _ (List.mem_of_getElem? (i := 0) rfl)
theorem kw_25_1 : Cond.selects RX6 yX6_fewestByTrying yX6_fewestByTrying ∈ wsL_law := wc_25 _ (List.mem_of_getElem? (i := 1) rfl)
theorem kw_25_2 : Cond.code yX6_fewestByTrying cX6_fewestByTrying 1 (some .int) ∈ wsL_law := wc_25 _ (List.mem_of_getElem? (i := 2) rfl)
theorem kw_25_3 : Cond.methodLink RL 158 yL_nextAt ∈ wsL_law := wc_25 _ (List.mem_of_getElem? (i := 3) rfl)
theorem kw_25_4 : Cond.static yL_nextAt ∈ wsL_law := wc_25 _ (List.mem_of_getElem? (i := 4) rfl)
theorem kw_25_5 : Cond.codeWith yL_nextAt cL_nextAt 4 (some .int) [(0, 9, 12, 21)] ∈ wsL_law := wc_25 _ (List.mem_of_getElem? (i := 5) rfl)
theorem kw_25_6 : Cond.methodLink RL 60 yX5_nextAt ∈ wsL_law := wc_25 _ (List.mem_of_getElem? (i := 6) rfl)
theorem kw_25_7 : Cond.instanceMethod yX5_nextAt ∈ wsL_law := wc_25 _ (List.mem_of_getElem? (i := 7) rfl)
theorem kw_25_8 : Cond.selects RX5 yX5_nextAt yX5_nextAt ∈ wsL_law := wc_25 _ (List.mem_of_getElem? (i := 8) rfl)
theorem kw_25_9 : Cond.code yX5_nextAt cX5_nextAt 2 (some .int) ∈ wsL_law := wc_25 _ (List.mem_of_getElem? (i := 9) rfl)
theorem kw_25_10 : Cond.instanceMethod yX4_findBest ∈ wsL_law := wc_25 _ (List.mem_of_getElem? (i := 10) rfl)
theorem kw_25_11 : Cond.selects RX4 yX4_findBest yX4_findBest ∈ wsL_law := wc_25 _ (List.mem_of_getElem? (i := 11) rfl)
theorem kw_25_12 : Cond.code yX4_findBest cX4_findBest 6 none ∈ wsL_law := wc_25 _ (List.mem_of_getElem? (i := 12) rfl)
theorem kw_25_13 : Cond.methodLink RX4 43 yX4_fewestBySets ∈ wsL_law := wc_25 _ (List.mem_of_getElem? (i := 13) rfl)
theorem kw_25_14 : Cond.methodLink RX4 47 yX4_leastNext ∈ wsL_law := wc_25 _ (List.mem_of_getElem? (i := 14) rfl)
theorem kw_25_15 : Cond.instanceMethod yX4_leastNext ∈ wsL_law := wc_25 _ (List.mem_of_getElem? (i := 15) rfl)
theorem kw_25_16 : Cond.selects RX4 yX4_leastNext yX4_leastNext ∈ wsL_law := wc_25 _ (List.mem_of_getElem? (i := 16) rfl)
theorem kw_25_17 : Cond.code yX4_leastNext cX4_leastNext 5 (some .int) ∈ wsL_law := wc_25 _ (List.mem_of_getElem? (i := 17) rfl)
theorem kw_25_18 : Cond.methodLink RL 160 yX6_nextAt ∈ wsL_law := wc_25 _ (List.mem_of_getElem? (i := 18) rfl)
theorem kw_25_19 : Cond.instanceMethod yX6_nextAt ∈ wsL_law := wc_25 _ (List.mem_of_getElem? (i := 19) rfl)
theorem kw_25_20 : Cond.selects RX6 yX6_nextAt yX6_nextAt ∈ wsL_law := wc_25 _ (List.mem_of_getElem? (i := 20) rfl)
theorem kw_25_21 : Cond.code yX6_nextAt cX6_nextAt 2 (some .int) ∈ wsL_law := wc_25 _ (List.mem_of_getElem? (i := 21) rfl)
theorem kw_25_22 : Cond.methodLink RL 161 yX5_runAll ∈ wsL_law := wc_25 _ (List.mem_of_getElem? (i := 22) rfl)
theorem kw_25_23 : Cond.instanceMethod yX5_runAll ∈ wsL_law := wc_25 _ (List.mem_of_getElem? (i := 23) rfl)
theorem wc_26 : ∀ w ∈ wsL_law0_r26, w ∈ wsL_law := fun _ h => List.mem_append_left _ (List.mem_append_left _ (List.mem_append_left _ (List.mem_append_left _ (List.mem_append_left _ (List.mem_append_left _ (List.mem_append_left _ (List.mem_append_left _ (List.mem_append_left _ (List.mem_append_left _ (List.mem_append_left _ (List.mem_append_right _ (List.mem_append_right _ (List.mem_append_right _ (List.mem_append_right _ (List.mem_append_right _ (List.mem_append_right _ (List.mem_append_right _ (List.mem_append_right _ (List.mem_append_right _ (List.mem_append_right _ (List.mem_append_right _ (List.mem_append_right _ (List.mem_append_right _ (List.mem_append_right _ (List.mem_append_right _ (List.mem_append_right _ (List.mem_append_right _ (List.mem_append_right _ (List.mem_append_right _ (List.mem_append_right _ (List.mem_append_right _ (List.mem_append_right _ (List.mem_append_right _ (List.mem_append_right _ (List.mem_append_right _ (List.mem_append_left _ h))))))))))))))))))))))))))))))))))))
theorem kw_26_0 : Cond.selects RX5 yX5_runAll yX5_runAll ∈ wsL_law := wc_26 _ (List.mem_of_getElem? (i := 0) rfl)
theorem kw_26_1 : Cond.code yX5_runAll cX5_runAll 4 (some .int) ∈ wsL_law := wc_26 _ (List.mem_of_getElem? (i := 1) rfl)
theorem kw_26_2 : Cond.methodLink RL 164 yX6_runAll ∈ wsL_law := wc_26 _ (List.mem_of_getElem? (i := 2) rfl)
theorem kw_26_3 : Cond.instanceMethod yX6_runAll ∈ wsL_law := wc_26 _ (List.mem_of_getElem? (i := 3) rfl)
theorem kw_26_4 : Cond.selects RX6 yX6_runAll yX6_runAll ∈ wsL_law := wc_26 _ (List.mem_of_getElem? (i := 4) rfl)
theorem kw_26_5 : Cond.code yX6_runAll cX6_runAll 5 (some .int) ∈ wsL_law := wc_26 _ (List.mem_of_getElem? (i := 5) rfl)
theorem kw_26_6 : Cond.methodLink RL 165 yL_slits ∈ wsL_law := wc_26 _ (List.mem_of_getElem? (i := 6) rfl)
theorem kw_26_7 : Cond.static yL_slits ∈ wsL_law := wc_26 _ (List.mem_of_getElem? (i := 7) rfl)
theorem kw_26_8 : Cond.codeWith yL_slits cL_slits 4 (some .int) [(0, 9, 12, 21)] ∈ wsL_law := wc_26 _ (List.mem_of_getElem? (i := 8) rfl)
theorem kw_26_9 : Cond.methodLink RL 63 yX5_slits ∈ wsL_law := wc_26 _ (List.mem_of_getElem? (i := 9) rfl)
theorem kw_26_10 : Cond.instanceMethod yX5_slits ∈ wsL_law := wc_26 _ (List.mem_of_getElem? (i := 10) rfl)
theorem kw_26_11 : Cond.selects RX5 yX5_slits yX5_slits ∈ wsL_law := wc_26 _ (List.mem_of_getElem? (i := 11) rfl)
theorem kw_26_12 : Cond.code yX5_slits cX5_slits 2 (some .int) ∈ wsL_law := wc_26 _ (List.mem_of_getElem? (i := 12) rfl)
theorem kw_26_13 : Cond.methodLink RL 167 yX6_slits ∈ wsL_law := wc_26 _ (List.mem_of_getElem? (i := 13) rfl)
theorem kw_26_14 : Cond.instanceMethod yX6_slits ∈ wsL_law := wc_26 _ (List.mem_of_getElem? (i := 14) rfl)
theorem kw_26_15 : Cond.selects RX6 yX6_slits yX6_slits ∈ wsL_law := wc_26 _ (List.mem_of_getElem? (i := 15) rfl)
theorem kw_26_16 : Cond.code yX6_slits cX6_slits 2 (some .int) ∈ wsL_law := wc_26 _ (List.mem_of_getElem? (i := 16) rfl)
theorem kw_26_17 : Cond.methodLink RL 168 yL_slitWeight ∈ wsL_law := wc_26 _ (List.mem_of_getElem? (i := 17) rfl)
theorem kw_26_18 : Cond.static yL_slitWeight ∈ wsL_law := wc_26 _ (List.mem_of_getElem? (i := 18) rfl)
theorem kw_26_19 : Cond.codeWith yL_slitWeight cL_slitWeight 5 (some .int) [(0, 10, 13, 21)] ∈ wsL_law := wc_26 _ (List.mem_of_getElem? (i := 19) rfl)
theorem kw_26_20 : Cond.methodLink RL 66 yX5_slitWeight ∈ wsL_law := wc_26 _ (List.mem_of_getElem? (i := 20) rfl)
theorem kw_26_21 : Cond.instanceMethod yX5_slitWeight ∈ wsL_law := wc_26 _ (List.mem_of_getElem? (i := 21) rfl)
theorem kw_26_22 : Cond.selects RX5 yX5_slitWeight yX5_slitWeight ∈ wsL_law := wc_26 _ (List.mem_of_getElem? (i := 22) rfl)
theorem kw_26_23 : Cond.code yX5_slitWeight cX5_slitWeight 3 (some .int) ∈ wsL_law := wc_26 _ (List.mem_of_getElem? (i := 23) rfl)
theorem wc_27 : ∀ w ∈ wsL_law0_r27, w ∈ wsL_law := fun _ h => List.mem_append_left _ (List.mem_append_left _ (List.mem_append_left _ (List.mem_append_left _ (List.mem_append_left _ (List.mem_append_left _ (List.mem_append_left _ (List.mem_append_left _ (List.mem_append_left _ (List.mem_append_left _ (List.mem_append_left _ (List.mem_append_right _ (List.mem_append_right _ (List.mem_append_right _ (List.mem_append_right _ (List.mem_append_right _ (List.mem_append_right _ (List.mem_append_right _ (List.mem_append_right _ (List.mem_append_right _ (List.mem_append_right _ (List.mem_append_right _ (List.mem_append_right _ (List.mem_append_right _ (List.mem_append_right _ (List.mem_append_right _ (List.mem_append_right _ (List.mem_append_right _ (List.mem_append_right _ (List.mem_append_right _ (List.mem_append_right _ (List.mem_append_right _ (List.mem_append_right _ (List.mem_append_right _ (List.mem_append_right _ (List.mem_append_right _ (List.mem_append_right _ (List.mem_append_left _ h)))))))))))))))))))))))))))))))))))))
theorem kw_27_0 : Cond.methodLink RX5 225 yX5_requireSlit ∈ wsL_law := wc_27 _ (List.mem_of_getElem? (i := 0) rfl)
theorem kw_27_1 : Cond.instanceMethod yX5_requireSlit ∈ wsL_law := wc_27 _ (List.mem_of_getElem? (i := 1) rfl)
theorem kw_27_2 : Cond.selects RX5 yX5_requireSlit yX5_requireSlit ∈ wsL_law := wc_27 _ (List.mem_of_getElem? (i := 2) rfl)
theorem kw_27_3 : Cond.code yX5_requireSlit cX5_requireSlit 3 none ∈ wsL_law := wc_27 _ (List.mem_of_getElem? (i := 3) rfl)
theorem kw_27_4 : Cond.instanceMethod yX0_hasSlitAt ∈ wsL_law := wc_27 _ (List.mem_of_getElem? (i := 4) rfl)
theorem kw_27_5 : Cond.selects RX0 yX0_hasSlitAt yX0_hasSlitAt ∈ wsL_law := wc_27 _ (List.mem_of_getElem? (i := 5) rfl)
theorem kw_27_6 : Cond.code yX0_hasSlitAt cX0_hasSlitAt 2 (some .boolean) ∈ wsL_law := wc_27 _ (List.mem_of_getElem? (i := 6) rfl)
theorem kw_27_7 : Cond.methodLink RL 170 yX6_slitWeight ∈ wsL_law := wc_27 _ (List.mem_of_getElem? (i := 7) rfl)
theorem kw_27_8 : Cond.instanceMethod yX6_slitWeight ∈ wsL_law := wc_27 _ (List.mem_of_getElem? (i := 8) rfl)
theorem kw_27_9 : Cond.selects RX6 yX6_slitWeight yX6_slitWeight ∈ wsL_law := wc_27 _ (List.mem_of_getElem? (i := 9) rfl)
theorem kw_27_10 : Cond.code yX6_slitWeight cX6_slitWeight 3 (some .int) ∈ wsL_law := wc_27 _ (List.mem_of_getElem? (i := 10) rfl)
theorem kw_27_11 : Cond.methodLink RX6 167 yX6_isSlit ∈ wsL_law := wc_27 _ (List.mem_of_getElem? (i := 11) rfl)
theorem kw_27_12 : Cond.instanceMethod yX6_isSlit ∈ wsL_law := wc_27 _ (List.mem_of_getElem? (i := 12) rfl)
theorem kw_27_13 : Cond.selects RX6 yX6_isSlit yX6_isSlit ∈ wsL_law := wc_27 _ (List.mem_of_getElem? (i := 13) rfl)
theorem kw_27_14 : Cond.code yX6_isSlit cX6_isSlit 4 (some .boolean) ∈ wsL_law := wc_27 _ (List.mem_of_getElem? (i := 14) rfl)
theorem kw_27_15 : Cond.methodLink RL 171 yL_slitOrder ∈ wsL_law := wc_27 _ (List.mem_of_getElem? (i := 15) rfl)
theorem kw_27_16 : Cond.static yL_slitOrder ∈ wsL_law := wc_27 _ (List.mem_of_getElem? (i := 16) rfl)
theorem kw_27_17 : Cond.codeWith yL_slitOrder cL_slitOrder 5 (some .int) [(0, 10, 13, 21)] ∈ wsL_law := wc_27 _ (List.mem_of_getElem? (i := 17) rfl)
theorem kw_27_18 : Cond.methodLink RL 69 yX5_slitOrder ∈ wsL_law := wc_27 _ (List.mem_of_getElem? (i := 18) rfl)
theorem kw_27_19 : Cond.instanceMethod yX5_slitOrder ∈ wsL_law := wc_27 _ (List.mem_of_getElem? (i := 19) rfl)
theorem kw_27_20 : Cond.selects RX5 yX5_slitOrder yX5_slitOrder ∈ wsL_law := wc_27 _ (List.mem_of_getElem? (i := 20) rfl)
theorem kw_27_21 : Cond.code yX5_slitOrder cX5_slitOrder 3 (some .int) ∈ wsL_law := wc_27 _ (List.mem_of_getElem? (i := 21) rfl)
theorem kw_27_22 : Cond.methodLink RL 173 yX6_slitOrder ∈ wsL_law := wc_27 _ (List.mem_of_getElem? (i := 22) rfl)
theorem kw_27_23 : Cond.instanceMethod yX6_slitOrder ∈ wsL_law := wc_27 _ (List.mem_of_getElem? (i := 23) rfl)
theorem wc_28 : ∀ w ∈ wsL_law0_r28, w ∈ wsL_law := fun _ h => List.mem_append_left _ (List.mem_append_left _ (List.mem_append_left _ (List.mem_append_left _ (List.mem_append_left _ (List.mem_append_left _ (List.mem_append_left _ (List.mem_append_left _ (List.mem_append_left _ (List.mem_append_left _ (List.mem_append_left _ (List.mem_append_right _ (List.mem_append_right _ (List.mem_append_right _ (List.mem_append_right _ (List.mem_append_right _ (List.mem_append_right _ (List.mem_append_right _ (List.mem_append_right _ (List.mem_append_right _ (List.mem_append_right _ (List.mem_append_right _ (List.mem_append_right _ (List.mem_append_right _ (List.mem_append_right _ (List.mem_append_right _ (List.mem_append_right _ (List.mem_append_right _ (List.mem_append_right _ (List.mem_append_right _ (List.mem_append_right _ (List.mem_append_right _ (List.mem_append_right _ (List.mem_append_right _ (List.mem_append_right _ (List.mem_append_right _ (List.mem_append_right _ (List.mem_append_right _ (List.mem_append_left _ h))))))))))))))))))))))))))))))))))))))
theorem kw_28_0 : Cond.selects RX6 yX6_slitOrder yX6_slitOrder ∈ wsL_law := wc_28 _ (List.mem_of_getElem? (i := 0) rfl)
theorem kw_28_1 : Cond.code yX6_slitOrder cX6_slitOrder 3 (some .int) ∈ wsL_law := wc_28 _ (List.mem_of_getElem? (i := 1) rfl)
theorem kw_28_2 : Cond.methodLink RL 174 yL_lost ∈ wsL_law := wc_28 _ (List.mem_of_getElem? (i := 2) rfl)
theorem kw_28_3 : Cond.static yL_lost ∈ wsL_law := wc_28 _ (List.mem_of_getElem? (i := 3) rfl)
theorem kw_28_4 : Cond.codeWith yL_lost cL_lost 5 (some .int) [(0, 10, 13, 21), (0, 10, 17, 13)] ∈ wsL_law := wc_28 _ (List.mem_of_getElem? (i := 4) rfl)
theorem kw_28_5 : Cond.methodLink RL 72 yX5_lost ∈ wsL_law := wc_28 _ (List.mem_of_getElem? (i := 5) rfl)
theorem kw_28_6 : Cond.instanceMethod yX5_lost ∈ wsL_law := wc_28 _ (List.mem_of_getElem? (i := 6) rfl)
theorem kw_28_7 : Cond.selects RX5 yX5_lost yX5_lost ∈ wsL_law := wc_28 _ (List.mem_of_getElem? (i := 7) rfl)
theorem kw_28_8 : Cond.code yX5_lost cX5_lost 3 (some .int) ∈ wsL_law := wc_28 _ (List.mem_of_getElem? (i := 8) rfl)
theorem kw_28_9 : Cond.methodLink RL 176 yX6_lost ∈ wsL_law := wc_28 _ (List.mem_of_getElem? (i := 9) rfl)
theorem kw_28_10 : Cond.instanceMethod yX6_lost ∈ wsL_law := wc_28 _ (List.mem_of_getElem? (i := 10) rfl)
theorem kw_28_11 : Cond.selects RX6 yX6_lost yX6_lost ∈ wsL_law := wc_28 _ (List.mem_of_getElem? (i := 11) rfl)
theorem kw_28_12 : Cond.code yX6_lost cX6_lost 3 (some .int) ∈ wsL_law := wc_28 _ (List.mem_of_getElem? (i := 12) rfl)
theorem kw_28_13 : Cond.methodLink RL 177 yL_delivered ∈ wsL_law := wc_28 _ (List.mem_of_getElem? (i := 13) rfl)
theorem kw_28_14 : Cond.static yL_delivered ∈ wsL_law := wc_28 _ (List.mem_of_getElem? (i := 14) rfl)
theorem kw_28_15 : Cond.codeWith yL_delivered cL_delivered 4 (some .int) [(0, 9, 12, 21)] ∈ wsL_law := wc_28 _ (List.mem_of_getElem? (i := 15) rfl)
theorem kw_28_16 : Cond.methodLink RL 75 yX5_delivered ∈ wsL_law := wc_28 _ (List.mem_of_getElem? (i := 16) rfl)
theorem kw_28_17 : Cond.instanceMethod yX5_delivered ∈ wsL_law := wc_28 _ (List.mem_of_getElem? (i := 17) rfl)
theorem kw_28_18 : Cond.selects RX5 yX5_delivered yX5_delivered ∈ wsL_law := wc_28 _ (List.mem_of_getElem? (i := 18) rfl)
theorem kw_28_19 : Cond.code yX5_delivered cX5_delivered 2 (some .int) ∈ wsL_law := wc_28 _ (List.mem_of_getElem? (i := 19) rfl)
theorem kw_28_20 : Cond.methodLink RX5 243 yX5_requireOrder ∈ wsL_law := wc_28 _ (List.mem_of_getElem? (i := 20) rfl)
theorem kw_28_21 : Cond.instanceMethod yX5_requireOrder ∈ wsL_law := wc_28 _ (List.mem_of_getElem? (i := 21) rfl)
theorem kw_28_22 : Cond.selects RX5 yX5_requireOrder yX5_requireOrder ∈ wsL_law := wc_28 _ (List.mem_of_getElem? (i := 22) rfl)
theorem kw_28_23 : Cond.code yX5_requireOrder cX5_requireOrder 2 none ∈ wsL_law := wc_28 _ (List.mem_of_getElem? (i := 23) rfl)
theorem wc_29 : ∀ w ∈ wsL_law0_r29, w ∈ wsL_law := fun _ h => List.mem_append_left _ (List.mem_append_left _ (List.mem_append_left _ (List.mem_append_left _ (List.mem_append_left _ (List.mem_append_left _ (List.mem_append_left _ (List.mem_append_left _ (List.mem_append_left _ (List.mem_append_left _ (List.mem_append_left _ (List.mem_append_right _ (List.mem_append_right _ (List.mem_append_right _ (List.mem_append_right _ (List.mem_append_right _ (List.mem_append_right _ (List.mem_append_right _ (List.mem_append_right _ (List.mem_append_right _ (List.mem_append_right _ (List.mem_append_right _ (List.mem_append_right _ (List.mem_append_right _ (List.mem_append_right _ (List.mem_append_right _ (List.mem_append_right _ (List.mem_append_right _ (List.mem_append_right _ (List.mem_append_right _ (List.mem_append_right _ (List.mem_append_right _ (List.mem_append_right _ (List.mem_append_right _ (List.mem_append_right _ (List.mem_append_right _ (List.mem_append_right _ (List.mem_append_right _ (List.mem_append_right _ (List.mem_append_left _ h)))))))))))))))))))))))))))))))))))))))
theorem kw_29_0 : Cond.methodLink RL 179 yX6_delivered ∈ wsL_law := wc_29 _ (List.mem_of_getElem? (i := 0) rfl)
theorem kw_29_1 : Cond.instanceMethod yX6_delivered ∈ wsL_law := wc_29 _ (List.mem_of_getElem? (i := 1) rfl)
theorem kw_29_2 : Cond.selects RX6 yX6_delivered yX6_delivered ∈ wsL_law := wc_29 _ (List.mem_of_getElem? (i := 2) rfl)
theorem kw_29_3 : Cond.code yX6_delivered cX6_delivered 2 (some .int) ∈ wsL_law := wc_29 _ (List.mem_of_getElem? (i := 3) rfl)
theorem kw_29_4 : Cond.methodLink RX6 170 yX6_isOrder ∈ wsL_law := wc_29 _ (List.mem_of_getElem? (i := 4) rfl)
theorem kw_29_5 : Cond.instanceMethod yX6_isOrder ∈ wsL_law := wc_29 _ (List.mem_of_getElem? (i := 5) rfl)
theorem kw_29_6 : Cond.selects RX6 yX6_isOrder yX6_isOrder ∈ wsL_law := wc_29 _ (List.mem_of_getElem? (i := 6) rfl)
theorem kw_29_7 : Cond.code yX6_isOrder cX6_isOrder 2 (some .boolean) ∈ wsL_law := wc_29 _ (List.mem_of_getElem? (i := 7) rfl)
theorem kw_29_8 : Cond.methodLink RL 180 yL_heatOf ∈ wsL_law := wc_29 _ (List.mem_of_getElem? (i := 8) rfl)
theorem kw_29_9 : Cond.static yL_heatOf ∈ wsL_law := wc_29 _ (List.mem_of_getElem? (i := 9) rfl)
theorem kw_29_10 : Cond.codeWith yL_heatOf cL_heatOf 4 (some .int) [(0, 9, 12, 21)] ∈ wsL_law := wc_29 _ (List.mem_of_getElem? (i := 10) rfl)
theorem kw_29_11 : Cond.methodLink RL 78 yX5_heatOf ∈ wsL_law := wc_29 _ (List.mem_of_getElem? (i := 11) rfl)
theorem kw_29_12 : Cond.instanceMethod yX5_heatOf ∈ wsL_law := wc_29 _ (List.mem_of_getElem? (i := 12) rfl)
theorem kw_29_13 : Cond.selects RX5 yX5_heatOf yX5_heatOf ∈ wsL_law := wc_29 _ (List.mem_of_getElem? (i := 13) rfl)
theorem kw_29_14 : Cond.code yX5_heatOf cX5_heatOf 2 (some .int) ∈ wsL_law := wc_29 _ (List.mem_of_getElem? (i := 14) rfl)
theorem kw_29_15 : Cond.methodLink RL 182 yX6_heatOf ∈ wsL_law := wc_29 _ (List.mem_of_getElem? (i := 15) rfl)
theorem kw_29_16 : Cond.instanceMethod yX6_heatOf ∈ wsL_law := wc_29 _ (List.mem_of_getElem? (i := 16) rfl)
theorem kw_29_17 : Cond.selects RX6 yX6_heatOf yX6_heatOf ∈ wsL_law := wc_29 _ (List.mem_of_getElem? (i := 17) rfl)
theorem kw_29_18 : Cond.code yX6_heatOf cX6_heatOf 2 (some .int) ∈ wsL_law := wc_29 _ (List.mem_of_getElem? (i := 18) rfl)
theorem kw_29_19 : Cond.methodLink RL 183 yX5_stock ∈ wsL_law := wc_29 _ (List.mem_of_getElem? (i := 19) rfl)
theorem kw_29_20 : Cond.instanceMethod yX5_stock ∈ wsL_law := wc_29 _ (List.mem_of_getElem? (i := 20) rfl)
theorem kw_29_21 : Cond.selects RX5 yX5_stock yX5_stock ∈ wsL_law := wc_29 _ (List.mem_of_getElem? (i := 21) rfl)
theorem kw_29_22 : Cond.code yX5_stock cX5_stock 4 (some .int) ∈ wsL_law := wc_29 _ (List.mem_of_getElem? (i := 22) rfl)
theorem kw_29_23 : Cond.instanceMethod yX0_stockOf ∈ wsL_law := wc_29 _ (List.mem_of_getElem? (i := 23) rfl)
theorem wc_30 : ∀ w ∈ wsL_law0_r30, w ∈ wsL_law := fun _ h => List.mem_append_left _ (List.mem_append_left _ (List.mem_append_left _ (List.mem_append_left _ (List.mem_append_left _ (List.mem_append_left _ (List.mem_append_left _ (List.mem_append_left _ (List.mem_append_left _ (List.mem_append_left _ (List.mem_append_left _ (List.mem_append_right _ (List.mem_append_right _ (List.mem_append_right _ (List.mem_append_right _ (List.mem_append_right _ (List.mem_append_right _ (List.mem_append_right _ (List.mem_append_right _ (List.mem_append_right _ (List.mem_append_right _ (List.mem_append_right _ (List.mem_append_right _ (List.mem_append_right _ (List.mem_append_right _ (List.mem_append_right _ (List.mem_append_right _ (List.mem_append_right _ (List.mem_append_right _ (List.mem_append_right _ (List.mem_append_right _ (List.mem_append_right _ (List.mem_append_right _ (List.mem_append_right _ (List.mem_append_right _ (List.mem_append_right _ (List.mem_append_right _ (List.mem_append_right _ (List.mem_append_right _ (List.mem_append_right _ (h))))))))))))))))))))))))))))))))))))))))
theorem kw_30_0 : Cond.selects RX0 yX0_stockOf yX0_stockOf ∈ wsL_law := wc_30 _ (List.mem_of_getElem? (i := 0) rfl)
theorem kw_30_1 : Cond.code yX0_stockOf cX0_stockOf 4 (some .int) ∈ wsL_law := wc_30 _ (List.mem_of_getElem? (i := 1) rfl)
theorem kw_30_2 : Cond.methodLink RL 186 yX6_stock ∈ wsL_law := wc_30 _ (List.mem_of_getElem? (i := 2) rfl)
theorem kw_30_3 : Cond.instanceMethod yX6_stock ∈ wsL_law := wc_30 _ (List.mem_of_getElem? (i := 3) rfl)
theorem kw_30_4 : Cond.selects RX6 yX6_stock yX6_stock ∈ wsL_law := wc_30 _ (List.mem_of_getElem? (i := 4) rfl)
theorem kw_30_5 : Cond.code yX6_stock cX6_stock 6 (some .int) ∈ wsL_law := wc_30 _ (List.mem_of_getElem? (i := 5) rfl)
theorem wsL_x0 : ∀ w ∈ (vx_atS RX5 91 "java/lang/IllegalStateException" ["java/lang/RuntimeException", "java/lang/Exception"]).filter goodWord, w ∈ wsL_law := fun _ h => List.mem_append_left _ (List.mem_append_left _ (List.mem_append_right _ h))
theorem wsL_x1 : ∀ w ∈ (vx_atS RX5 259 "java/lang/IllegalArgumentException" ["java/lang/RuntimeException", "java/lang/Exception"]).filter goodWord, w ∈ wsL_law := fun _ h => List.mem_append_left _ (List.mem_append_right _ h)
theorem wsL_x2 : ∀ w ∈ (vx_atS RX5 149 "java/lang/IndexOutOfBoundsException" ["java/lang/RuntimeException", "java/lang/Exception"]).filter goodWord, w ∈ wsL_law := fun _ h => List.mem_append_right _ h
set_option maxRecDepth 100000 in
theorem wsL_good : wsL_law.all goodWord = true := by decide +kernel
theorem o_good {w : Cond} (h : w ∈ wsL_law) : GoodIn wsL_law (w :: wsL_law) := goodIn_sub (fun v hv => (List.mem_cons.mp hv).elim (fun e => e ▸ h) id) (by rw [List.all_cons, wsL_good, List.all_eq_true.mp wsL_good w h]; rfl)
theorem o_good4 {a b c d : Cond} {ws : List Cond} (ha : a ∈ wsL_law) (hb : b ∈ wsL_law) (hc : c ∈ wsL_law) (hd : d ∈ wsL_law) (h : GoodIn wsL_law ws) : GoodIn wsL_law ([a, b, c, d] ++ ws) := goodIn_app (fun v hv => by
  have hm : v ∈ wsL_law := by
    simp only [List.mem_cons, List.not_mem_nil, or_false] at hv
    rcases hv with rfl | rfl | rfl | rfl <;> assumption
  exact ⟨hm, good_of_word (List.all_eq_true.mp wsL_good v hm)⟩) h
theorem o_good3 {a b c : Cond} {ws : List Cond} (ha : a ∈ wsL_law) (hb : b ∈ wsL_law) (hc : c ∈ wsL_law) (h : GoodIn wsL_law ws) : GoodIn wsL_law ([a, b, c] ++ ws) := goodIn_app (fun v hv => by
  have hm : v ∈ wsL_law := by
    simp only [List.mem_cons, List.not_mem_nil, or_false] at hv
    rcases hv with rfl | rfl | rfl <;> assumption
  exact ⟨hm, good_of_word (List.all_eq_true.mp wsL_good v hm)⟩) h
end
section
/-! THE FRAME: one world for class and model; a state of it is a function oMem: kind of the cell, its number, its slot, to a whole number. References never change once all is made. -/
abbrev oMem : Type := Nat → Nat → Nat → Int
abbrev oG : Type := va_G × (Nat → Nat → Nat) × (Nat → ClassId)
def oi (z : Int) : Value := .int (Int32.ofInt z)
abbrev InR (z : Int) : Prop := -2147483648 ≤ z ∧ z ≤ 2147483647
/-- how many cells of each kind -/
def o_ns : List Nat := [1, 20, 20, 20, 20, 20, 20, 12, 11, 11, 1, 1, 1, 1, 8, 8, 1, 1, 1, 1, 1, 1, 1, 1, 1, 1, 1, 1, 1, 1, 1, 1, 1, 1, 1, 1, 1, 1, 1, 1, 1, 1, 1, 1, 1, 1, 1, 1]
def o_n (K : Nat) : Nat := o_ns.getD K 0
/-- how long the rows of ints of each kind are -/
def o_lens : List Nat := [0, 0, 8, 8, 15, 15, 15, 0, 0, 15, 0, 12, 2001, 0, 7, 128, 7, 7, 7, 0, 0, 0, 0, 0, 0, 20, 20, 20, 20, 160, 160, 20, 12, 12, 12, 12, 165, 11, 20, 300, 300, 60, 7, 7, 2001, 1024, 7, 0]
def o_len (K : Nat) : Nat := o_lens.getD K 0
def o_sh (g : oG) (K i : Nat) (f : Nat → Int) : va_E :=
  if K = 0 then .inr (5, [.ref (g.2.1 19 0), oi (f 1), .ref (g.2.1 20 0), oi (f 3), .ref (g.2.1 21 0), oi (f 5), .ref (g.2.1 8 10), oi (f 7), oi (f 8), oi (f 9), oi (f 10), oi (f 11), .ref (g.2.1 17 0), .ref (g.2.1 18 0), oi (f 14), .ref (g.2.1 10 0), .ref (g.2.1 13 0)])
  else if K = 1 then .inr (0, [oi (f 0), oi (f 1), oi (f 2), oi (f 3), .ref (g.2.1 2 i), .ref (g.2.1 3 i), oi (f 6), .ref (g.2.1 4 i), .ref (g.2.1 5 i), .ref (g.2.1 6 i), oi (f 10), oi (f 11), oi (f 12), oi (f 13)])
  else if K = 7 then .inr (2, [oi (f 0), oi (f 1), oi (f 2), oi (f 3)])
  else if K = 8 then .inr (3, [.ref (g.2.1 9 i), oi (f 1)])
  else if K = 10 then .inr (1, [.ref (g.2.1 11 0), oi (f 1), .ref (g.2.1 12 0)])
  else if K = 13 then .inr (4, [.ref (g.2.1 22 0), .ref (g.2.1 23 0), .ref (g.2.1 16 0)])
  else if K = 19 then .inl (g.2.2 1, 20, .inr (.inr (.inr (.inr (fun j => some (g.2.1 1 j))))))
  else if K = 20 then .inl (g.2.2 2, 12, .inr (.inr (.inr (.inr (fun j => some (g.2.1 7 j))))))
  else if K = 21 then .inl (g.2.2 3, 10, .inr (.inr (.inr (.inr (fun j => some (g.2.1 8 j))))))
  else if K = 22 then .inl (g.2.2 4, 8, .inr (.inr (.inr (.inr (fun j => some (g.2.1 14 j))))))
  else if K = 23 then .inl (g.2.2 4, 8, .inr (.inr (.inr (.inr (fun j => some (g.2.1 15 j))))))
  else if K = 24 then .inr (6, [.ref (g.2.1 25 0), .ref (g.2.1 26 0), .ref (g.2.1 27 0), .ref (g.2.1 28 0), oi (f 4), .ref (g.2.1 29 0), .ref (g.2.1 30 0), .ref (g.2.1 31 0), oi (f 8), oi (f 9), oi (f 10), .ref (g.2.1 32 0), .ref (g.2.1 33 0), .ref (g.2.1 34 0), .ref (g.2.1 35 0), oi (f 15), .ref (g.2.1 36 0), .ref (g.2.1 37 0), oi (f 18), .ref (g.2.1 38 0), .ref (g.2.1 39 0), .ref (g.2.1 40 0), .ref (g.2.1 41 0), oi (f 23), oi (f 24), .ref (g.2.1 42 0), .ref (g.2.1 43 0), oi (f 27), .ref (g.2.1 44 0), .ref (g.2.1 45 0), .ref (g.2.1 46 0), oi (f 31)])
  else if K = 47 then .inl (g.2.2 5, 1, .inr (.inl (fun j => (Int32.ofInt (f j)).toInt64)))
  else .inl (g.2.2 0, o_len K, .inl (fun j => Int32.ofInt (f j)))
def o_ids : List (Nat × Nat) := (List.range 48).flatMap (fun K => (List.range (o_n K)).map (fun i => (K, i)))
def o_ws (g : oG) (σ : oMem) : va_W := o_ids.map (fun q => (g.2.1 q.1 q.2, o_sh g q.1 q.2 (σ q.1 q.2)))
def o_tys (g : oG) : List (ClassId × FieldType) := [(g.2.2 0, .int), (g.2.2 1, .object RX0), (g.2.2 2, .object RX2), (g.2.2 3, .object RX3), (g.2.2 4, .array .int), (g.2.2 5, .long)]
theorem o_nodup : o_ids.Nodup := by decide +kernel
theorem o_mem {K i : Nat} (h : i < o_n K) : (K, i) ∈ o_ids := by
  refine List.mem_flatMap.mpr ⟨K, List.mem_range.mpr ?_, List.mem_map.mpr ⟨i, List.mem_range.mpr h, rfl⟩⟩
  rcases Nat.lt_or_ge K 48 with q | q
  · exact q
  · exact absurd h (by unfold o_n; rw [List.getD_eq_getElem?_getD, List.getElem?_eq_none (show o_ns.length ≤ K from q)]; exact Nat.not_lt_zero _)
theorem o_at (g : oG) (σ : oMem) {K i : Nat} (h : i < o_n K) : ∃ k : Nat, (o_ws g σ)[k]? = some (g.2.1 K i, o_sh g K i (σ K i)) ∧ ∀ (σ' : oMem) (e : va_E), (∀ K' i', ¬ (K' = K ∧ i' = i) → σ' K' i' = σ K' i') → e = o_sh g K i (σ' K i) → (o_ws g σ).set k (g.2.1 K i, e) = o_ws g σ' := by
  obtain ⟨k, hk⟩ := List.mem_iff_getElem?.mp (o_mem h)
  refine ⟨k, by rw [o_ws, List.getElem?_map, hk]; rfl, fun σ' e h1 h2 => ?_⟩
  apply List.ext_getElem?
  intro j
  rw [List.getElem?_set, o_ws, o_ws, List.getElem?_map, List.getElem?_map]
  by_cases hj : k = j
  · subst hj
    rw [if_pos rfl, hk, h2]
    have hl : k < (o_ids.map (fun q => (g.2.1 q.1 q.2, o_sh g q.1 q.2 (σ q.1 q.2)))).length := by
      rw [List.length_map]; exact (List.getElem?_eq_some_iff.mp hk).1
    rw [if_pos hl]; rfl
  · rw [if_neg hj]
    cases hq : o_ids[j]? with
    | none => rfl
    | some q =>
      have hne : ¬ (q.1 = K ∧ q.2 = i) := by
        rintro ⟨rfl, rfl⟩
        exact hj ((List.getElem?_inj (List.getElem?_eq_some_iff.mp hk).1 o_nodup).mp (hk.trans hq.symm))
      show some (g.2.1 q.1 q.2, o_sh g q.1 q.2 (σ q.1 q.2)) = some (g.2.1 q.1 q.2, o_sh g q.1 q.2 (σ' q.1 q.2))
      rw [h1 q.1 q.2 hne]
def o_up (σ : oMem) (K i j : Nat) (v : Int) : oMem := fun K' i' j' => if K' = K ∧ i' = i ∧ j' = j then v else σ K' i' j'
theorem o_up_at (σ : oMem) (K i j : Nat) (v : Int) (K' i' j' : Nat) : o_up σ K i j v K' i' j' = if K' = K ∧ i' = i ∧ j' = j then v else σ K' i' j' := rfl
theorem o_up_row (σ : oMem) (K i j : Nat) (v : Int) (K' i' : Nat) (h : ¬ (K' = K ∧ i' = i)) : o_up σ K i j v K' i' = σ K' i' := by
  funext j'
  exact if_neg (fun q => h ⟨q.1, q.2.1⟩)
theorem o_up_own (σ : oMem) (K i j : Nat) (v : Int) : o_up σ K i j v K i = fun j' => if j' = j then v else σ K i j' := by
  funext j'
  simp [o_up]
/-! whole numbers and ints -/
theorem o_size : (Int32.size : Int) = 4294967296 := rfl
theorem o_toInt {z : Int} (h : InR z) : (Int32.ofInt z).toInt = z := by
  rw [Int32.toInt_ofInt]
  exact Int.bmod_eq_of_le (by have := h.1; have := o_size; omega) (by have := h.2; have := o_size; omega)
theorem o_le {a b : Int} (ha : InR a) (hb : InR b) : Int32.ofInt a ≤ Int32.ofInt b ↔ a ≤ b := by rw [Int32.le_iff_toInt_le, o_toInt ha, o_toInt hb]
theorem o_lt {a b : Int} (ha : InR a) (hb : InR b) : Int32.ofInt a < Int32.ofInt b ↔ a < b := by rw [Int32.lt_iff_toInt_lt, o_toInt ha, o_toInt hb]
theorem o_eq {a b : Int} (ha : InR a) (hb : InR b) : Int32.ofInt a = Int32.ofInt b ↔ a = b := by rw [← Int32.toInt_inj, o_toInt ha, o_toInt hb]
theorem o_of (x : Int32) : ∃ z : Int, InR z ∧ x = Int32.ofInt z := ⟨x.toInt, ⟨Int32.minValue_le_toInt x, Int32.toInt_le x⟩, (Int32.ofInt_toInt x).symm⟩
theorem o_add (a b : Int) : Int32.ofInt a + Int32.ofInt b = Int32.ofInt (a + b) := (Int32.ofInt_add a b).symm
theorem o_sub (a b : Int) : Int32.ofInt a - Int32.ofInt b = Int32.ofInt (a - b) := (Int32.ofInt_sub a b).symm
theorem o_mul (a b : Int) : Int32.ofInt a * Int32.ofInt b = Int32.ofInt (a * b) := (Int32.ofInt_mul a b).symm
theorem o_div {a b : Int} (ha : 0 ≤ a) (hb : 0 < b) (h1 : InR a) (h2 : InR b) : Int32.ofInt a / Int32.ofInt b = Int32.ofInt (a / b) := by
  rw [← Int32.toInt_inj, Int32.toInt_div, o_toInt h1, o_toInt h2, Int.tdiv_eq_ediv_of_nonneg ha]
  have h3 : 0 ≤ a / b := Int.ediv_nonneg ha (Int.le_of_lt hb)
  have h4 : a / b ≤ a := Int.ediv_le_self b ha
  have h5 : InR (a / b) := ⟨by omega, by have := h1.2; omega⟩
  rw [o_toInt h5]
  exact Int.bmod_eq_of_le (by have := h5.1; have := o_size; omega) (by have := h5.2; have := o_size; omega)
theorem o_in {z : Int} {n : Nat} (h0 : 0 ≤ z) (h1 : z < n) (hn : n ≤ 2147483647) : vp_in (Int32.ofInt z) n := by
  rw [vp_in_iff, o_toInt ⟨by omega, by omega⟩]
  exact ⟨h0, h1⟩
theorem o_nat {z : Int} (h : InR z) : (Int32.ofInt z).toNatClampNeg = z.toNat := by
  rw [← o_toInt h]
  simp [o_toInt h, Int32.toNatClampNeg]
/-! a frame's locals: a list of values, none where unset; none of two slots -/
def o_as : Nat → List (Option Value) → List (Nat × Value)
  | _, [] => []
  | i, none :: r => o_as (i + 1) r
  | i, some v :: r => (i, v) :: o_as (i + 1) r
theorem o_as_mem {i : Nat} {v : Value} : ∀ (vs : List (Option Value)) (k : Nat), (i, v) ∈ o_as k vs ↔ ∃ j : Nat, i = k + j ∧ vs[j]? = some (some v)
  | [], k => by simp [o_as]
  | none :: r, k => by
    rw [o_as, o_as_mem r (k + 1)]
    constructor
    · rintro ⟨j, h1, h2⟩
      exact ⟨j + 1, by omega, by simpa using h2⟩
    · rintro ⟨j, h1, h2⟩
      cases j with
      | zero => simp at h2
      | succ j => exact ⟨j, by omega, by simpa using h2⟩
  | some w :: r, k => by
    rw [o_as, List.mem_cons, o_as_mem r (k + 1)]
    constructor
    · rintro (h | ⟨j, h1, h2⟩)
      · cases h
        exact ⟨0, rfl, rfl⟩
      · exact ⟨j + 1, by omega, by simpa using h2⟩
    · rintro ⟨j, h1, h2⟩
      cases j with
      | zero =>
        simp at h2
        exact Or.inl (by rw [h1, h2]; rfl)
      | succ j => exact Or.inr ⟨j, by omega, by simpa using h2⟩
def oL (ls : Array Slot) (nL : Nat) (vs : List (Option Value)) : Prop := lv_has ls nL (o_as 0 vs) ∧ vs.length = nL ∧ ∀ v : Value, some v ∈ vs → v.category = 1
theorem oL.val {ls : Array Slot} {nL : Nat} {vs : List (Option Value)} (h : oL ls nL vs) {i : Nat} {v : Value} (hi : vs[i]? = some (some v)) : ls[i]? = some (.val v) := h.1.2.2 (i, v) ((o_as_mem vs 0).mpr ⟨i, by omega, hi⟩)
theorem oL.lt {ls : Array Slot} {nL : Nat} {vs : List (Option Value)} (h : oL ls nL vs) {i : Nat} (hi : i < vs.length) : i < nL := h.2.1 ▸ hi
theorem oL.setv {ls ls' : Array Slot} {nL : Nat} {vs : List (Option Value)} (h : oL ls nL vs) {i : Nat} {v : Value} (hv : v.category = 1) (hi : i < vs.length) (h' : lv_has ls' nL ((i, v) :: (o_as 0 vs).filter (fun q => !(q.1 == i) && !(q.1 + 1 == i && q.2.category == 2)))) : oL ls' nL (vs.set i (some v)) := by
  refine ⟨⟨h'.1, h'.2.1, fun q hq => ?_⟩, by rw [List.length_set]; exact h.2.1, fun w hw => ?_⟩
  · obtain ⟨j, h1, h2⟩ := (o_as_mem (i := q.1) (v := q.2) _ 0).mp hq
    rw [List.getElem?_set] at h2
    by_cases hj : i = j
    · subst hj
      rw [if_pos rfl, if_pos hi] at h2
      have h3 := h'.2.2 (i, v) List.mem_cons_self
      have e1 : q.1 = i := by omega
      have e2 : q.2 = v := (Option.some.inj (Option.some.inj h2)).symm
      rw [e1, e2]; exact h3
    · rw [if_neg hj] at h2
      refine h'.2.2 q (List.mem_cons_of_mem _ (List.mem_filter.mpr ⟨(o_as_mem (i := q.1) (v := q.2) _ 0).mpr ⟨j, h1, h2⟩, ?_⟩))
      have hc := h.2.2 q.2 (List.mem_of_getElem? h2)
      have hne : ¬ q.1 = i := by omega
      simp [hne, hc]
  · rcases List.mem_or_eq_of_mem_set hw with h1 | h1
    · exact h.2.2 w h1
    · cases h1; exact hv
theorem oL.entry (av : List Value) {n : Nat} (hc : ∀ v ∈ av, v.category = 1) (hn : av.length ≤ n) : ∃ ls : Array Slot, (lg_sl av ++ List.replicate (n - (lg_sl av).length) Slot.unset).toArray = ls ∧ oL ls n (av.map some ++ List.replicate (n - av.length) none) := by
  have hsl : lg_sl av = av.map Slot.val := by
    unfold lg_sl
    induction av with
    | nil => rfl
    | cons a r ih =>
      rw [List.flatMap_cons, ih (fun v h => hc v (List.mem_cons_of_mem _ h)) (by simp at hn; omega)]
      have h1 := hc a List.mem_cons_self
      simp [h1]
  have hlen : (lg_sl av).length = av.length := by rw [hsl, List.length_map]
  have h := lv_entry av (n := n) (by rw [hlen]; exact hn)
  refine ⟨_, rfl, ⟨h.1, h.2.1, fun q hq => ?_⟩, by simp; omega, fun v hv => ?_⟩
  · obtain ⟨j, h1, h2⟩ := (o_as_mem (i := q.1) (v := q.2) _ 0).mp hq
    have e1 : q.1 = j := by omega
    rw [e1]
    by_cases hj : j < av.length
    · rw [List.getElem?_append_left (by simpa using hj), List.getElem?_map] at h2
      cases hq2 : av[j]? with
      | none => rw [hq2] at h2; simp at h2
      | some w =>
        rw [hq2] at h2
        simp at h2
        rw [hsl, List.getElem?_toArray, List.getElem?_append_left (by simpa using hj), List.getElem?_map, hq2, ← h2]
        rfl
    · rw [List.getElem?_append_right (by simpa using Nat.le_of_not_lt hj)] at h2
      rw [List.getElem?_replicate] at h2
      split at h2 <;> simp at h2
  · rcases List.mem_append.mp hv with h1 | h1
    · obtain ⟨w, hw, e⟩ := List.mem_map.mp h1
      cases e; exact hc _ hw
    · rw [List.mem_replicate] at h1
      cases h1.2
/-! the judgement: the machine stands in this method at pc with these locals and this stack, in this world, and comes to Q -/
abbrev oCtx : Type := Program × Env × Room × State × MethodId × Array Value × List Frame × Method × Code × (State → Prop) × (Nat → Prop) × Nat
def oW (l : Launch) (g : oG) : oCtx → oMem → Nat → List (Option Value) → List Value → Nat → Prop
  | (p, e, R, s, m, args, below, meth, c, Q, A, nL), σ, pc, vs, st, k => ∀ (H : Heap) (locs : List Loc) (ls : Array Slot), oL ls nL vs → va_P g.1 vwCl (o_ws g σ) H → va_S A s.heap H locs → W p l e R s m args below meth c H locs k (6 * k) Q (F0 m pc ls st)
def o_nf : List (String × Nat × String × String × String × String) := [(RX5, 102, "SlittingOffice$Coil", "length", "I", "SlittingOffice"), (RX5, 135, "SlittingOffice$Pattern", "count", "I", "SlittingOffice"), (RX5, 150, "SlittingOffice$Pattern", "widths", "[I", "SlittingOffice"), (RX5, 219, "SlittingOffice$RunOrder", "best", "[I", "SlittingOffice"), (RX5, 222, "SlittingOffice$Coil", "slitCount", "I", "SlittingOffice"), (RX5, 228, "SlittingOffice$Coil", "slitWeights", "[I", "SlittingOffice"), (RX5, 231, "SlittingOffice$Coil", "slitOrders", "[I", "SlittingOffice"), (RX5, 234, "SlittingOffice$Coil", "innerTurns", "I", "SlittingOffice"), (RX5, 237, "SlittingOffice$Coil", "cutOut", "I", "SlittingOffice"), (RX5, 240, "SlittingOffice$Coil", "trim", "I", "SlittingOffice"), (RX5, 246, "SlittingOffice$Order", "received", "I", "SlittingOffice"), (RX5, 249, "SlittingOffice$Order", "heat", "I", "SlittingOffice"), (RX5, 275, "SlittingOffice$Coil", "width", "I", "SlittingOffice"), (RX5, 287, "SlittingOffice$Coil", "heat", "I", "SlittingOffice"), (RX5, 291, "SlittingOffice$Order", "width", "I", "SlittingOffice"), (RX5, 302, "SlittingOffice$Coil", "slitWidths", "[I", "SlittingOffice"), (RX5, 315, "SlittingOffice$RunOrder", "moves", "[[I", "SlittingOffice"), (RX0, 76, "SlittingOffice$Pattern", "count", "I", "SlittingOffice"), (RX0, 81, "SlittingOffice$Pattern", "widths", "[I", "SlittingOffice")]
def o_nm : List (String × Nat × MethodName × String) := [(RX5, 105, yX0_isSlit, "SlittingOffice"), (RX5, 109, yX0_hasMostDefects, "SlittingOffice"), (RX5, 114, yX0_addDefect, "SlittingOffice"), (RX5, 118, yX0_cutOutLength, "SlittingOffice"), (RX5, 125, yX2_describe, "SlittingOffice"), (RX5, 127, yX3_isFull, "SlittingOffice"), (RX5, 132, yX3_append, "SlittingOffice"), (RX5, 138, yX3_empty, "SlittingOffice"), (RX5, 141, yX3_hasSlitAt, "SlittingOffice"), (RX5, 155, yX3_becomeCopyOf, "SlittingOffice"), (RX5, 174, yX1_greatestTotal, "SlittingOffice"), (RX5, 178, yX1_layOut, "SlittingOffice"), (RX5, 184, yX1_greatestTotalByTrying, "SlittingOffice"), (RX5, 207, yX4_fewestBySets, "SlittingOffice"), (RX5, 211, yX4_fewestByOrders, "SlittingOffice"), (RX5, 216, yX4_findBest, "SlittingOffice"), (RX5, 252, yX0_stockOf, "SlittingOffice"), (RX5, 272, yX0_hasSlitAt, "SlittingOffice"), (RX5, 278, yX3_totalWidth, "SlittingOffice"), (RX5, 281, yX3_knivesNeeded, "SlittingOffice"), (RX5, 284, yX1_forgetWidths, "SlittingOffice"), (RX5, 288, yX2_wouldTakeHeat, "SlittingOffice"), (RX5, 292, yX1_offerWidth, "SlittingOffice"), (RX5, 295, yX0_slitBy, "SlittingOffice"), (RX5, 308, yX2_receive, "SlittingOffice"), (RX5, 311, yX3_knivesNotIn, "SlittingOffice"), (RX5, 37, yX3_init, "SlittingOffice"), (RX5, 69, yX1_init, "SlittingOffice"), (RX5, 76, yX4_init, "SlittingOffice"), (RX5, 81, yX0_init, "SlittingOffice"), (RX5, 82, yX2_init, "SlittingOffice"), (RX5, 94, yX0_describe, "SlittingOffice"), (RX1, 32, yX3_empty, "SlittingOffice"), (RX1, 40, yX3_append, "SlittingOffice")]
def o_ca : List String := ["java/lang/IllegalArgumentException", "java/lang/IllegalStateException", "java/lang/IndexOutOfBoundsException"]
def o_tx : List (String × Nat × String) := [(RX5, 112, "the coil is slit or has no room for a defect"), (RX5, 123, "no more orders"), (RX5, 130, "the draft has no room for a slit"), (RX5, 147, "the draft has no such slit"), (RX5, 153, "the draft is empty or there are no more patterns"), (RX5, 182, "too many knives for trying"), (RX5, 191, "the coil is slit or the pattern does not fit it"), (RX5, 202, "the run can not wait"), (RX5, 214, "no such place"), (RX5, 257, "out of range"), (RX5, 263, "no such coil"), (RX5, 268, "no such pattern"), (RX5, 270, "no such order"), (RX5, 273, "the coil has no such slit"), (RX5, 89, "no more coils")]
/-- what is known of the tables beside the words: links among nest mates, texts, two statics of Throwable -/
def oF (A : Nat → Prop) (U : State) (H : Heap) : Prop :=
  (∀ q ∈ o_nf, va_Nw (.fieldLinkNest q.1 q.2.1 q.2.2.1 q.2.2.2.1 q.2.2.2.2.1 q.2.2.2.2.2) U) ∧ (∀ q ∈ o_nm, va_Nw (.methodLinkNest q.1 q.2.1 q.2.2.1 q.2.2.2) U) ∧ (∀ q ∈ o_tx, ∃ a : Nat, vk_R q.1 q.2.1 q.2.2 a U) ∧
  vx_Zq Bundle.tN "UNASSIGNED_STACK" Bundle.steD A U H ∧ vx_Zq Bundle.tN "SUPPRESSED_SENTINEL" Bundle.listD A U H ∧ (∀ q ∈ o_ca, va_Nw (.castable q q) U)
def oA (g : oG) (sz : Nat) : Nat → Prop := va_A (o_ws g (fun _ _ _ => 0)) sz
theorem o_ws_addr {g : oG} {σ σ' : oMem} {k : Nat} {a : Nat} {e : va_E} (h : (o_ws g σ)[k]? = some (a, e)) : ∃ e' : va_E, (o_ws g σ')[k]? = some (a, e') := by
  rw [o_ws, List.getElem?_map] at h
  cases hq : o_ids[k]? with
  | none => rw [hq] at h; simp at h
  | some q =>
    rw [hq] at h
    have h1 := congrArg (Option.map Prod.fst) h
    simp at h1
    exact ⟨_, by rw [o_ws, List.getElem?_map, hq, ← h1]; rfl⟩
theorem oA_ws {g : oG} {σ : oMem} {sz q : Nat} : oA g sz q ↔ va_A (o_ws g σ) sz q := by
  constructor
  · rintro (⟨k, e, h⟩ | h)
    · obtain ⟨e', h'⟩ := o_ws_addr (σ' := σ) h
      exact Or.inl ⟨k, e', h'⟩
    · exact Or.inr h
  · rintro (⟨k, e, h⟩ | h)
    · obtain ⟨e', h'⟩ := o_ws_addr (σ' := fun _ _ _ => 0) h
      exact Or.inl ⟨k, e', h'⟩
    · exact Or.inr h
theorem o_ws_D {g : oG} {σ σ' : oMem} {A : Nat → Prop} (h : va_D A (o_ws g σ)) : va_D A (o_ws g σ') := by
  refine ⟨fun i j p q h1 h2 h3 => ?_, fun k q h1 => ?_⟩
  · obtain ⟨e1, h1'⟩ := o_ws_addr (σ' := σ) (a := p.1) (e := p.2) h1
    obtain ⟨e2, h2'⟩ := o_ws_addr (σ' := σ) (a := q.1) (e := q.2) h2
    exact h.1 i j _ _ h1' h2' h3
  · obtain ⟨e1, h1'⟩ := o_ws_addr (σ' := σ) (a := q.1) (e := q.2) h1
    exact h.2 k (q.1, e1) h1'
def oPre (g : oG) (σ : oMem) (sz : Nat) (U : State) : Prop := U.heap.size = sz ∧ va_P g.1 vwCl (o_ws g σ) U.heap ∧ va_K g.1 vwCl (o_tys g) U ∧ va_D (fun _ => True) (o_ws g (fun _ _ _ => 0)) ∧ oF (oA g sz) U U.heap
def oK (l : Launch) (g : oG) (own : String) (cc : ByteArray) (lam mc : Nat) : oCtx → Prop
  | (p, e, R, s, m, args, below, meth, c, Q, A, nL) => p.tables.exec = Jvm.exec ∧ c.code = cc ∧ c.maxLocals = nL ∧ s.vm.findClass own = some m.cls ∧ (∀ w ∈ wsL_law, w.before args s = true) ∧ va_K g.1 vwCl (o_tys g) s ∧ va_D A (o_ws g (fun _ _ _ => 0)) ∧ (∀ q : Nat, s.heap.size ≤ q → A q) ∧ oF A s s.heap ∧ (10 + lam ≤ R.frames ∧ 200 + 100 * lam ≤ R.locals ∧ mc ≤ R.cells ∧ 6 * mc ≤ R.slots)
def oRm (lam mc : Nat) : Room := { frames := 10 + lam, cells := mc, slots := 6 * mc, locals := 200 + 100 * lam }
theorem oF.same {A : Nat → Prop} {u U : State} {H : Heap} (h : u.vm = U.vm) (f : oF A u H) : oF A U H := by
  obtain ⟨f1, f2, f3, f4, f5, f6⟩ := f
  refine ⟨fun q hq => va_Nw.same rfl h (f1 q hq), fun q hq => va_Nw.same rfl h (f2 q hq), fun q hq => ?_, f4.moved (by rw [h]; exact Vm.Alike.refl _), f5.moved (by rw [h]; exact Vm.Alike.refl _), fun q hq => va_Nw.same rfl h (f6 q hq)⟩
  obtain ⟨a, ha⟩ := f3 q hq
  exact ⟨a, ha.same h.symm⟩
theorem oF.warm {A : Nat → Prop} {s U : State} {H : Heap} (h : s.WarmedH U.vm) (f : oF A s H) : oF A U H := by
  obtain ⟨f1, f2, f3, f4, f5, f6⟩ := f
  refine ⟨fun q hq => va_Nw.warmF h (f1 q hq), fun q hq => va_Nw.warmM h (f2 q hq), fun q hq => ?_, f4.moved h.alike, f5.moved h.alike, fun q hq => va_Nw.warmC h (f6 q hq)⟩
  obtain ⟨a, ha⟩ := f3 q hq
  exact ⟨a, ha.warm h⟩
theorem oF.kept {A : Nat → Prop} {U : State} {H H1 : Heap} (hq : ∀ a : Nat, a < H.size → ¬ A a → H1[a]? = H[a]?) (f : oF A U H) : oF A U H1 := ⟨f.1, f.2.1, f.2.2.1, f.2.2.2.1.kept hq, f.2.2.2.2.1.kept hq, f.2.2.2.2.2⟩
theorem oF.narrow {A B : Nat → Prop} {U : State} {H : Heap} (hAB : ∀ q, B q → A q) (f : oF A U H) : oF B U H := ⟨f.1, f.2.1, f.2.2.1, f.2.2.2.1.narrow hAB, f.2.2.2.2.1.narrow hAB, f.2.2.2.2.2⟩
theorem oA_in {g : oG} {A : Nat → Prop} {H0 H : Heap} (hD : va_D A (o_ws g (fun _ _ _ => 0))) (hA : ∀ q : Nat, H0.size ≤ q → A q) (hz : H0.size ≤ H.size) : ∀ q : Nat, oA g H.size q → A q := by
  rintro q (⟨k, e, h⟩ | h)
  · exact hD.2 k _ h
  · exact hA q (Nat.le_trans hz h)
theorem oPre_blind {g : oG} {av : List Value} {σ : oMem} {sz : Nat} : FrameBlind (va_Pc av (oPre g σ sz)) := by
  intro a U g' mk h
  obtain ⟨h0, h1, h2, h3, h4, h5⟩ := h
  exact ⟨h0, h1, h2, va_K.moved (u := U) (U := U.calling g' mk a) (Vm.Alike.refl U.vm) h3, h4, oF.same (u := U) (U := U.calling g' mk a) rfl h5⟩
/-- the world at a call -/
theorem o_pre {l : Launch} {g : oG} {own : String} {cc : ByteArray} {lam mc : Nat} {p : Program} {e : Env} {R : Room} {s : State} {m : MethodId} {args : Array Value} {below : List Frame} {meth : Method} {c : Code} {Q : State → Prop} {A : Nat → Prop} {nL : Nat}
    (C : oK l g own cc lam mc (p, e, R, s, m, args, below, meth, c, Q, A, nL)) {σ : oMem} {H : Heap} {locs : List Loc} (hP : va_P g.1 vwCl (o_ws g σ) H) (hS : va_S A s.heap H locs) (av : List Value) : ∀ U : State, U.heap = H → s.WarmedH U.vm → va_Pc av (oPre g σ H.size) av.toArray U := by
  obtain ⟨-, -, -, -, -, hK, hD, hA, hF, -⟩ := C
  intro U hU hW
  refine ⟨rfl, by rw [hU], by rw [hU]; exact hP, va_K.moved hW.alike hK, ⟨hD.1, fun _ _ _ => trivial⟩, ?_⟩
  rw [hU]
  exact ((hF.kept (fun a h1 h2 => hS.2.1 a h1 h2)).narrow (oA_in hD hA hS.1)).warm hW
/-! contracts: an int that is z, the world behind it; nothing; and such methods as may throw, the world being as it was -/
def oMi (l : Launch) (g : oG) (y : MethodName) (w : Cond) (lam mc : Nat) (av : List Value) (σ : oMem) (post : Int → oMem → Prop) : Prop :=
  ∀ sz : Nat, Met l y (w :: wsL_law) (oRm lam mc) (va_Pc av (oPre g σ sz)) (va_Qi (fun r (σ' : oMem) => ∃ z : Int, r = Int32.ofInt z ∧ post z σ') (fun σ' t => va_P g.1 vwCl (o_ws g σ') t.heap) (oA g sz)) mc (6 * mc) (oA g sz)
def oMv (l : Launch) (g : oG) (y : MethodName) (w : Cond) (lam mc : Nat) (av : List Value) (σ : oMem) (post : oMem → Prop) : Prop :=
  ∀ sz : Nat, Met l y (w :: wsL_law) (oRm lam mc) (va_Pc av (oPre g σ sz)) (va_Qv post (fun σ' t => va_P g.1 vwCl (o_ws g σ') t.heap) (oA g sz)) mc (6 * mc) (oA g sz)
def oXC (g : oG) (σ : oMem) (px : String → Prop) (sz : Nat) : String → State → State → Prop := vx_X (S := Unit) (fun _ => True) (fun E _ t => px E ∧ va_P g.1 vwCl (o_ws g σ) t.heap) (oA g sz)
def oXi (l : Launch) (g : oG) (y : MethodName) (w : Cond) (lam mc : Nat) (av : List Value) (σ : oMem) (post : Int → oMem → Prop) (px : String → Prop) : Prop :=
  ∀ sz : Nat, vx_Met l y (w :: wsL_law) (oRm lam mc) (va_Pc av (oPre g σ sz)) (va_Qi (fun r (σ' : oMem) => ∃ z : Int, r = Int32.ofInt z ∧ post z σ') (fun σ' t => va_P g.1 vwCl (o_ws g σ') t.heap) (oA g sz)) (oXC g σ px sz) mc (6 * mc) (oA g sz)
def oXv (l : Launch) (g : oG) (y : MethodName) (w : Cond) (lam mc : Nat) (av : List Value) (σ : oMem) (post : oMem → Prop) (px : String → Prop) : Prop :=
  ∀ sz : Nat, vx_Met l y (w :: wsL_law) (oRm lam mc) (va_Pc av (oPre g σ sz)) (va_Qv post (fun σ' t => va_P g.1 vwCl (o_ws g σ') t.heap) (oA g sz)) (oXC g σ px sz) mc (6 * mc) (oA g sz)
end
section
/-- what a throw comes to, in a method that may throw, the world being as it was at its entry -/
def oT (l : Launch) (g : oG) (own : String) (cc : ByteArray) (mc : Nat) (σ0 : oMem) (px : String → Prop) (x : oCtx) : Prop :=
  (match x with
  | (p, e, R, s, m, args, below, meth, c, Q, A, nL) => ∀ (E : String) (ce : Cell) (q : Nat) (H : Heap) (locs : List Loc) (ls : Array Slot) (pc : Nat) (rest : List Value) (k : Nat), px E → va_P g.1 vwCl (o_ws g σ0) H → va_S A s.heap H locs → H[q]? = some ce → ce.vm = .none → s.vm.findClass E = some ce.cls → k ≤ mc → vx_W p l e R s m args below meth c H locs k (6 * k) Q (F0 m pc ls rest) q) ∧
  ∀ (pc ik is ic : Nat) (cls text : String) (vs : List (Option Value)) (k : Nat), px cls → Bundle.fit cls = true → cls ∈ o_ca → Cond.classLink own ik cls ∈ wsL_law → Cond.initialized cls ∈ wsL_law → (own, is, text) ∈ o_tx →
    (∀ w ∈ (vx_atS own ic cls ["java/lang/RuntimeException", "java/lang/Exception"]).filter goodWord, w ∈ wsL_law) → (∀ w ∈ (vx_atS own ic cls ["java/lang/RuntimeException", "java/lang/Exception"]).filter (fun w => !goodWord w), w = Cond.castable cls cls) →
    (∀ w ∈ Cond.classLink own ik cls :: Cond.initialized cls :: vx_atS own ic cls ["java/lang/RuntimeException", "java/lang/Exception"], vx_ot w = true) →
    decode cc pc = .ok (.new ik, 3) → decode cc (pc + 3) = .ok (.dup, 1) → decode cc (pc + 4) = .ok (.ldc is, 2) → decode cc (pc + 6) = .ok (.invokespecial ic, 3) → decode cc (pc + 9) = .ok (.athrow, 1) → k + 1 ≤ mc → oW l g x σ0 pc vs [] k
theorem o_bodyI {l : Launch} {g : oG} {own : String} {cc : ByteArray} {ty : FieldType} {maxL lam mc : Nat} {σ : oMem} {post : Int → oMem → Prop} {p : Program} {e : Env} {R : Room} {s : State} {m : MethodId} {args : Array Value} {below : List Frame} {meth : Method} {c : Code} {A : Nat → Prop} {Q0 : Array Value → State → Outcome → State → Prop}
    (hx : p.tables.exec = Jvm.exec) (hb : c.code = cc) (hr : meth.sig.returnType = some ty) (hlocks : meth.locks = false) (hQ : ∀ (z : Int) (σ' : oMem) (t : State), post z σ' → va_P g.1 vwCl (o_ws g σ') t.heap → va_F A s t → Q0 args s (.returned (some (oi z))) t) {z : Int} {σ' : oMem} {pc : Nat} {vs : List (Option Value)} {k : Nat} (hd : decode cc pc = .ok (.ireturn, 1)) (hn : narrow ty (oi z) = oi z) (hp : post z σ') (hk : k ≤ mc) :
    oW l g (p, e, R, s, m, args, below, meth, c, MQ below Q0 args s mc (6 * mc) A, A, maxL) σ' pc vs [oi z] k := by
  intro H locs ls hl hP hS
  refine W.widen (k := mc) (n := 6 * mc) hk (Nat.mul_le_mul_left 6 hk) ?_
  exact W.zret hx hb hr hn (fun t ht hW => hQ z σ' t hp (by rw [ht]; exact hP) (hS.F ht)) hS.2.2 hd hlocks
theorem o_bodyV {l : Launch} {g : oG} {cc : ByteArray} {maxL mc : Nat} {post : oMem → Prop} {p : Program} {e : Env} {R : Room} {s : State} {m : MethodId} {args : Array Value} {below : List Frame} {meth : Method} {c : Code} {A : Nat → Prop} {Q0 : Array Value → State → Outcome → State → Prop}
    (hx : p.tables.exec = Jvm.exec) (hb : c.code = cc) (hr : meth.sig.returnType = none) (hlocks : meth.locks = false) (hQ : ∀ (σ' : oMem) (t : State), post σ' → va_P g.1 vwCl (o_ws g σ') t.heap → va_F A s t → Q0 args s (.returned none) t) {σ' : oMem} {pc : Nat} {vs : List (Option Value)} {k : Nat} (hd : decode cc pc = .ok (.return_, 1)) (hp : post σ') (hk : k ≤ mc) :
    oW l g (p, e, R, s, m, args, below, meth, c, MQ below Q0 args s mc (6 * mc) A, A, maxL) σ' pc vs [] k := by
  intro H locs ls hl hP hS
  refine W.widen (k := mc) (n := 6 * mc) hk (Nat.mul_le_mul_left 6 hk) ?_
  exact W.vret hx hb hr (fun t ht hW => hQ σ' t hp (by rw [ht]; exact hP) (hS.F ht)) hS.2.2 hd hlocks
theorem o_ctx {l : Launch} {g : oG} {own : String} {y : MethodName} {w : Cond} {cc : ByteArray} {ret : Option FieldType} {maxL lam mc : Nat} {σ : oMem} {p : Program} {e : Env} {s s₁ : State} {m : MethodId} {args : Array Value} {below : List Frame} {meth : Method} {c : Code} {Q : State → Prop}
    (B : BodyLoose p l y (headSpec (w :: wsL_law) (oRm lam mc)) cc maxL ret e s m args below meth c s₁) (hml : c.maxLocals = maxL) (ho : y.cls = own) {sz : Nat} (hv : oPre g σ sz s) :
    oK l g own cc lam mc (p, e, (headSpec (w :: wsL_law) (oRm lam mc)).room, s, m, args, below, meth, c, Q, oA g sz, maxL) ∧ va_P g.1 vwCl (o_ws g σ) s.heap ∧ va_S (oA g sz) s.heap s.heap [] ∧ sz = s.heap.size := by
  obtain ⟨h0, hP, hK, hD, hF⟩ := hv
  subst h0
  subst ho
  have hts := atoms_spec (ws := w :: wsL_law) B.pre
  exact ⟨⟨B.exec, B.bytes, hml, findClass_of_methodNamed B.named, fun w' hw => hts w' (List.mem_cons_of_mem _ hw), hK, hD.self, fun q h => Or.inr h, hF, ⟨Nat.le_refl _, Nat.le_refl _, Nat.le_refl _, Nat.le_refl _⟩⟩, hP, va_S.rf, rfl⟩
theorem oMi_of {l : Launch} {g : oG} {own : String} {y : MethodName} {cc : ByteArray} {ty : FieldType} {maxL lam mc : Nat} {av : List Value} {σ : oMem} {post : Int → oMem → Prop} (hy : plainName y.cls = true) (ho : y.cls = own) (hc : ∀ v ∈ av, v.category = 1) (hn : av.length ≤ maxL)
    (body : ∀ x : oCtx, oK l g own cc lam mc x → (∀ (z : Int) (σ' : oMem) (pc : Nat) (vs : List (Option Value)) (k : Nat), decode cc pc = .ok (.ireturn, 1) → narrow ty (oi z) = oi z → post z σ' → k ≤ mc → oW l g x σ' pc vs [oi z] k) → oW l g x σ 0 (av.map some ++ List.replicate (maxL - av.length) none) [] 0) :
    oMi l g y (.code y cc maxL (some ty)) lam mc av σ post := by
  intro sz
  refine Met.ofW (cc := cc) (maxL := maxL) (ret := some ty) hy rfl ?_
  intro p e s m args below meth c s₁ B hml hv
  obtain ⟨rfl, hv⟩ := hv
  obtain ⟨C, hP, hS, -⟩ := o_ctx B hml ho hv
  obtain ⟨ls, e1, hl⟩ := oL.entry av (n := maxL) hc hn
  rw [lg_entry_eq, e1]
  exact body _ C (fun z σ' pc vs k hd hn9 hp hk => o_bodyI (own := own) (lam := lam) (σ := σ) B.exec B.bytes B.returns B.notSynchronized (fun z9 σ9 t9 h1 h2 h3 => ⟨⟨Int32.ofInt z9, σ9, rfl, ⟨z9, rfl, h1⟩, h2⟩, h3⟩) hd hn9 hp hk) s.heap [] ls hl hP hS
theorem oMv_of {l : Launch} {g : oG} {own : String} {y : MethodName} {cc : ByteArray} {maxL lam mc : Nat} {av : List Value} {σ : oMem} {post : oMem → Prop} (hy : plainName y.cls = true) (ho : y.cls = own) (hc : ∀ v ∈ av, v.category = 1) (hn : av.length ≤ maxL)
    (body : ∀ x : oCtx, oK l g own cc lam mc x → (∀ (σ' : oMem) (pc : Nat) (vs : List (Option Value)) (k : Nat), decode cc pc = .ok (.return_, 1) → post σ' → k ≤ mc → oW l g x σ' pc vs [] k) → oW l g x σ 0 (av.map some ++ List.replicate (maxL - av.length) none) [] 0) :
    oMv l g y (.code y cc maxL none) lam mc av σ post := by
  intro sz
  refine Met.ofW (cc := cc) (maxL := maxL) (ret := none) hy rfl ?_
  intro p e s m args below meth c s₁ B hml hv
  obtain ⟨rfl, hv⟩ := hv
  obtain ⟨C, hP, hS, -⟩ := o_ctx B hml ho hv
  obtain ⟨ls, e1, hl⟩ := oL.entry av (n := maxL) hc hn
  rw [lg_entry_eq, e1]
  exact body _ C (fun σ' pc vs k hd hp hk => o_bodyV B.exec B.bytes B.returns B.notSynchronized (fun σ9 t9 h1 h2 h3 => ⟨⟨σ9, rfl, h1, h2⟩, h3⟩) hd hp hk) s.heap [] ls hl hP hS
theorem o_thrower {l : Launch} {g : oG} {own : String} {y : MethodName} {w : Cond} {cc : ByteArray} {ret : Option FieldType} {maxL lam mc : Nat} {σ : oMem} {px : String → Prop} {Qc : Array Value → State → Outcome → State → Prop} {p : Program} {e : Env} {s s₁ : State} {m : MethodId} {args : Array Value} {below : List Frame} {meth : Method} {c : Code} (hl : l.stackTraces = false) {sz : Nat}
    (B : BodyLoose p l y (headSpec (w :: wsL_law) (oRm lam mc)) cc maxL ret e s m args below meth c s₁) (ht : ∀ x ∈ c.exceptionTable.toList, False) (C : oK l g own cc lam mc (p, e, (headSpec (w :: wsL_law) (oRm lam mc)).room, s, m, args, below, meth, c, vx_MQ below Qc (oXC g σ px sz) args s mc (6 * mc) (oA g sz), oA g sz, maxL)) :
    oT l g own cc mc σ px (p, e, (headSpec (w :: wsL_law) (oRm lam mc)).room, s, m, args, below, meth, c, vx_MQ below Qc (oXC g σ px sz) args s mc (6 * mc) (oA g sz), oA g sz, maxL) := by
  refine ⟨fun E ce q H locs ls pc rest k hp hP hS h1 h2 h3 hk => vx_out (fun x hx => absurd (ht x hx) id) B.notSynchronized h1 h2 h3 (fun t e1 hW => ⟨(), trivial, ⟨hp, by rw [e1]; exact hP⟩, hS.F e1⟩) hS.2.2 hk (Nat.mul_le_mul_left 6 hk), ?_⟩
  intro pc ik is ic cls text vs k hp hfit hca hk hini htx hgood hbad hot d0 d3 d4 d6 d9 hkm
  obtain ⟨hx, hb, hml, hown, hts, hK, hD, hA, hF, hR⟩ := C
  intro H locs ls hl9 hP hS
  obtain ⟨sa, hstr⟩ := hF.2.2.1 _ htx
  have hcast : (Cond.castable cls cls).before args s = true := va_Nw.use rfl (hF.2.2.2.2.2 _ hca)
  refine vx_throwS (sa := sa) (names := ["java/lang/RuntimeException", "java/lang/Exception"]) hx hb hl hown hfit (by decide +kernel) (hts _ hk) (hts _ hini) hstr (fun w hw => ?_) hot hF.2.2.2.1 hF.2.2.2.2.1 hS (hl9.1.1.trans hml.symm) d0 d3 d4 d6 d9 (fun x hx => absurd (ht x hx) id) (Nat.lt_of_lt_of_le (by show 2 + 3 < 10; omega) (Nat.le_trans (Nat.le_add_right _ _) hR.1)) (Nat.le_trans (by show 0 + (13 * (2 + 1) + 43) ≤ 200; omega) (Nat.le_trans (Nat.le_add_right _ _) hR.2.1)) (Nat.le_trans hkm hR.2.2.1) (Nat.le_trans (by omega) hR.2.2.2) B.notSynchronized (fun t hW hz hh => ?_) hS.2.2 hkm (by omega)
  · by_cases hg : goodWord w = true
    · exact hts _ (hgood w (List.mem_filter.mpr ⟨hw, hg⟩))
    · rw [hbad w (List.mem_filter.mpr ⟨hw, by simp [hg]⟩)]; exact hcast
  · refine ⟨(), trivial, ⟨hp, ?_⟩, ?_⟩
    · exact fun k q hq => (hP k q hq).kept (hh q.1 (vx_lt hP hq))
    · exact ⟨Nat.le_trans hS.1 hz, fun q h1 h2 => by rw [hh q (Nat.lt_of_lt_of_le h1 hS.1)]; exact hS.2.1 q h1 h2⟩
theorem oXi_of {l : Launch} {g : oG} {own : String} {y : MethodName} {cc : ByteArray} {ty : FieldType} {maxL lam mc : Nat} {av : List Value} {σ : oMem} {post : Int → oMem → Prop} {px : String → Prop} (hl : l.stackTraces = false) (hy : plainName y.cls = true) (ho : y.cls = own) (hc : ∀ v ∈ av, v.category = 1) (hn : av.length ≤ maxL)
    (body : ∀ x : oCtx, oK l g own cc lam mc x → oT l g own cc mc σ px x → (∀ (z : Int) (σ' : oMem) (pc : Nat) (vs : List (Option Value)) (k : Nat), decode cc pc = .ok (.ireturn, 1) → narrow ty (oi z) = oi z → post z σ' → k ≤ mc → oW l g x σ' pc vs [oi z] k) → oW l g x σ 0 (av.map some ++ List.replicate (maxL - av.length) none) [] 0) :
    oXi l g y (.code y cc maxL (some ty)) lam mc av σ post px := by
  intro sz
  refine vx_ofW (cc := cc) (maxL := maxL) (ret := some ty) hy rfl ?_
  intro p e s m args below meth c s₁ B hml ht hv
  obtain ⟨rfl, hv⟩ := hv
  obtain ⟨C, hP, hS, -⟩ := o_ctx B hml ho hv
  obtain ⟨ls, e1, hl2⟩ := oL.entry av (n := maxL) hc hn
  rw [lg_entry_eq, e1]
  refine body _ C (o_thrower hl B ht C) (fun z σ' pc vs k hd hn9 hp hk => ?_) s.heap [] ls hl2 hP hS
  exact fun H locs ls hl hP hS => vx_ret (o_bodyI (l := l) (own := own) (lam := lam) (σ := σ) (post := post) B.exec B.bytes B.returns B.notSynchronized (fun z9 σ9 t9 h1 h2 h3 => ⟨⟨Int32.ofInt z9, σ9, rfl, ⟨z9, rfl, h1⟩, h2⟩, h3⟩) hd hn9 hp hk H locs ls hl hP hS)
theorem oXv_of {l : Launch} {g : oG} {own : String} {y : MethodName} {cc : ByteArray} {maxL lam mc : Nat} {av : List Value} {σ : oMem} {post : oMem → Prop} {px : String → Prop} (hl : l.stackTraces = false) (hy : plainName y.cls = true) (ho : y.cls = own) (hc : ∀ v ∈ av, v.category = 1) (hn : av.length ≤ maxL)
    (body : ∀ x : oCtx, oK l g own cc lam mc x → oT l g own cc mc σ px x → (∀ (σ' : oMem) (pc : Nat) (vs : List (Option Value)) (k : Nat), decode cc pc = .ok (.return_, 1) → post σ' → k ≤ mc → oW l g x σ' pc vs [] k) → oW l g x σ 0 (av.map some ++ List.replicate (maxL - av.length) none) [] 0) :
    oXv l g y (.code y cc maxL none) lam mc av σ post px := by
  intro sz
  refine vx_ofW (cc := cc) (maxL := maxL) (ret := none) hy rfl ?_
  intro p e s m args below meth c s₁ B hml ht hv
  obtain ⟨rfl, hv⟩ := hv
  obtain ⟨C, hP, hS, -⟩ := o_ctx B hml ho hv
  obtain ⟨ls, e1, hl2⟩ := oL.entry av (n := maxL) hc hn
  rw [lg_entry_eq, e1]
  refine body _ C (o_thrower hl B ht C) (fun σ' pc vs k hd hp hk => ?_) s.heap [] ls hl2 hP hS
  exact fun H locs ls hl hP hS => vx_ret (o_bodyV (l := l) (post := post) B.exec B.bytes B.returns B.notSynchronized (fun σ9 t9 h1 h2 h3 => ⟨⟨σ9, rfl, h1, h2⟩, h3⟩) hd hp hk H locs ls hl hP hS)
end
section
/-! instructions -/
section ORULES
variable {l : Launch} {g : oG} {own : String} {cc : ByteArray} {lam mc : Nat} {x : oCtx} {σ : oMem} {pc : Nat} {vs : List (Option Value)} {st : List Value} {k : Nat}
theorem o_iconst {n : Int} (C : oK l g own cc lam mc x) (hd : decode cc pc = .ok (.iconst n, 1)) (kk : oW l g x σ (pc + 1) vs (oi n :: st) k) : oW l g x σ pc vs st k := by
  obtain ⟨p, e, R, s, m, args, below, meth, c, Q, A, nL⟩ := x
  obtain ⟨hx, hb, -⟩ := C
  exact fun H locs ls hl hP hS => lv_iconst hx hb hd rfl (kk H locs ls hl hP hS)
theorem o_bipush {n : Int} (C : oK l g own cc lam mc x) (hd : decode cc pc = .ok (.bipush n, 2)) (hv : (Int8.ofInt n).toInt32 = Int32.ofInt n) (kk : oW l g x σ (pc + 2) vs (oi n :: st) k) : oW l g x σ pc vs st k := by
  obtain ⟨p, e, R, s, m, args, below, meth, c, Q, A, nL⟩ := x
  obtain ⟨hx, hb, -⟩ := C
  exact fun H locs ls hl hP hS => lv_bipush hx hb hd hv (kk H locs ls hl hP hS)
theorem o_sipush {n : Int} (C : oK l g own cc lam mc x) (hd : decode cc pc = .ok (.sipush n, 3)) (hv : (Int16.ofInt n).toInt32 = Int32.ofInt n) (kk : oW l g x σ (pc + 3) vs (oi n :: st) k) : oW l g x σ pc vs st k := by
  obtain ⟨p, e, R, s, m, args, below, meth, c, Q, A, nL⟩ := x
  obtain ⟨hx, hb, -⟩ := C
  exact fun H locs ls hl hP hS => lv_sipush hx hb hd hv (kk H locs ls hl hP hS)
theorem o_ldcI {n : Int} {index : Nat} (C : oK l g own cc lam mc x) (hd : decode cc pc = .ok (.ldc index, 2)) (hw : Cond.constant own index (Int32.ofInt n) ∈ wsL_law) (kk : oW l g x σ (pc + 2) vs (oi n :: st) k) : oW l g x σ pc vs st k := by
  obtain ⟨p, e, R, s, m, args, below, meth, c, Q, A, nL⟩ := x
  obtain ⟨hx, hb, -, hown, hts, -⟩ := C
  exact fun H locs ls hl hP hS => lv_ldc hx hb hown (hts _ hw) hd (kk H locs ls hl hP hS)
theorem o_iload {i : Nat} {z : Int} (C : oK l g own cc lam mc x) (hd : decode cc pc = .ok (.iload i, 2)) (hi : vs[i]? = some (some (oi z))) (kk : oW l g x σ (pc + 2) vs (oi z :: st) k) : oW l g x σ pc vs st k := by
  obtain ⟨p, e, R, s, m, args, below, meth, c, Q, A, nL⟩ := x
  obtain ⟨hx, hb, -⟩ := C
  exact fun H locs ls hl hP hS => lv_iload hx hb hd (hl.val hi) (kk H locs ls hl hP hS)
theorem o_iload_n {i : Fin 4} {z : Int} (C : oK l g own cc lam mc x) (hd : decode cc pc = .ok (.iload_n i, 1)) (hi : vs[(i : Nat)]? = some (some (oi z))) (kk : oW l g x σ (pc + 1) vs (oi z :: st) k) : oW l g x σ pc vs st k := by
  obtain ⟨p, e, R, s, m, args, below, meth, c, Q, A, nL⟩ := x
  obtain ⟨hx, hb, -⟩ := C
  exact fun H locs ls hl hP hS => lv_iload_n hx hb hd rfl (hl.val hi) (kk H locs ls hl hP hS)
theorem o_aload {i a : Nat} (C : oK l g own cc lam mc x) (hd : decode cc pc = .ok (.aload i, 2)) (hi : vs[i]? = some (some (.ref a))) (kk : oW l g x σ (pc + 2) vs (.ref a :: st) k) : oW l g x σ pc vs st k := by
  obtain ⟨p, e, R, s, m, args, below, meth, c, Q, A, nL⟩ := x
  obtain ⟨hx, hb, -⟩ := C
  exact fun H locs ls hl hP hS => lv_aload hx hb hd (hl.val hi) (kk H locs ls hl hP hS)
theorem o_aload_n {i : Fin 4} {a : Nat} (C : oK l g own cc lam mc x) (hd : decode cc pc = .ok (.aload_n i, 1)) (hi : vs[(i : Nat)]? = some (some (.ref a))) (kk : oW l g x σ (pc + 1) vs (.ref a :: st) k) : oW l g x σ pc vs st k := by
  obtain ⟨p, e, R, s, m, args, below, meth, c, Q, A, nL⟩ := x
  obtain ⟨hx, hb, -⟩ := C
  exact fun H locs ls hl hP hS => lv_aload_n hx hb hd rfl (hl.val hi) (kk H locs ls hl hP hS)
theorem o_istore {i : Nat} {z : Int} (C : oK l g own cc lam mc x) (hd : decode cc pc = .ok (.istore i, 2)) (hi : i < vs.length) (kk : oW l g x σ (pc + 2) (vs.set i (some (oi z))) st k) : oW l g x σ pc vs (oi z :: st) k := by
  obtain ⟨p, e, R, s, m, args, below, meth, c, Q, A, nL⟩ := x
  obtain ⟨hx, hb, -⟩ := C
  exact fun H locs ls hl hP hS => lv_istore hx hb hd hl.1 (hl.lt hi) rfl (fun ls' h' => kk H locs ls' (hl.setv rfl hi h') hP hS)
theorem o_istore_n {i : Fin 4} {z : Int} (C : oK l g own cc lam mc x) (hd : decode cc pc = .ok (.istore_n i, 1)) (hi : (i : Nat) < vs.length) (kk : oW l g x σ (pc + 1) (vs.set (i : Nat) (some (oi z))) st k) : oW l g x σ pc vs (oi z :: st) k := by
  obtain ⟨p, e, R, s, m, args, below, meth, c, Q, A, nL⟩ := x
  obtain ⟨hx, hb, -⟩ := C
  exact fun H locs ls hl hP hS => lv_istore_n hx hb hd rfl hl.1 (hl.lt hi) rfl (fun ls' h' => kk H locs ls' (hl.setv rfl hi h') hP hS)
theorem o_astore {i a : Nat} (C : oK l g own cc lam mc x) (hd : decode cc pc = .ok (.astore i, 2)) (hi : i < vs.length) (kk : oW l g x σ (pc + 2) (vs.set i (some (.ref a))) st k) : oW l g x σ pc vs (.ref a :: st) k := by
  obtain ⟨p, e, R, s, m, args, below, meth, c, Q, A, nL⟩ := x
  obtain ⟨hx, hb, -⟩ := C
  exact fun H locs ls hl hP hS => lv_astore hx hb hd hl.1 (hl.lt hi) rfl (fun ls' h' => kk H locs ls' (hl.setv rfl hi h') hP hS)
theorem o_astore_n {i : Fin 4} {a : Nat} (C : oK l g own cc lam mc x) (hd : decode cc pc = .ok (.astore_n i, 1)) (hi : (i : Nat) < vs.length) (kk : oW l g x σ (pc + 1) (vs.set (i : Nat) (some (.ref a))) st k) : oW l g x σ pc vs (.ref a :: st) k := by
  obtain ⟨p, e, R, s, m, args, below, meth, c, Q, A, nL⟩ := x
  obtain ⟨hx, hb, -⟩ := C
  exact fun H locs ls hl hP hS => lv_astore_n hx hb hd rfl hl.1 (hl.lt hi) rfl (fun ls' h' => kk H locs ls' (hl.setv rfl hi h') hP hS)
theorem o_iinc {i : Nat} {n z : Int} (C : oK l g own cc lam mc x) (hd : decode cc pc = .ok (.iinc i n, 3)) (hi : vs[i]? = some (some (oi z))) (kk : oW l g x σ (pc + 3) (vs.set i (some (oi (z + n)))) st k) : oW l g x σ pc vs st k := by
  obtain ⟨p, e, R, s, m, args, below, meth, c, Q, A, nL⟩ := x
  obtain ⟨hx, hb, -⟩ := C
  intro H locs ls hl hP hS
  have hlt : i < vs.length := (List.getElem?_eq_some_iff.mp hi).1
  obtain ⟨j, hj⟩ := List.mem_iff_getElem?.mp ((o_as_mem (i := i) (v := oi z) vs 0).mpr ⟨i, by omega, hi⟩)
  exact lv_iinc (v := Int32.ofInt (z + n)) hx hb hd hl.1 hj (o_add z n) (hl.lt hlt) rfl (fun ls' h' => kk H locs ls' (hl.setv rfl hlt h') hP hS)
theorem o_iadd {a b : Int} (C : oK l g own cc lam mc x) (hd : decode cc pc = .ok (.iadd, 1)) (kk : oW l g x σ (pc + 1) vs (oi (a + b) :: st) k) : oW l g x σ pc vs (oi b :: oi a :: st) k := by
  obtain ⟨p, e, R, s, m, args, below, meth, c, Q, A, nL⟩ := x
  obtain ⟨hx, hb, -⟩ := C
  exact fun H locs ls hl hP hS => lv_iadd hx hb hd (by rw [o_add]; exact kk H locs ls hl hP hS)
theorem o_isub {a b : Int} (C : oK l g own cc lam mc x) (hd : decode cc pc = .ok (.isub, 1)) (kk : oW l g x σ (pc + 1) vs (oi (a - b) :: st) k) : oW l g x σ pc vs (oi b :: oi a :: st) k := by
  obtain ⟨p, e, R, s, m, args, below, meth, c, Q, A, nL⟩ := x
  obtain ⟨hx, hb, -⟩ := C
  exact fun H locs ls hl hP hS => lv_isub hx hb hd (by rw [o_sub]; exact kk H locs ls hl hP hS)
theorem o_imul {a b : Int} (C : oK l g own cc lam mc x) (hd : decode cc pc = .ok (.imul, 1)) (kk : oW l g x σ (pc + 1) vs (oi (a * b) :: st) k) : oW l g x σ pc vs (oi b :: oi a :: st) k := by
  obtain ⟨p, e, R, s, m, args, below, meth, c, Q, A, nL⟩ := x
  obtain ⟨hx, hb, -⟩ := C
  exact fun H locs ls hl hP hS => lv_imul hx hb hd (by rw [o_mul]; exact kk H locs ls hl hP hS)
theorem o_idiv {a b : Int} (C : oK l g own cc lam mc x) (hd : decode cc pc = .ok (.idiv, 1)) (ha : 0 ≤ a) (hb0 : 0 < b) (h1 : InR a) (h2 : InR b) (kk : oW l g x σ (pc + 1) vs (oi (a / b) :: st) k) : oW l g x σ pc vs (oi b :: oi a :: st) k := by
  obtain ⟨p, e, R, s, m, args, below, meth, c, Q, A, nL⟩ := x
  obtain ⟨hx, hb, -⟩ := C
  exact fun H locs ls hl hP hS => lv_idiv hx hb hd (fun h => by rw [show (0 : Int32) = Int32.ofInt 0 from rfl, o_eq h2 ⟨by omega, by omega⟩] at h; omega) (by rw [o_div ha hb0 h1 h2]; exact kk H locs ls hl hP hS)
theorem o_ishl {a b v : Int} (C : oK l g own cc lam mc x) (hd : decode cc pc = .ok (.ishl, 1)) (hv : Int32.ofInt a <<< (Int32.ofInt b &&& 31) = Int32.ofInt v) (kk : oW l g x σ (pc + 1) vs (oi v :: st) k) : oW l g x σ pc vs (oi b :: oi a :: st) k := by
  obtain ⟨p, e, R, s, m, args, below, meth, c, Q, A, nL⟩ := x
  obtain ⟨hx, hb, -⟩ := C
  exact fun H locs ls hl hP hS => lv_ishl hx hb hd (by rw [hv]; exact kk H locs ls hl hP hS)
theorem o_ishr {a b v : Int} (C : oK l g own cc lam mc x) (hd : decode cc pc = .ok (.ishr, 1)) (hv : Int32.ofInt a >>> (Int32.ofInt b &&& 31) = Int32.ofInt v) (kk : oW l g x σ (pc + 1) vs (oi v :: st) k) : oW l g x σ pc vs (oi b :: oi a :: st) k := by
  obtain ⟨p, e, R, s, m, args, below, meth, c, Q, A, nL⟩ := x
  obtain ⟨hx, hb, -⟩ := C
  exact fun H locs ls hl hP hS => lv_ishr hx hb hd (by rw [hv]; exact kk H locs ls hl hP hS)
theorem o_iand {a b v : Int} (C : oK l g own cc lam mc x) (hd : decode cc pc = .ok (.iand, 1)) (hv : Int32.ofInt a &&& Int32.ofInt b = Int32.ofInt v) (kk : oW l g x σ (pc + 1) vs (oi v :: st) k) : oW l g x σ pc vs (oi b :: oi a :: st) k := by
  obtain ⟨p, e, R, s, m, args, below, meth, c, Q, A, nL⟩ := x
  obtain ⟨hx, hb, -⟩ := C
  exact fun H locs ls hl hP hS => lv_iand hx hb hd (by rw [hv]; exact kk H locs ls hl hP hS)
theorem o_ior {a b v : Int} (C : oK l g own cc lam mc x) (hd : decode cc pc = .ok (.ior, 1)) (hv : Int32.ofInt a ||| Int32.ofInt b = Int32.ofInt v) (kk : oW l g x σ (pc + 1) vs (oi v :: st) k) : oW l g x σ pc vs (oi b :: oi a :: st) k := by
  obtain ⟨p, e, R, s, m, args, below, meth, c, Q, A, nL⟩ := x
  obtain ⟨hx, hb, -⟩ := C
  exact fun H locs ls hl hP hS => lv_ior hx hb hd (by rw [hv]; exact kk H locs ls hl hP hS)
theorem o_ixor {a b v : Int} (C : oK l g own cc lam mc x) (hd : decode cc pc = .ok (.ixor, 1)) (hv : Int32.ofInt a ^^^ Int32.ofInt b = Int32.ofInt v) (kk : oW l g x σ (pc + 1) vs (oi v :: st) k) : oW l g x σ pc vs (oi b :: oi a :: st) k := by
  obtain ⟨p, e, R, s, m, args, below, meth, c, Q, A, nL⟩ := x
  obtain ⟨hx, hb, -⟩ := C
  exact fun H locs ls hl hP hS => lv_ixor hx hb hd (by rw [hv]; exact kk H locs ls hl hP hS)
theorem o_goto {off : Int} {tgt : Nat} (C : oK l g own cc lam mc x) (hd : decode cc pc = .ok (.goto off, 3)) (ht : (pc : Int) + off = (tgt : Int)) (kk : oW l g x σ tgt vs st k) : oW l g x σ pc vs st k := by
  obtain ⟨p, e, R, s, m, args, below, meth, c, Q, A, nL⟩ := x
  obtain ⟨hx, hb, -⟩ := C
  exact fun H locs ls hl hP hS => lv_goto hx hb hd ht (kk H locs ls hl hP hS)
theorem o_dup {v : Value} (C : oK l g own cc lam mc x) (hd : decode cc pc = .ok (.dup, 1)) (hv : v.category = 1) (kk : oW l g x σ (pc + 1) vs (v :: v :: st) k) : oW l g x σ pc vs (v :: st) k := by
  obtain ⟨p, e, R, s, m, args, below, meth, c, Q, A, nL⟩ := x
  obtain ⟨hx, hb, -⟩ := C
  exact fun H locs ls hl hP hS => lv_dup hx hb hd hv (kk H locs ls hl hP hS)
theorem o_dup2 {v w : Value} (C : oK l g own cc lam mc x) (hd : decode cc pc = .ok (.dup2, 1)) (hv : v.category = 1) (hw : w.category = 1) (kk : oW l g x σ (pc + 1) vs (v :: w :: v :: w :: st) k) : oW l g x σ pc vs (v :: w :: st) k := by
  obtain ⟨p, e, R, s, m, args, below, meth, c, Q, A, nL⟩ := x
  obtain ⟨hx, hb, -⟩ := C
  exact fun H locs ls hl hP hS => lv_dup2_11 hx hb hd hv hw (kk H locs ls hl hP hS)
theorem o_pop {v : Value} (C : oK l g own cc lam mc x) (hd : decode cc pc = .ok (.pop, 1)) (hv : v.category = 1) (kk : oW l g x σ (pc + 1) vs st k) : oW l g x σ pc vs (v :: st) k := by
  obtain ⟨p, e, R, s, m, args, below, meth, c, Q, A, nL⟩ := x
  obtain ⟨hx, hb, -⟩ := C
  exact fun H locs ls hl hP hS => lv_pop hx hb hd hv (kk H locs ls hl hP hS)
theorem o_icmp_eq {a b off : Int} {tgt : Nat} (C : oK l g own cc lam mc x) (hd : decode cc pc = .ok (.if_icmp .eq off, 3)) (ht : (pc : Int) + off = (tgt : Int)) (ha : InR a) (hb : InR b) (kt : a = b → oW l g x σ tgt vs st k) (kf : ¬ a = b → oW l g x σ (pc + 3) vs st k) : oW l g x σ pc vs (oi b :: oi a :: st) k := by
  obtain ⟨p, e, R, s, m, args, below, meth, c, Q, A, nL⟩ := x
  obtain ⟨hx, hb9, -⟩ := C
  intro H locs ls hl hP hS
  refine lv_icmp_eq hx hb9 hd ht (fun h1 => kt (by rw [o_eq ha hb] at h1; exact h1) H locs ls hl hP hS) (fun h1 => kf ?_ H locs ls hl hP hS)
  rw [o_eq ha hb] at h1
  exact h1
theorem o_if_eq {a off : Int} {tgt : Nat} (C : oK l g own cc lam mc x) (hd : decode cc pc = .ok (.ifCond .eq off, 3)) (ht : (pc : Int) + off = (tgt : Int)) (ha : InR a) (kt : a = 0 → oW l g x σ tgt vs st k) (kf : ¬ a = 0 → oW l g x σ (pc + 3) vs st k) : oW l g x σ pc vs (oi a :: st) k := by
  obtain ⟨p, e, R, s, m, args, below, meth, c, Q, A, nL⟩ := x
  obtain ⟨hx, hb9, -⟩ := C
  have hb : InR 0 := ⟨by omega, by omega⟩
  have h0 : (0 : Int32) = Int32.ofInt 0 := rfl
  intro H locs ls hl hP hS
  refine lv_if_eq hx hb9 hd ht (fun h1 => kt (by rw [h0, o_eq ha hb] at h1; exact h1) H locs ls hl hP hS) (fun h1 => kf ?_ H locs ls hl hP hS)
  rw [h0, o_eq ha hb] at h1
  exact h1
theorem o_icmp_ne {a b off : Int} {tgt : Nat} (C : oK l g own cc lam mc x) (hd : decode cc pc = .ok (.if_icmp .ne off, 3)) (ht : (pc : Int) + off = (tgt : Int)) (ha : InR a) (hb : InR b) (kt : ¬ a = b → oW l g x σ tgt vs st k) (kf : a = b → oW l g x σ (pc + 3) vs st k) : oW l g x σ pc vs (oi b :: oi a :: st) k := by
  obtain ⟨p, e, R, s, m, args, below, meth, c, Q, A, nL⟩ := x
  obtain ⟨hx, hb9, -⟩ := C
  intro H locs ls hl hP hS
  refine lv_icmp_ne hx hb9 hd ht (fun h1 => kt (by rw [o_eq ha hb] at h1; exact h1) H locs ls hl hP hS) (fun h1 => kf ?_ H locs ls hl hP hS)
  rw [o_eq ha hb] at h1
  exact Classical.not_not.mp h1
theorem o_if_ne {a off : Int} {tgt : Nat} (C : oK l g own cc lam mc x) (hd : decode cc pc = .ok (.ifCond .ne off, 3)) (ht : (pc : Int) + off = (tgt : Int)) (ha : InR a) (kt : ¬ a = 0 → oW l g x σ tgt vs st k) (kf : a = 0 → oW l g x σ (pc + 3) vs st k) : oW l g x σ pc vs (oi a :: st) k := by
  obtain ⟨p, e, R, s, m, args, below, meth, c, Q, A, nL⟩ := x
  obtain ⟨hx, hb9, -⟩ := C
  have hb : InR 0 := ⟨by omega, by omega⟩
  have h0 : (0 : Int32) = Int32.ofInt 0 := rfl
  intro H locs ls hl hP hS
  refine lv_if_ne hx hb9 hd ht (fun h1 => kt (by rw [h0, o_eq ha hb] at h1; exact h1) H locs ls hl hP hS) (fun h1 => kf ?_ H locs ls hl hP hS)
  rw [h0, o_eq ha hb] at h1
  exact Classical.not_not.mp h1
theorem o_icmp_lt {a b off : Int} {tgt : Nat} (C : oK l g own cc lam mc x) (hd : decode cc pc = .ok (.if_icmp .lt off, 3)) (ht : (pc : Int) + off = (tgt : Int)) (ha : InR a) (hb : InR b) (kt : a < b → oW l g x σ tgt vs st k) (kf : b ≤ a → oW l g x σ (pc + 3) vs st k) : oW l g x σ pc vs (oi b :: oi a :: st) k := by
  obtain ⟨p, e, R, s, m, args, below, meth, c, Q, A, nL⟩ := x
  obtain ⟨hx, hb9, -⟩ := C
  intro H locs ls hl hP hS
  refine lv_icmp_lt hx hb9 hd ht (fun h1 => kt (by rw [o_lt ha hb] at h1; exact h1) H locs ls hl hP hS) (fun h1 => kf ?_ H locs ls hl hP hS)
  rw [o_lt ha hb] at h1
  omega
theorem o_if_lt {a off : Int} {tgt : Nat} (C : oK l g own cc lam mc x) (hd : decode cc pc = .ok (.ifCond .lt off, 3)) (ht : (pc : Int) + off = (tgt : Int)) (ha : InR a) (kt : a < 0 → oW l g x σ tgt vs st k) (kf : 0 ≤ a → oW l g x σ (pc + 3) vs st k) : oW l g x σ pc vs (oi a :: st) k := by
  obtain ⟨p, e, R, s, m, args, below, meth, c, Q, A, nL⟩ := x
  obtain ⟨hx, hb9, -⟩ := C
  have hb : InR 0 := ⟨by omega, by omega⟩
  have h0 : (0 : Int32) = Int32.ofInt 0 := rfl
  intro H locs ls hl hP hS
  refine lv_if_lt hx hb9 hd ht (fun h1 => kt (by rw [h0, o_lt ha hb] at h1; exact h1) H locs ls hl hP hS) (fun h1 => kf ?_ H locs ls hl hP hS)
  rw [h0, o_lt ha hb] at h1
  omega
theorem o_icmp_ge {a b off : Int} {tgt : Nat} (C : oK l g own cc lam mc x) (hd : decode cc pc = .ok (.if_icmp .ge off, 3)) (ht : (pc : Int) + off = (tgt : Int)) (ha : InR a) (hb : InR b) (kt : b ≤ a → oW l g x σ tgt vs st k) (kf : a < b → oW l g x σ (pc + 3) vs st k) : oW l g x σ pc vs (oi b :: oi a :: st) k := by
  obtain ⟨p, e, R, s, m, args, below, meth, c, Q, A, nL⟩ := x
  obtain ⟨hx, hb9, -⟩ := C
  intro H locs ls hl hP hS
  refine lv_icmp_ge hx hb9 hd ht (fun h1 => kt (by rw [o_le hb ha] at h1; exact h1) H locs ls hl hP hS) (fun h1 => kf ?_ H locs ls hl hP hS)
  rw [o_le hb ha] at h1
  omega
theorem o_if_ge {a off : Int} {tgt : Nat} (C : oK l g own cc lam mc x) (hd : decode cc pc = .ok (.ifCond .ge off, 3)) (ht : (pc : Int) + off = (tgt : Int)) (ha : InR a) (kt : 0 ≤ a → oW l g x σ tgt vs st k) (kf : a < 0 → oW l g x σ (pc + 3) vs st k) : oW l g x σ pc vs (oi a :: st) k := by
  obtain ⟨p, e, R, s, m, args, below, meth, c, Q, A, nL⟩ := x
  obtain ⟨hx, hb9, -⟩ := C
  have hb : InR 0 := ⟨by omega, by omega⟩
  have h0 : (0 : Int32) = Int32.ofInt 0 := rfl
  intro H locs ls hl hP hS
  refine lv_if_ge hx hb9 hd ht (fun h1 => kt (by rw [h0, o_le hb ha] at h1; exact h1) H locs ls hl hP hS) (fun h1 => kf ?_ H locs ls hl hP hS)
  rw [h0, o_le hb ha] at h1
  omega
theorem o_icmp_gt {a b off : Int} {tgt : Nat} (C : oK l g own cc lam mc x) (hd : decode cc pc = .ok (.if_icmp .gt off, 3)) (ht : (pc : Int) + off = (tgt : Int)) (ha : InR a) (hb : InR b) (kt : b < a → oW l g x σ tgt vs st k) (kf : a ≤ b → oW l g x σ (pc + 3) vs st k) : oW l g x σ pc vs (oi b :: oi a :: st) k := by
  obtain ⟨p, e, R, s, m, args, below, meth, c, Q, A, nL⟩ := x
  obtain ⟨hx, hb9, -⟩ := C
  intro H locs ls hl hP hS
  refine lv_icmp_gt hx hb9 hd ht (fun h1 => kt (by rw [o_lt hb ha] at h1; exact h1) H locs ls hl hP hS) (fun h1 => kf ?_ H locs ls hl hP hS)
  rw [o_lt hb ha] at h1
  omega
theorem o_if_gt {a off : Int} {tgt : Nat} (C : oK l g own cc lam mc x) (hd : decode cc pc = .ok (.ifCond .gt off, 3)) (ht : (pc : Int) + off = (tgt : Int)) (ha : InR a) (kt : 0 < a → oW l g x σ tgt vs st k) (kf : a ≤ 0 → oW l g x σ (pc + 3) vs st k) : oW l g x σ pc vs (oi a :: st) k := by
  obtain ⟨p, e, R, s, m, args, below, meth, c, Q, A, nL⟩ := x
  obtain ⟨hx, hb9, -⟩ := C
  have hb : InR 0 := ⟨by omega, by omega⟩
  have h0 : (0 : Int32) = Int32.ofInt 0 := rfl
  intro H locs ls hl hP hS
  refine lv_if_gt hx hb9 hd ht (fun h1 => kt (by rw [h0, o_lt hb ha] at h1; exact h1) H locs ls hl hP hS) (fun h1 => kf ?_ H locs ls hl hP hS)
  rw [h0, o_lt hb ha] at h1
  omega
theorem o_icmp_le {a b off : Int} {tgt : Nat} (C : oK l g own cc lam mc x) (hd : decode cc pc = .ok (.if_icmp .le off, 3)) (ht : (pc : Int) + off = (tgt : Int)) (ha : InR a) (hb : InR b) (kt : a ≤ b → oW l g x σ tgt vs st k) (kf : b < a → oW l g x σ (pc + 3) vs st k) : oW l g x σ pc vs (oi b :: oi a :: st) k := by
  obtain ⟨p, e, R, s, m, args, below, meth, c, Q, A, nL⟩ := x
  obtain ⟨hx, hb9, -⟩ := C
  intro H locs ls hl hP hS
  refine lv_icmp_le hx hb9 hd ht (fun h1 => kt (by rw [o_le ha hb] at h1; exact h1) H locs ls hl hP hS) (fun h1 => kf ?_ H locs ls hl hP hS)
  rw [o_le ha hb] at h1
  omega
theorem o_if_le {a off : Int} {tgt : Nat} (C : oK l g own cc lam mc x) (hd : decode cc pc = .ok (.ifCond .le off, 3)) (ht : (pc : Int) + off = (tgt : Int)) (ha : InR a) (kt : a ≤ 0 → oW l g x σ tgt vs st k) (kf : 0 < a → oW l g x σ (pc + 3) vs st k) : oW l g x σ pc vs (oi a :: st) k := by
  obtain ⟨p, e, R, s, m, args, below, meth, c, Q, A, nL⟩ := x
  obtain ⟨hx, hb9, -⟩ := C
  have hb : InR 0 := ⟨by omega, by omega⟩
  have h0 : (0 : Int32) = Int32.ofInt 0 := rfl
  intro H locs ls hl hP hS
  refine lv_if_le hx hb9 hd ht (fun h1 => kt (by rw [h0, o_le ha hb] at h1; exact h1) H locs ls hl hP hS) (fun h1 => kf ?_ H locs ls hl hP hS)
  rw [h0, o_le ha hb] at h1
  omega
end ORULES
end
