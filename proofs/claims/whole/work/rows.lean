section
-- ===== PART A: goes FIRST, ahead of the names: the tables' words, and 'selects' of the private methods out of them =====
/-- a private method of a class that the tables say can be made, by its rows of tables_1 -/
def lw_okq (q : MethodName × Nat) : Prop := (q.1.cls ≠ "java/lang/invoke/MethodHandle" ∧ q.1.cls ≠ "java/lang/invoke/VarHandle") ∧ Cond.instantiable q.1.cls q.2 ∈ tables_1 ∧ Cond.privateMethod q.1 ∈ tables_1 ∧ Cond.instanceMethod q.1 ∈ tables_1
theorem lw_p0 : lw_okq (⟨"SlittingOffice$Pattern", "empty", "()V"⟩, 2) := ⟨⟨by decide +kernel, by decide +kernel⟩, List.mem_of_getElem? (i := 29) (by decide +kernel), List.mem_of_getElem? (i := 218) (by decide +kernel), List.mem_of_getElem? (i := 219) (by decide +kernel)⟩
theorem lw_p1 : lw_okq (⟨"SlittingOffice", "readMoves", "()V"⟩, 17) := ⟨⟨by decide +kernel, by decide +kernel⟩, List.mem_of_getElem? (i := 16) (by decide +kernel), List.mem_of_getElem? (i := 238) (by decide +kernel), List.mem_of_getElem? (i := 239) (by decide +kernel)⟩
theorem lw_p2 : lw_okq (⟨"SlittingOffice", "movesBetween", "(II)I"⟩, 17) := ⟨⟨by decide +kernel, by decide +kernel⟩, List.mem_of_getElem? (i := 16) (by decide +kernel), List.mem_of_getElem? (i := 242) (by decide +kernel), List.mem_of_getElem? (i := 243) (by decide +kernel)⟩
theorem lw_p3 : lw_okq (⟨"SlittingOffice", "hasPattern", "(I)Z"⟩, 17) := ⟨⟨by decide +kernel, by decide +kernel⟩, List.mem_of_getElem? (i := 16) (by decide +kernel), List.mem_of_getElem? (i := 246) (by decide +kernel), List.mem_of_getElem? (i := 247) (by decide +kernel)⟩
theorem lw_p4 : lw_okq (⟨"SlittingOffice$Pattern", "knivesNeeded", "()I"⟩, 2) := ⟨⟨by decide +kernel, by decide +kernel⟩, List.mem_of_getElem? (i := 29) (by decide +kernel), List.mem_of_getElem? (i := 250) (by decide +kernel), List.mem_of_getElem? (i := 251) (by decide +kernel)⟩
theorem lw_p5 : lw_okq (⟨"SlittingOffice$Pattern", "knivesNotIn", "(LSlittingOffice$Pattern;)I"⟩, 2) := ⟨⟨by decide +kernel, by decide +kernel⟩, List.mem_of_getElem? (i := 29) (by decide +kernel), List.mem_of_getElem? (i := 254) (by decide +kernel), List.mem_of_getElem? (i := 255) (by decide +kernel)⟩
theorem lw_p6 : lw_okq (⟨"SlittingOffice$Pattern", "hasKnifeAt", "(I)Z"⟩, 2) := ⟨⟨by decide +kernel, by decide +kernel⟩, List.mem_of_getElem? (i := 29) (by decide +kernel), List.mem_of_getElem? (i := 258) (by decide +kernel), List.mem_of_getElem? (i := 259) (by decide +kernel)⟩
theorem lw_p7 : lw_okq (⟨"SlittingOffice$RunOrder", "fewestBySets", "(I)I"⟩, 3) := ⟨⟨by decide +kernel, by decide +kernel⟩, List.mem_of_getElem? (i := 63) (by decide +kernel), List.mem_of_getElem? (i := 262) (by decide +kernel), List.mem_of_getElem? (i := 263) (by decide +kernel)⟩
theorem lw_p8 : lw_okq (⟨"SlittingOffice$RunOrder", "fewestAfter", "(III)I"⟩, 3) := ⟨⟨by decide +kernel, by decide +kernel⟩, List.mem_of_getElem? (i := 63) (by decide +kernel), List.mem_of_getElem? (i := 266) (by decide +kernel), List.mem_of_getElem? (i := 267) (by decide +kernel)⟩
theorem lw_p9 : lw_okq (⟨"SlittingOffice$RunOrder", "movesThrough", "(III)I"⟩, 3) := ⟨⟨by decide +kernel, by decide +kernel⟩, List.mem_of_getElem? (i := 63) (by decide +kernel), List.mem_of_getElem? (i := 273) (by decide +kernel), List.mem_of_getElem? (i := 274) (by decide +kernel)⟩
theorem lw_p10 : lw_okq (⟨"SlittingOffice$RunOrder", "fewestByOrders", "(I)I"⟩, 3) := ⟨⟨by decide +kernel, by decide +kernel⟩, List.mem_of_getElem? (i := 63) (by decide +kernel), List.mem_of_getElem? (i := 287) (by decide +kernel), List.mem_of_getElem? (i := 288) (by decide +kernel)⟩
theorem lw_p11 : lw_okq (⟨"SlittingOffice$RunOrder", "findBest", "(I)V"⟩, 3) := ⟨⟨by decide +kernel, by decide +kernel⟩, List.mem_of_getElem? (i := 63) (by decide +kernel), List.mem_of_getElem? (i := 298) (by decide +kernel), List.mem_of_getElem? (i := 299) (by decide +kernel)⟩
theorem lw_p12 : lw_okq (⟨"SlittingOffice$RunOrder", "leastNext", "(III)I"⟩, 3) := ⟨⟨by decide +kernel, by decide +kernel⟩, List.mem_of_getElem? (i := 63) (by decide +kernel), List.mem_of_getElem? (i := 303) (by decide +kernel), List.mem_of_getElem? (i := 304) (by decide +kernel)⟩
theorem lw_p13 : lw_okq (⟨"SlittingOffice", "canBeRun", "(II)Z"⟩, 17) := ⟨⟨by decide +kernel, by decide +kernel⟩, List.mem_of_getElem? (i := 16) (by decide +kernel), List.mem_of_getElem? (i := 307) (by decide +kernel), List.mem_of_getElem? (i := 308) (by decide +kernel)⟩
theorem lw_p14 : lw_okq (⟨"SlittingOffice", "hasCoil", "(I)Z"⟩, 17) := ⟨⟨by decide +kernel, by decide +kernel⟩, List.mem_of_getElem? (i := 16) (by decide +kernel), List.mem_of_getElem? (i := 311) (by decide +kernel), List.mem_of_getElem? (i := 312) (by decide +kernel)⟩
theorem lw_p15 : lw_okq (⟨"SlittingOffice$Coil", "isSlit", "()Z"⟩, 14) := ⟨⟨by decide +kernel, by decide +kernel⟩, List.mem_of_getElem? (i := 82) (by decide +kernel), List.mem_of_getElem? (i := 315) (by decide +kernel), List.mem_of_getElem? (i := 316) (by decide +kernel)⟩
def lw_privs_1 : List (MethodName × Nat) := [(⟨"SlittingOffice$Pattern", "empty", "()V"⟩, 2), (⟨"SlittingOffice", "readMoves", "()V"⟩, 17), (⟨"SlittingOffice", "movesBetween", "(II)I"⟩, 17), (⟨"SlittingOffice", "hasPattern", "(I)Z"⟩, 17), (⟨"SlittingOffice$Pattern", "knivesNeeded", "()I"⟩, 2), (⟨"SlittingOffice$Pattern", "knivesNotIn", "(LSlittingOffice$Pattern;)I"⟩, 2), (⟨"SlittingOffice$Pattern", "hasKnifeAt", "(I)Z"⟩, 2), (⟨"SlittingOffice$RunOrder", "fewestBySets", "(I)I"⟩, 3), (⟨"SlittingOffice$RunOrder", "fewestAfter", "(III)I"⟩, 3), (⟨"SlittingOffice$RunOrder", "movesThrough", "(III)I"⟩, 3), (⟨"SlittingOffice$RunOrder", "fewestByOrders", "(I)I"⟩, 3), (⟨"SlittingOffice$RunOrder", "findBest", "(I)V"⟩, 3), (⟨"SlittingOffice$RunOrder", "leastNext", "(III)I"⟩, 3), (⟨"SlittingOffice", "canBeRun", "(II)Z"⟩, 17), (⟨"SlittingOffice", "hasCoil", "(I)Z"⟩, 17), (⟨"SlittingOffice$Coil", "isSlit", "()Z"⟩, 14)]
theorem lw_r1 : ∀ q ∈ lw_privs_1, lw_okq q := List.forall_mem_cons.mpr ⟨lw_p0, List.forall_mem_cons.mpr ⟨lw_p1, List.forall_mem_cons.mpr ⟨lw_p2, List.forall_mem_cons.mpr ⟨lw_p3, List.forall_mem_cons.mpr ⟨lw_p4, List.forall_mem_cons.mpr ⟨lw_p5, List.forall_mem_cons.mpr ⟨lw_p6, List.forall_mem_cons.mpr ⟨lw_p7, List.forall_mem_cons.mpr ⟨lw_p8, List.forall_mem_cons.mpr ⟨lw_p9, List.forall_mem_cons.mpr ⟨lw_p10, List.forall_mem_cons.mpr ⟨lw_p11, List.forall_mem_cons.mpr ⟨lw_p12, List.forall_mem_cons.mpr ⟨lw_p13, List.forall_mem_cons.mpr ⟨lw_p14, List.forall_mem_cons.mpr ⟨lw_p15, fun _ h => absurd h List.not_mem_nil⟩⟩⟩⟩⟩⟩⟩⟩⟩⟩⟩⟩⟩⟩⟩⟩
theorem lw_p16 : lw_okq (⟨"SlittingOffice", "canBeCutFrom", "(LSlittingOffice$Pattern;LSlittingOffice$Coil;)Z"⟩, 17) := ⟨⟨by decide +kernel, by decide +kernel⟩, List.mem_of_getElem? (i := 16) (by decide +kernel), List.mem_of_getElem? (i := 319) (by decide +kernel), List.mem_of_getElem? (i := 320) (by decide +kernel)⟩
theorem lw_p17 : lw_okq (⟨"SlittingOffice$Pattern", "totalWidth", "()I"⟩, 2) := ⟨⟨by decide +kernel, by decide +kernel⟩, List.mem_of_getElem? (i := 29) (by decide +kernel), List.mem_of_getElem? (i := 323) (by decide +kernel), List.mem_of_getElem? (i := 324) (by decide +kernel)⟩
theorem lw_p18 : lw_okq (⟨"SlittingOffice", "roomOf", "(LSlittingOffice$Coil;)I"⟩, 17) := ⟨⟨by decide +kernel, by decide +kernel⟩, List.mem_of_getElem? (i := 16) (by decide +kernel), List.mem_of_getElem? (i := 327) (by decide +kernel), List.mem_of_getElem? (i := 328) (by decide +kernel)⟩
theorem lw_p19 : lw_okq (⟨"SlittingOffice", "slitCoil", "(II)I"⟩, 17) := ⟨⟨by decide +kernel, by decide +kernel⟩, List.mem_of_getElem? (i := 16) (by decide +kernel), List.mem_of_getElem? (i := 331) (by decide +kernel), List.mem_of_getElem? (i := 332) (by decide +kernel)⟩
theorem lw_p20 : lw_okq (⟨"SlittingOffice$Coil", "slitBy", "(LSlittingOffice$Pattern;I)V"⟩, 14) := ⟨⟨by decide +kernel, by decide +kernel⟩, List.mem_of_getElem? (i := 82) (by decide +kernel), List.mem_of_getElem? (i := 335) (by decide +kernel), List.mem_of_getElem? (i := 336) (by decide +kernel)⟩
theorem lw_p21 : lw_okq (⟨"SlittingOffice$Coil", "cutOutLength", "()I"⟩, 14) := ⟨⟨by decide +kernel, by decide +kernel⟩, List.mem_of_getElem? (i := 82) (by decide +kernel), List.mem_of_getElem? (i := 340) (by decide +kernel), List.mem_of_getElem? (i := 341) (by decide +kernel)⟩
theorem lw_p22 : lw_okq (⟨"SlittingOffice", "deliverSlits", "(LSlittingOffice$Coil;)I"⟩, 17) := ⟨⟨by decide +kernel, by decide +kernel⟩, List.mem_of_getElem? (i := 16) (by decide +kernel), List.mem_of_getElem? (i := 350) (by decide +kernel), List.mem_of_getElem? (i := 351) (by decide +kernel)⟩
theorem lw_p23 : lw_okq (⟨"SlittingOffice", "takerOf", "(II)I"⟩, 17) := ⟨⟨by decide +kernel, by decide +kernel⟩, List.mem_of_getElem? (i := 16) (by decide +kernel), List.mem_of_getElem? (i := 354) (by decide +kernel), List.mem_of_getElem? (i := 355) (by decide +kernel)⟩
theorem lw_p24 : lw_okq (⟨"SlittingOffice$Order", "wouldTakeHeat", "(I)Z"⟩, 4) := ⟨⟨by decide +kernel, by decide +kernel⟩, List.mem_of_getElem? (i := 140) (by decide +kernel), List.mem_of_getElem? (i := 358) (by decide +kernel), List.mem_of_getElem? (i := 359) (by decide +kernel)⟩
theorem lw_p25 : lw_okq (⟨"SlittingOffice$Order", "receive", "(II)V"⟩, 4) := ⟨⟨by decide +kernel, by decide +kernel⟩, List.mem_of_getElem? (i := 140) (by decide +kernel), List.mem_of_getElem? (i := 362) (by decide +kernel), List.mem_of_getElem? (i := 363) (by decide +kernel)⟩
theorem lw_p26 : lw_okq (⟨"SlittingOffice$Coil", "stockOf", "(I)I"⟩, 14) := ⟨⟨by decide +kernel, by decide +kernel⟩, List.mem_of_getElem? (i := 82) (by decide +kernel), List.mem_of_getElem? (i := 370) (by decide +kernel), List.mem_of_getElem? (i := 371) (by decide +kernel)⟩
theorem lw_p27 : lw_okq (⟨"java/lang/Throwable", "fillInStackTrace", "(I)Ljava/lang/Throwable;"⟩, 6) := ⟨⟨by decide +kernel, by decide +kernel⟩, List.mem_of_getElem? (i := 424) (by decide +kernel), List.mem_of_getElem? (i := 422) (by decide +kernel), List.mem_of_getElem? (i := 423) (by decide +kernel)⟩
theorem lw_p28 : lw_okq (⟨"SlittingOffice$Coil", "describe", "(IIII)V"⟩, 14) := ⟨⟨by decide +kernel, by decide +kernel⟩, List.mem_of_getElem? (i := 82) (by decide +kernel), List.mem_of_getElem? (i := 470) (by decide +kernel), List.mem_of_getElem? (i := 471) (by decide +kernel)⟩
theorem lw_p29 : lw_okq (⟨"SlittingOffice", "requireCoil", "(I)V"⟩, 17) := ⟨⟨by decide +kernel, by decide +kernel⟩, List.mem_of_getElem? (i := 16) (by decide +kernel), List.mem_of_getElem? (i := 482) (by decide +kernel), List.mem_of_getElem? (i := 483) (by decide +kernel)⟩
theorem lw_p30 : lw_okq (⟨"SlittingOffice$Coil", "hasMostDefects", "()Z"⟩, 14) := ⟨⟨by decide +kernel, by decide +kernel⟩, List.mem_of_getElem? (i := 82) (by decide +kernel), List.mem_of_getElem? (i := 502) (by decide +kernel), List.mem_of_getElem? (i := 503) (by decide +kernel)⟩
theorem lw_p31 : lw_okq (⟨"SlittingOffice$Coil", "addDefect", "(II)V"⟩, 14) := ⟨⟨by decide +kernel, by decide +kernel⟩, List.mem_of_getElem? (i := 82) (by decide +kernel), List.mem_of_getElem? (i := 507) (by decide +kernel), List.mem_of_getElem? (i := 508) (by decide +kernel)⟩
def lw_privs_2 : List (MethodName × Nat) := [(⟨"SlittingOffice", "canBeCutFrom", "(LSlittingOffice$Pattern;LSlittingOffice$Coil;)Z"⟩, 17), (⟨"SlittingOffice$Pattern", "totalWidth", "()I"⟩, 2), (⟨"SlittingOffice", "roomOf", "(LSlittingOffice$Coil;)I"⟩, 17), (⟨"SlittingOffice", "slitCoil", "(II)I"⟩, 17), (⟨"SlittingOffice$Coil", "slitBy", "(LSlittingOffice$Pattern;I)V"⟩, 14), (⟨"SlittingOffice$Coil", "cutOutLength", "()I"⟩, 14), (⟨"SlittingOffice", "deliverSlits", "(LSlittingOffice$Coil;)I"⟩, 17), (⟨"SlittingOffice", "takerOf", "(II)I"⟩, 17), (⟨"SlittingOffice$Order", "wouldTakeHeat", "(I)Z"⟩, 4), (⟨"SlittingOffice$Order", "receive", "(II)V"⟩, 4), (⟨"SlittingOffice$Coil", "stockOf", "(I)I"⟩, 14), (⟨"java/lang/Throwable", "fillInStackTrace", "(I)Ljava/lang/Throwable;"⟩, 6), (⟨"SlittingOffice$Coil", "describe", "(IIII)V"⟩, 14), (⟨"SlittingOffice", "requireCoil", "(I)V"⟩, 17), (⟨"SlittingOffice$Coil", "hasMostDefects", "()Z"⟩, 14), (⟨"SlittingOffice$Coil", "addDefect", "(II)V"⟩, 14)]
theorem lw_r2 : ∀ q ∈ lw_privs_2, lw_okq q := List.forall_mem_cons.mpr ⟨lw_p16, List.forall_mem_cons.mpr ⟨lw_p17, List.forall_mem_cons.mpr ⟨lw_p18, List.forall_mem_cons.mpr ⟨lw_p19, List.forall_mem_cons.mpr ⟨lw_p20, List.forall_mem_cons.mpr ⟨lw_p21, List.forall_mem_cons.mpr ⟨lw_p22, List.forall_mem_cons.mpr ⟨lw_p23, List.forall_mem_cons.mpr ⟨lw_p24, List.forall_mem_cons.mpr ⟨lw_p25, List.forall_mem_cons.mpr ⟨lw_p26, List.forall_mem_cons.mpr ⟨lw_p27, List.forall_mem_cons.mpr ⟨lw_p28, List.forall_mem_cons.mpr ⟨lw_p29, List.forall_mem_cons.mpr ⟨lw_p30, List.forall_mem_cons.mpr ⟨lw_p31, fun _ h => absurd h List.not_mem_nil⟩⟩⟩⟩⟩⟩⟩⟩⟩⟩⟩⟩⟩⟩⟩⟩
theorem lw_p32 : lw_okq (⟨"SlittingOffice$Order", "describe", "(II)V"⟩, 4) := ⟨⟨by decide +kernel, by decide +kernel⟩, List.mem_of_getElem? (i := 140) (by decide +kernel), List.mem_of_getElem? (i := 529) (by decide +kernel), List.mem_of_getElem? (i := 530) (by decide +kernel)⟩
theorem lw_p33 : lw_okq (⟨"SlittingOffice$Pattern", "isFull", "()Z"⟩, 2) := ⟨⟨by decide +kernel, by decide +kernel⟩, List.mem_of_getElem? (i := 29) (by decide +kernel), List.mem_of_getElem? (i := 540) (by decide +kernel), List.mem_of_getElem? (i := 541) (by decide +kernel)⟩
theorem lw_p34 : lw_okq (⟨"SlittingOffice$Pattern", "append", "(I)V"⟩, 2) := ⟨⟨by decide +kernel, by decide +kernel⟩, List.mem_of_getElem? (i := 29) (by decide +kernel), List.mem_of_getElem? (i := 545) (by decide +kernel), List.mem_of_getElem? (i := 546) (by decide +kernel)⟩
theorem lw_p35 : lw_okq (⟨"SlittingOffice$Pattern", "hasSlitAt", "(I)Z"⟩, 2) := ⟨⟨by decide +kernel, by decide +kernel⟩, List.mem_of_getElem? (i := 29) (by decide +kernel), List.mem_of_getElem? (i := 557) (by decide +kernel), List.mem_of_getElem? (i := 558) (by decide +kernel)⟩
theorem lw_p36 : lw_okq (⟨"SlittingOffice$Pattern", "becomeCopyOf", "(LSlittingOffice$Pattern;)V"⟩, 2) := ⟨⟨by decide +kernel, by decide +kernel⟩, List.mem_of_getElem? (i := 29) (by decide +kernel), List.mem_of_getElem? (i := 570) (by decide +kernel), List.mem_of_getElem? (i := 571) (by decide +kernel)⟩
theorem lw_p37 : lw_okq (⟨"SlittingOffice", "requirePattern", "(I)V"⟩, 17) := ⟨⟨by decide +kernel, by decide +kernel⟩, List.mem_of_getElem? (i := 16) (by decide +kernel), List.mem_of_getElem? (i := 583) (by decide +kernel), List.mem_of_getElem? (i := 584) (by decide +kernel)⟩
theorem lw_p38 : lw_okq (⟨"SlittingOffice", "offerWidthsFor", "(LSlittingOffice$Coil;)V"⟩, 17) := ⟨⟨by decide +kernel, by decide +kernel⟩, List.mem_of_getElem? (i := 16) (by decide +kernel), List.mem_of_getElem? (i := 595) (by decide +kernel), List.mem_of_getElem? (i := 596) (by decide +kernel)⟩
theorem lw_p39 : lw_okq (⟨"SlittingOffice$Filling", "forgetWidths", "()V"⟩, 3) := ⟨⟨by decide +kernel, by decide +kernel⟩, List.mem_of_getElem? (i := 47) (by decide +kernel), List.mem_of_getElem? (i := 599) (by decide +kernel), List.mem_of_getElem? (i := 600) (by decide +kernel)⟩
theorem lw_p40 : lw_okq (⟨"SlittingOffice$Filling", "offerWidth", "(I)V"⟩, 3) := ⟨⟨by decide +kernel, by decide +kernel⟩, List.mem_of_getElem? (i := 47) (by decide +kernel), List.mem_of_getElem? (i := 603) (by decide +kernel), List.mem_of_getElem? (i := 604) (by decide +kernel)⟩
theorem lw_p41 : lw_okq (⟨"SlittingOffice$Filling", "greatestTotal", "(II)I"⟩, 3) := ⟨⟨by decide +kernel, by decide +kernel⟩, List.mem_of_getElem? (i := 47) (by decide +kernel), List.mem_of_getElem? (i := 607) (by decide +kernel), List.mem_of_getElem? (i := 608) (by decide +kernel)⟩
theorem lw_p42 : lw_okq (⟨"SlittingOffice$Filling", "fewestSlitsFor", "(I)I"⟩, 3) := ⟨⟨by decide +kernel, by decide +kernel⟩, List.mem_of_getElem? (i := 47) (by decide +kernel), List.mem_of_getElem? (i := 611) (by decide +kernel), List.mem_of_getElem? (i := 612) (by decide +kernel)⟩
theorem lw_p43 : lw_okq (⟨"SlittingOffice$Filling", "layOut", "(ILSlittingOffice$Pattern;)V"⟩, 3) := ⟨⟨by decide +kernel, by decide +kernel⟩, List.mem_of_getElem? (i := 47) (by decide +kernel), List.mem_of_getElem? (i := 616) (by decide +kernel), List.mem_of_getElem? (i := 617) (by decide +kernel)⟩
theorem lw_p44 : lw_okq (⟨"SlittingOffice$Filling", "greatestBefore", "(II)I"⟩, 3) := ⟨⟨by decide +kernel, by decide +kernel⟩, List.mem_of_getElem? (i := 47) (by decide +kernel), List.mem_of_getElem? (i := 621) (by decide +kernel), List.mem_of_getElem? (i := 622) (by decide +kernel)⟩
theorem lw_p45 : lw_okq (⟨"SlittingOffice$Filling", "greatestTotalByTrying", "(II)I"⟩, 3) := ⟨⟨by decide +kernel, by decide +kernel⟩, List.mem_of_getElem? (i := 47) (by decide +kernel), List.mem_of_getElem? (i := 634) (by decide +kernel), List.mem_of_getElem? (i := 635) (by decide +kernel)⟩
theorem lw_p46 : lw_okq (⟨"SlittingOffice", "coilWaits", "(I)Z"⟩, 17) := ⟨⟨by decide +kernel, by decide +kernel⟩, List.mem_of_getElem? (i := 16) (by decide +kernel), List.mem_of_getElem? (i := 664) (by decide +kernel), List.mem_of_getElem? (i := 665) (by decide +kernel)⟩
theorem lw_p47 : lw_okq (⟨"SlittingOffice", "requireSlit", "(II)V"⟩, 17) := ⟨⟨by decide +kernel, by decide +kernel⟩, List.mem_of_getElem? (i := 16) (by decide +kernel), List.mem_of_getElem? (i := 691) (by decide +kernel), List.mem_of_getElem? (i := 692) (by decide +kernel)⟩
def lw_privs_3 : List (MethodName × Nat) := [(⟨"SlittingOffice$Order", "describe", "(II)V"⟩, 4), (⟨"SlittingOffice$Pattern", "isFull", "()Z"⟩, 2), (⟨"SlittingOffice$Pattern", "append", "(I)V"⟩, 2), (⟨"SlittingOffice$Pattern", "hasSlitAt", "(I)Z"⟩, 2), (⟨"SlittingOffice$Pattern", "becomeCopyOf", "(LSlittingOffice$Pattern;)V"⟩, 2), (⟨"SlittingOffice", "requirePattern", "(I)V"⟩, 17), (⟨"SlittingOffice", "offerWidthsFor", "(LSlittingOffice$Coil;)V"⟩, 17), (⟨"SlittingOffice$Filling", "forgetWidths", "()V"⟩, 3), (⟨"SlittingOffice$Filling", "offerWidth", "(I)V"⟩, 3), (⟨"SlittingOffice$Filling", "greatestTotal", "(II)I"⟩, 3), (⟨"SlittingOffice$Filling", "fewestSlitsFor", "(I)I"⟩, 3), (⟨"SlittingOffice$Filling", "layOut", "(ILSlittingOffice$Pattern;)V"⟩, 3), (⟨"SlittingOffice$Filling", "greatestBefore", "(II)I"⟩, 3), (⟨"SlittingOffice$Filling", "greatestTotalByTrying", "(II)I"⟩, 3), (⟨"SlittingOffice", "coilWaits", "(I)Z"⟩, 17), (⟨"SlittingOffice", "requireSlit", "(II)V"⟩, 17)]
theorem lw_r3 : ∀ q ∈ lw_privs_3, lw_okq q := List.forall_mem_cons.mpr ⟨lw_p32, List.forall_mem_cons.mpr ⟨lw_p33, List.forall_mem_cons.mpr ⟨lw_p34, List.forall_mem_cons.mpr ⟨lw_p35, List.forall_mem_cons.mpr ⟨lw_p36, List.forall_mem_cons.mpr ⟨lw_p37, List.forall_mem_cons.mpr ⟨lw_p38, List.forall_mem_cons.mpr ⟨lw_p39, List.forall_mem_cons.mpr ⟨lw_p40, List.forall_mem_cons.mpr ⟨lw_p41, List.forall_mem_cons.mpr ⟨lw_p42, List.forall_mem_cons.mpr ⟨lw_p43, List.forall_mem_cons.mpr ⟨lw_p44, List.forall_mem_cons.mpr ⟨lw_p45, List.forall_mem_cons.mpr ⟨lw_p46, List.forall_mem_cons.mpr ⟨lw_p47, fun _ h => absurd h List.not_mem_nil⟩⟩⟩⟩⟩⟩⟩⟩⟩⟩⟩⟩⟩⟩⟩⟩
theorem lw_p48 : lw_okq (⟨"SlittingOffice$Coil", "hasSlitAt", "(I)Z"⟩, 14) := ⟨⟨by decide +kernel, by decide +kernel⟩, List.mem_of_getElem? (i := 82) (by decide +kernel), List.mem_of_getElem? (i := 695) (by decide +kernel), List.mem_of_getElem? (i := 696) (by decide +kernel)⟩
theorem lw_p49 : lw_okq (⟨"SlittingOffice", "requireOrder", "(I)V"⟩, 17) := ⟨⟨by decide +kernel, by decide +kernel⟩, List.mem_of_getElem? (i := 16) (by decide +kernel), List.mem_of_getElem? (i := 721) (by decide +kernel), List.mem_of_getElem? (i := 722) (by decide +kernel)⟩
theorem lw_p50 : lw_okq (⟨"SlittingOfficeModel", "asked", "(ZZ)Z"⟩, 32) := ⟨⟨by decide +kernel, by decide +kernel⟩, List.mem_of_getElem? (i := 733) (by decide +kernel), List.mem_of_getElem? (i := 847) (by decide +kernel), List.mem_of_getElem? (i := 848) (by decide +kernel)⟩
theorem lw_p51 : lw_okq (⟨"SlittingOfficeModel", "isCoil", "(I)Z"⟩, 32) := ⟨⟨by decide +kernel, by decide +kernel⟩, List.mem_of_getElem? (i := 733) (by decide +kernel), List.mem_of_getElem? (i := 855) (by decide +kernel), List.mem_of_getElem? (i := 856) (by decide +kernel)⟩
theorem lw_p52 : lw_okq (⟨"SlittingOfficeModel", "asked", "(ZZZ)Z"⟩, 32) := ⟨⟨by decide +kernel, by decide +kernel⟩, List.mem_of_getElem? (i := 733) (by decide +kernel), List.mem_of_getElem? (i := 859) (by decide +kernel), List.mem_of_getElem? (i := 860) (by decide +kernel)⟩
theorem lw_p53 : lw_okq (⟨"SlittingOfficeModel", "cutOut", "(I)I"⟩, 32) := ⟨⟨by decide +kernel, by decide +kernel⟩, List.mem_of_getElem? (i := 733) (by decide +kernel), List.mem_of_getElem? (i := 863) (by decide +kernel), List.mem_of_getElem? (i := 864) (by decide +kernel)⟩
theorem lw_p54 : lw_okq (⟨"SlittingOfficeModel", "asked", "(Z)Z"⟩, 32) := ⟨⟨by decide +kernel, by decide +kernel⟩, List.mem_of_getElem? (i := 733) (by decide +kernel), List.mem_of_getElem? (i := 871) (by decide +kernel), List.mem_of_getElem? (i := 872) (by decide +kernel)⟩
theorem lw_p55 : lw_okq (⟨"SlittingOfficeModel", "drafts", "(I)V"⟩, 32) := ⟨⟨by decide +kernel, by decide +kernel⟩, List.mem_of_getElem? (i := 733) (by decide +kernel), List.mem_of_getElem? (i := 884) (by decide +kernel), List.mem_of_getElem? (i := 885) (by decide +kernel)⟩
theorem lw_p56 : lw_okq (⟨"SlittingOfficeModel", "told", "(I)I"⟩, 32) := ⟨⟨by decide +kernel, by decide +kernel⟩, List.mem_of_getElem? (i := 733) (by decide +kernel), List.mem_of_getElem? (i := 892) (by decide +kernel), List.mem_of_getElem? (i := 893) (by decide +kernel)⟩
theorem lw_p57 : lw_okq (⟨"SlittingOfficeModel", "isPattern", "(I)Z"⟩, 32) := ⟨⟨by decide +kernel, by decide +kernel⟩, List.mem_of_getElem? (i := 733) (by decide +kernel), List.mem_of_getElem? (i := 912) (by decide +kernel), List.mem_of_getElem? (i := 913) (by decide +kernel)⟩
theorem lw_p58 : lw_okq (⟨"SlittingOfficeModel", "canRun", "(II)Z"⟩, 32) := ⟨⟨by decide +kernel, by decide +kernel⟩, List.mem_of_getElem? (i := 733) (by decide +kernel), List.mem_of_getElem? (i := 916) (by decide +kernel), List.mem_of_getElem? (i := 917) (by decide +kernel)⟩
theorem lw_p59 : lw_okq (⟨"SlittingOfficeModel", "fullest", "(I)I"⟩, 32) := ⟨⟨by decide +kernel, by decide +kernel⟩, List.mem_of_getElem? (i := 733) (by decide +kernel), List.mem_of_getElem? (i := 924) (by decide +kernel), List.mem_of_getElem? (i := 925) (by decide +kernel)⟩
theorem lw_p60 : lw_okq (⟨"SlittingOfficeModel", "takes", "(II)Z"⟩, 32) := ⟨⟨by decide +kernel, by decide +kernel⟩, List.mem_of_getElem? (i := 733) (by decide +kernel), List.mem_of_getElem? (i := 928) (by decide +kernel), List.mem_of_getElem? (i := 929) (by decide +kernel)⟩
theorem lw_p61 : lw_okq (⟨"SlittingOfficeModel", "runs", "(II)I"⟩, 32) := ⟨⟨by decide +kernel, by decide +kernel⟩, List.mem_of_getElem? (i := 733) (by decide +kernel), List.mem_of_getElem? (i := 940) (by decide +kernel), List.mem_of_getElem? (i := 941) (by decide +kernel)⟩
theorem lw_p62 : lw_okq (⟨"SlittingOfficeModel", "movesFrom", "(II)I"⟩, 32) := ⟨⟨by decide +kernel, by decide +kernel⟩, List.mem_of_getElem? (i := 733) (by decide +kernel), List.mem_of_getElem? (i := 944) (by decide +kernel), List.mem_of_getElem? (i := 945) (by decide +kernel)⟩
theorem lw_p63 : lw_okq (⟨"SlittingOfficeModel", "isPosition", "(II)Z"⟩, 32) := ⟨⟨by decide +kernel, by decide +kernel⟩, List.mem_of_getElem? (i := 733) (by decide +kernel), List.mem_of_getElem? (i := 948) (by decide +kernel), List.mem_of_getElem? (i := 949) (by decide +kernel)⟩
def lw_privs_4 : List (MethodName × Nat) := [(⟨"SlittingOffice$Coil", "hasSlitAt", "(I)Z"⟩, 14), (⟨"SlittingOffice", "requireOrder", "(I)V"⟩, 17), (⟨"SlittingOfficeModel", "asked", "(ZZ)Z"⟩, 32), (⟨"SlittingOfficeModel", "isCoil", "(I)Z"⟩, 32), (⟨"SlittingOfficeModel", "asked", "(ZZZ)Z"⟩, 32), (⟨"SlittingOfficeModel", "cutOut", "(I)I"⟩, 32), (⟨"SlittingOfficeModel", "asked", "(Z)Z"⟩, 32), (⟨"SlittingOfficeModel", "drafts", "(I)V"⟩, 32), (⟨"SlittingOfficeModel", "told", "(I)I"⟩, 32), (⟨"SlittingOfficeModel", "isPattern", "(I)Z"⟩, 32), (⟨"SlittingOfficeModel", "canRun", "(II)Z"⟩, 32), (⟨"SlittingOfficeModel", "fullest", "(I)I"⟩, 32), (⟨"SlittingOfficeModel", "takes", "(II)Z"⟩, 32), (⟨"SlittingOfficeModel", "runs", "(II)I"⟩, 32), (⟨"SlittingOfficeModel", "movesFrom", "(II)I"⟩, 32), (⟨"SlittingOfficeModel", "isPosition", "(II)Z"⟩, 32)]
theorem lw_r4 : ∀ q ∈ lw_privs_4, lw_okq q := List.forall_mem_cons.mpr ⟨lw_p48, List.forall_mem_cons.mpr ⟨lw_p49, List.forall_mem_cons.mpr ⟨lw_p50, List.forall_mem_cons.mpr ⟨lw_p51, List.forall_mem_cons.mpr ⟨lw_p52, List.forall_mem_cons.mpr ⟨lw_p53, List.forall_mem_cons.mpr ⟨lw_p54, List.forall_mem_cons.mpr ⟨lw_p55, List.forall_mem_cons.mpr ⟨lw_p56, List.forall_mem_cons.mpr ⟨lw_p57, List.forall_mem_cons.mpr ⟨lw_p58, List.forall_mem_cons.mpr ⟨lw_p59, List.forall_mem_cons.mpr ⟨lw_p60, List.forall_mem_cons.mpr ⟨lw_p61, List.forall_mem_cons.mpr ⟨lw_p62, List.forall_mem_cons.mpr ⟨lw_p63, fun _ h => absurd h List.not_mem_nil⟩⟩⟩⟩⟩⟩⟩⟩⟩⟩⟩⟩⟩⟩⟩⟩
theorem lw_p64 : lw_okq (⟨"SlittingOfficeModel", "best", "()I"⟩, 32) := ⟨⟨by decide +kernel, by decide +kernel⟩, List.mem_of_getElem? (i := 733) (by decide +kernel), List.mem_of_getElem? (i := 972) (by decide +kernel), List.mem_of_getElem? (i := 973) (by decide +kernel)⟩
theorem lw_p65 : lw_okq (⟨"SlittingOfficeModel", "between", "(II)I"⟩, 32) := ⟨⟨by decide +kernel, by decide +kernel⟩, List.mem_of_getElem? (i := 733) (by decide +kernel), List.mem_of_getElem? (i := 976) (by decide +kernel), List.mem_of_getElem? (i := 977) (by decide +kernel)⟩
theorem lw_p66 : lw_okq (⟨"SlittingOfficeModel", "isSlit", "(II)Z"⟩, 32) := ⟨⟨by decide +kernel, by decide +kernel⟩, List.mem_of_getElem? (i := 733) (by decide +kernel), List.mem_of_getElem? (i := 1000) (by decide +kernel), List.mem_of_getElem? (i := 1001) (by decide +kernel)⟩
theorem lw_p67 : lw_okq (⟨"SlittingOfficeModel", "isOrder", "(I)Z"⟩, 32) := ⟨⟨by decide +kernel, by decide +kernel⟩, List.mem_of_getElem? (i := 733) (by decide +kernel), List.mem_of_getElem? (i := 1016) (by decide +kernel), List.mem_of_getElem? (i := 1017) (by decide +kernel)⟩
def lw_privs_5 : List (MethodName × Nat) := [(⟨"SlittingOfficeModel", "best", "()I"⟩, 32), (⟨"SlittingOfficeModel", "between", "(II)I"⟩, 32), (⟨"SlittingOfficeModel", "isSlit", "(II)Z"⟩, 32), (⟨"SlittingOfficeModel", "isOrder", "(I)Z"⟩, 32)]
theorem lw_r5 : ∀ q ∈ lw_privs_5, lw_okq q := List.forall_mem_cons.mpr ⟨lw_p64, List.forall_mem_cons.mpr ⟨lw_p65, List.forall_mem_cons.mpr ⟨lw_p66, List.forall_mem_cons.mpr ⟨lw_p67, fun _ h => absurd h List.not_mem_nil⟩⟩⟩⟩
def lw_privs : List (MethodName × Nat) := lw_privs_1 ++ (lw_privs_2 ++ (lw_privs_3 ++ (lw_privs_4 ++ (lw_privs_5))))
def lw_tbl : List Cond := k2_sels lw_privs ++ tables_1
theorem lw_privs_ok : ∀ q ∈ lw_privs, lw_okq q := by
  show ∀ q ∈ lw_privs_1 ++ (lw_privs_2 ++ (lw_privs_3 ++ (lw_privs_4 ++ (lw_privs_5)))), lw_okq q
  exact List.forall_mem_append.mpr ⟨lw_r1, List.forall_mem_append.mpr ⟨lw_r2, List.forall_mem_append.mpr ⟨lw_r3, List.forall_mem_append.mpr ⟨lw_r4, lw_r5⟩⟩⟩⟩
end
section
/-- the printed row va_mna names these two, which stand in no block of the kit: written here -/
def va_AOA (ty : FieldType) (U : State) : Prop := ∀ args : Array Value, (Cond.arrayOver (.array ty)).before args U = true
theorem va_AOA.use {ty : FieldType} {args : Array Value} {U : State} (h : va_AOA ty U) : (Cond.arrayOver (.array ty)).before args U = true := h args
/-! ===== BEGIN words of one list among another's, by their places ===== -/
theorem goodIn_r {big : List Cond} (ws : List Cond) (ps : List Nat) (hp : ws = ps.filterMap (fun i => big[i]?)) (h : ws.all goodWord = true) : GoodIn big ws := by
  intro w hw
  have h1 := List.all_eq_true.mp h w hw
  rw [hp] at hw
  obtain ⟨i, -, hi⟩ := List.mem_filterMap.mp hw
  have hm : w ∈ big := by first | exact List.mem_of_getElem? hi | exact List.getElem?_mem hi
  exact ⟨hm, good_of_word h1⟩
theorem goodIn_app {big a b : List Cond} (ha : GoodIn big a) (hb : GoodIn big b) : GoodIn big (a ++ b) := fun w h => (List.mem_append.mp h).elim (ha w) (hb w)
theorem goodIn_ca {big a b : List Cond} {c : Cond} (ha : GoodIn big (c :: a)) (hb : GoodIn big b) : GoodIn big (c :: (a ++ b)) := fun w h => (List.mem_cons.mp h).elim (fun e => ha w (List.mem_cons.mpr (Or.inl e))) (fun h => (List.mem_append.mp h).elim (fun h => ha w (List.mem_cons.mpr (Or.inr h))) (hb w))
theorem goodIn_sub {big ws : List Cond} (hm : ∀ w ∈ ws, w ∈ big) (h : ws.all goodWord = true) : GoodIn big ws := fun w hw => ⟨hm w hw, good_of_word (List.all_eq_true.mp h w hw)⟩
/-! ===== END ===== -/

/-! ===== BEGIN new T[n][m]: the outer array a place, the inner ones among the pooled ===== -/
/-- f, but v at every address of l -/
def vr_up {α : Type} (f : Nat → α) (l : List Nat) (v : α) : Nat → α := fun a => if a ∈ l then v else f a
theorem vr_up_in {α : Type} {f : Nat → α} {l : List Nat} {v : α} {a : Nat} (h : a ∈ l) : vr_up f l v a = v := if_pos h
theorem vr_up_ne {α : Type} {f : Nat → α} {l : List Nat} {v : α} {a : Nat} (h : a ∉ l) : vr_up f l v a = f a := if_neg h
theorem vr_rows {L l : List Nat} {f : Nat → va_E} {e : va_E} (h : ∀ a, a ∈ l → a ∉ L) : va_pl L f ++ l.map (fun a => (a, e)) = va_pl (L ++ l) (vr_up f l e) := by
  unfold va_pl
  rw [List.map_append]
  congr 1
  · apply List.map_congr_left
    intro a ha
    rw [vr_up_ne (fun q => h a q ha)]
  · apply List.map_congr_left
    intro a ha
    rw [vr_up_in ha]
theorem vr_lay {X rows : va_W} {x : Nat × va_E} {pl : va_W} {D : va_G} {cl : List vw_C} {H : Heap} (hP : va_P D cl (((X ++ pl) ++ [x]) ++ rows) H) : va_P D cl ((X ++ [x]) ++ (pl ++ rows)) H := by
  rw [List.append_assoc (X ++ pl)] at hP
  have h := va_P.swap hP
  rw [← List.append_assoc X] at h
  have h2 := va_P.swap h
  rw [List.append_assoc (X ++ [x])] at h2
  exact h2
theorem vr_layD {X rows : va_W} {x : Nat × va_E} {pl : va_W} {A : Nat → Prop} (hD : va_D A (((X ++ pl) ++ [x]) ++ rows)) : va_D A ((X ++ [x]) ++ (pl ++ rows)) := by
  rw [List.append_assoc (X ++ pl)] at hD
  have h := va_D.swap hD
  rw [← List.append_assoc X] at h
  have h2 := va_D.swap h
  rw [List.append_assoc (X ++ [x])] at h2
  exact h2
theorem vr_outer (c : ClassId) (N h0 : Nat) : ∀ i : Nat, Jvm.Free.Multi.outerC c N h0 i = arrV c N (fun j => va_rf (if j < i then some (h0 + 1 + j) else none))
  | 0 => by
    show ({ cls := c, slots := Array.replicate N .null, vm := .none } : Cell) = _
    rw [arrV_new]
    refine congrArg (arrV c N) (funext fun j => ?_)
    simp [va_rf]
  | i + 1 => by
    show (Jvm.Free.Multi.outerC c N h0 i).setSlot i (.ref (h0 + 1 + i)) = _
    rw [vr_outer c N h0 i, arrV_store]
    refine congrArg (arrV c N) (funext fun j => ?_)
    by_cases e : j = i
    · subst e
      simp [updV, va_rf]
    · by_cases h : j < i
      · simp [updV, e, h, Nat.lt_succ_of_lt h]
      · simp [updV, e, h, show ¬ j < i + 1 by omega]
section VGM
variable {p : Program} {l : Launch} {e : Env} {R : Room} {s : State} {m : MethodId} {args : Array Value} {below : List Frame} {meth : Method} {c : Code} {H : Heap} {locs : List Loc} {cells slots : Nat} {Q : State → Prop}
variable {cc : ByteArray} {pc : Nat} {ls : Array Slot} {rest : List Value} {D : va_G} {cl : List vw_C} {A : Nat → Prop} {a : Nat} {tys : List (ClassId × FieldType)} {ws : va_W} {H0 : Heap}
theorem va_mna {X : va_W} {L : List Nat} {f : Nat → va_E} {cc : ByteArray} (hexec : p.tables.exec = Jvm.exec) (hb : c.code = cc) {own : String} {index : Nat} {ty : FieldType} {cy : ClassId} (hown : s.vm.findClass own = some m.cls) (hclink : (Cond.classLink own index ("[" ++ (FieldType.array ty).toString)).before args s = true) (hover : va_AOA ty s) (harr : (Cond.arrayClass ty).before args s = true) (hcy : s.vm.findClass (FieldType.array ty).toString = some cy)
    (hK : va_K D cl tys s) (hP : va_P D cl (X ++ va_pl L f) H) (hD : va_D A (X ++ va_pl L f)) (hS : va_S A H0 H locs) (hA : ∀ q, H0.size ≤ q → A q) {n k : Int32} {N' K' : Nat} {z : vp_A} (hn : ¬ n < 0) (hk : ¬ k < 0) (hN : n.toNatClampNeg = N') (hM : k.toNatClampNeg = K')
    (hb1 : N' * 4 ≤ 536870912) (hb2 : K' * componentBytes ty ≤ 536870912) (hb3 : K' ≤ 536870912) (hdf : fits ty (defaultValue ty) = true) (hdd : (defaultValue ty).isDefault = true) (hcells : cells + (1 + N') ≤ R.cells) (hslots : slots + (N' + N' * K') ≤ R.slots) (hz : ∀ c : ClassId, Jvm.Free.Multi.innerC c K' (defaultValue ty) = vp_cell c z) (hdg : decode cc pc = .ok (.multianewarray index 2, 4))
    (kk : ∀ (q : Nat) (r : Nat → Nat) (cA : ClassId) (H1 : Heap), (∀ i j : Nat, i < N' → j < N' → r i = r j → i = j) → (∀ i : Nat, i < N' → r i ∉ L) → va_K D cl (tys ++ [(cA, .array ty)]) s →
      va_P D cl ((X ++ [(q, .inl (cA, N', .inr (.inr (.inr (.inr (fun i => if i < N' then some (r i) else none))))))]) ++ va_pl (L ++ (List.range N').map r) (vr_up f ((List.range N').map r) (.inl (cy, z)))) H1 → va_D A ((X ++ [(q, .inl (cA, N', .inr (.inr (.inr (.inr (fun i => if i < N' then some (r i) else none))))))]) ++ va_pl (L ++ (List.range N').map r) (vr_up f ((List.range N').map r) (.inl (cy, z)))) → va_S A H0 H1 locs →
      W p l e R s m args below meth c H1 locs (cells + 1 + N') (slots + N' + N' * K') Q (F0 m (pc + 4) ls (.ref q :: rest))) : W p l e R s m args below meth c H locs cells slots Q (F0 m pc ls (.int k :: .int n :: rest)) := by
  subst hN
  subst hM
  intro T hT Xs
  obtain ⟨vm₁, cA, comp, -, fA, fC, hO, -, X', step⟩ := Xs.multianewarray2F hexec hown hclink (va_AOA.use hover) harr (g := F0 m pc ls (.int k :: .int n :: rest)) rfl (by rw [hb]; exact hdg) rfl hn hk hb1 hb2 hb3 hdf hdd hcells hslots
  have ec : some cy = some comp := hcy.symm.trans fC
  cases ec
  generalize hF : Jvm.Free.Multi.fill (T.setVm vm₁) cA cy n.toNatClampNeg k.toNatClampNeg (defaultValue ty) n.toNatClampNeg = F at X' step
  have hTh : (T.setVm vm₁).heap = H := hT
  obtain ⟨f1, f2, -, -⟩ := Jvm.Free.Multi.fill_facts (T.setVm vm₁) cA cy n.toNatClampNeg k.toNatClampNeg (defaultValue ty) n.toNatClampNeg
  rw [hF, hTh] at f1 f2
  have hold : ∀ x : Nat, x < H.size → F.heap[x]? = H[x]? := fun x hx => by
    have := Jvm.Free.Multi.fill_old (T.setVm vm₁) cA cy n.toNatClampNeg k.toNatClampNeg (defaultValue ty) (a := x) (by rw [hTh]; exact hx) n.toNatClampNeg
    rw [hF, hTh] at this
    exact this
  have hrow : ∀ j : Nat, j < n.toNatClampNeg → F.heap[H.size + 1 + j]? = some (vp_cell cy z) := fun j hj => by
    have := Jvm.Free.Multi.fill_inner (T.setVm vm₁) cA cy n.toNatClampNeg k.toNatClampNeg (defaultValue ty) n.toNatClampNeg j hj
    rw [hF, hTh, hz] at this
    exact this
  have hout : Jvm.Free.Multi.outerC cA n.toNatClampNeg H.size n.toNatClampNeg = vp_cell cA (n.toNatClampNeg, .inr (.inr (.inr (.inr (fun i => if i < n.toNatClampNeg then some (H.size + 1 + i) else none))))) := by
    rw [vp_cell_q]
    exact vr_outer cA n.toNatClampNeg H.size n.toNatClampNeg
  rw [hout] at f2
  have hlt : ∀ a, a ∈ L → a < H.size := fun a ha => by
    obtain ⟨k9, hk9⟩ := va_pl_get (X := X) (f := f) ha
    exact (hP k9 _ hk9).lt
  have hnl : ∀ i : Nat, i < n.toNatClampNeg → H.size + 1 + i ∉ L := fun i _ h => by
    have := hlt _ h
    omega
  have hnm : ∀ a, a ∈ (List.range n.toNatClampNeg).map (fun i => H.size + 1 + i) → a ∉ L := fun a ha h => by
    obtain ⟨i, -, rfl⟩ := List.mem_map.mp ha
    have := hlt _ h
    omega
  have hP0 : va_P D cl (X ++ va_pl L f) F.heap := hP.kept (fun k9 x hx => hold x.1 ((hP k9 x hx).lt))
  have hP1 : va_P D cl ((X ++ va_pl L f) ++ [(H.size, .inl (cA, n.toNatClampNeg, .inr (.inr (.inr (.inr (fun i => if i < n.toNatClampNeg then some (H.size + 1 + i) else none))))))]) F.heap := hP0.app (fun k9 x hx => by
    have h0 : k9 < 1 := (List.getElem?_eq_some_iff.mp hx).1
    rw [show k9 = 0 by omega] at hx
    cases hx
    exact f2)
  have hP2 : va_P D cl (((X ++ va_pl L f) ++ [(H.size, .inl (cA, n.toNatClampNeg, .inr (.inr (.inr (.inr (fun i => if i < n.toNatClampNeg then some (H.size + 1 + i) else none))))))]) ++ ((List.range n.toNatClampNeg).map (fun i => H.size + 1 + i)).map (fun a => (a, .inl (cy, z)))) F.heap := hP1.app (fun k9 x hx => by
    obtain ⟨a, ha, rfl⟩ := List.mem_map.mp (List.mem_of_getElem? hx)
    obtain ⟨i, hi, rfl⟩ := List.mem_map.mp ha
    exact hrow i (List.mem_range.mp hi))
  have hD2 : va_D A (((X ++ va_pl L f) ++ [(H.size, .inl (cA, n.toNatClampNeg, .inr (.inr (.inr (.inr (fun i => if i < n.toNatClampNeg then some (H.size + 1 + i) else none))))))]) ++ ((List.range n.toNatClampNeg).map (fun i => H.size + 1 + i)).map (fun a => (a, .inl (cy, z)))) := by
    have hD1 := hD.push (e := .inl (cA, n.toNatClampNeg, .inr (.inr (.inr (.inr (fun i => if i < n.toNatClampNeg then some (H.size + 1 + i) else none)))))) hP rfl (hA _ hS.1)
    generalize hW1 : (X ++ va_pl L f) ++ [(H.size, .inl (cA, n.toNatClampNeg, .inr (.inr (.inr (.inr (fun i => if i < n.toNatClampNeg then some (H.size + 1 + i) else none))))))] = W1 at hD1 hP1 ⊢
    have hle : ∀ (k9 : Nat) (x : Nat × va_E), W1[k9]? = some x → x.1 ≤ H.size := fun k9 x hx => by
      rw [← hW1] at hx
      by_cases hl : k9 < (X ++ va_pl L f).length
      · rw [List.getElem?_append_left hl] at hx
        exact Nat.le_of_lt ((hP k9 x hx).lt)
      · rw [List.getElem?_append_right (by omega)] at hx
        have h0 : k9 - (X ++ va_pl L f).length < 1 := (List.getElem?_eq_some_iff.mp hx).1
        rw [show k9 - (X ++ va_pl L f).length = 0 by omega] at hx
        cases hx
        exact Nat.le_refl _
    have hr : ∀ (k9 : Nat) (x : Nat × va_E), (((List.range n.toNatClampNeg).map (fun i => H.size + 1 + i)).map (fun a => ((a, .inl (cy, z)) : Nat × va_E)))[k9]? = some x → x.1 = H.size + 1 + k9 := fun k9 x hx => by
      rw [List.getElem?_map, List.getElem?_map] at hx
      by_cases h9 : k9 < n.toNatClampNeg
      · rw [List.getElem?_range h9] at hx
        cases hx
        rfl
      · have hn0 : (List.range n.toNatClampNeg)[k9]? = none := List.getElem?_eq_none (by rw [List.length_range]; omega)
        rw [hn0] at hx
        cases hx
    refine ⟨fun i j x y hi hj hxy => ?_, fun k9 x hx => ?_⟩
    · by_cases h1 : i < W1.length <;> by_cases h2 : j < W1.length
      · rw [List.getElem?_append_left h1] at hi
        rw [List.getElem?_append_left h2] at hj
        exact hD1.1 i j x y hi hj hxy
      · rw [List.getElem?_append_left h1] at hi
        rw [List.getElem?_append_right (by omega)] at hj
        have := hle _ _ hi
        have := hr _ _ hj
        omega
      · rw [List.getElem?_append_right (by omega)] at hi
        rw [List.getElem?_append_left h2] at hj
        have := hle _ _ hj
        have := hr _ _ hi
        omega
      · rw [List.getElem?_append_right (by omega)] at hi hj
        have := hr _ _ hi
        have := hr _ _ hj
        omega
    · by_cases h1 : k9 < W1.length
      · rw [List.getElem?_append_left h1] at hx
        exact hD1.2 k9 x hx
      · rw [List.getElem?_append_right (by omega)] at hx
        have := hr _ _ hx
        exact hA _ (by have := hS.1; omega)
  have hAr : ArrOfT s cA (.array ty) := fun N9 z9 => by
    obtain ⟨-, k9, hk9, cm9, hkk9⟩ := (hO 0 0 0).1
    exact ⟨(fun q hq => by cases hq), k9, hk9, cm9, hkk9⟩
  have hK2 : va_K D cl (tys ++ [(cA, .array ty)]) s := ⟨hK.1, fun k9 x hx => by
    by_cases hl : k9 < tys.length
    · rw [List.getElem?_append_left hl] at hx
      exact hK.2 k9 x hx
    · rw [List.getElem?_append_right (by omega)] at hx
      have h0 : k9 - tys.length < 1 := (List.getElem?_eq_some_iff.mp hx).1
      rw [show k9 - tys.length = 0 by omega] at hx
      cases hx
      exact ⟨hAr, fA⟩⟩
  obtain ⟨t, a1, b1⟩ := kk H.size (fun i => H.size + 1 + i) cA F.heap (fun i j _ _ h => by have h9 : H.size + 1 + i = H.size + 1 + j := h; omega) hnl hK2 (by rw [← vr_rows hnm]; exact vr_lay hP2) (by rw [← vr_rows hnm]; exact vr_layD hD2) ⟨by rw [f1]; have := hS.1; omega, fun x h1 h2 => (hold x (Nat.lt_of_lt_of_le h1 hS.1)).trans (hS.2.1 x h1 h2), hS.2.2⟩ F rfl X'
  refine ⟨t, step t ?_, b1⟩
  have e : T.heap.size = H.size := by rw [hT]
  rw [e]
  exact a1
end VGM
/-! ===== END ===== -/

/-! ===== BEGIN exceptions that leave a method, and their catching by the caller (launches without stack traces) ===== -/
section VXA
/-! The laws vx_back, vx_callV, vx_callS, vx_callSW, vx_throw0, vx_throwS follow proofs of the library, with one case more: JvmDerived/Free/Laws.lean (Back.of_free), Shelf42/LK1.lean (callV, callS), Shelf/KitTraced.lean (throwNew0V, throwNewS). -/
/-- where a method has thrown q: the class by its name, the cell, what was written, the world -/
def vx_T (XC : String → State → State → Prop) (st : State) (q : Addr) (t : State) (mc ms : Nat) (free : Addr → Prop) : Prop :=
  ∃ (E : String) (ce : Cell) (L : List Loc), XC E st t ∧ t.heap[q]? = some ce ∧ ce.vm = .none ∧ st.vm.findClass E = some ce.cls ∧ st.WarmedH t.vm ∧ st.sameButNew ({ t with vm := st.vm } : State) L mc ms ∧ ∀ z ∈ L, free z.base
def vx_Q (Qc : Array Value → State → Outcome → State → Prop) (XC : String → State → State → Prop) (mc ms : Nat) (free : Addr → Prop) : Array Value → State → Outcome → State → Prop := fun a st o t =>
  (Qc a st o t ∧ ∃ L, FrameEnd st o t L mc ms ∧ ∀ q ∈ L, free q.base) ∨ ∃ q, o = .threw q ∧ vx_T XC st q t mc ms free
/-- a callee that returns or throws -/
def vx_Met (l : Launch) (y : MethodName) (ws : List Cond) (rm : Room) (Pc : Array Value → State → Prop) (Qc : Array Value → State → Outcome → State → Prop) (XC : String → State → State → Prop) (mc ms : Nat) (free : Addr → Prop) : Prop :=
  MetFree l y (headSpec ws rm) Pc (fun _ _ _ _ _ => True) (vx_Q Qc XC mc ms free)
def vx_Post (XC : String → State → State → Prop) (mc ms : Nat) (free : Addr → Prop) : Pt → Array Value → Addr → Pt → Prop := fun A a q B =>
  ∃ (g : JFrame) (mk : MethodId) (t : State) (L : List Loc) (E : String) (ce : Cell), B.U.heap = t.heap ∧ B.U.vm = t.vm ∧ XC E (A.U.calling g mk a) t ∧ t.heap[q]? = some ce ∧ ce.vm = .none ∧ A.U.vm.findClass E = some ce.cls ∧ B.locs = A.locs ++ L ∧ (∀ z ∈ L, free z.base) ∧ B.cells = A.cells + mc ∧ B.slots = A.slots + ms
def vx_Back (l : Launch) (R : Room) (p : Program) (e : Env) (below : List Frame) (s : State) (sargs : Array Value) (y : MethodName) (len W9 : Nat)
    (Pre : Pt → Array Value → Prop) (Post : Pt → Array Value → Option Value → Pt → Prop) (PostX : Pt → Array Value → Addr → Pt → Prop) : Prop :=
  ∀ (m : MethodId) (meth : Method) (c : Code) (A : Pt) (g : JFrame) (ig : Instr) (mk : MethodId) (a : Array Value),
    Stand p l e R s m sargs below meth c A.U A.locs A.cells A.slots → g.method = m → g.locals.size = c.maxLocals → decode c.code g.pc = .ok (ig, len) →
    2 * g.monitorRoom + (g.stack.map fun v => v.category).sum ≤ W9 → A.U.methodNamed? y = some mk → Pre A a →
    (∃ (v : Option Value) (B : Pt), Stand p l e R s m sargs below meth c B.U B.locs B.cells B.slots ∧ Post A a v B ∧
      Steps p.tables e below (doInvoke e (A.U.setTop g) [] mk a).1 (B.U.setTop { g with pc := g.pc + len, stack := v.toList ++ g.stack })) ∨
    (∃ (q : Addr) (B : Pt), Stand p l e R s m sargs below meth c B.U B.locs B.cells B.slots ∧ PostX A a q B ∧
      Steps p.tables e below (doInvoke e (A.U.setTop g) [] mk a).1 ((B.U.setTop g).pushFrame (.throwing q)))
section Payer
variable {l : Launch} {R : Room} {p : Program} {e : Env} {below : List Frame} {s : State} {sargs : Array Value} {y : MethodName} {len W9 : Nat}
theorem vx_back {ws : List Cond} {rm : Room} {Pc : Array Value → State → Prop} {Qc : Array Value → State → Outcome → State → Prop} {XC : String → State → State → Prop} {mc ms : Nat} {free : Addr → Prop} {bytes : ByteArray} {maxL : Nat} {ret : Option FieldType}
    (hM : vx_Met l y ws rm Pc Qc XC mc ms free) (hblind : FrameBlind Pc) (hrc : rm.cells = mc) (hrs : rm.slots = ms)
    (hframes : rm.frames + 1 ≤ R.frames) (hlocals : W9 + (maxL + 11) + rm.locals ≤ R.locals)
    (hws : ∀ w ∈ ws, ∀ a' U, s.WarmedH U.vm → w.before a' U = true) (hcode : Cond.code y bytes maxL ret ∈ ws) (hinit : ∀ a' U, s.WarmedH U.vm → (Cond.initialized y.cls).before a' U = true) :
    vx_Back l R p e below s sargs y len W9 (PreOf R mc ms Pc) (PostOf Qc mc ms free) (vx_Post XC mc ms free) := by
  intro m meth c A g ig mk a X hg hsize hdg hW hn hp
  have h1 : (headSpec ws rm).pre.before a A.U = true := atoms_intro fun w hw => hws w hw _ _ X.warmed
  have h2 : (Cond.code y bytes maxL ret).before a A.U = true := hws _ hcode _ _ X.warmed
  have h3 : (Cond.initialized y.cls).before a A.U = true := hinit _ _ X.warmed
  have h4 : A.cells + (headSpec ws rm).room.cells ≤ R.cells := by rw [show (headSpec ws rm).room.cells = mc from hrc]; exact hp.1
  have h5 : A.slots + (headSpec ws rm).room.slots ≤ R.slots := by rw [show (headSpec ws rm).room.slots = ms from hrs]; exact hp.2.1
  have hPc : Pc a (A.U.calling g mk a) := hblind _ _ _ _ hp.2.2
  obtain ⟨U, Ls, c0, s0⟩ := A
  dsimp only [Pt.U, Pt.locs, Pt.cells, Pt.slots] at h1 h2 h3 h4 h5 X hn hPc ⊢
  obtain ⟨methY, cY, hmY, hcY, -, hlY, -, -, -, -⟩ := Cond.code_spec hn h2
  obtain ⟨kY, hkY, -⟩ := className_of_methodNamed hn
  have hinitY : kY.init = .initialized := Cond.initialized_spec (findClass_of_methodNamed hn) hkY h3
  have h : At U g.method c below := by rw [hg]; exact X.here
  have hlocals9 : W9 + (maxL + 11) + (headSpec ws rm).room.locals ≤ R.locals := hlocals
  have happ : (headSpec ws rm).appliesLoose y e.platform (U.calling g mk a) = true :=
    Spec.appliesLoose_calling (g := g) h hdg hn hkY hinitY
      (X.room_calling (g := g) (R' := (headSpec ws rm).room) hsize hmY hcY hframes (by rw [hlY]; omega) h4 h5) h1
  obtain ⟨mid, hmid⟩ := h.above
  have hfr : (U.setTop g).frames = (.java g :: mid) ++ below := by rw [State.frames_setTop' g h.top, hmid]; rfl
  obtain ⟨o, s₂, hsteps, -, hend, hq⟩ := Steps.callFree hM p X.admits X.cas X.clock (acts := []) hfr happ hPc trivial
  have hq' : vx_Q Qc XC mc ms free a (U.calling g mk a) o s₂ := hq
  rw [State.frames_setTop' g h.top] at hend
  obtain ⟨g₀, hg0⟩ := Option.isSome_iff_exists.mp h.top
  obtain ⟨r, hr⟩ := State.topJava?_eq_some.mp hg0
  have hr' : (({ U with heap := s₂.heap, slotsUsed := s₂.slotsUsed } : State).setVm s₂.vm).frames = .java g₀ :: r := hr
  rcases hq' with ⟨hqc, L, hfe, hL⟩ | ⟨q, rfl, E, ce, L, hx, hce, hcv, hcl, hW₂, hsm, hL⟩
  · obtain ⟨⟨v, rfl⟩, hW₂, e2, q2, q3, q4, q5, q6⟩ := id hfe
    have e3 : s₂ = ({ (U.calling g mk a).setFrames s₂.frames with heap := s₂.heap, slotsUsed := s₂.slotsUsed } : State).setVm s₂.vm := by
      have : s₂ = ({ s₂ with vm := (U.calling g mk a).vm } : State).setVm s₂.vm := rfl
      rw [e2] at this
      exact this
    obtain ⟨c₂, i₂, len₂, hc₂, hd₂, hf₂⟩ := hend
    have hW' : U.WarmedH s₂.vm := hW₂
    have hcc : c₂ = c := by
      have h1 : s₂.code? g.method = U.code? g.method := by
        rw [State.code?_eq, State.code?_eq, hW'.alike.method?]
      exact Option.some.inj (hc₂.symm.trans (h1.trans h.code))
    subst hcc
    have hlen : len₂ = len := by rw [hdg] at hd₂; cases hd₂; rfl
    subst hlen
    have hs₂ : s₂ = (({ U with heap := s₂.heap, slotsUsed := s₂.slotsUsed } : State).setVm s₂.vm).setTop { g with pc := g.pc + len₂, stack := v.toList ++ g.stack } := by
      refine e3.trans ?_
      rw [hf₂, State.calling_eq h.top, State.setFrames_setFrames, State.setTop_of_frames _ hr', hr]
      rfl
    have hsame : U.sameButNew ({ U with heap := s₂.heap, slotsUsed := s₂.slotsUsed } : State) L mc ms := by
      refine ⟨?_, q2, q3, q4, q5, q6⟩
      obtain ⟨t, ht, -⟩ := State.frames_cons hr
      show ({ U with heap := s₂.heap, slotsUsed := s₂.slotsUsed } : State) = { U.setFrames U.frames with heap := s₂.heap, slotsUsed := s₂.slotsUsed }
      rw [State.setFrames_self ht]
    subst hg
    refine Or.inl ⟨v, ⟨(({ U with heap := s₂.heap, slotsUsed := s₂.slotsUsed } : State).setVm s₂.vm), Ls ++ L, c0 + mc, s0 + ms⟩,
      ⟨X.admits, X.cas, X.clock, X.frames, X.room, X.hears, X.method, X.code, (X.here.setHeapUsed s₂.heap s₂.slotsUsed).setVm hW'.alike, X.tail, State.WarmedH.trans X.warmed hW', X.limits, X.bytes, X.same.trans (hsame.setVm s.vm)⟩,
      ⟨g, mk, s₂, L, rfl, rfl, hqc, rfl, hL, rfl, rfl⟩, ?_⟩
    show Steps p.tables e below _ ((({ U with heap := s₂.heap, slotsUsed := s₂.slotsUsed } : State).setVm s₂.vm).setTop { g with pc := g.pc + len₂, stack := v.toList ++ g.stack })
    rw [← hs₂]
    exact hsteps
  · obtain ⟨e2, q2, q3, q4, q5, q6⟩ := id hsm
    have e3 : s₂ = ({ (U.calling g mk a).setFrames s₂.frames with heap := s₂.heap, slotsUsed := s₂.slotsUsed } : State).setVm s₂.vm := by
      have : s₂ = ({ s₂ with vm := (U.calling g mk a).vm } : State).setVm s₂.vm := rfl
      rw [e2] at this
      exact this
    have hf₂ : s₂.frames = .throwing q :: .java g :: U.frames.tail := hend
    have hW' : U.WarmedH s₂.vm := hW₂
    have hs₂ : s₂ = ((({ U with heap := s₂.heap, slotsUsed := s₂.slotsUsed } : State).setVm s₂.vm).setTop g).pushFrame (.throwing q) := by
      refine e3.trans ?_
      rw [hf₂, State.calling_eq h.top, State.setFrames_setFrames, State.pushFrame, State.frames_setTop _ hr', State.setTop_of_frames _ hr', State.setFrames_setFrames, hr]
      rfl
    have hsame : U.sameButNew ({ U with heap := s₂.heap, slotsUsed := s₂.slotsUsed } : State) L mc ms := by
      refine ⟨?_, q2, q3, q4, q5, q6⟩
      obtain ⟨t, ht, -⟩ := State.frames_cons hr
      show ({ U with heap := s₂.heap, slotsUsed := s₂.slotsUsed } : State) = { U.setFrames U.frames with heap := s₂.heap, slotsUsed := s₂.slotsUsed }
      rw [State.setFrames_self ht]
    subst hg
    refine Or.inr ⟨q, ⟨(({ U with heap := s₂.heap, slotsUsed := s₂.slotsUsed } : State).setVm s₂.vm), Ls ++ L, c0 + mc, s0 + ms⟩,
      ⟨X.admits, X.cas, X.clock, X.frames, X.room, X.hears, X.method, X.code, (X.here.setHeapUsed s₂.heap s₂.slotsUsed).setVm hW'.alike, X.tail, State.WarmedH.trans X.warmed hW', X.limits, X.bytes, X.same.trans (hsame.setVm s.vm)⟩,
      ⟨g, mk, s₂, L, E, ce, rfl, rfl, hx, hce, hcv, hcl, rfl, hL, rfl, rfl⟩, ?_⟩
    show Steps p.tables e below _ (((({ U with heap := s₂.heap, slotsUsed := s₂.slotsUsed } : State).setVm s₂.vm).setTop g).pushFrame (.throwing q))
    rw [← hs₂]
    exact hsteps
end Payer
section Calls
variable {p : Program} {l : Launch} {e : Env} {R : Room} {s : State} {m : MethodId} {args : Array Value} {below : List Frame} {meth : Method} {c : Code} {T : State} {locs : List Loc} {cells slots : Nat}
theorem vx_callV (X : Stand p l e R s m args below meth c T locs cells slots) (hexec : p.tables.exec = Jvm.exec) {own C : String} {index : Nat} {y : MethodName} {bytes : ByteArray} {maxL : Nat} {ret : Option FieldType}
    (hown : s.vm.findClass own = some m.cls) (hlink : (Cond.methodLink own index y).before args s = true) (hinst : (Cond.instanceMethod y).before args s = true) (hsel : (Cond.selects C y y).before args s = true)
    (hcode : (Cond.code y bytes maxL ret).before args s = true) (hy : y.cls ≠ "java/lang/invoke/MethodHandle" ∧ y.cls ≠ "java/lang/invoke/VarHandle")
    {W9 : Nat} {Pre : Pt → Array Value → Prop} {Post : Pt → Array Value → Option Value → Pt → Prop} {PostX : Pt → Array Value → Addr → Pt → Prop} (hK : vx_Back l R p e below s args y 3 W9 Pre Post PostX)
    {b : Addr} {cellB : Cell} (hcell : T.heap[b]? = some cellB) (hobj : cellB.vm.isStatics = false) (hcls : s.vm.findClass C = some cellB.cls)
    {g : JFrame} (hg : g.method = m) (hsize : g.locals.size = c.maxLocals) {argsL rest : List Value} (hlen : ∀ sig, parseMethodDescriptor y.desc = some sig → argsL.length = sig.parameters.length)
    (hstack : g.stack = argsL.reverse ++ .ref b :: rest) (hW : 2 * g.monitorRoom + (rest.map fun v => v.category).sum ≤ W9) (hdg : decode c.code g.pc = .ok (.invokevirtual index, 3))
    (hpre : ∀ vm₁, s.WarmedH vm₁ → Pre ⟨T.setVm vm₁, locs, cells, slots⟩ (Value.ref b :: argsL).toArray) :
    (∃ (v : Option Value) (vm₁ : Vm) (B : Pt), s.WarmedH vm₁ ∧ Stand p l e R s m args below meth c B.U B.locs B.cells B.slots ∧ Post ⟨T.setVm vm₁, locs, cells, slots⟩ (Value.ref b :: argsL).toArray v B ∧
      ∀ target, Steps p.tables e below (B.U.setTop { g with pc := g.pc + 3, stack := v.toList ++ rest }) target → Steps p.tables e below (T.setTop g) target) ∨
    (∃ (q : Addr) (vm₁ : Vm) (B : Pt), s.WarmedH vm₁ ∧ Stand p l e R s m args below meth c B.U B.locs B.cells B.slots ∧ PostX ⟨T.setVm vm₁, locs, cells, slots⟩ (Value.ref b :: argsL).toArray q B ∧
      Steps p.tables e below (T.setTop g) ((B.U.setTop { g with stack := rest }).pushFrame (.throwing q))) := by
  obtain ⟨mk, methM, hnamed, hmethM, hstM, habM⟩ := Cond.instanceMethod_spec hinst
  obtain ⟨methM', cM, hmethM', -, -, -, -, -, -, hsigM⟩ := Cond.code_spec hnamed hcode
  cases hmethM.symm.trans hmethM'
  obtain ⟨c2, r2, m2, q1, q2, q3, q4, kP, hkP, hkPi⟩ := Cond.selects_spec hsel
  cases hcls.symm.trans q1
  cases (State.methodFound?_of_named hnamed hy).symm.trans q2
  cases hnamed.symm.trans q3
  have hselP : selectMethod e.platform s.vm cellB.cls mk = .method mk := by rw [Launch.admits_selectMethod X.admits]; exact q4
  obtain ⟨vm₁, X₁, hstep₁⟩ := X.invokevirtual hexec hown hlink hnamed hmethM hstM hkP hkPi hy (a := b) (cell := cellB) hcell
    (fun z h => by rw [h] at hobj; cases hobj) hselP hmethM habM hkP hkPi (g := g) hg (argsL := argsL) (rest := rest) (hlen _ hsigM) hstack hdg
  rcases hK m meth c ⟨T.setVm vm₁, locs, cells, slots⟩ { g with stack := rest } (.invokevirtual index) mk (Value.ref b :: argsL).toArray X₁ hg hsize hdg hW (X₁.named hnamed) (hpre vm₁ X₁.warmed) with ⟨v, B, X', hpost, hsteps⟩ | ⟨q, B, X', hpost, hsteps⟩
  · exact Or.inl ⟨v, vm₁, B, X₁.warmed, X', hpost, fun target h => hstep₁ _ fun acts => by rw [doInvoke_state]; exact hsteps.trans h⟩
  · exact Or.inr ⟨q, vm₁, B, X₁.warmed, X', hpost, hstep₁ _ fun acts => by rw [doInvoke_state]; exact hsteps⟩
theorem vx_callS (X : Stand p l e R s m args below meth c T locs cells slots) (hexec : p.tables.exec = Jvm.exec) {own : String} {index : Nat} {y : MethodName} {bytes : ByteArray} {maxL : Nat} {ret : Option FieldType}
    (hown : s.vm.findClass own = some m.cls) (hlink : (Cond.methodLink own index y).before args s = true) (hstat : (Cond.static y).before args s = true) (hinit : (Cond.initialized y.cls).before args s = true)
    (hcode : (Cond.code y bytes maxL ret).before args s = true) (hy : y.cls ≠ "java/lang/invoke/MethodHandle" ∧ y.cls ≠ "java/lang/invoke/VarHandle")
    {W9 : Nat} {Pre : Pt → Array Value → Prop} {Post : Pt → Array Value → Option Value → Pt → Prop} {PostX : Pt → Array Value → Addr → Pt → Prop} (hK : vx_Back l R p e below s args y 3 W9 Pre Post PostX)
    {g : JFrame} (hg : g.method = m) (hsize : g.locals.size = c.maxLocals) {argsL rest : List Value} (hlen : ∀ sig, parseMethodDescriptor y.desc = some sig → argsL.length = sig.parameters.length)
    (hstack : g.stack = argsL.reverse ++ rest) (hW : 2 * g.monitorRoom + (rest.map fun v => v.category).sum ≤ W9) (hdg : decode c.code g.pc = .ok (.invokestatic index, 3))
    (hpre : ∀ vm₁, s.WarmedH vm₁ → Pre ⟨T.setVm vm₁, locs, cells, slots⟩ argsL.toArray) :
    (∃ (v : Option Value) (vm₁ : Vm) (B : Pt), s.WarmedH vm₁ ∧ Stand p l e R s m args below meth c B.U B.locs B.cells B.slots ∧ Post ⟨T.setVm vm₁, locs, cells, slots⟩ argsL.toArray v B ∧
      ∀ target, Steps p.tables e below (B.U.setTop { g with pc := g.pc + 3, stack := v.toList ++ rest }) target → Steps p.tables e below (T.setTop g) target) ∨
    (∃ (q : Addr) (vm₁ : Vm) (B : Pt), s.WarmedH vm₁ ∧ Stand p l e R s m args below meth c B.U B.locs B.cells B.slots ∧ PostX ⟨T.setVm vm₁, locs, cells, slots⟩ argsL.toArray q B ∧
      Steps p.tables e below (T.setTop g) ((B.U.setTop { g with stack := rest }).pushFrame (.throwing q))) := by
  obtain ⟨mk, hnamed⟩ := Cond.code_named hcode
  obtain ⟨methM, cM, hmethM, -, -, -, -, -, -, hsigM⟩ := Cond.code_spec hnamed hcode
  have hstatic : methM.isStatic = true := Cond.static_spec hnamed hmethM hstat
  obtain ⟨kP, hkP, -⟩ := className_of_methodNamed hnamed
  have hinitP : kP.init = .initialized := Cond.initialized_spec (findClass_of_methodNamed hnamed) hkP hinit
  obtain ⟨vm₁, X₁, hstep₁⟩ := X.invokestatic hexec hown hlink hnamed hmethM hstatic hkP hinitP hy (g := g) hg (argsL := argsL) (rest := rest) (hlen _ hsigM) hstack hdg
  rcases hK m meth c ⟨T.setVm vm₁, locs, cells, slots⟩ { g with stack := rest } (.invokestatic index) mk argsL.toArray X₁ hg hsize hdg hW (X₁.named hnamed) (hpre vm₁ X₁.warmed) with ⟨v, B, X', hpost, hsteps⟩ | ⟨q, B, X', hpost, hsteps⟩
  · exact Or.inl ⟨v, vm₁, B, X₁.warmed, X', hpost, fun target h => hstep₁ _ fun acts => by rw [doInvoke_state]; exact hsteps.trans h⟩
  · exact Or.inr ⟨q, vm₁, B, X₁.warmed, X', hpost, hstep₁ _ fun acts => by rw [doInvoke_state]; exact hsteps⟩
end Calls
theorem vx_cls {s : State} {T : State} {vm₁ : Vm} {E : String} {k : ClassId} (hW : s.WarmedH vm₁) (h : (T.setVm vm₁).vm.findClass E = some k) : s.vm.findClass E = some k := by
  have h1 : vm₁.findClass E = some k := h
  rw [hW.alike.findClass] at h1
  exact h1
/-- the method's frame g, with q thrown over it -/
def vx_W (p : Program) (l : Launch) (e : Env) (R : Room) (s : State) (m : MethodId) (args : Array Value) (below : List Frame) (meth : Method) (c : Code) (H : Heap) (locs : List Loc) (cells slots : Nat) (Q : State → Prop) (g : JFrame) (q : Addr) : Prop :=
  ∀ T : State, T.heap = H → Stand p l e R s m args below meth c T locs cells slots → ∃ t, Steps p.tables e below ((T.setTop g).pushFrame (.throwing q)) t ∧ Q t
def vx_Run (p : Program) (l : Launch) (e : Env) (R : Room) (s : State) (m : MethodId) (args : Array Value) (below : List Frame) (meth : Method) (c : Code) (H : Heap) (locs : List Loc) (cells slots mc ms : Nat) (g : JFrame) (rest : List Value) (Qa : State → Outcome → State → Prop) (XC : String → State → State → Prop) (free : Addr → Prop) : Prop :=
  ∀ T : State, T.heap = H → Stand p l e R s m args below meth c T locs cells slots →
    (∃ (v : Option Value) (st₀ t T' : State) (L : List Loc), st₀.heap = H ∧ Stand p l e R s m args below meth c T' (locs ++ L) (cells + mc) (slots + ms) ∧ (∀ q ∈ L, free q.base) ∧ T'.heap = t.heap ∧ T'.vm = t.vm ∧ Qa st₀ (.returned v) t ∧
      Goes p e below T g T' { g with pc := g.pc + 3, stack := v.toList ++ rest }) ∨
    (∃ (q : Addr) (st₀ t T' : State) (L : List Loc) (E : String) (ce : Cell), st₀.heap = H ∧ Stand p l e R s m args below meth c T' (locs ++ L) (cells + mc) (slots + ms) ∧ (∀ z ∈ L, free z.base) ∧ T'.heap = t.heap ∧ T'.vm = t.vm ∧ XC E st₀ t ∧ t.heap[q]? = some ce ∧ ce.vm = .none ∧ s.vm.findClass E = some ce.cls ∧
      Steps p.tables e below (T.setTop g) ((T'.setTop { g with stack := rest }).pushFrame (.throwing q)))
def vx_X {S : Type} (px : S → Prop) (B : String → S → State → Prop) (A : Nat → Prop) : String → State → State → Prop := fun E st t => ∃ u : S, px u ∧ B E u t ∧ va_F A st t
section Runs
variable {p : Program} {l : Launch} {e : Env} {R : Room} {s : State} {m : MethodId} {args : Array Value} {below : List Frame} {meth : Method} {c : Code} {H : Heap} {locs : List Loc} {cells slots : Nat}
variable {y : MethodName} {bytes cc : ByteArray} {maxL nL mc ms n index : Nat} {ret : Option FieldType} {ws : List Cond} {rm : Room} {Pc : Array Value → State → Prop} {Qc : Array Value → State → Outcome → State → Prop} {XC : String → State → State → Prop} {free : Addr → Prop} {Ts : List Cond} {own C : String} {b : Addr} {As rest : List Value} {g : JFrame}
theorem vx_callBack (cb : CallB R s args own index y bytes maxL ret ws rm mc ms n) (hM : vx_Met l y ws rm Pc Qc XC mc ms free) (hbl : FrameBlind Pc) : vx_Back l R p e below s args y 3 8 (PreOf R mc ms Pc) (PostOf Qc mc ms free) (vx_Post XC mc ms free) := by
  obtain ⟨hrc, hrs, hfr, hlo, hws, hcw, -, hini, -⟩ := cb
  exact vx_back (bytes := bytes) (maxL := maxL) (ret := ret) hM hbl hrc hrs hfr hlo hws hcw (fun a' U hW => word_at hW (Or.inl (by first | rfl | simp [Cond.onTables, Cond.keeps, Cond.steady])) hini)
theorem vx_runV (S : CallFix p m c cc nL s args Ts own) (hM : vx_Met l y ws rm Pc Qc XC mc ms free) (cw : CallW R s args own C index y bytes maxL ret ws rm mc ms n) (hp : PreV s H C b Pc As)
    (hg : g.method = m) (hn : As.length = n) (hsize : g.locals.size = nL) (hstack : g.stack = As.reverse ++ .ref b :: rest) (hW : 2 * g.monitorRoom + (rest.map fun v => v.category).sum ≤ 8) (hdg : decode cc g.pc = .ok (.invokevirtual index, 3)) (hf : cells + mc ≤ R.cells ∧ slots + ms ≤ R.slots) :
    vx_Run p l e R s m args below meth c H locs cells slots mc ms g rest (Qc (Value.ref b :: As).toArray) XC free := by
  have hK : vx_Back l R p e below s args y 3 8 (PreOf R mc ms Pc) (PostOf Qc mc ms free) (vx_Post XC mc ms free) := vx_callBack cw.1 hM hp.1
  obtain ⟨⟨-, -, -, -, -, -, hcode, -, hy, hlen, hl⟩, hin, hse⟩ := cw
  obtain ⟨hx, hb, hml, ho, -⟩ := S
  obtain ⟨-, ⟨cellB, hcB, hoB, hclB⟩, hPc⟩ := hp
  intro T hT X
  rcases vx_callV X hx (C := C) (bytes := bytes) (maxL := maxL) (ret := ret) ho hl hin hse hcode hy hK (by rw [hT]; exact hcB) hoB hclB hg (hsize.trans hml.symm) (argsL := As) (rest := rest) (fun sig h => hn.trans (hlen sig h)) hstack hW (by rw [hb]; exact hdg)
    (fun vm₁ hW₁ => ⟨hf.1, hf.2, hPc (T.setVm vm₁) hT hW₁⟩) with ⟨v, vm₁, ⟨U', l2, c2, s2⟩, hW₁, X', ⟨g', mk, t, L, e1, e2, hq, h1, hL, h2, h3⟩, st⟩ | ⟨q, vm₁, ⟨U', l2, c2, s2⟩, hW₁, X', ⟨g', mk, t, L, E, ce, e1, e2, hq, hce, hcv, hcl, h1, hL, h2, h3⟩, st⟩
  · dsimp only [Pt.U, Pt.locs, Pt.cells, Pt.slots] at X' e1 e2 h1 h2 h3 st
    subst h1; subst h2; subst h3
    exact Or.inl ⟨v, (T.setVm vm₁).calling g' mk (Value.ref b :: As).toArray, t, U', L, hT, X', hL, e1, e2, hq, st⟩
  · dsimp only [Pt.U, Pt.locs, Pt.cells, Pt.slots] at X' e1 e2 h1 h2 h3 st hcl
    subst h1; subst h2; subst h3
    exact Or.inr ⟨q, (T.setVm vm₁).calling g' mk (Value.ref b :: As).toArray, t, U', L, E, ce, hT, X', hL, e1, e2, hq, hce, hcv, vx_cls hW₁ hcl, st⟩
theorem vx_runS (S : CallFix p m c cc nL s args Ts own) (hM : vx_Met l y ws rm Pc Qc XC mc ms free) (cw : CallB R s args own index y bytes maxL ret ws rm mc ms n ∧ (Cond.static y).before args s = true) (hp : PreS s H Pc As)
    (hg : g.method = m) (hn : As.length = n) (hsize : g.locals.size = nL) (hstack : g.stack = As.reverse ++ rest) (hW : 2 * g.monitorRoom + (rest.map fun v => v.category).sum ≤ 8) (hdg : decode cc g.pc = .ok (.invokestatic index, 3)) (hf : cells + mc ≤ R.cells ∧ slots + ms ≤ R.slots) :
    vx_Run p l e R s m args below meth c H locs cells slots mc ms g rest (Qc As.toArray) XC free := by
  have hK : vx_Back l R p e below s args y 3 8 (PreOf R mc ms Pc) (PostOf Qc mc ms free) (vx_Post XC mc ms free) := vx_callBack cw.1 hM hp.1
  obtain ⟨⟨-, -, -, -, -, -, hcode, hini, hy, hlen, hl⟩, hstt⟩ := cw
  obtain ⟨hx, hb, hml, ho, -⟩ := S
  intro T hT X
  rcases vx_callS X hx (bytes := bytes) (maxL := maxL) (ret := ret) ho hl hstt hini hcode hy hK hg (hsize.trans hml.symm) (argsL := As) (rest := rest) (fun sig h => hn.trans (hlen sig h)) hstack hW (by rw [hb]; exact hdg)
    (fun vm₁ hW₁ => ⟨hf.1, hf.2, hp.2 (T.setVm vm₁) hT hW₁⟩) with ⟨v, vm₁, ⟨U', l2, c2, s2⟩, hW₁, X', ⟨g', mk, t, L, e1, e2, hq, h1, hL, h2, h3⟩, st⟩ | ⟨q, vm₁, ⟨U', l2, c2, s2⟩, hW₁, X', ⟨g', mk, t, L, E, ce, e1, e2, hq, hce, hcv, hcl, h1, hL, h2, h3⟩, st⟩
  · dsimp only [Pt.U, Pt.locs, Pt.cells, Pt.slots] at X' e1 e2 h1 h2 h3 st
    subst h1; subst h2; subst h3
    exact Or.inl ⟨v, (T.setVm vm₁).calling g' mk As.toArray, t, U', L, hT, X', hL, e1, e2, hq, st⟩
  · dsimp only [Pt.U, Pt.locs, Pt.cells, Pt.slots] at X' e1 e2 h1 h2 h3 st hcl
    subst h1; subst h2; subst h3
    exact Or.inr ⟨q, (T.setVm vm₁).calling g' mk As.toArray, t, U', L, E, ce, hT, X', hL, e1, e2, hq, hce, hcv, vx_cls hW₁ hcl, st⟩
end Runs
section Rows
variable {p : Program} {l : Launch} {e : Env} {R : Room} {s : State} {m : MethodId} {args : Array Value} {below : List Frame} {meth : Method} {c : Code} {H : Heap} {locs : List Loc} {cells slots : Nat} {Q : State → Prop}
variable {mc ms : Nat} {free : Addr → Prop} {A0 A1 : Nat → Prop} {H0 : Heap} {a : Array Value} {pc : Nat} {ls : Array Slot} {st0 rest : List Value}
theorem vx_keep {st₀ t T' : State} {L : List Loc} (h0 : st₀.heap = H) (e1 : T'.heap = t.heap) (hS : va_S A0 H0 H locs) (hA : ∀ q, q < H.size → A1 q → A0 q) (hf : ∀ q, free q → A0 q) (hL : ∀ q ∈ L, free q.base) (hF : va_F A1 st₀ t) :
    H.size ≤ T'.heap.size ∧ (∀ q : Nat, q < H.size → ¬ A1 q → T'.heap[q]? = H[q]?) ∧ va_S A0 H0 T'.heap (locs ++ L) := by
  obtain ⟨hz, hk⟩ := hF
  rw [h0] at hz hk
  exact ⟨by rw [e1]; exact hz, fun q h1 h2 => by rw [e1]; exact hk q h1 h2,
    ⟨Nat.le_trans hS.1 (by rw [e1]; exact hz), fun q h1 h2 => by rw [e1, hk q (Nat.lt_of_lt_of_le h1 hS.1) (fun z => h2 (hA q (Nat.lt_of_lt_of_le h1 hS.1) z))]; exact hS.2.1 q h1 h2, fun q hq => by
      rcases List.mem_append.mp hq with h | h
      · exact hS.2.2 q h
      · exact hf _ (hL q h)⟩⟩
theorem vx_calli {S SX : Type} {post : Int32 → S → Prop} {px : SX → Prop} {B : S → State → Prop} {BX : String → SX → State → Prop} {AX : Nat → Prop} (hr : vx_Run p l e R s m args below meth c H locs cells slots mc ms (F0 m pc ls st0) rest (va_Qi post B A1 a) (vx_X px BX AX) free) (hS : va_S A0 H0 H locs) (hA : ∀ q, q < H.size → A1 q → A0 q) (hf : ∀ q, free q → A0 q) (hAX : ∀ q, q < H.size → AX q → A0 q)
    (kx : ∀ (E : String) (ce : Cell) (q9 : Addr) (u : SX) (t : State) (H1 : Heap) (locs1 : List Loc), t.heap = H1 → s.vm.Alike t.vm → px u → BX E u t → H.size ≤ H1.size → (∀ q : Nat, q < H.size → ¬ AX q → H1[q]? = H[q]?) → va_S A0 H0 H1 locs1 → H1[q9]? = some ce → ce.vm = .none → s.vm.findClass E = some ce.cls → vx_W p l e R s m args below meth c H1 locs1 (cells + mc) (slots + ms) Q (F0 m pc ls rest) q9)
    (kk : ∀ (r : Int32) (u : S) (t : State) (H1 : Heap) (locs1 : List Loc), t.heap = H1 → s.vm.Alike t.vm → post r u → B u t → H.size ≤ H1.size → (∀ q : Nat, q < H.size → ¬ A1 q → H1[q]? = H[q]?) → va_S A0 H0 H1 locs1 → W p l e R s m args below meth c H1 locs1 (cells + mc) (slots + ms) Q (F0 m (pc + 3) ls (.int r :: rest))) : W p l e R s m args below meth c H locs cells slots Q (F0 m pc ls st0) := by
  intro T hT X
  rcases hr T hT X with ⟨v, st₀, t, T', L, h0, X', hL, e1, e2, ⟨⟨r, u, hv, hp, hb⟩, hF⟩, st⟩ | ⟨q, st₀, t, T', L, E, ce, h0, X', hL, e1, e2, ⟨u, hp, hb, hF⟩, hce, hcv, hcl, st⟩
  · cases hv
    obtain ⟨k1, k2, k3⟩ := vx_keep h0 e1 hS hA hf hL hF
    obtain ⟨t2, a1, b1⟩ := kk r u t T'.heap (locs ++ L) e1.symm (by rw [← e2]; exact X'.warmed.alike) hp hb k1 k2 k3 T' rfl X'
    exact ⟨t2, st t2 a1, b1⟩
  · obtain ⟨k1, k2, k3⟩ := vx_keep h0 e1 hS hAX hf hL hF
    obtain ⟨t2, a1, b1⟩ := kx E ce q u t T'.heap (locs ++ L) e1.symm (by rw [← e2]; exact X'.warmed.alike) hp hb k1 k2 k3 (by rw [e1]; exact hce) hcv hcl T' rfl X'
    exact ⟨t2, st.trans a1, b1⟩
theorem vx_calll {S SX : Type} {post : Int64 → S → Prop} {px : SX → Prop} {B : S → State → Prop} {BX : String → SX → State → Prop} {AX : Nat → Prop} (hr : vx_Run p l e R s m args below meth c H locs cells slots mc ms (F0 m pc ls st0) rest (va_Ql post B A1 a) (vx_X px BX AX) free) (hS : va_S A0 H0 H locs) (hA : ∀ q, q < H.size → A1 q → A0 q) (hf : ∀ q, free q → A0 q) (hAX : ∀ q, q < H.size → AX q → A0 q)
    (kx : ∀ (E : String) (ce : Cell) (q9 : Addr) (u : SX) (t : State) (H1 : Heap) (locs1 : List Loc), t.heap = H1 → s.vm.Alike t.vm → px u → BX E u t → H.size ≤ H1.size → (∀ q : Nat, q < H.size → ¬ AX q → H1[q]? = H[q]?) → va_S A0 H0 H1 locs1 → H1[q9]? = some ce → ce.vm = .none → s.vm.findClass E = some ce.cls → vx_W p l e R s m args below meth c H1 locs1 (cells + mc) (slots + ms) Q (F0 m pc ls rest) q9)
    (kk : ∀ (r : Int64) (u : S) (t : State) (H1 : Heap) (locs1 : List Loc), t.heap = H1 → s.vm.Alike t.vm → post r u → B u t → H.size ≤ H1.size → (∀ q : Nat, q < H.size → ¬ A1 q → H1[q]? = H[q]?) → va_S A0 H0 H1 locs1 → W p l e R s m args below meth c H1 locs1 (cells + mc) (slots + ms) Q (F0 m (pc + 3) ls (.long r :: rest))) : W p l e R s m args below meth c H locs cells slots Q (F0 m pc ls st0) := by
  intro T hT X
  rcases hr T hT X with ⟨v, st₀, t, T', L, h0, X', hL, e1, e2, ⟨⟨r, u, hv, hp, hb⟩, hF⟩, st⟩ | ⟨q, st₀, t, T', L, E, ce, h0, X', hL, e1, e2, ⟨u, hp, hb, hF⟩, hce, hcv, hcl, st⟩
  · cases hv
    obtain ⟨k1, k2, k3⟩ := vx_keep h0 e1 hS hA hf hL hF
    obtain ⟨t2, a1, b1⟩ := kk r u t T'.heap (locs ++ L) e1.symm (by rw [← e2]; exact X'.warmed.alike) hp hb k1 k2 k3 T' rfl X'
    exact ⟨t2, st t2 a1, b1⟩
  · obtain ⟨k1, k2, k3⟩ := vx_keep h0 e1 hS hAX hf hL hF
    obtain ⟨t2, a1, b1⟩ := kx E ce q u t T'.heap (locs ++ L) e1.symm (by rw [← e2]; exact X'.warmed.alike) hp hb k1 k2 k3 (by rw [e1]; exact hce) hcv hcl T' rfl X'
    exact ⟨t2, st.trans a1, b1⟩
theorem vx_callf {S SX : Type} {post : UInt32 → S → Prop} {px : SX → Prop} {B : S → State → Prop} {BX : String → SX → State → Prop} {AX : Nat → Prop} (hr : vx_Run p l e R s m args below meth c H locs cells slots mc ms (F0 m pc ls st0) rest (va_Qf post B A1 a) (vx_X px BX AX) free) (hS : va_S A0 H0 H locs) (hA : ∀ q, q < H.size → A1 q → A0 q) (hf : ∀ q, free q → A0 q) (hAX : ∀ q, q < H.size → AX q → A0 q)
    (kx : ∀ (E : String) (ce : Cell) (q9 : Addr) (u : SX) (t : State) (H1 : Heap) (locs1 : List Loc), t.heap = H1 → s.vm.Alike t.vm → px u → BX E u t → H.size ≤ H1.size → (∀ q : Nat, q < H.size → ¬ AX q → H1[q]? = H[q]?) → va_S A0 H0 H1 locs1 → H1[q9]? = some ce → ce.vm = .none → s.vm.findClass E = some ce.cls → vx_W p l e R s m args below meth c H1 locs1 (cells + mc) (slots + ms) Q (F0 m pc ls rest) q9)
    (kk : ∀ (r : UInt32) (u : S) (t : State) (H1 : Heap) (locs1 : List Loc), t.heap = H1 → s.vm.Alike t.vm → post r u → B u t → H.size ≤ H1.size → (∀ q : Nat, q < H.size → ¬ A1 q → H1[q]? = H[q]?) → va_S A0 H0 H1 locs1 → W p l e R s m args below meth c H1 locs1 (cells + mc) (slots + ms) Q (F0 m (pc + 3) ls (.float r :: rest))) : W p l e R s m args below meth c H locs cells slots Q (F0 m pc ls st0) := by
  intro T hT X
  rcases hr T hT X with ⟨v, st₀, t, T', L, h0, X', hL, e1, e2, ⟨⟨r, u, hv, hp, hb⟩, hF⟩, st⟩ | ⟨q, st₀, t, T', L, E, ce, h0, X', hL, e1, e2, ⟨u, hp, hb, hF⟩, hce, hcv, hcl, st⟩
  · cases hv
    obtain ⟨k1, k2, k3⟩ := vx_keep h0 e1 hS hA hf hL hF
    obtain ⟨t2, a1, b1⟩ := kk r u t T'.heap (locs ++ L) e1.symm (by rw [← e2]; exact X'.warmed.alike) hp hb k1 k2 k3 T' rfl X'
    exact ⟨t2, st t2 a1, b1⟩
  · obtain ⟨k1, k2, k3⟩ := vx_keep h0 e1 hS hAX hf hL hF
    obtain ⟨t2, a1, b1⟩ := kx E ce q u t T'.heap (locs ++ L) e1.symm (by rw [← e2]; exact X'.warmed.alike) hp hb k1 k2 k3 (by rw [e1]; exact hce) hcv hcl T' rfl X'
    exact ⟨t2, st.trans a1, b1⟩
theorem vx_calld {S SX : Type} {post : UInt64 → S → Prop} {px : SX → Prop} {B : S → State → Prop} {BX : String → SX → State → Prop} {AX : Nat → Prop} (hr : vx_Run p l e R s m args below meth c H locs cells slots mc ms (F0 m pc ls st0) rest (va_Qd post B A1 a) (vx_X px BX AX) free) (hS : va_S A0 H0 H locs) (hA : ∀ q, q < H.size → A1 q → A0 q) (hf : ∀ q, free q → A0 q) (hAX : ∀ q, q < H.size → AX q → A0 q)
    (kx : ∀ (E : String) (ce : Cell) (q9 : Addr) (u : SX) (t : State) (H1 : Heap) (locs1 : List Loc), t.heap = H1 → s.vm.Alike t.vm → px u → BX E u t → H.size ≤ H1.size → (∀ q : Nat, q < H.size → ¬ AX q → H1[q]? = H[q]?) → va_S A0 H0 H1 locs1 → H1[q9]? = some ce → ce.vm = .none → s.vm.findClass E = some ce.cls → vx_W p l e R s m args below meth c H1 locs1 (cells + mc) (slots + ms) Q (F0 m pc ls rest) q9)
    (kk : ∀ (r : UInt64) (u : S) (t : State) (H1 : Heap) (locs1 : List Loc), t.heap = H1 → s.vm.Alike t.vm → post r u → B u t → H.size ≤ H1.size → (∀ q : Nat, q < H.size → ¬ A1 q → H1[q]? = H[q]?) → va_S A0 H0 H1 locs1 → W p l e R s m args below meth c H1 locs1 (cells + mc) (slots + ms) Q (F0 m (pc + 3) ls (.double r :: rest))) : W p l e R s m args below meth c H locs cells slots Q (F0 m pc ls st0) := by
  intro T hT X
  rcases hr T hT X with ⟨v, st₀, t, T', L, h0, X', hL, e1, e2, ⟨⟨r, u, hv, hp, hb⟩, hF⟩, st⟩ | ⟨q, st₀, t, T', L, E, ce, h0, X', hL, e1, e2, ⟨u, hp, hb, hF⟩, hce, hcv, hcl, st⟩
  · cases hv
    obtain ⟨k1, k2, k3⟩ := vx_keep h0 e1 hS hA hf hL hF
    obtain ⟨t2, a1, b1⟩ := kk r u t T'.heap (locs ++ L) e1.symm (by rw [← e2]; exact X'.warmed.alike) hp hb k1 k2 k3 T' rfl X'
    exact ⟨t2, st t2 a1, b1⟩
  · obtain ⟨k1, k2, k3⟩ := vx_keep h0 e1 hS hAX hf hL hF
    obtain ⟨t2, a1, b1⟩ := kx E ce q u t T'.heap (locs ++ L) e1.symm (by rw [← e2]; exact X'.warmed.alike) hp hb k1 k2 k3 (by rw [e1]; exact hce) hcv hcl T' rfl X'
    exact ⟨t2, st.trans a1, b1⟩
theorem vx_callv {S SX : Type} {post : S → Prop} {px : SX → Prop} {B : S → State → Prop} {BX : String → SX → State → Prop} {AX : Nat → Prop} (hr : vx_Run p l e R s m args below meth c H locs cells slots mc ms (F0 m pc ls st0) rest (va_Qv post B A1 a) (vx_X px BX AX) free) (hS : va_S A0 H0 H locs) (hA : ∀ q, q < H.size → A1 q → A0 q) (hf : ∀ q, free q → A0 q) (hAX : ∀ q, q < H.size → AX q → A0 q)
    (kx : ∀ (E : String) (ce : Cell) (q9 : Addr) (u : SX) (t : State) (H1 : Heap) (locs1 : List Loc), t.heap = H1 → s.vm.Alike t.vm → px u → BX E u t → H.size ≤ H1.size → (∀ q : Nat, q < H.size → ¬ AX q → H1[q]? = H[q]?) → va_S A0 H0 H1 locs1 → H1[q9]? = some ce → ce.vm = .none → s.vm.findClass E = some ce.cls → vx_W p l e R s m args below meth c H1 locs1 (cells + mc) (slots + ms) Q (F0 m pc ls rest) q9)
    (kk : ∀ (u : S) (t : State) (H1 : Heap) (locs1 : List Loc), t.heap = H1 → s.vm.Alike t.vm → post u → B u t → H.size ≤ H1.size → (∀ q : Nat, q < H.size → ¬ A1 q → H1[q]? = H[q]?) → va_S A0 H0 H1 locs1 → W p l e R s m args below meth c H1 locs1 (cells + mc) (slots + ms) Q (F0 m (pc + 3) ls (rest))) : W p l e R s m args below meth c H locs cells slots Q (F0 m pc ls st0) := by
  intro T hT X
  rcases hr T hT X with ⟨v, st₀, t, T', L, h0, X', hL, e1, e2, ⟨⟨u, hv, hp, hb⟩, hF⟩, st⟩ | ⟨q, st₀, t, T', L, E, ce, h0, X', hL, e1, e2, ⟨u, hp, hb, hF⟩, hce, hcv, hcl, st⟩
  · cases hv
    obtain ⟨k1, k2, k3⟩ := vx_keep h0 e1 hS hA hf hL hF
    obtain ⟨t2, a1, b1⟩ := kk u t T'.heap (locs ++ L) e1.symm (by rw [← e2]; exact X'.warmed.alike) hp hb k1 k2 k3 T' rfl X'
    exact ⟨t2, st t2 a1, b1⟩
  · obtain ⟨k1, k2, k3⟩ := vx_keep h0 e1 hS hAX hf hL hF
    obtain ⟨t2, a1, b1⟩ := kx E ce q u t T'.heap (locs ++ L) e1.symm (by rw [← e2]; exact X'.warmed.alike) hp hb k1 k2 k3 (by rw [e1]; exact hce) hcv hcl T' rfl X'
    exact ⟨t2, st.trans a1, b1⟩
/-- caught by the row x of this method's table; the rows ahead don't take it -/
theorem vx_catch {own name : String} {E : String} {ce : Cell} {q : Addr} (hown : s.vm.findClass own = some m.cls) (pre : List ExceptionTableEntry) (x : ExceptionTableEntry) (suf : List ExceptionTableEntry) (hsplit : c.exceptionTable.toList = pre ++ x :: suf)
    (hpass : ∀ z ∈ pre, covers z pc = false ∨ (z.catchType ≠ 0 ∧ ∃ nm : String, (Cond.classLink own z.catchType nm).before args s = true ∧ va_Nc E nm s)) (hx : covers x pc = true) (h0 : x.catchType ≠ 0)
    (hlink : (Cond.classLink own x.catchType name).before args s = true) (hcast : (Cond.castable E name).before args s = true) (hcell : H[q]? = some ce) (hv : ce.vm = .none) (hcl : s.vm.findClass E = some ce.cls)
    (kk : W p l e R s m args below meth c H locs cells slots Q (F0 m x.handlerPc ls [.ref q])) : vx_W p l e R s m args below meth c H locs cells slots Q (F0 m pc ls rest) q := by
  intro T hT X
  have hpl : e.platform.magicAccessors = ({} : Platform).magicAccessors := by rw [X.admits.platform]
  obtain ⟨c3, c4, hc3, hc4, hasg⟩ := Cond.castable_spec hcast
  cases Option.some.inj (hc3.symm.trans hcl)
  obtain ⟨c5, hc5, hcl5⟩ := Cond.classLink_spec hown hlink e.platform hpl
  cases Option.some.inj (hc4.symm.trans hc5)
  obtain ⟨vm', X', st⟩ := X.thenCaughtThrough q (g := F0 m pc ls rest) rfl (Steps.refl _) (by rw [hT]; exact hcell) (by rw [hv]; rfl) (by obtain ⟨k9, h9, -⟩ := Vm.findClass_spec hcl; exact ⟨k9, h9⟩) pre x suf hsplit
    (fun z hz => by
      rcases hpass z hz with h | ⟨hz0, nm, hl1, hn1⟩
      · exact Or.inl h
      · obtain ⟨c6, hc6, hcl6⟩ := Cond.classLink_spec hown hl1 e.platform hpl
        obtain ⟨a8, b8, h1, h2, h3⟩ := hn1
        cases Option.some.inj (h1.symm.trans hcl)
        cases Option.some.inj (h2.symm.trans hc6)
        exact Or.inr ⟨hz0, _, hcl6, h3⟩) hx (Or.inr ⟨h0, c4, hcl5, hasg⟩)
  obtain ⟨t, a1, b1⟩ := kk (T.setVm vm') hT X'
  exact ⟨t, st.trans a1, b1⟩
end Rows
section Ends
variable {p : Program} {l : Launch} {e : Env} {R : Room} {s : State} {m : MethodId} {args : Array Value} {below : List Frame} {meth : Method} {c : Code} {H : Heap} {locs : List Loc} {cells slots : Nat} {Q : State → Prop}
variable {mc ms : Nat} {free : Addr → Prop} {A0 A1 : Nat → Prop} {H0 : Heap} {a : Array Value} {ls : Array Slot} {st0 rest : List Value}
variable {Qc : Array Value → State → Outcome → State → Prop} {XC : String → State → State → Prop}
/-- what a body that may throw owes at its end -/
def vx_MQ (below : List Frame) (Qc : Array Value → State → Outcome → State → Prop) (XC : String → State → State → Prop) (a : Array Value) (s : State) (mc ms : Nat) (free : Addr → Prop) : State → Prop := fun t =>
  ∃ o, t.status = .running ∧ Ended t below o ∧ vx_Q Qc XC mc ms free a s o t
theorem vx_ret {g : JFrame} {mc ms : Nat} (k : W p l e R s m args below meth c H locs cells slots (MQ below Qc args s mc ms free) g) : W p l e R s m args below meth c H locs cells slots (vx_MQ below Qc XC args s mc ms free) g := by
  intro T hT X
  obtain ⟨t, a1, o, b1, b2, b3, b4⟩ := k T hT X
  exact ⟨t, a1, o, b1, b2, Or.inl ⟨b3, b4⟩⟩
/-- not caught here: it goes on to the caller -/
theorem vx_widen {g : JFrame} {q : Addr} {k n : Nat} (h1 : cells ≤ k) (h2 : slots ≤ n) (kk : vx_W p l e R s m args below meth c H locs k n Q g q) : vx_W p l e R s m args below meth c H locs cells slots Q g q := fun T hT X => kk T hT (stand_widen X h1 h2)
theorem vx_out {pc : Nat} {E : String} {ce : Cell} {q : Addr} {mc ms : Nat} (hout : ∀ x ∈ c.exceptionTable.toList, covers x pc = false) (hlocks : meth.locks = false) (hcell : H[q]? = some ce) (hv : ce.vm = .none) (hcl : s.vm.findClass E = some ce.cls)
    (hx : ∀ t : State, t.heap = H → s.vm.Alike t.vm → XC E s t) (hf : ∀ z ∈ locs, free z.base) (hc : cells ≤ mc) (hs : slots ≤ ms) :
    vx_W p l e R s m args below meth c H locs cells slots (vx_MQ below Qc XC args s mc ms free) (F0 m pc ls rest) q := by
  intro T hT X
  obtain ⟨st1, hrun, hend, hW, hsm⟩ := X.leaveThrown q (g := F0 m pc ls rest) rfl rfl rfl hout hlocks
  have hcell9 : (T.setFrames (.throwing q :: below)).heap[q]? = some ce := by
    show T.heap[q]? = some ce
    rw [hT]; exact hcell
  exact ⟨_, st1, .threw q, hrun, hend, Or.inr ⟨q, rfl, E, ce, locs, hx _ hT hW.alike, hcell9, hv, hcl, hW, hsm.mono hc hs, hf⟩⟩
theorem vx_frame {U : State} {k n : Nat} (h : s.sameButNew ({ U with vm := s.vm } : State) locs k n) : s.heap.size ≤ U.heap.size ∧ ∀ q : Nat, q < s.heap.size → (∀ z ∈ locs, z.base ≠ q) → U.heap[q]? = s.heap[q]? := by
  obtain ⟨-, h2, -, -, -, h6⟩ := h
  refine ⟨h2, fun q hq hz => ?_⟩
  obtain ⟨c9, e1, e2, e3, e4⟩ := h6 q _ (Array.getElem?_eq_getElem hq)
  have hs : c9.slots = (s.heap[q]).slots := Array.ext_getElem? fun i => e4 i fun hm => hz _ hm rfl
  have h9 : c9 = s.heap[q] := by
    rw [hs] at e2
    exact e2
  have e5 : U.heap[q]? = some c9 := e1
  rw [e5, h9, Array.getElem?_eq_getElem hq]
/-- the words of a throw but the four that speak of the heap -/
def vx_no (w : Cond) : Bool := decide (w ≠ .isRef (.static Bundle.tN "UNASSIGNED_STACK" Bundle.steD)) && decide (w ≠ .isRef (.static Bundle.tN "SUPPRESSED_SENTINEL" Bundle.listD)) && decide (w ≠ .laysStatic Bundle.tN "UNASSIGNED_STACK" Bundle.steD) && decide (w ≠ .laysStatic Bundle.tN "SUPPRESSED_SENTINEL" Bundle.listD)
def vx_at0 (own : String) (ic : Nat) (X : String) (names : List String) : List Cond := (Bundle.ownAtoms0 own ic X names).filter vx_no
def vx_atS (own : String) (ic : Nat) (X : String) (names : List String) : List Cond := (Bundle.ownAtoms own ic X names).filter vx_no
/-- a word that the tables alone decide, or a good one -/
def vx_ot (w : Cond) : Bool := w.onTables || goodWord w
theorem vx_ot_at {args a' : Array Value} {s U : State} {w : Cond} (hW : s.WarmedH U.vm) (hvm : s.vm = U.vm) (hg : vx_ot w = true) (h : w.before args s = true) : w.before a' U = true := by
  simp only [vx_ot, Bool.or_eq_true] at hg
  rcases hg with hg | hg
  · exact va_tabs hg hvm h
  · exact word_at hW (good_of_word hg) h
/-- a list's words: the good ones out of the method's own list, the others by premises of their own -/
theorem vx_hat {args : Array Value} {s : State} {L B : List Cond} (h1 : ∀ w ∈ L.filter goodWord, w.before args s = true) (h2 : ∀ w ∈ L.filter (fun w => !goodWord w), w ∈ B) (h3 : ∀ w ∈ B, w.before args s = true) : ∀ w ∈ L, w.before args s = true := by
  intro w hw
  by_cases g : goodWord w = true
  · exact h1 w (List.mem_filter.mpr ⟨hw, g⟩)
  · refine h3 w (h2 w (List.mem_filter.mpr ⟨hw, ?_⟩))
    show (!goodWord w) = true
    cases hgw : goodWord w
    · rfl
    · exact absurd hgw g
theorem vx_c {args : Array Value} {s : State} {w : Cond} {B : List Cond} (h : w.before args s = true) (t : ∀ w ∈ B, w.before args s = true) : ∀ w' ∈ w :: B, w'.before args s = true := fun w' h' => (List.mem_cons.mp h').elim (fun e => by rw [e]; exact h) (t w')
theorem vx_n {args : Array Value} {s : State} : ∀ w ∈ ([] : List Cond), w.before args s = true := fun _ h => nomatch h
theorem vx_own {args : Array Value} {s : State} {L : List Cond} (h1 : ∀ w ∈ L.filter vx_no, w.before args s = true)
    (hU : (Cond.isRef (.static Bundle.tN "UNASSIGNED_STACK" Bundle.steD)).before args s = true) (hN : (Cond.isRef (.static Bundle.tN "SUPPRESSED_SENTINEL" Bundle.listD)).before args s = true)
    (lU : (Cond.laysStatic Bundle.tN "UNASSIGNED_STACK" Bundle.steD).before args s = true) (lN : (Cond.laysStatic Bundle.tN "SUPPRESSED_SENTINEL" Bundle.listD).before args s = true) : ∀ w ∈ L, w.before args s = true := by
  intro w hw
  by_cases e1 : w = .isRef (.static Bundle.tN "UNASSIGNED_STACK" Bundle.steD)
  · rw [e1]; exact hU
  · by_cases e2 : w = .isRef (.static Bundle.tN "SUPPRESSED_SENTINEL" Bundle.listD)
    · rw [e2]; exact hN
    · by_cases e3 : w = .laysStatic Bundle.tN "UNASSIGNED_STACK" Bundle.steD
      · rw [e3]; exact lU
      · by_cases e4 : w = .laysStatic Bundle.tN "SUPPRESSED_SENTINEL" Bundle.listD
        · rw [e4]; exact lN
        · exact h1 w (List.mem_filter.mpr ⟨hw, by unfold vx_no; rw [decide_eq_true e1, decide_eq_true e2, decide_eq_true e3, decide_eq_true e4]; rfl⟩)
/-- where a static field lies, its class's statics cell in H -/
def vx_L (C n d : String) (A : Nat → Prop) (U : State) (H : Heap) : Prop := ∃ (c : ClassId) (k : Class) (i : Nat) (f : Field) (a : Nat) (cell : Cell), U.vm.findClass C = some c ∧ U.fieldFound? C n d = some (c, k, i, f) ∧ f.isStatic = true ∧ k.statics = some a ∧ H[a]? = some cell ∧ cell.vm.isStatics = true ∧ cell.cls = c ∧ f.slot < cell.slots.size ∧ k.staticTypes[f.slot]? = some f.type ∧ ¬ A a
theorem vx_L.moved {C n d : String} {A : Nat → Prop} {u U : State} {H : Heap} (hvm : u.vm.Alike U.vm) (h : vx_L C n d A u H) : vx_L C n d A U H := by
  obtain ⟨c, k, i, f, a, cell, h1, h2, h3, h4, h5, h6, h7, h8, h9, h10⟩ := h
  obtain ⟨k', hi', he⟩ := State.fieldFound?_setVm hvm h2
  exact ⟨c, k', i, f, a, cell, by rw [hvm.findClass]; exact h1, hi', h3, by rw [he]; exact h4, h5, h6, h7, h8, by rw [he]; exact h9, h10⟩
theorem vx_L.kept {C n d : String} {A : Nat → Prop} {U : State} {H H1 : Heap} (h : vx_L C n d A U H) (hq : ∀ a : Nat, a < H.size → ¬ A a → H1[a]? = H[a]?) : vx_L C n d A U H1 := by
  obtain ⟨c, k, i, f, a, cell, h1, h2, h3, h4, h5, h6, h7, h8, h9, h10⟩ := h
  exact ⟨c, k, i, f, a, cell, h1, h2, h3, h4, by rw [hq a (Array.getElem?_eq_some_iff.mp h5).1 h10]; exact h5, h6, h7, h8, h9, h10⟩
theorem vx_L.narrow {C n d : String} {A B : Nat → Prop} {U : State} {H : Heap} (h : vx_L C n d A U H) (hAB : ∀ q, B q → A q) : vx_L C n d B U H := by
  obtain ⟨c, k, i, f, a, cell, h1, h2, h3, h4, h5, h6, h7, h8, h9, h10⟩ := h
  exact ⟨c, k, i, f, a, cell, h1, h2, h3, h4, h5, h6, h7, h8, h9, fun z => h10 (hAB _ z)⟩
theorem vx_L.word {C n d : String} {A : Nat → Prop} {s : State} {args : Array Value} (h : vx_L C n d A s s.heap) : (Cond.laysStatic C n d).before args s = true := by
  obtain ⟨c, k, i, f, a, cell, h1, h2, h3, h4, h5, h6, h7, h8, h9, -⟩ := h
  show (Cond.laysStatic C n d).holds args s none s [] = true
  exact Cond.laysStatic_of h1 h2 h3 h4 h5 h6 h7 h8 h9
/-- .. and what it holds: null or some reference -/
def vx_Zq (C n d : String) (A : Nat → Prop) (U : State) (H : Heap) : Prop := va_Zq C n d A U H ∧ vx_L C n d A U H
theorem vx_Zq.moved {C n d : String} {A : Nat → Prop} {u U : State} {H : Heap} (hvm : u.vm.Alike U.vm) (h : vx_Zq C n d A u H) : vx_Zq C n d A U H := ⟨va_Zq.moved hvm h.1, vx_L.moved hvm h.2⟩
theorem vx_Zq.kept {C n d : String} {A : Nat → Prop} {U : State} {H H1 : Heap} (h : vx_Zq C n d A U H) (hq : ∀ a : Nat, a < H.size → ¬ A a → H1[a]? = H[a]?) : vx_Zq C n d A U H1 := ⟨va_Zq.kept h.1 hq, vx_L.kept h.2 hq⟩
theorem vx_Zq.narrow {C n d : String} {A B : Nat → Prop} {U : State} {H : Heap} (h : vx_Zq C n d A U H) (hAB : ∀ q, B q → A q) : vx_Zq C n d B U H := ⟨va_Zq.narrow h.1 hAB, vx_L.narrow h.2 hAB⟩
theorem vx_Zqof {args : Array Value} {s : State} {C n d : String} {A : Nat → Prop} (hl : (Cond.laysStatic C n d).before args s = true) (hini : (Cond.initialized C).before args s = true) (h : (Cond.isRef (.static C n d)).before args s = true) (hA : ∀ a : Nat, a < s.heap.size → ¬ A a) : vx_Zq C n d A s s.heap := by
  refine ⟨va_Zqof hl hini h hA, ?_⟩
  obtain ⟨c, k, i, f, a, cell, h1, h2, h3, h4, h5, h6, h7, h8, h9⟩ := Cond.laysStatic_spec hl
  exact ⟨c, k, i, f, a, cell, h1, h2, h3, h4, h5, h6, h7, h8, h9, hA a (Array.getElem?_eq_some_iff.mp h5).1⟩
theorem vx_isRef {C n d : String} {v : Value} {A : Nat → Prop} {s : State} {args : Array Value} (h : va_Z C n d v A s s.heap) (hv : v.isRef = true) : (Cond.isRef (.static C n d)).before args s = true := by
  obtain ⟨cf, kf, fi, f, a, cell, h1, h2, h3, h4, h5, h6, h7, -⟩ := h
  have he : (Term.static C n d).eval args s none [] s = some v := by
    simp [Term.eval, State.fieldNamed?, h1, h2, h4, h5, h6, h7]
  simp only [Cond.before, Cond.holds, Cond.value, he]
  cases v <;> simp_all [Value.isRef]
theorem vx_isRefq {C n d : String} {A : Nat → Prop} {s : State} {args : Array Value} (h : va_Zq C n d A s s.heap) : (Cond.isRef (.static C n d)).before args s = true := by
  rcases h with h | ⟨t, h⟩
  · exact vx_isRef h rfl
  · exact vx_isRef h rfl
/-- the same frame, seen from here: as if the method were called anew in this heap -/
theorem vx_rebase {T : State} (X : Stand p l e R s m args below meth c T locs cells slots) {R' : Room} (hf : R'.frames ≤ R.frames) (hl : R'.locals ≤ R.locals) (hc : cells + R'.cells ≤ R.cells) (hs : slots + R'.slots ≤ R.slots) :
    Stand p l e R' ((T.setVm s.vm).setFrames (.invoking m args :: below)) m args below meth c T [] 0 0 := by
  have htop : (T.setVm s.vm).topJava?.isSome := X.here.top
  have hF : ((T.setVm s.vm).setFrames (.invoking m args :: below)).frames = .invoking m args :: below := State.frames_setFrames _ (State.cur_lt_of_top htop)
  obtain ⟨g₀, hg0⟩ := Option.isSome_iff_exists.mp htop
  obtain ⟨r, hr⟩ := State.topJava?_eq_some.mp hg0
  have hl9 : e.platform.stackLimits (T.setVm s.vm).me = e.platform.stackLimits s.me := X.limits
  have hb9 : (T.setVm s.vm).me.stackBytes = s.me.stackBytes := X.bytes
  refine ⟨X.admits, X.cas, X.clock, hF, ?_, X.hears, X.method, X.code, X.here, X.tail, X.warmed, ?_, ?_, ?_⟩
  · have h := X.room
    have hU : ((T.setVm s.vm).setFrames (.invoking m args :: below)).localsInUse = s.localsInUse := by
      rw [State.localsInUse_invoking hF (meth := meth) (c := c) X.method X.code, State.localsInUse_invoking X.frames X.method X.code]
    simp only [State.hasRoom, Bool.and_eq_true, decide_eq_true_eq] at h ⊢
    obtain ⟨⟨⟨⟨h1, h2, h3, h4, h5, h6⟩, h7⟩, h8⟩, h9⟩ := h
    rw [X.frames, List.length_cons] at h2 h3
    have q1 := X.heapSize
    have q2 := X.used
    simp only [hF, hU, List.length_cons, State.stackLimits_setFrames, State.stackBytes_setFrames, hl9, hb9]
    refine ⟨⟨⟨⟨by omega, by omega, by omega, by omega, by omega, h6⟩, ?_⟩, ?_⟩, X.book⟩
    · show T.heap.size + R'.cells ≤ e.platform.maxCells
      omega
    · show T.slotsUsed + R'.slots ≤ e.platform.maxSlots
      omega
  · rw [State.stackLimits_setFrames]; rfl
  · rw [State.stackBytes_setFrames]; rfl
  · refine ⟨?_, Nat.le_refl _, Nat.le_refl _, ?_, ?_, fun a c9 h9 => ⟨c9, h9, rfl, rfl, fun _ _ => rfl⟩⟩
    · obtain ⟨t, ht, -⟩ := State.frames_cons hr
      show T.setVm s.vm = { ((T.setVm s.vm).setFrames (.invoking m args :: below)).setFrames (T.setVm s.vm).frames with heap := T.heap, slotsUsed := T.slotsUsed }
      rw [State.setFrames_setFrames, State.setFrames_self ht]
      rfl
    · show T.slotsUsed = T.slotsUsed + ((T.heap.toList.drop T.heap.size).map (·.slots.size)).sum
      rw [List.drop_eq_nil_of_le (Nat.le_of_eq Array.length_toList)]
      rfl
    · show ((T.heap.toList.drop T.heap.size).map (·.slots.size)).sum ≤ 0
      rw [List.drop_eq_nil_of_le (Nat.le_of_eq Array.length_toList)]
      exact Nat.le_refl _
/-- 'throw new E()': new; dup; invokespecial; athrow -/
theorem vx_throw0 {cc : ByteArray} {pc : Nat} (hexec : p.tables.exec = Jvm.exec) (hb : c.code = cc) (hl : l.stackTraces = false) {own cls : String} {names : List String} {ik ic mc ms : Nat} {A : Nat → Prop}
    (hown : s.vm.findClass own = some m.cls) (hcls : Bundle.fit cls = true) (hnames : ∀ n ∈ names, Bundle.fit n = true)
    (hk : (Cond.classLink own ik cls).before args s = true) (hini : (Cond.initialized cls).before args s = true) (hat : ∀ w ∈ vx_at0 own ic cls names, w.before args s = true)
    (hgood : ∀ w ∈ Cond.classLink own ik cls :: Cond.initialized cls :: vx_at0 own ic cls names, vx_ot w = true)
    (hU : vx_Zq Bundle.tN "UNASSIGNED_STACK" Bundle.steD A s s.heap) (hN : vx_Zq Bundle.tN "SUPPRESSED_SENTINEL" Bundle.listD A s s.heap) (hS : va_S A s.heap H locs) (hsize : ls.size = c.maxLocals)
    (d0 : decode cc pc = .ok (.new ik, 3)) (d3 : decode cc (pc + 3) = .ok (.dup, 1)) (d4 : decode cc (pc + 4) = .ok (.invokespecial ic, 3)) (d7 : decode cc (pc + 7) = .ok (.athrow, 1))
    (hout : ∀ x ∈ c.exceptionTable.toList, covers x (pc + 7) = false)
    (hRframes : names.length + 3 < R.frames) (hRlocals : (rest.map fun v => v.category).sum + (13 * (names.length + 1) + 42) ≤ R.locals) (hRcells : cells + 1 ≤ R.cells) (hRslots : slots + 6 ≤ R.slots) (hlocks : meth.locks = false)
    (hx : ∀ t : State, s.vm.Alike t.vm → H.size ≤ t.heap.size → (∀ q : Nat, q < H.size → t.heap[q]? = H[q]?) → XC cls s t)
    (hf : ∀ z ∈ locs, free z.base) (hc : cells + 1 ≤ mc) (hs : slots + 6 ≤ ms) :
    W p l e R s m args below meth c H locs cells slots (vx_MQ below Qc XC args s mc ms free) (F0 m pc ls rest) := by
  intro T hT X
  have htr : e.platform.stackTraces = false := (show e.platform.stackTraces = l.stackTraces by rw [X.admits.platform]).trans hl
  have Y := vx_rebase X (R' := { frames := R.frames, locals := R.locals, cells := 1, slots := 6 }) (Nat.le_refl _) (Nat.le_refl _) hRcells hRslots
  obtain ⟨s', hA⟩ : ∃ z, z = (T.setVm s.vm).setFrames (.invoking m args :: below) := ⟨_, rfl⟩
  rw [← hA] at Y
  have hvm : s'.vm = s.vm := by rw [hA]; rfl
  have hhp : s'.heap = H := by rw [hA]; exact hT
  have hW0 : s.WarmedH s'.vm := by rw [hvm]; exact State.WarmedH.refl s
  have hat' : ∀ w ∈ vx_at0 own ic cls names, w.before args s' = true := fun w hw => vx_ot_at hW0 hvm.symm (hgood w (List.mem_cons_of_mem _ (List.mem_cons_of_mem _ hw))) (hat w hw)
  have hk' : (Cond.classLink own ik cls).before args s' = true := vx_ot_at hW0 hvm.symm (hgood _ List.mem_cons_self) hk
  have hini' : (Cond.initialized cls).before args s' = true := vx_ot_at hW0 hvm.symm (hgood _ (List.mem_cons_of_mem _ List.mem_cons_self)) hini
  have hU' : vx_Zq Bundle.tN "UNASSIGNED_STACK" Bundle.steD A s' s'.heap := by rw [hhp]; exact vx_Zq.moved hW0.alike (hU.kept hS.2.1)
  have hN' : vx_Zq Bundle.tN "SUPPRESSED_SENTINEL" Bundle.listD A s' s'.heap := by rw [hhp]; exact vx_Zq.moved hW0.alike (hN.kept hS.2.1)
  have h : ∀ w ∈ Bundle.ownAtoms0 own ic cls names, w.before args s' = true := vx_own hat' (vx_isRefq hU'.1) (vx_isRefq hN'.1) hU'.2.word hN'.2.word
  have hown' : s'.vm.findClass own = some m.cls := by rw [hvm]; exact hown
  have hins : (Cond.instantiable cls 6).before args s' = true := h _ (by simp [Bundle.ownAtoms0])
  obtain ⟨vm₁, cX, kX, hfX, hkX, -, -, X₁, st1⟩ := Y.newCold hexec (own := own) (C := cls) (index := ik) (n := 6) hown' hk' hins hini'
    (g := F0 m pc ls rest) rfl (by rw [hb]; exact d0) (Nat.le_refl _) (Nat.le_refl _)
  generalize hT1 : (T.setVm vm₁).pushCell { cls := cX, slots := kX.instanceTypes.map defaultValue, vm := .none } = T1 at X₁ st1
  have hcat : (Value.ref T.heap.size).category = 1 := rfl
  have hcellA : T1.heap[T.heap.size]? = some (freshCell cX kX) := by rw [← hT1]; exact State.heap_pushCell_size _ _
  have d3' : decode c.code (pc + 3) = .ok (.dup, 1) := by rw [hb]; exact d3
  obtain ⟨U, hsteps, hrun, hend, hW, hsame, ce, hce, hO⟩ := X₁.ctorThrow0 hexec htr (own := own) (cls := cls) (names := names) (ic := ic) hown' hcls hnames h (fun x hx => nomatch hx) hfX hkX hcellA (by rw [hhp, hT]; exact Nat.le_refl _)
    (g := { method := m, pc := pc + 4, locals := ls, stack := .ref T.heap.size :: .ref T.heap.size :: rest, locked := none }) rfl hsize rfl rfl (rest := rest) rfl
    (by rw [hb]; exact d4) (by rw [hb]; exact d7) hout hRframes (by simp only [List.map_cons, List.sum_cons, hcat]; omega) hlocks
  obtain ⟨f1, f2⟩ := vx_frame hsame
  rw [hhp] at f1 f2
  have hWs : s.WarmedH U.vm := State.WarmedH.trans hW0 hW
  have hcl : s.vm.findClass cls = some ce.cls := by
    have h9 := hO.cls
    rw [hvm] at h9
    exact h9
  have hall : s.sameButNew ({ U with vm := s.vm } : State) locs mc ms := by
    subst hA
    obtain ⟨e1, e2⟩ := hsame
    rw [State.setFrames_setFrames] at e1
    have h2 : (T.setVm s.vm).sameButNew ({ U with vm := s.vm } : State) [] (0 + 1) (0 + 6) := ⟨e1, e2⟩
    have h3 := X.same.trans h2
    rw [List.append_nil] at h3
    exact h3.mono hc hs
  refine ⟨U, ?_, .threw T.heap.size, hrun, hend, Or.inr ⟨T.heap.size, rfl, cls, ce, locs, hx U hWs.alike f1 (fun q hq => f2 q hq (fun z hz => nomatch hz)), hce, hO.vm, hcl, hWs, hall, hf⟩⟩
  refine st1 _ ?_
  show Steps p.tables e below (T1.setTop { method := m, pc := pc + 3, locals := ls, stack := .ref T.heap.size :: rest, locked := none }) _
  jvm_step X₁.here [X₁.here.top, hexec, d3', Value.category]
  exact hsteps
/-- 'throw new E("text")': new; dup; ldc; invokespecial; athrow -/
theorem vx_throwS {cc : ByteArray} {pc : Nat} (hexec : p.tables.exec = Jvm.exec) (hb : c.code = cc) (hl : l.stackTraces = false) {own cls text : String} {names : List String} {ik is ic mc ms sa : Nat} {A : Nat → Prop}
    (hown : s.vm.findClass own = some m.cls) (hcls : Bundle.fit cls = true) (hnames : ∀ n ∈ names, Bundle.fit n = true)
    (hk : (Cond.classLink own ik cls).before args s = true) (hini : (Cond.initialized cls).before args s = true) (hstr : vk_R own is text sa s) (hat : ∀ w ∈ vx_atS own ic cls names, w.before args s = true)
    (hgood : ∀ w ∈ Cond.classLink own ik cls :: Cond.initialized cls :: vx_atS own ic cls names, vx_ot w = true)
    (hU : vx_Zq Bundle.tN "UNASSIGNED_STACK" Bundle.steD A s s.heap) (hN : vx_Zq Bundle.tN "SUPPRESSED_SENTINEL" Bundle.listD A s s.heap) (hS : va_S A s.heap H locs) (hsize : ls.size = c.maxLocals)
    (d0 : decode cc pc = .ok (.new ik, 3)) (d3 : decode cc (pc + 3) = .ok (.dup, 1)) (d4 : decode cc (pc + 4) = .ok (.ldc is, 2)) (d6 : decode cc (pc + 6) = .ok (.invokespecial ic, 3)) (d9 : decode cc (pc + 9) = .ok (.athrow, 1))
    (hout : ∀ x ∈ c.exceptionTable.toList, covers x (pc + 9) = false)
    (hRframes : names.length + 3 < R.frames) (hRlocals : (rest.map fun v => v.category).sum + (13 * (names.length + 1) + 43) ≤ R.locals) (hRcells : cells + 1 ≤ R.cells) (hRslots : slots + 6 ≤ R.slots) (hlocks : meth.locks = false)
    (hx : ∀ t : State, s.vm.Alike t.vm → H.size ≤ t.heap.size → (∀ q : Nat, q < H.size → t.heap[q]? = H[q]?) → XC cls s t)
    (hf : ∀ z ∈ locs, free z.base) (hc : cells + 1 ≤ mc) (hs : slots + 6 ≤ ms) :
    W p l e R s m args below meth c H locs cells slots (vx_MQ below Qc XC args s mc ms free) (F0 m pc ls rest) := by
  intro T hT X
  have htr : e.platform.stackTraces = false := (show e.platform.stackTraces = l.stackTraces by rw [X.admits.platform]).trans hl
  have Y := vx_rebase X (R' := { frames := R.frames, locals := R.locals, cells := 1, slots := 6 }) (Nat.le_refl _) (Nat.le_refl _) hRcells hRslots
  obtain ⟨s', hA⟩ : ∃ z, z = (T.setVm s.vm).setFrames (.invoking m args :: below) := ⟨_, rfl⟩
  rw [← hA] at Y
  have hvm : s'.vm = s.vm := by rw [hA]; rfl
  have hhp : s'.heap = H := by rw [hA]; exact hT
  have hW0 : s.WarmedH s'.vm := by rw [hvm]; exact State.WarmedH.refl s
  have hat' : ∀ w ∈ vx_atS own ic cls names, w.before args s' = true := fun w hw => vx_ot_at hW0 hvm.symm (hgood w (List.mem_cons_of_mem _ (List.mem_cons_of_mem _ hw))) (hat w hw)
  have hk' : (Cond.classLink own ik cls).before args s' = true := vx_ot_at hW0 hvm.symm (hgood _ List.mem_cons_self) hk
  have hini' : (Cond.initialized cls).before args s' = true := vx_ot_at hW0 hvm.symm (hgood _ (List.mem_cons_of_mem _ List.mem_cons_self)) hini
  have hU' : vx_Zq Bundle.tN "UNASSIGNED_STACK" Bundle.steD A s' s'.heap := by rw [hhp]; exact vx_Zq.moved hW0.alike (hU.kept hS.2.1)
  have hN' : vx_Zq Bundle.tN "SUPPRESSED_SENTINEL" Bundle.listD A s' s'.heap := by rw [hhp]; exact vx_Zq.moved hW0.alike (hN.kept hS.2.1)
  have h : ∀ w ∈ Bundle.ownAtoms own ic cls names, w.before args s' = true := vx_own hat' (vx_isRefq hU'.1) (vx_isRefq hN'.1) hU'.2.word hN'.2.word
  have hown' : s'.vm.findClass own = some m.cls := by rw [hvm]; exact hown
  have hins : (Cond.instantiable cls 6).before args s' = true := h _ (by simp [Bundle.ownAtoms])
  obtain ⟨vm₁, cX, kX, hfX, hkX, -, -, X₁, st1⟩ := Y.newCold hexec (own := own) (C := cls) (index := ik) (n := 6) hown' hk' hins hini'
    (g := F0 m pc ls rest) rfl (by rw [hb]; exact d0) (Nat.le_refl _) (Nat.le_refl _)
  generalize hT1 : (T.setVm vm₁).pushCell { cls := cX, slots := kX.instanceTypes.map defaultValue, vm := .none } = T1 at X₁ st1
  have hcat : (Value.ref T.heap.size).category = 1 := rfl
  have hcellA : T1.heap[T.heap.size]? = some (freshCell cX kX) := by rw [← hT1]; exact State.heap_pushCell_size _ _
  have d3' : decode c.code (pc + 3) = .ok (.dup, 1) := by rw [hb]; exact d3
  have d4' : decode c.code (pc + 4) = .ok (.ldc is, 2) := by rw [hb]; exact d4
  have hstr' : vk_R own is text sa s' := vk_R.warm hW0 hstr
  obtain ⟨U, hsteps, hrun, hend, hW, hsame, ce, hce, hO⟩ := X₁.ctorThrowS hexec htr (own := own) (cls := cls) (names := names) (ic := ic) hown' hcls hnames h (fun x hx => nomatch hx) hfX hkX hcellA (by rw [hhp, hT]; exact Nat.le_refl _) (msg := .ref sa) rfl
    (g := { method := m, pc := pc + 6, locals := ls, stack := .ref sa :: .ref T.heap.size :: .ref T.heap.size :: rest, locked := none }) rfl hsize rfl rfl (rest := rest) rfl
    (by rw [hb]; exact d6) (by rw [hb]; exact d9) hout hRframes (by simp only [List.map_cons, List.sum_cons, hcat]; omega) hlocks
  obtain ⟨f1, f2⟩ := vx_frame hsame
  rw [hhp] at f1 f2
  have hWs : s.WarmedH U.vm := State.WarmedH.trans hW0 hW
  have hcl : s.vm.findClass cls = some ce.cls := by
    have h9 := hO.cls
    rw [hvm] at h9
    exact h9
  have hall : s.sameButNew ({ U with vm := s.vm } : State) locs mc ms := by
    subst hA
    obtain ⟨e1, e2⟩ := hsame
    rw [State.setFrames_setFrames] at e1
    have h2 : (T.setVm s.vm).sameButNew ({ U with vm := s.vm } : State) [] (0 + 1) (0 + 6) := ⟨e1, e2⟩
    have h3 := X.same.trans h2
    rw [List.append_nil] at h3
    exact h3.mono hc hs
  refine ⟨U, ?_, .threw T.heap.size, hrun, hend, Or.inr ⟨T.heap.size, rfl, cls, ce, locs, hx U hWs.alike f1 (fun q hq => f2 q hq (fun z hz => nomatch hz)), hce, hO.vm, hcl, hWs, hall, hf⟩⟩
  refine st1 _ ?_
  show Steps p.tables e below (T1.setTop { method := m, pc := pc + 3, locals := ls, stack := .ref T.heap.size :: rest, locked := none }) _
  jvm_step X₁.here [X₁.here.top, hexec, d3', Value.category]
  exact X₁.ldcString hexec (own := own) (text := text) (index := is) (a := sa) hown' hstr'.1 hstr'.2
    (g := { method := m, pc := pc + 4, locals := ls, stack := .ref T.heap.size :: .ref T.heap.size :: rest, locked := none }) rfl d4' _ hsteps
/-- 'throw new E("text")', the text by a wide index -/
theorem vx_throwSW {cc : ByteArray} {pc : Nat} (hexec : p.tables.exec = Jvm.exec) (hb : c.code = cc) (hl : l.stackTraces = false) {own cls text : String} {names : List String} {ik is ic mc ms sa : Nat} {A : Nat → Prop}
    (hown : s.vm.findClass own = some m.cls) (hcls : Bundle.fit cls = true) (hnames : ∀ n ∈ names, Bundle.fit n = true)
    (hk : (Cond.classLink own ik cls).before args s = true) (hini : (Cond.initialized cls).before args s = true) (hstr : vk_R own is text sa s) (hat : ∀ w ∈ vx_atS own ic cls names, w.before args s = true)
    (hgood : ∀ w ∈ Cond.classLink own ik cls :: Cond.initialized cls :: vx_atS own ic cls names, vx_ot w = true)
    (hU : vx_Zq Bundle.tN "UNASSIGNED_STACK" Bundle.steD A s s.heap) (hN : vx_Zq Bundle.tN "SUPPRESSED_SENTINEL" Bundle.listD A s s.heap) (hS : va_S A s.heap H locs) (hsize : ls.size = c.maxLocals)
    (d0 : decode cc pc = .ok (.new ik, 3)) (d3 : decode cc (pc + 3) = .ok (.dup, 1)) (d4 : decode cc (pc + 4) = .ok (.ldc_w is, 3)) (d7 : decode cc (pc + 7) = .ok (.invokespecial ic, 3)) (d10 : decode cc (pc + 10) = .ok (.athrow, 1))
    (hout : ∀ x ∈ c.exceptionTable.toList, covers x (pc + 10) = false)
    (hRframes : names.length + 3 < R.frames) (hRlocals : (rest.map fun v => v.category).sum + (13 * (names.length + 1) + 43) ≤ R.locals) (hRcells : cells + 1 ≤ R.cells) (hRslots : slots + 6 ≤ R.slots) (hlocks : meth.locks = false)
    (hx : ∀ t : State, s.vm.Alike t.vm → H.size ≤ t.heap.size → (∀ q : Nat, q < H.size → t.heap[q]? = H[q]?) → XC cls s t)
    (hf : ∀ z ∈ locs, free z.base) (hc : cells + 1 ≤ mc) (hs : slots + 6 ≤ ms) :
    W p l e R s m args below meth c H locs cells slots (vx_MQ below Qc XC args s mc ms free) (F0 m pc ls rest) := by
  intro T hT X
  have htr : e.platform.stackTraces = false := (show e.platform.stackTraces = l.stackTraces by rw [X.admits.platform]).trans hl
  have Y := vx_rebase X (R' := { frames := R.frames, locals := R.locals, cells := 1, slots := 6 }) (Nat.le_refl _) (Nat.le_refl _) hRcells hRslots
  obtain ⟨s', hA⟩ : ∃ z, z = (T.setVm s.vm).setFrames (.invoking m args :: below) := ⟨_, rfl⟩
  rw [← hA] at Y
  have hvm : s'.vm = s.vm := by rw [hA]; rfl
  have hhp : s'.heap = H := by rw [hA]; exact hT
  have hW0 : s.WarmedH s'.vm := by rw [hvm]; exact State.WarmedH.refl s
  have hat' : ∀ w ∈ vx_atS own ic cls names, w.before args s' = true := fun w hw => vx_ot_at hW0 hvm.symm (hgood w (List.mem_cons_of_mem _ (List.mem_cons_of_mem _ hw))) (hat w hw)
  have hk' : (Cond.classLink own ik cls).before args s' = true := vx_ot_at hW0 hvm.symm (hgood _ List.mem_cons_self) hk
  have hini' : (Cond.initialized cls).before args s' = true := vx_ot_at hW0 hvm.symm (hgood _ (List.mem_cons_of_mem _ List.mem_cons_self)) hini
  have hU' : vx_Zq Bundle.tN "UNASSIGNED_STACK" Bundle.steD A s' s'.heap := by rw [hhp]; exact vx_Zq.moved hW0.alike (hU.kept hS.2.1)
  have hN' : vx_Zq Bundle.tN "SUPPRESSED_SENTINEL" Bundle.listD A s' s'.heap := by rw [hhp]; exact vx_Zq.moved hW0.alike (hN.kept hS.2.1)
  have h : ∀ w ∈ Bundle.ownAtoms own ic cls names, w.before args s' = true := vx_own hat' (vx_isRefq hU'.1) (vx_isRefq hN'.1) hU'.2.word hN'.2.word
  have hown' : s'.vm.findClass own = some m.cls := by rw [hvm]; exact hown
  have hins : (Cond.instantiable cls 6).before args s' = true := h _ (by simp [Bundle.ownAtoms])
  obtain ⟨vm₁, cX, kX, hfX, hkX, -, -, X₁, st1⟩ := Y.newCold hexec (own := own) (C := cls) (index := ik) (n := 6) hown' hk' hins hini'
    (g := F0 m pc ls rest) rfl (by rw [hb]; exact d0) (Nat.le_refl _) (Nat.le_refl _)
  generalize hT1 : (T.setVm vm₁).pushCell { cls := cX, slots := kX.instanceTypes.map defaultValue, vm := .none } = T1 at X₁ st1
  have hcat : (Value.ref T.heap.size).category = 1 := rfl
  have hcellA : T1.heap[T.heap.size]? = some (freshCell cX kX) := by rw [← hT1]; exact State.heap_pushCell_size _ _
  have d3' : decode c.code (pc + 3) = .ok (.dup, 1) := by rw [hb]; exact d3
  have d4' : decode c.code (pc + 4) = .ok (.ldc_w is, 3) := by rw [hb]; exact d4
  have hstr' : vk_R own is text sa s' := vk_R.warm hW0 hstr
  obtain ⟨U, hsteps, hrun, hend, hW, hsame, ce, hce, hO⟩ := X₁.ctorThrowS hexec htr (own := own) (cls := cls) (names := names) (ic := ic) hown' hcls hnames h (fun x hx => nomatch hx) hfX hkX hcellA (by rw [hhp, hT]; exact Nat.le_refl _) (msg := .ref sa) rfl
    (g := { method := m, pc := pc + 7, locals := ls, stack := .ref sa :: .ref T.heap.size :: .ref T.heap.size :: rest, locked := none }) rfl hsize rfl rfl (rest := rest) rfl
    (by rw [hb]; exact d7) (by rw [hb]; exact d10) hout hRframes (by simp only [List.map_cons, List.sum_cons, hcat]; omega) hlocks
  obtain ⟨f1, f2⟩ := vx_frame hsame
  rw [hhp] at f1 f2
  have hWs : s.WarmedH U.vm := State.WarmedH.trans hW0 hW
  have hcl : s.vm.findClass cls = some ce.cls := by
    have h9 := hO.cls
    rw [hvm] at h9
    exact h9
  have hall : s.sameButNew ({ U with vm := s.vm } : State) locs mc ms := by
    subst hA
    obtain ⟨e1, e2⟩ := hsame
    rw [State.setFrames_setFrames] at e1
    have h2 : (T.setVm s.vm).sameButNew ({ U with vm := s.vm } : State) [] (0 + 1) (0 + 6) := ⟨e1, e2⟩
    have h3 := X.same.trans h2
    rw [List.append_nil] at h3
    exact h3.mono hc hs
  refine ⟨U, ?_, .threw T.heap.size, hrun, hend, Or.inr ⟨T.heap.size, rfl, cls, ce, locs, hx U hWs.alike f1 (fun q hq => f2 q hq (fun z hz => nomatch hz)), hce, hO.vm, hcl, hWs, hall, hf⟩⟩
  refine st1 _ ?_
  show Steps p.tables e below (T1.setTop { method := m, pc := pc + 3, locals := ls, stack := .ref T.heap.size :: rest, locked := none }) _
  jvm_step X₁.here [X₁.here.top, hexec, d3', Value.category]
  exact X₁.ldcStringW hexec (own := own) (text := text) (index := is) (a := sa) hown' hstr'.1 hstr'.2
    (g := { method := m, pc := pc + 4, locals := ls, stack := .ref T.heap.size :: .ref T.heap.size :: rest, locked := none }) rfl d4' _ hsteps
end Ends
section Bodies
variable {l : Launch}
theorem vx_ofW {y : MethodName} {ws ws' : List Cond} {rm : Room} {Pc : Array Value → State → Prop} {Qc : Array Value → State → Outcome → State → Prop} {XC : String → State → State → Prop} {mc ms : Nat} {free : Addr → Prop} {cc : ByteArray} {maxL : Nat} {ret : Option FieldType}
    (hy : plainName y.cls = true) (hw : ws = Cond.code y cc maxL ret :: ws')
    (body : ∀ p e s m args below meth c s₁, BodyLoose p l y (headSpec ws rm) cc maxL ret e s m args below meth c s₁ → c.maxLocals = maxL → (∀ x ∈ c.exceptionTable.toList, False) → Pc args s →
      W p l e (headSpec ws rm).room s m args below meth c s.heap [] 0 0 (vx_MQ below Qc XC args s mc ms free) (entryFrame m args maxL)) : vx_Met l y ws rm Pc Qc XC mc ms free := by
  refine MetFree.of_bodyS (code := cc) (maxLocals := maxL) (ret := ret) hy ?_ ?_
  · intro args s m h hn
    obtain ⟨meth, c, h1, h2, h3, h4, h5, h6, -, -⟩ := Cond.code_spec hn (atoms_spec (ws := ws) h _ (by rw [hw]; exact List.mem_cons_self))
    exact ⟨meth, c, h1, h2, h3, h4, h5, h6⟩
  · intro p e s m args below meth c s₁ B hml hP _
    have hh0 : s₁.heap = s.heap := by rw [B.state]; rfl
    have ht : ∀ x ∈ c.exceptionTable.toList, False := by
      obtain ⟨meth9, c9, h1, h2, -, -, -, -, h7, -⟩ := Cond.code_spec B.named (atoms_spec (ws := ws) B.pre _ (by rw [hw]; exact List.mem_cons_self))
      cases Option.some.inj (h1.symm.trans B.method)
      cases Option.some.inj (h2.symm.trans (Stand.of_body B).code)
      intro x hx
      rw [Array.isEmpty_iff.mp h7] at hx
      cases hx
    obtain ⟨t, a1, o, b1, b2, b3⟩ := body p e s m args below meth c s₁ B hml ht hP s₁ hh0 (Stand.of_body B)
    exact ⟨t, o, a1, b1, b2, b3⟩
/-- the table of a body with handlers -/
theorem vx_table {p : Program} {x y : MethodName} {S : Spec} {cc bytes : ByteArray} {maxL maxL' : Nat} {ret ret' : Option FieldType} {e : Env} {s s₁ : State} {m : MethodId} {args : Array Value} {below : List Frame} {meth : Method} {c : Code} {hh : List (Nat × Nat × Nat × Nat)}
    (B : BodyLoose p l y S cc maxL ret e s m args below meth c s₁) (h : (Cond.codeWith y bytes maxL' ret' hh).before args s = true) : c.exceptionTable.toList = tableOf hh := by
  obtain ⟨m9, meth9, c9, hn9, h1, h2, -, -, h6, -⟩ := Cond.codeWith_spec h
  cases Option.some.inj (hn9.symm.trans B.named)
  cases Option.some.inj (h1.symm.trans B.method)
  cases Option.some.inj (h2.symm.trans (Stand.of_body B).code)
  rw [← h6, table_eq]
end Bodies
end VXA
/-! ===== END ===== -/
/-! ===== BEGIN a static call of a method with an exception table ===== -/
section VXS
variable {p : Program} {l : Launch} {e : Env} {R : Room} {s : State} {m : MethodId} {args : Array Value} {below : List Frame} {meth : Method} {c : Code} {T : State} {H : Heap} {locs : List Loc} {cells slots : Nat}
abbrev vx_CSW (R : Room) (s : State) (args : Array Value) (own : String) (index : Nat) (y : MethodName) (bytes : ByteArray) (maxL : Nat) (ret : Option FieldType) (hh : List (Nat × Nat × Nat × Nat)) (ws : List Cond) (rm : Room) (mc ms n : Nat) : Prop :=
  (rm.cells = mc ∧ rm.slots = ms ∧ rm.frames + 1 ≤ R.frames ∧ 8 + (maxL + 11) + rm.locals ≤ R.locals ∧ (∀ w ∈ ws, ∀ (a' : Array Value) (U : State), s.WarmedH U.vm → w.before a' U = true) ∧ Cond.codeWith y bytes maxL ret hh ∈ ws) ∧
  (Cond.codeWith y bytes maxL ret hh).before args s = true ∧ (Cond.initialized y.cls).before args s = true ∧ (y.cls ≠ "java/lang/invoke/MethodHandle" ∧ y.cls ≠ "java/lang/invoke/VarHandle") ∧
  (∀ sig, parseMethodDescriptor y.desc = some sig → n = sig.parameters.length) ∧ (Cond.methodLink own index y).before args s = true ∧ (Cond.static y).before args s = true
theorem vx_cwSW {own : String} {index maxL mc ms : Nat} {y : MethodName} {bytes : ByteArray} {ret : Option FieldType} {hh : List (Nat × Nat × Nat × Nat)} {Ts ws ws' : List Cond} {rm : Room} (n : Nat) (ht : ∀ w ∈ Ts, w.before args s = true) (hT : GoodIn Ts (va_wsS own index y ws)) (hw : ws = Cond.codeWith y bytes maxL ret hh :: ws') (hrc : rm.cells = mc) (hrs : rm.slots = ms)
    (hd : y.cls ≠ "java/lang/invoke/MethodHandle" ∧ y.cls ≠ "java/lang/invoke/VarHandle" ∧ (parseMethodDescriptor y.desc).map (fun d => d.parameters.length) = some n) (hR : rm.frames + 1 ≤ R.frames ∧ 8 + (maxL + 11) + rm.locals ≤ R.locals) :
    vx_CSW R s args own index y bytes maxL ret hh ws rm mc ms n := by
  have ok : ∀ w ∈ va_wsS own index y ws, w.before args s = true := fun w h => ht w (hT w h).1
  have hG : GoodIn Ts ws := fun w h => hT w (by unfold va_wsS; exact List.mem_append_right _ h)
  have hc : Cond.codeWith y bytes maxL ret hh ∈ ws := by rw [hw]; exact List.mem_cons_self
  refine ⟨⟨hrc, hrs, hR.1, hR.2, pay_in ht hG, hc⟩, ht _ (hG _ hc).1, ok _ (by simp [va_wsS]), ⟨hd.1, hd.2.1⟩, fun sig h => ?_, ok _ (by simp [va_wsS]), ok _ (by simp [va_wsS])⟩
  have h2 := hd.2.2
  rw [h] at h2
  exact (Option.some.inj h2).symm
theorem vx_callSW (X : Stand p l e R s m args below meth c T locs cells slots) (hexec : p.tables.exec = Jvm.exec) {own : String} {index : Nat} {y : MethodName} {bytes : ByteArray} {maxL : Nat} {ret : Option FieldType} {hh : List (Nat × Nat × Nat × Nat)}
    (hown : s.vm.findClass own = some m.cls) (hlink : (Cond.methodLink own index y).before args s = true) (hstat : (Cond.static y).before args s = true) (hinit : (Cond.initialized y.cls).before args s = true)
    (hcode : (Cond.codeWith y bytes maxL ret hh).before args s = true) (hy : y.cls ≠ "java/lang/invoke/MethodHandle" ∧ y.cls ≠ "java/lang/invoke/VarHandle")
    {W9 : Nat} {Pre : Pt → Array Value → Prop} {Post : Pt → Array Value → Option Value → Pt → Prop} (hK : Back l R p e below s args y 3 W9 Pre Post)
    {g : JFrame} (hg : g.method = m) (hsize : g.locals.size = c.maxLocals) {argsL rest : List Value} (hlen : ∀ sig, parseMethodDescriptor y.desc = some sig → argsL.length = sig.parameters.length)
    (hstack : g.stack = argsL.reverse ++ rest) (hW : 2 * g.monitorRoom + (rest.map fun v => v.category).sum ≤ W9) (hdg : decode c.code g.pc = .ok (.invokestatic index, 3))
    (hpre : ∀ vm₁, s.WarmedH vm₁ → Pre ⟨T.setVm vm₁, locs, cells, slots⟩ argsL.toArray) :
    ∃ (v : Option Value) (vm₁ : Vm) (B : Pt), s.WarmedH vm₁ ∧ Stand p l e R s m args below meth c B.U B.locs B.cells B.slots ∧ Post ⟨T.setVm vm₁, locs, cells, slots⟩ argsL.toArray v B ∧
      ∀ target, Steps p.tables e below (B.U.setTop { g with pc := g.pc + 3, stack := v.toList ++ rest }) target → Steps p.tables e below (T.setTop g) target := by
  obtain ⟨mk, methM, cM, hnamed, hmethM, -, -, -, -, -, -, hsigM⟩ := Cond.codeWith_spec hcode
  have hstatic : methM.isStatic = true := Cond.static_spec hnamed hmethM hstat
  obtain ⟨kP, hkP, -⟩ := className_of_methodNamed hnamed
  have hinitP : kP.init = .initialized := Cond.initialized_spec (findClass_of_methodNamed hnamed) hkP hinit
  obtain ⟨vm₁, X₁, hstep₁⟩ := X.invokestatic hexec hown hlink hnamed hmethM hstatic hkP hinitP hy (g := g) hg (argsL := argsL) (rest := rest) (hlen _ hsigM) hstack hdg
  obtain ⟨v, B, X', hpost, hsteps⟩ := hK m meth c ⟨T.setVm vm₁, locs, cells, slots⟩ { g with stack := rest } (.invokestatic index) mk argsL.toArray X₁ hg hsize hdg hW (X₁.named hnamed) (hpre vm₁ X₁.warmed)
  exact ⟨v, vm₁, B, X₁.warmed, X', hpost, fun target h => hstep₁ _ fun acts => by rw [doInvoke_state]; exact hsteps.trans h⟩
theorem vx_runSW {y : MethodName} {bytes cc : ByteArray} {maxL nL mc ms n index : Nat} {ret : Option FieldType} {hh : List (Nat × Nat × Nat × Nat)} {ws : List Cond} {rm : Room} {Pc : Array Value → State → Prop} {Qc : Array Value → State → Outcome → State → Prop} {free : Addr → Prop} {Ts : List Cond} {own : String} {As rest : List Value} {g : JFrame}
    (S : CallFix p m c cc nL s args Ts own) (hM : Met l y ws rm Pc Qc mc ms free) (cw : vx_CSW R s args own index y bytes maxL ret hh ws rm mc ms n) (hp : PreS s H Pc As)
    (hg : g.method = m) (hn : As.length = n) (hsize : g.locals.size = nL) (hstack : g.stack = As.reverse ++ rest) (hW : 2 * g.monitorRoom + (rest.map fun v => v.category).sum ≤ 8) (hdg : decode cc g.pc = .ok (.invokestatic index, 3)) (hf : cells + mc ≤ R.cells ∧ slots + ms ≤ R.slots) :
    va_Run p l e R s m args below meth c H locs cells slots mc ms g rest (Qc As.toArray) (free) := by
  obtain ⟨⟨hrc, hrs, hfr, hlo, hws, hcw⟩, hcode, hini, hy, hlen, hl, hstt⟩ := cw
  have hK : Back l R p e below s args y 3 8 (PreOf R mc ms Pc) (PostOf Qc mc ms free) := va_backW (hh := hh) (bytes := bytes) (maxL := maxL) (ret := ret) hM hp.1 hrc hrs hfr hlo hws hcw (fun a' U hW => word_at hW (Or.inl (by first | rfl | simp [Cond.onTables, Cond.keeps, Cond.steady])) hini)
  obtain ⟨hx, hb, hml, ho, -⟩ := S
  intro T hT X
  obtain ⟨v, vm₁, ⟨U', l2, c2, s2⟩, hW₁, X', ⟨g', mk, t, L, e1, e2, hq, h1, hL, h2, h3⟩, st⟩ := vx_callSW X hx (hh := hh) (bytes := bytes) (maxL := maxL) (ret := ret) ho hl hstt hini hcode hy hK hg (hsize.trans hml.symm) (argsL := As) (rest := rest) (fun sig h => hn.trans (hlen sig h)) hstack hW (by rw [hb]; exact hdg)
    (fun vm₁ hW₁ => ⟨hf.1, hf.2, hp.2 (T.setVm vm₁) hT hW₁⟩)
  dsimp only [Pt.U, Pt.locs, Pt.cells, Pt.slots] at X' e1 e2 h1 h2 h3 st
  subst h1; subst h2; subst h3
  exact ⟨v, (T.setVm vm₁).calling g' mk As.toArray, t, U', L, hT, X', hL, e1, e2, hq, st⟩
/-- not caught here, past rows that name other classes: it goes on to the caller -/
theorem vx_outP {p : Program} {l : Launch} {e : Env} {R : Room} {s : State} {m : MethodId} {args : Array Value} {below : List Frame} {meth : Method} {c : Code} {H : Heap} {locs : List Loc} {cells slots : Nat} {free : Addr → Prop} {ls : Array Slot} {rest : List Value} {Qc : Array Value → State → Outcome → State → Prop} {XC : String → State → State → Prop}
    {pc : Nat} {own E : String} {ce : Cell} {q : Addr} {mc ms : Nat} (hown : s.vm.findClass own = some m.cls) (hlocks : meth.locks = false)
    (hpass : ∀ z ∈ c.exceptionTable.toList, covers z pc = false ∨ (z.catchType ≠ 0 ∧ ∃ nm : String, (Cond.classLink own z.catchType nm).before args s = true ∧ va_Nc E nm s)) (hcell : H[q]? = some ce) (hv : ce.vm = .none) (hcl : s.vm.findClass E = some ce.cls)
    (hx : ∀ t : State, t.heap = H → s.vm.Alike t.vm → XC E s t) (hf : ∀ z ∈ locs, free z.base) (hc : cells ≤ mc) (hs : slots ≤ ms) :
    vx_W p l e R s m args below meth c H locs cells slots (vx_MQ below Qc XC args s mc ms free) (F0 m pc ls rest) q := by
  intro T hT X
  have hpl : e.platform.magicAccessors = ({} : Platform).magicAccessors := by rw [X.admits.platform]
  obtain ⟨vm', hW', X', st⟩ := X.outThrough hlocks q (g := F0 m pc ls rest) rfl rfl rfl (cell := ce) (by rw [hT]; exact hcell) (by rw [hv]; rfl)
    (by obtain ⟨k9, h9, -⟩ := Vm.findClass_spec hcl; exact ⟨k9, h9⟩) (fun z hz => by
      rcases hpass z hz with h | ⟨hz0, nm, hl1, hn1⟩
      · exact Or.inl h
      · obtain ⟨c6, hc6, hcl6⟩ := Cond.classLink_spec hown hl1 e.platform hpl
        obtain ⟨a8, b8, h1, h2, h3⟩ := hn1
        cases Option.some.inj (h1.symm.trans hcl)
        cases Option.some.inj (h2.symm.trans hc6)
        exact Or.inr ⟨hz0, _, hcl6, h3⟩)
  obtain ⟨g₀, hfr⟩ := X'.frames_eq
  have hcell9 : ((T.setVm vm').setFrames (.throwing q :: below)).heap[q]? = some ce := by
    show T.heap[q]? = some ce
    rw [hT]; exact hcell
  have hend : Ended ((T.setVm vm').setFrames (.throwing q :: below)) below (.threw q) := State.frames_setFrames _ (State.cur_lt_of_frames hfr)
  refine ⟨(T.setVm vm').setFrames (.throwing q :: below), ?_, .threw q, X'.here.running, hend, Or.inr ⟨q, rfl, E, ce, locs, hx _ hT (X'.ends _).1.alike, hcell9, hv, hcl, (X'.ends _).1, (X'.ends _).2.mono hc hs, hf⟩⟩
  rw [X.pushThrowing_eq]
  exact st
/-- a thing of a world lies in the heap -/
theorem vx_lt {D : va_G} {cl : List vw_C} {ws : va_W} {H1 : Heap} (h : va_P D cl ws H1) {k : Nat} {q : Nat × va_E} (hk : ws[k]? = some q) : q.1 < H1.size := (h k q hk).lt
end VXS
/-! ===== END ===== -/
/-! ===== BEGIN methods with a table of their own: called by a name, returning or throwing ===== -/
section VXH
/-! vx_backW, vx_callVX, vx_callSX, vx_callVW, vx_runVW, vx_runVX, vx_runSX, vx_ofWH follow the same proofs as their sisters above (Free/Laws.lean, Shelf42/LK1.lean); vx_outP calls Shelf42/NT130.lean (outThrough). -/
section
variable {l : Launch} {R : Room} {p : Program} {e : Env} {below : List Frame} {s : State} {sargs : Array Value} {y : MethodName} {len W9 : Nat}
theorem vx_backW {ws : List Cond} {rm : Room} {Pc : Array Value → State → Prop} {Qc : Array Value → State → Outcome → State → Prop} {XC : String → State → State → Prop} {mc ms : Nat} {free : Addr → Prop} {bytes : ByteArray} {maxL : Nat} {ret : Option FieldType} {hh : List (Nat × Nat × Nat × Nat)}
    (hM : vx_Met l y ws rm Pc Qc XC mc ms free) (hblind : FrameBlind Pc) (hrc : rm.cells = mc) (hrs : rm.slots = ms)
    (hframes : rm.frames + 1 ≤ R.frames) (hlocals : W9 + (maxL + 11) + rm.locals ≤ R.locals)
    (hws : ∀ w ∈ ws, ∀ a' U, s.WarmedH U.vm → w.before a' U = true) (hcode : Cond.codeWith y bytes maxL ret hh ∈ ws) (hinit : ∀ a' U, s.WarmedH U.vm → (Cond.initialized y.cls).before a' U = true) :
    vx_Back l R p e below s sargs y len W9 (PreOf R mc ms Pc) (PostOf Qc mc ms free) (vx_Post XC mc ms free) := by
  intro m meth c A g ig mk a X hg hsize hdg hW hn hp
  have h1 : (headSpec ws rm).pre.before a A.U = true := atoms_intro fun w hw => hws w hw _ _ X.warmed
  have h2 : (Cond.codeWith y bytes maxL ret hh).before a A.U = true := hws _ hcode _ _ X.warmed
  have h3 : (Cond.initialized y.cls).before a A.U = true := hinit _ _ X.warmed
  have h4 : A.cells + (headSpec ws rm).room.cells ≤ R.cells := by rw [show (headSpec ws rm).room.cells = mc from hrc]; exact hp.1
  have h5 : A.slots + (headSpec ws rm).room.slots ≤ R.slots := by rw [show (headSpec ws rm).room.slots = ms from hrs]; exact hp.2.1
  have hPc : Pc a (A.U.calling g mk a) := hblind _ _ _ _ hp.2.2
  obtain ⟨U, Ls, c0, s0⟩ := A
  dsimp only [Pt.U, Pt.locs, Pt.cells, Pt.slots] at h1 h2 h3 h4 h5 X hn hPc ⊢
  obtain ⟨m9, methY, cY, hn9, hmY, hcY, -, hlY, -⟩ := Cond.codeWith_spec h2
  cases Option.some.inj (hn9.symm.trans hn)
  obtain ⟨kY, hkY, -⟩ := className_of_methodNamed hn
  have hinitY : kY.init = .initialized := Cond.initialized_spec (findClass_of_methodNamed hn) hkY h3
  have h : At U g.method c below := by rw [hg]; exact X.here
  have hlocals9 : W9 + (maxL + 11) + (headSpec ws rm).room.locals ≤ R.locals := hlocals
  have happ : (headSpec ws rm).appliesLoose y e.platform (U.calling g mk a) = true :=
    Spec.appliesLoose_calling (g := g) h hdg hn hkY hinitY
      (X.room_calling (g := g) (R' := (headSpec ws rm).room) hsize hmY hcY hframes (by rw [hlY]; omega) h4 h5) h1
  obtain ⟨mid, hmid⟩ := h.above
  have hfr : (U.setTop g).frames = (.java g :: mid) ++ below := by rw [State.frames_setTop' g h.top, hmid]; rfl
  obtain ⟨o, s₂, hsteps, -, hend, hq⟩ := Steps.callFree hM p X.admits X.cas X.clock (acts := []) hfr happ hPc trivial
  have hq' : vx_Q Qc XC mc ms free a (U.calling g mk a) o s₂ := hq
  rw [State.frames_setTop' g h.top] at hend
  obtain ⟨g₀, hg0⟩ := Option.isSome_iff_exists.mp h.top
  obtain ⟨r, hr⟩ := State.topJava?_eq_some.mp hg0
  have hr' : (({ U with heap := s₂.heap, slotsUsed := s₂.slotsUsed } : State).setVm s₂.vm).frames = .java g₀ :: r := hr
  rcases hq' with ⟨hqc, L, hfe, hL⟩ | ⟨q, rfl, E, ce, L, hx, hce, hcv, hcl, hW₂, hsm, hL⟩
  · obtain ⟨⟨v, rfl⟩, hW₂, e2, q2, q3, q4, q5, q6⟩ := id hfe
    have e3 : s₂ = ({ (U.calling g mk a).setFrames s₂.frames with heap := s₂.heap, slotsUsed := s₂.slotsUsed } : State).setVm s₂.vm := by
      have : s₂ = ({ s₂ with vm := (U.calling g mk a).vm } : State).setVm s₂.vm := rfl
      rw [e2] at this
      exact this
    obtain ⟨c₂, i₂, len₂, hc₂, hd₂, hf₂⟩ := hend
    have hW' : U.WarmedH s₂.vm := hW₂
    have hcc : c₂ = c := by
      have h1 : s₂.code? g.method = U.code? g.method := by
        rw [State.code?_eq, State.code?_eq, hW'.alike.method?]
      exact Option.some.inj (hc₂.symm.trans (h1.trans h.code))
    subst hcc
    have hlen : len₂ = len := by rw [hdg] at hd₂; cases hd₂; rfl
    subst hlen
    have hs₂ : s₂ = (({ U with heap := s₂.heap, slotsUsed := s₂.slotsUsed } : State).setVm s₂.vm).setTop { g with pc := g.pc + len₂, stack := v.toList ++ g.stack } := by
      refine e3.trans ?_
      rw [hf₂, State.calling_eq h.top, State.setFrames_setFrames, State.setTop_of_frames _ hr', hr]
      rfl
    have hsame : U.sameButNew ({ U with heap := s₂.heap, slotsUsed := s₂.slotsUsed } : State) L mc ms := by
      refine ⟨?_, q2, q3, q4, q5, q6⟩
      obtain ⟨t, ht, -⟩ := State.frames_cons hr
      show ({ U with heap := s₂.heap, slotsUsed := s₂.slotsUsed } : State) = { U.setFrames U.frames with heap := s₂.heap, slotsUsed := s₂.slotsUsed }
      rw [State.setFrames_self ht]
    subst hg
    refine Or.inl ⟨v, ⟨(({ U with heap := s₂.heap, slotsUsed := s₂.slotsUsed } : State).setVm s₂.vm), Ls ++ L, c0 + mc, s0 + ms⟩,
      ⟨X.admits, X.cas, X.clock, X.frames, X.room, X.hears, X.method, X.code, (X.here.setHeapUsed s₂.heap s₂.slotsUsed).setVm hW'.alike, X.tail, State.WarmedH.trans X.warmed hW', X.limits, X.bytes, X.same.trans (hsame.setVm s.vm)⟩,
      ⟨g, mk, s₂, L, rfl, rfl, hqc, rfl, hL, rfl, rfl⟩, ?_⟩
    show Steps p.tables e below _ ((({ U with heap := s₂.heap, slotsUsed := s₂.slotsUsed } : State).setVm s₂.vm).setTop { g with pc := g.pc + len₂, stack := v.toList ++ g.stack })
    rw [← hs₂]
    exact hsteps
  · obtain ⟨e2, q2, q3, q4, q5, q6⟩ := id hsm
    have e3 : s₂ = ({ (U.calling g mk a).setFrames s₂.frames with heap := s₂.heap, slotsUsed := s₂.slotsUsed } : State).setVm s₂.vm := by
      have : s₂ = ({ s₂ with vm := (U.calling g mk a).vm } : State).setVm s₂.vm := rfl
      rw [e2] at this
      exact this
    have hf₂ : s₂.frames = .throwing q :: .java g :: U.frames.tail := hend
    have hW' : U.WarmedH s₂.vm := hW₂
    have hs₂ : s₂ = ((({ U with heap := s₂.heap, slotsUsed := s₂.slotsUsed } : State).setVm s₂.vm).setTop g).pushFrame (.throwing q) := by
      refine e3.trans ?_
      rw [hf₂, State.calling_eq h.top, State.setFrames_setFrames, State.pushFrame, State.frames_setTop _ hr', State.setTop_of_frames _ hr', State.setFrames_setFrames, hr]
      rfl
    have hsame : U.sameButNew ({ U with heap := s₂.heap, slotsUsed := s₂.slotsUsed } : State) L mc ms := by
      refine ⟨?_, q2, q3, q4, q5, q6⟩
      obtain ⟨t, ht, -⟩ := State.frames_cons hr
      show ({ U with heap := s₂.heap, slotsUsed := s₂.slotsUsed } : State) = { U.setFrames U.frames with heap := s₂.heap, slotsUsed := s₂.slotsUsed }
      rw [State.setFrames_self ht]
    subst hg
    refine Or.inr ⟨q, ⟨(({ U with heap := s₂.heap, slotsUsed := s₂.slotsUsed } : State).setVm s₂.vm), Ls ++ L, c0 + mc, s0 + ms⟩,
      ⟨X.admits, X.cas, X.clock, X.frames, X.room, X.hears, X.method, X.code, (X.here.setHeapUsed s₂.heap s₂.slotsUsed).setVm hW'.alike, X.tail, State.WarmedH.trans X.warmed hW', X.limits, X.bytes, X.same.trans (hsame.setVm s.vm)⟩,
      ⟨g, mk, s₂, L, E, ce, rfl, rfl, hx, hce, hcv, hcl, rfl, hL, rfl, rfl⟩, ?_⟩
    show Steps p.tables e below _ (((({ U with heap := s₂.heap, slotsUsed := s₂.slotsUsed } : State).setVm s₂.vm).setTop g).pushFrame (.throwing q))
    rw [← hs₂]
    exact hsteps
end
variable {p : Program} {l : Launch} {e : Env} {R : Room} {s : State} {m : MethodId} {args : Array Value} {below : List Frame} {meth : Method} {c : Code} {T : State} {H : Heap} {locs : List Loc} {cells slots : Nat}
theorem vx_callVX (X : Stand p l e R s m args below meth c T locs cells slots) (hexec : p.tables.exec = Jvm.exec) {own C : String} {index : Nat} {y : MethodName} {bytes : ByteArray} {maxL : Nat} {ret : Option FieldType} {hh : List (Nat × Nat × Nat × Nat)}
    (hown : s.vm.findClass own = some m.cls) (hlink : (Cond.methodLink own index y).before args s = true) (hinst : (Cond.instanceMethod y).before args s = true) (hsel : (Cond.selects C y y).before args s = true)
    (hcode : (Cond.codeWith y bytes maxL ret hh).before args s = true) (hy : y.cls ≠ "java/lang/invoke/MethodHandle" ∧ y.cls ≠ "java/lang/invoke/VarHandle")
    {W9 : Nat} {Pre : Pt → Array Value → Prop} {Post : Pt → Array Value → Option Value → Pt → Prop} {PostX : Pt → Array Value → Addr → Pt → Prop} (hK : vx_Back l R p e below s args y 3 W9 Pre Post PostX)
    {b : Addr} {cellB : Cell} (hcell : T.heap[b]? = some cellB) (hobj : cellB.vm.isStatics = false) (hcls : s.vm.findClass C = some cellB.cls)
    {g : JFrame} (hg : g.method = m) (hsize : g.locals.size = c.maxLocals) {argsL rest : List Value} (hlen : ∀ sig, parseMethodDescriptor y.desc = some sig → argsL.length = sig.parameters.length)
    (hstack : g.stack = argsL.reverse ++ .ref b :: rest) (hW : 2 * g.monitorRoom + (rest.map fun v => v.category).sum ≤ W9) (hdg : decode c.code g.pc = .ok (.invokevirtual index, 3))
    (hpre : ∀ vm₁, s.WarmedH vm₁ → Pre ⟨T.setVm vm₁, locs, cells, slots⟩ (Value.ref b :: argsL).toArray) :
    (∃ (v : Option Value) (vm₁ : Vm) (B : Pt), s.WarmedH vm₁ ∧ Stand p l e R s m args below meth c B.U B.locs B.cells B.slots ∧ Post ⟨T.setVm vm₁, locs, cells, slots⟩ (Value.ref b :: argsL).toArray v B ∧
      ∀ target, Steps p.tables e below (B.U.setTop { g with pc := g.pc + 3, stack := v.toList ++ rest }) target → Steps p.tables e below (T.setTop g) target) ∨
    (∃ (q : Addr) (vm₁ : Vm) (B : Pt), s.WarmedH vm₁ ∧ Stand p l e R s m args below meth c B.U B.locs B.cells B.slots ∧ PostX ⟨T.setVm vm₁, locs, cells, slots⟩ (Value.ref b :: argsL).toArray q B ∧
      Steps p.tables e below (T.setTop g) ((B.U.setTop { g with stack := rest }).pushFrame (.throwing q))) := by
  obtain ⟨mk, methM, hnamed, hmethM, hstM, habM⟩ := Cond.instanceMethod_spec hinst
  obtain ⟨m8, methM', cM, hn8, hmethM', -, -, -, -, -, -, hsigM⟩ := Cond.codeWith_spec hcode
  cases Option.some.inj (hn8.symm.trans hnamed)
  cases hmethM.symm.trans hmethM'
  obtain ⟨c2, r2, m2, q1, q2, q3, q4, kP, hkP, hkPi⟩ := Cond.selects_spec hsel
  cases hcls.symm.trans q1
  cases (State.methodFound?_of_named hnamed hy).symm.trans q2
  cases hnamed.symm.trans q3
  have hselP : selectMethod e.platform s.vm cellB.cls mk = .method mk := by rw [Launch.admits_selectMethod X.admits]; exact q4
  obtain ⟨vm₁, X₁, hstep₁⟩ := X.invokevirtual hexec hown hlink hnamed hmethM hstM hkP hkPi hy (a := b) (cell := cellB) hcell
    (fun z h => by rw [h] at hobj; cases hobj) hselP hmethM habM hkP hkPi (g := g) hg (argsL := argsL) (rest := rest) (hlen _ hsigM) hstack hdg
  rcases hK m meth c ⟨T.setVm vm₁, locs, cells, slots⟩ { g with stack := rest } (.invokevirtual index) mk (Value.ref b :: argsL).toArray X₁ hg hsize hdg hW (X₁.named hnamed) (hpre vm₁ X₁.warmed) with ⟨v, B, X', hpost, hsteps⟩ | ⟨q, B, X', hpost, hsteps⟩
  · exact Or.inl ⟨v, vm₁, B, X₁.warmed, X', hpost, fun target h => hstep₁ _ fun acts => by rw [doInvoke_state]; exact hsteps.trans h⟩
  · exact Or.inr ⟨q, vm₁, B, X₁.warmed, X', hpost, hstep₁ _ fun acts => by rw [doInvoke_state]; exact hsteps⟩
theorem vx_callSX (X : Stand p l e R s m args below meth c T locs cells slots) (hexec : p.tables.exec = Jvm.exec) {own : String} {index : Nat} {y : MethodName} {bytes : ByteArray} {maxL : Nat} {ret : Option FieldType} {hh : List (Nat × Nat × Nat × Nat)}
    (hown : s.vm.findClass own = some m.cls) (hlink : (Cond.methodLink own index y).before args s = true) (hstat : (Cond.static y).before args s = true) (hinit : (Cond.initialized y.cls).before args s = true)
    (hcode : (Cond.codeWith y bytes maxL ret hh).before args s = true) (hy : y.cls ≠ "java/lang/invoke/MethodHandle" ∧ y.cls ≠ "java/lang/invoke/VarHandle")
    {W9 : Nat} {Pre : Pt → Array Value → Prop} {Post : Pt → Array Value → Option Value → Pt → Prop} {PostX : Pt → Array Value → Addr → Pt → Prop} (hK : vx_Back l R p e below s args y 3 W9 Pre Post PostX)
    {g : JFrame} (hg : g.method = m) (hsize : g.locals.size = c.maxLocals) {argsL rest : List Value} (hlen : ∀ sig, parseMethodDescriptor y.desc = some sig → argsL.length = sig.parameters.length)
    (hstack : g.stack = argsL.reverse ++ rest) (hW : 2 * g.monitorRoom + (rest.map fun v => v.category).sum ≤ W9) (hdg : decode c.code g.pc = .ok (.invokestatic index, 3))
    (hpre : ∀ vm₁, s.WarmedH vm₁ → Pre ⟨T.setVm vm₁, locs, cells, slots⟩ argsL.toArray) :
    (∃ (v : Option Value) (vm₁ : Vm) (B : Pt), s.WarmedH vm₁ ∧ Stand p l e R s m args below meth c B.U B.locs B.cells B.slots ∧ Post ⟨T.setVm vm₁, locs, cells, slots⟩ argsL.toArray v B ∧
      ∀ target, Steps p.tables e below (B.U.setTop { g with pc := g.pc + 3, stack := v.toList ++ rest }) target → Steps p.tables e below (T.setTop g) target) ∨
    (∃ (q : Addr) (vm₁ : Vm) (B : Pt), s.WarmedH vm₁ ∧ Stand p l e R s m args below meth c B.U B.locs B.cells B.slots ∧ PostX ⟨T.setVm vm₁, locs, cells, slots⟩ argsL.toArray q B ∧
      Steps p.tables e below (T.setTop g) ((B.U.setTop { g with stack := rest }).pushFrame (.throwing q))) := by
  obtain ⟨mk, methM, cM, hnamed, hmethM, -, -, -, -, -, -, hsigM⟩ := Cond.codeWith_spec hcode
  have hstatic : methM.isStatic = true := Cond.static_spec hnamed hmethM hstat
  obtain ⟨kP, hkP, -⟩ := className_of_methodNamed hnamed
  have hinitP : kP.init = .initialized := Cond.initialized_spec (findClass_of_methodNamed hnamed) hkP hinit
  obtain ⟨vm₁, X₁, hstep₁⟩ := X.invokestatic hexec hown hlink hnamed hmethM hstatic hkP hinitP hy (g := g) hg (argsL := argsL) (rest := rest) (hlen _ hsigM) hstack hdg
  rcases hK m meth c ⟨T.setVm vm₁, locs, cells, slots⟩ { g with stack := rest } (.invokestatic index) mk argsL.toArray X₁ hg hsize hdg hW (X₁.named hnamed) (hpre vm₁ X₁.warmed) with ⟨v, B, X', hpost, hsteps⟩ | ⟨q, B, X', hpost, hsteps⟩
  · exact Or.inl ⟨v, vm₁, B, X₁.warmed, X', hpost, fun target h => hstep₁ _ fun acts => by rw [doInvoke_state]; exact hsteps.trans h⟩
  · exact Or.inr ⟨q, vm₁, B, X₁.warmed, X', hpost, hstep₁ _ fun acts => by rw [doInvoke_state]; exact hsteps⟩
theorem vx_callVW (X : Stand p l e R s m args below meth c T locs cells slots) (hexec : p.tables.exec = Jvm.exec) {own C : String} {index : Nat} {y : MethodName} {bytes : ByteArray} {maxL : Nat} {ret : Option FieldType} {hh : List (Nat × Nat × Nat × Nat)}
    (hown : s.vm.findClass own = some m.cls) (hlink : (Cond.methodLink own index y).before args s = true) (hinst : (Cond.instanceMethod y).before args s = true) (hsel : (Cond.selects C y y).before args s = true)
    (hcode : (Cond.codeWith y bytes maxL ret hh).before args s = true) (hy : y.cls ≠ "java/lang/invoke/MethodHandle" ∧ y.cls ≠ "java/lang/invoke/VarHandle")
    {W9 : Nat} {Pre : Pt → Array Value → Prop} {Post : Pt → Array Value → Option Value → Pt → Prop} (hK : Back l R p e below s args y 3 W9 Pre Post)
    {b : Addr} {cellB : Cell} (hcell : T.heap[b]? = some cellB) (hobj : cellB.vm.isStatics = false) (hcls : s.vm.findClass C = some cellB.cls)
    {g : JFrame} (hg : g.method = m) (hsize : g.locals.size = c.maxLocals) {argsL rest : List Value} (hlen : ∀ sig, parseMethodDescriptor y.desc = some sig → argsL.length = sig.parameters.length)
    (hstack : g.stack = argsL.reverse ++ .ref b :: rest) (hW : 2 * g.monitorRoom + (rest.map fun v => v.category).sum ≤ W9) (hdg : decode c.code g.pc = .ok (.invokevirtual index, 3))
    (hpre : ∀ vm₁, s.WarmedH vm₁ → Pre ⟨T.setVm vm₁, locs, cells, slots⟩ (Value.ref b :: argsL).toArray) :
    ∃ (v : Option Value) (vm₁ : Vm) (B : Pt), s.WarmedH vm₁ ∧ Stand p l e R s m args below meth c B.U B.locs B.cells B.slots ∧ Post ⟨T.setVm vm₁, locs, cells, slots⟩ (Value.ref b :: argsL).toArray v B ∧
      ∀ target, Steps p.tables e below (B.U.setTop { g with pc := g.pc + 3, stack := v.toList ++ rest }) target → Steps p.tables e below (T.setTop g) target := by
  obtain ⟨mk, methM, hnamed, hmethM, hstM, habM⟩ := Cond.instanceMethod_spec hinst
  obtain ⟨m8, methM', cM, hn8, hmethM', -, -, -, -, -, -, hsigM⟩ := Cond.codeWith_spec hcode
  cases Option.some.inj (hn8.symm.trans hnamed)
  cases hmethM.symm.trans hmethM'
  obtain ⟨c2, r2, m2, q1, q2, q3, q4, kP, hkP, hkPi⟩ := Cond.selects_spec hsel
  cases hcls.symm.trans q1
  cases (State.methodFound?_of_named hnamed hy).symm.trans q2
  cases hnamed.symm.trans q3
  have hselP : selectMethod e.platform s.vm cellB.cls mk = .method mk := by rw [Launch.admits_selectMethod X.admits]; exact q4
  obtain ⟨vm₁, X₁, hstep₁⟩ := X.invokevirtual hexec hown hlink hnamed hmethM hstM hkP hkPi hy (a := b) (cell := cellB) hcell
    (fun z h => by rw [h] at hobj; cases hobj) hselP hmethM habM hkP hkPi (g := g) hg (argsL := argsL) (rest := rest) (hlen _ hsigM) hstack hdg
  obtain ⟨v, B, X', hpost, hsteps⟩ := hK m meth c ⟨T.setVm vm₁, locs, cells, slots⟩ { g with stack := rest } (.invokevirtual index) mk (Value.ref b :: argsL).toArray X₁ hg hsize hdg hW (X₁.named hnamed) (hpre vm₁ X₁.warmed)
  exact ⟨v, vm₁, B, X₁.warmed, X', hpost, fun target h => hstep₁ _ fun acts => by rw [doInvoke_state]; exact hsteps.trans h⟩
abbrev vx_CVW (R : Room) (s : State) (args : Array Value) (own C : String) (index : Nat) (y : MethodName) (bytes : ByteArray) (maxL : Nat) (ret : Option FieldType) (hh : List (Nat × Nat × Nat × Nat)) (ws : List Cond) (rm : Room) (mc ms n : Nat) : Prop :=
  (rm.cells = mc ∧ rm.slots = ms ∧ rm.frames + 1 ≤ R.frames ∧ 8 + (maxL + 11) + rm.locals ≤ R.locals ∧ (∀ w ∈ ws, ∀ (a' : Array Value) (U : State), s.WarmedH U.vm → w.before a' U = true) ∧ Cond.codeWith y bytes maxL ret hh ∈ ws) ∧
  (Cond.codeWith y bytes maxL ret hh).before args s = true ∧ (Cond.initialized y.cls).before args s = true ∧ (y.cls ≠ "java/lang/invoke/MethodHandle" ∧ y.cls ≠ "java/lang/invoke/VarHandle") ∧
  (∀ sig, parseMethodDescriptor y.desc = some sig → n = sig.parameters.length) ∧ (Cond.methodLink own index y).before args s = true ∧ (Cond.instanceMethod y).before args s = true ∧ (Cond.selects C y y).before args s = true
theorem vx_cwVW {own C : String} {index maxL mc ms : Nat} {y : MethodName} {bytes : ByteArray} {ret : Option FieldType} {hh : List (Nat × Nat × Nat × Nat)} {Ts ws ws' : List Cond} {rm : Room} (n : Nat) (ht : ∀ w ∈ Ts, w.before args s = true) (hT : GoodIn Ts (wsV own index C y ws)) (hw : ws = Cond.codeWith y bytes maxL ret hh :: ws') (hrc : rm.cells = mc) (hrs : rm.slots = ms)
    (hd : y.cls = C ∧ y.cls ≠ "java/lang/invoke/MethodHandle" ∧ y.cls ≠ "java/lang/invoke/VarHandle" ∧ (parseMethodDescriptor y.desc).map (fun d => d.parameters.length) = some n) (hR : rm.frames + 1 ≤ R.frames ∧ 8 + (maxL + 11) + rm.locals ≤ R.locals) :
    vx_CVW R s args own C index y bytes maxL ret hh ws rm mc ms n := by
  obtain ⟨hC, hd⟩ := hd
  subst hC
  have ok : ∀ w ∈ wsV own index y.cls y ws, w.before args s = true := fun w h => ht w (hT w h).1
  have hG : GoodIn Ts ws := fun w h => hT w (by unfold wsV; exact List.mem_append_right _ h)
  have hc : Cond.codeWith y bytes maxL ret hh ∈ ws := by rw [hw]; exact List.mem_cons_self
  refine ⟨⟨hrc, hrs, hR.1, hR.2, pay_in ht hG, hc⟩, ht _ (hG _ hc).1, ok _ (by simp [wsV]), ⟨hd.1, hd.2.1⟩, fun sig h => ?_, ok _ (by simp [wsV]), ok _ (by simp [wsV]), ok _ (by simp [wsV])⟩
  have h2 := hd.2.2
  rw [h] at h2
  exact (Option.some.inj h2).symm
theorem vx_runVW {y : MethodName} {bytes cc : ByteArray} {maxL nL mc ms n index : Nat} {ret : Option FieldType} {hh : List (Nat × Nat × Nat × Nat)} {ws : List Cond} {rm : Room} {Pc : Array Value → State → Prop} {Qc : Array Value → State → Outcome → State → Prop} {free : Addr → Prop} {Ts : List Cond} {own C : String} {b : Addr} {As rest : List Value} {g : JFrame}
    (S : CallFix p m c cc nL s args Ts own) (hM : Met l y ws rm Pc Qc mc ms free) (cw : vx_CVW R s args own C index y bytes maxL ret hh ws rm mc ms n) (hp : PreV s H C b Pc As)
    (hg : g.method = m) (hn : As.length = n) (hsize : g.locals.size = nL) (hstack : g.stack = As.reverse ++ .ref b :: rest) (hW : 2 * g.monitorRoom + (rest.map fun v => v.category).sum ≤ 8) (hdg : decode cc g.pc = .ok (.invokevirtual index, 3)) (hf : cells + mc ≤ R.cells ∧ slots + ms ≤ R.slots) :
    va_Run p l e R s m args below meth c H locs cells slots mc ms g rest (Qc (Value.ref b :: As).toArray) free := by
  obtain ⟨⟨hrc, hrs, hfr, hlo, hws, hcw⟩, hcode, hini, hy, hlen, hl, hin, hse⟩ := cw
  have hK : Back l R p e below s args y 3 8 (PreOf R mc ms Pc) (PostOf Qc mc ms free) := va_backW (hh := hh) (bytes := bytes) (maxL := maxL) (ret := ret) hM hp.1 hrc hrs hfr hlo hws hcw (fun a' U hW => word_at hW (Or.inl (by first | rfl | simp [Cond.onTables, Cond.keeps, Cond.steady])) hini)
  obtain ⟨hx, hb, hml, ho, -⟩ := S
  obtain ⟨-, ⟨cellB, hcB, hoB, hclB⟩, hPc⟩ := hp
  intro T hT X
  obtain ⟨v, vm₁, ⟨U', l2, c2, s2⟩, hW₁, X', ⟨g', mk, t, L, e1, e2, hq, h1, hL, h2, h3⟩, st⟩ := vx_callVW X hx (C := C) (hh := hh) (bytes := bytes) (maxL := maxL) (ret := ret) ho hl hin hse hcode hy hK (by rw [hT]; exact hcB) hoB hclB hg (hsize.trans hml.symm) (argsL := As) (rest := rest) (fun sig h => hn.trans (hlen sig h)) hstack hW (by rw [hb]; exact hdg)
    (fun vm₁ hW₁ => ⟨hf.1, hf.2, hPc (T.setVm vm₁) hT hW₁⟩)
  dsimp only [Pt.U, Pt.locs, Pt.cells, Pt.slots] at X' e1 e2 h1 h2 h3 st
  subst h1; subst h2; subst h3
  exact ⟨v, (T.setVm vm₁).calling g' mk (Value.ref b :: As).toArray, t, U', L, hT, X', hL, e1, e2, hq, st⟩
section
variable {y : MethodName} {bytes cc : ByteArray} {maxL nL mc ms n index : Nat} {ret : Option FieldType} {ws : List Cond} {rm : Room} {Pc : Array Value → State → Prop} {Qc : Array Value → State → Outcome → State → Prop} {XC : String → State → State → Prop} {free : Addr → Prop} {Ts : List Cond} {own C : String} {b : Addr} {As rest : List Value} {g : JFrame}
theorem vx_runVX {hh : List (Nat × Nat × Nat × Nat)} (S : CallFix p m c cc nL s args Ts own) (hM : vx_Met l y ws rm Pc Qc XC mc ms free) (cw : vx_CVW R s args own C index y bytes maxL ret hh ws rm mc ms n) (hp : PreV s H C b Pc As)
    (hg : g.method = m) (hn : As.length = n) (hsize : g.locals.size = nL) (hstack : g.stack = As.reverse ++ .ref b :: rest) (hW : 2 * g.monitorRoom + (rest.map fun v => v.category).sum ≤ 8) (hdg : decode cc g.pc = .ok (.invokevirtual index, 3)) (hf : cells + mc ≤ R.cells ∧ slots + ms ≤ R.slots) :
    vx_Run p l e R s m args below meth c H locs cells slots mc ms g rest (Qc (Value.ref b :: As).toArray) XC free := by
  obtain ⟨⟨hrc, hrs, hfr, hlo, hws, hcw⟩, hcode, hini, hy, hlen, hl, hin, hse⟩ := cw
  have hK : vx_Back l R p e below s args y 3 8 (PreOf R mc ms Pc) (PostOf Qc mc ms free) (vx_Post XC mc ms free) := vx_backW (hh := hh) (bytes := bytes) (maxL := maxL) (ret := ret) hM hp.1 hrc hrs hfr hlo hws hcw (fun a' U hW => word_at hW (Or.inl (by first | rfl | simp [Cond.onTables, Cond.keeps, Cond.steady])) hini)
  obtain ⟨hx, hb, hml, ho, -⟩ := S
  obtain ⟨-, ⟨cellB, hcB, hoB, hclB⟩, hPc⟩ := hp
  intro T hT X
  rcases vx_callVX X hx (C := C) (hh := hh) (bytes := bytes) (maxL := maxL) (ret := ret) ho hl hin hse hcode hy hK (by rw [hT]; exact hcB) hoB hclB hg (hsize.trans hml.symm) (argsL := As) (rest := rest) (fun sig h => hn.trans (hlen sig h)) hstack hW (by rw [hb]; exact hdg)
    (fun vm₁ hW₁ => ⟨hf.1, hf.2, hPc (T.setVm vm₁) hT hW₁⟩) with ⟨v, vm₁, ⟨U', l2, c2, s2⟩, hW₁, X', ⟨g', mk, t, L, e1, e2, hq, h1, hL, h2, h3⟩, st⟩ | ⟨q, vm₁, ⟨U', l2, c2, s2⟩, hW₁, X', ⟨g', mk, t, L, E, ce, e1, e2, hq, hce, hcv, hcl, h1, hL, h2, h3⟩, st⟩
  · dsimp only [Pt.U, Pt.locs, Pt.cells, Pt.slots] at X' e1 e2 h1 h2 h3 st
    subst h1; subst h2; subst h3
    exact Or.inl ⟨v, (T.setVm vm₁).calling g' mk (Value.ref b :: As).toArray, t, U', L, hT, X', hL, e1, e2, hq, st⟩
  · dsimp only [Pt.U, Pt.locs, Pt.cells, Pt.slots] at X' e1 e2 h1 h2 h3 st hcl
    subst h1; subst h2; subst h3
    exact Or.inr ⟨q, (T.setVm vm₁).calling g' mk (Value.ref b :: As).toArray, t, U', L, E, ce, hT, X', hL, e1, e2, hq, hce, hcv, vx_cls hW₁ hcl, st⟩
theorem vx_runSX {hh : List (Nat × Nat × Nat × Nat)} (S : CallFix p m c cc nL s args Ts own) (hM : vx_Met l y ws rm Pc Qc XC mc ms free) (cw : vx_CSW R s args own index y bytes maxL ret hh ws rm mc ms n) (hp : PreS s H Pc As)
    (hg : g.method = m) (hn : As.length = n) (hsize : g.locals.size = nL) (hstack : g.stack = As.reverse ++ rest) (hW : 2 * g.monitorRoom + (rest.map fun v => v.category).sum ≤ 8) (hdg : decode cc g.pc = .ok (.invokestatic index, 3)) (hf : cells + mc ≤ R.cells ∧ slots + ms ≤ R.slots) :
    vx_Run p l e R s m args below meth c H locs cells slots mc ms g rest (Qc As.toArray) XC free := by
  obtain ⟨⟨hrc, hrs, hfr, hlo, hws, hcw⟩, hcode, hini, hy, hlen, hl, hstt⟩ := cw
  have hK : vx_Back l R p e below s args y 3 8 (PreOf R mc ms Pc) (PostOf Qc mc ms free) (vx_Post XC mc ms free) := vx_backW (hh := hh) (bytes := bytes) (maxL := maxL) (ret := ret) hM hp.1 hrc hrs hfr hlo hws hcw (fun a' U hW => word_at hW (Or.inl (by first | rfl | simp [Cond.onTables, Cond.keeps, Cond.steady])) hini)
  obtain ⟨hx, hb, hml, ho, -⟩ := S
  intro T hT X
  rcases vx_callSX X hx (hh := hh) (bytes := bytes) (maxL := maxL) (ret := ret) ho hl hstt hini hcode hy hK hg (hsize.trans hml.symm) (argsL := As) (rest := rest) (fun sig h => hn.trans (hlen sig h)) hstack hW (by rw [hb]; exact hdg)
    (fun vm₁ hW₁ => ⟨hf.1, hf.2, hp.2 (T.setVm vm₁) hT hW₁⟩) with ⟨v, vm₁, ⟨U', l2, c2, s2⟩, hW₁, X', ⟨g', mk, t, L, e1, e2, hq, h1, hL, h2, h3⟩, st⟩ | ⟨q, vm₁, ⟨U', l2, c2, s2⟩, hW₁, X', ⟨g', mk, t, L, E, ce, e1, e2, hq, hce, hcv, hcl, h1, hL, h2, h3⟩, st⟩
  · dsimp only [Pt.U, Pt.locs, Pt.cells, Pt.slots] at X' e1 e2 h1 h2 h3 st
    subst h1; subst h2; subst h3
    exact Or.inl ⟨v, (T.setVm vm₁).calling g' mk As.toArray, t, U', L, hT, X', hL, e1, e2, hq, st⟩
  · dsimp only [Pt.U, Pt.locs, Pt.cells, Pt.slots] at X' e1 e2 h1 h2 h3 st hcl
    subst h1; subst h2; subst h3
    exact Or.inr ⟨q, (T.setVm vm₁).calling g' mk As.toArray, t, U', L, E, ce, hT, X', hL, e1, e2, hq, hce, hcv, vx_cls hW₁ hcl, st⟩
end
end VXH
theorem vx_ofWH {l : Launch} {y : MethodName} {ws ws' : List Cond} {rm : Room} {Pc : Array Value → State → Prop} {Qc : Array Value → State → Outcome → State → Prop} {XC : String → State → State → Prop} {mc ms : Nat} {free : Addr → Prop} {cc : ByteArray} {maxL : Nat} {ret : Option FieldType} {hh : List (Nat × Nat × Nat × Nat)}
    (hy : plainName y.cls = true) (hw : ws = Cond.codeWith y cc maxL ret hh :: ws')
    (body : ∀ p e s m args below meth c s₁, BodyLoose p l y (headSpec ws rm) cc maxL ret e s m args below meth c s₁ → c.maxLocals = maxL → Pc args s →
      W p l e (headSpec ws rm).room s m args below meth c s.heap [] 0 0 (vx_MQ below Qc XC args s mc ms free) (entryFrame m args maxL)) : vx_Met l y ws rm Pc Qc XC mc ms free := by
  refine MetFree.of_bodyS (code := cc) (maxLocals := maxL) (ret := ret) hy ?_ ?_
  · intro args s m h hn
    obtain ⟨m9, meth, c, hn9, h1, h2, h3, h4, -, h5, h6, -⟩ := Cond.codeWith_spec (atoms_spec (ws := ws) h _ (by rw [hw]; exact List.mem_cons_self))
    cases hn.symm.trans hn9
    exact ⟨meth, c, h1, h2, h3, h4, h5, h6⟩
  · intro p e s m args below meth c s₁ B hml hP _
    have hh0 : s₁.heap = s.heap := by rw [B.state]; rfl
    obtain ⟨t, a1, o, b1, b2, b3⟩ := body p e s m args below meth c s₁ B hml hP s₁ hh0 (Stand.of_body B)
    exact ⟨t, o, a1, b1, b2, b3⟩
/-! ===== END ===== -/
end
section
/-! ===== BEGIN printed: names, fields, word lists, decode rows ===== -/
def RX0 : String := "SlittingOffice$Coil"
def TX0 : u_T := fun k => match k with
  | 0 => ("SlittingOffice$Coil", "width", "I", false)
  | 1 => ("SlittingOffice$Coil", "weight", "I", false)
  | 2 => ("SlittingOffice$Coil", "length", "I", false)
  | 3 => ("SlittingOffice$Coil", "heat", "I", false)
  | 4 => ("SlittingOffice$Coil", "defectFroms", "[I", true)
  | 5 => ("SlittingOffice$Coil", "defectTos", "[I", true)
  | 6 => ("SlittingOffice$Coil", "defectCount", "I", false)
  | 7 => ("SlittingOffice$Coil", "slitWidths", "[I", true)
  | 8 => ("SlittingOffice$Coil", "slitWeights", "[I", true)
  | 9 => ("SlittingOffice$Coil", "slitOrders", "[I", true)
  | 10 => ("SlittingOffice$Coil", "slitCount", "I", false)
  | 11 => ("SlittingOffice$Coil", "innerTurns", "I", false)
  | 12 => ("SlittingOffice$Coil", "cutOut", "I", false)
  | _ => ("SlittingOffice$Coil", "trim", "I", false)
def tyX0 : Nat → FieldType := fun k => match k with
  | 0 => .int
  | 1 => .int
  | 2 => .int
  | 3 => .int
  | 4 => .array .int
  | 5 => .array .int
  | 6 => .int
  | 7 => .array .int
  | 8 => .array .int
  | 9 => .array .int
  | 10 => .int
  | 11 => .int
  | 12 => .int
  | _ => .int
abbrev wsX00 : List Cond := u_ws RX0 TX0 14
theorem nmX0 : ∀ a, a < 14 → ∀ b, b < 14 → a ≠ b → (TX0 a).2.1 ≠ (TX0 b).2.1 := by decide +kernel
theorem tyX0_ok : ∀ k, k < 14 → parseFieldDescriptor (TX0 k).2.2.1 = some (tyX0 k) := by decide +kernel
abbrev cX0_init : ByteArray := prog_2_method_1_code
def yX0_init : MethodName := ⟨RX0, "<init>", "()V"⟩
abbrev cX0_describe : ByteArray := prog_2_method_2_code
def yX0_describe : MethodName := ⟨RX0, "describe", "(IIII)V"⟩
abbrev cX0_isSlit : ByteArray := prog_2_method_3_code
def yX0_isSlit : MethodName := ⟨RX0, "isSlit", "()Z"⟩
abbrev cX0_hasSlitAt : ByteArray := prog_2_method_4_code
def yX0_hasSlitAt : MethodName := ⟨RX0, "hasSlitAt", "(I)Z"⟩
abbrev cX0_hasMostDefects : ByteArray := prog_2_method_5_code
def yX0_hasMostDefects : MethodName := ⟨RX0, "hasMostDefects", "()Z"⟩
abbrev cX0_addDefect : ByteArray := prog_2_method_6_code
def yX0_addDefect : MethodName := ⟨RX0, "addDefect", "(II)V"⟩
abbrev cX0_cutOutLength : ByteArray := prog_2_method_7_code
def yX0_cutOutLength : MethodName := ⟨RX0, "cutOutLength", "()I"⟩
abbrev cX0_slitBy : ByteArray := prog_2_method_8_code
def yX0_slitBy : MethodName := ⟨RX0, "slitBy", "(LSlittingOffice$Pattern;I)V"⟩
abbrev cX0_stockOf : ByteArray := prog_2_method_9_code
def yX0_stockOf : MethodName := ⟨RX0, "stockOf", "(I)I"⟩
abbrev cX0_share : ByteArray := prog_2_method_10_code
def yX0_share : MethodName := ⟨RX0, "share", "(III)I"⟩
def RX1 : String := "SlittingOffice$Filling"
def TX1 : u_T := fun k => match k with
  | 0 => ("SlittingOffice$Filling", "widths", "[I", true)
  | 1 => ("SlittingOffice$Filling", "widthCount", "I", false)
  | _ => ("SlittingOffice$Filling", "fewestSlits", "[I", true)
def tyX1 : Nat → FieldType := fun k => match k with
  | 0 => .array .int
  | 1 => .int
  | _ => .array .int
abbrev wsX10 : List Cond := u_ws RX1 TX1 3
theorem nmX1 : ∀ a, a < 3 → ∀ b, b < 3 → a ≠ b → (TX1 a).2.1 ≠ (TX1 b).2.1 := by decide +kernel
theorem tyX1_ok : ∀ k, k < 3 → parseFieldDescriptor (TX1 k).2.2.1 = some (tyX1 k) := by decide +kernel
abbrev cX1_init : ByteArray := prog_3_method_1_code
def yX1_init : MethodName := ⟨RX1, "<init>", "()V"⟩
abbrev cX1_forgetWidths : ByteArray := prog_3_method_2_code
def yX1_forgetWidths : MethodName := ⟨RX1, "forgetWidths", "()V"⟩
abbrev cX1_offerWidth : ByteArray := prog_3_method_3_code
def yX1_offerWidth : MethodName := ⟨RX1, "offerWidth", "(I)V"⟩
abbrev cX1_greatestTotal : ByteArray := prog_3_method_4_code
def yX1_greatestTotal : MethodName := ⟨RX1, "greatestTotal", "(II)I"⟩
abbrev cX1_fewestSlitsFor : ByteArray := prog_3_method_5_code
def yX1_fewestSlitsFor : MethodName := ⟨RX1, "fewestSlitsFor", "(I)I"⟩
abbrev cX1_layOut : ByteArray := prog_3_method_6_code
def yX1_layOut : MethodName := ⟨RX1, "layOut", "(ILSlittingOffice$Pattern;)V"⟩
abbrev cX1_greatestBefore : ByteArray := prog_3_method_7_code
def yX1_greatestBefore : MethodName := ⟨RX1, "greatestBefore", "(II)I"⟩
abbrev cX1_greatestTotalByTrying : ByteArray := prog_3_method_8_code
def yX1_greatestTotalByTrying : MethodName := ⟨RX1, "greatestTotalByTrying", "(II)I"⟩
abbrev cX1_tryFrom : ByteArray := prog_3_method_9_code
def yX1_tryFrom : MethodName := ⟨RX1, "tryFrom", "([IIIII)I"⟩
def RX2 : String := "SlittingOffice$Order"
def TX2 : u_T := fun k => match k with
  | 0 => ("SlittingOffice$Order", "width", "I", false)
  | 1 => ("SlittingOffice$Order", "weight", "I", false)
  | 2 => ("SlittingOffice$Order", "received", "I", false)
  | _ => ("SlittingOffice$Order", "heat", "I", false)
def tyX2 : Nat → FieldType := fun k => match k with
  | 0 => .int
  | 1 => .int
  | 2 => .int
  | _ => .int
abbrev wsX20 : List Cond := u_ws RX2 TX2 4
theorem nmX2 : ∀ a, a < 4 → ∀ b, b < 4 → a ≠ b → (TX2 a).2.1 ≠ (TX2 b).2.1 := by decide +kernel
theorem tyX2_ok : ∀ k, k < 4 → parseFieldDescriptor (TX2 k).2.2.1 = some (tyX2 k) := by decide +kernel
abbrev cX2_init : ByteArray := prog_4_method_1_code
def yX2_init : MethodName := ⟨RX2, "<init>", "()V"⟩
abbrev cX2_describe : ByteArray := prog_4_method_2_code
def yX2_describe : MethodName := ⟨RX2, "describe", "(II)V"⟩
abbrev cX2_wouldTakeHeat : ByteArray := prog_4_method_3_code
def yX2_wouldTakeHeat : MethodName := ⟨RX2, "wouldTakeHeat", "(I)Z"⟩
abbrev cX2_receive : ByteArray := prog_4_method_4_code
def yX2_receive : MethodName := ⟨RX2, "receive", "(II)V"⟩
def RX3 : String := "SlittingOffice$Pattern"
def TX3 : u_T := fun k => match k with
  | 0 => ("SlittingOffice$Pattern", "widths", "[I", true)
  | _ => ("SlittingOffice$Pattern", "count", "I", false)
def tyX3 : Nat → FieldType := fun k => match k with
  | 0 => .array .int
  | _ => .int
abbrev wsX30 : List Cond := u_ws RX3 TX3 2
theorem nmX3 : ∀ a, a < 2 → ∀ b, b < 2 → a ≠ b → (TX3 a).2.1 ≠ (TX3 b).2.1 := by decide +kernel
theorem tyX3_ok : ∀ k, k < 2 → parseFieldDescriptor (TX3 k).2.2.1 = some (tyX3 k) := by decide +kernel
abbrev cX3_init : ByteArray := prog_5_method_1_code
def yX3_init : MethodName := ⟨RX3, "<init>", "()V"⟩
abbrev cX3_isFull : ByteArray := prog_5_method_2_code
def yX3_isFull : MethodName := ⟨RX3, "isFull", "()Z"⟩
abbrev cX3_hasSlitAt : ByteArray := prog_5_method_3_code
def yX3_hasSlitAt : MethodName := ⟨RX3, "hasSlitAt", "(I)Z"⟩
abbrev cX3_empty : ByteArray := prog_5_method_4_code
def yX3_empty : MethodName := ⟨RX3, "empty", "()V"⟩
abbrev cX3_append : ByteArray := prog_5_method_5_code
def yX3_append : MethodName := ⟨RX3, "append", "(I)V"⟩
abbrev cX3_becomeCopyOf : ByteArray := prog_5_method_6_code
def yX3_becomeCopyOf : MethodName := ⟨RX3, "becomeCopyOf", "(LSlittingOffice$Pattern;)V"⟩
abbrev cX3_totalWidth : ByteArray := prog_5_method_7_code
def yX3_totalWidth : MethodName := ⟨RX3, "totalWidth", "()I"⟩
abbrev cX3_knivesNeeded : ByteArray := prog_5_method_8_code
def yX3_knivesNeeded : MethodName := ⟨RX3, "knivesNeeded", "()I"⟩
abbrev cX3_knivesNotIn : ByteArray := prog_5_method_9_code
def yX3_knivesNotIn : MethodName := ⟨RX3, "knivesNotIn", "(LSlittingOffice$Pattern;)I"⟩
abbrev cX3_hasKnifeAt : ByteArray := prog_5_method_10_code
def yX3_hasKnifeAt : MethodName := ⟨RX3, "hasKnifeAt", "(I)Z"⟩
def RX4 : String := "SlittingOffice$RunOrder"
def TX4 : u_T := fun k => match k with
  | 0 => ("SlittingOffice$RunOrder", "moves", "[[I", true)
  | 1 => ("SlittingOffice$RunOrder", "fewest", "[[I", true)
  | _ => ("SlittingOffice$RunOrder", "best", "[I", true)
def tyX4 : Nat → FieldType := fun k => match k with
  | 0 => .array (.array .int)
  | 1 => .array (.array .int)
  | _ => .array .int
abbrev wsX40 : List Cond := u_ws RX4 TX4 3
theorem nmX4 : ∀ a, a < 3 → ∀ b, b < 3 → a ≠ b → (TX4 a).2.1 ≠ (TX4 b).2.1 := by decide +kernel
theorem tyX4_ok : ∀ k, k < 3 → parseFieldDescriptor (TX4 k).2.2.1 = some (tyX4 k) := by decide +kernel
abbrev cX4_init : ByteArray := prog_6_method_1_code
def yX4_init : MethodName := ⟨RX4, "<init>", "()V"⟩
abbrev cX4_fewestBySets : ByteArray := prog_6_method_2_code
def yX4_fewestBySets : MethodName := ⟨RX4, "fewestBySets", "(I)I"⟩
abbrev cX4_fewestAfter : ByteArray := prog_6_method_3_code
def yX4_fewestAfter : MethodName := ⟨RX4, "fewestAfter", "(III)I"⟩
abbrev cX4_movesThrough : ByteArray := prog_6_method_4_code
def yX4_movesThrough : MethodName := ⟨RX4, "movesThrough", "(III)I"⟩
abbrev cX4_findBest : ByteArray := prog_6_method_5_code
def yX4_findBest : MethodName := ⟨RX4, "findBest", "(I)V"⟩
abbrev cX4_leastNext : ByteArray := prog_6_method_6_code
def yX4_leastNext : MethodName := ⟨RX4, "leastNext", "(III)I"⟩
abbrev cX4_fewestByOrders : ByteArray := prog_6_method_7_code
def yX4_fewestByOrders : MethodName := ⟨RX4, "fewestByOrders", "(I)I"⟩
abbrev cX4_tryOrders : ByteArray := prog_6_method_8_code
def yX4_tryOrders : MethodName := ⟨RX4, "tryOrders", "([[IIIII)I"⟩
abbrev cX4_holds : ByteArray := prog_6_method_9_code
def yX4_holds : MethodName := ⟨RX4, "holds", "(II)Z"⟩
abbrev cX4_without : ByteArray := prog_6_method_10_code
def yX4_without : MethodName := ⟨RX4, "without", "(II)I"⟩
def RX5 : String := "SlittingOffice"
def TX5 : u_T := fun k => match k with
  | 0 => ("SlittingOffice", "coils", "[LSlittingOffice$Coil;", true)
  | 1 => ("SlittingOffice", "coilCount", "I", false)
  | 2 => ("SlittingOffice", "orders", "[LSlittingOffice$Order;", true)
  | 3 => ("SlittingOffice", "orderCount", "I", false)
  | 4 => ("SlittingOffice", "patterns", "[LSlittingOffice$Pattern;", true)
  | 5 => ("SlittingOffice", "patternCount", "I", false)
  | 6 => ("SlittingOffice", "draft", "LSlittingOffice$Pattern;", true)
  | 7 => ("SlittingOffice", "edge", "I", false)
  | 8 => ("SlittingOffice", "loss", "I", false)
  | 9 => ("SlittingOffice", "knives", "I", false)
  | 10 => ("SlittingOffice", "setup", "I", false)
  | 11 => ("SlittingOffice", "movedKnives", "I", false)
  | 12 => ("SlittingOffice", "waitingCoils", "[I", true)
  | 13 => ("SlittingOffice", "waitingPatterns", "[I", true)
  | 14 => ("SlittingOffice", "waitingCount", "I", false)
  | 15 => ("SlittingOffice", "filling", "LSlittingOffice$Filling;", true)
  | _ => ("SlittingOffice", "runOrder", "LSlittingOffice$RunOrder;", true)
def tyX5 : Nat → FieldType := fun k => match k with
  | 0 => .array (.object "SlittingOffice$Coil")
  | 1 => .int
  | 2 => .array (.object "SlittingOffice$Order")
  | 3 => .int
  | 4 => .array (.object "SlittingOffice$Pattern")
  | 5 => .int
  | 6 => .object "SlittingOffice$Pattern"
  | 7 => .int
  | 8 => .int
  | 9 => .int
  | 10 => .int
  | 11 => .int
  | 12 => .array .int
  | 13 => .array .int
  | 14 => .int
  | 15 => .object "SlittingOffice$Filling"
  | _ => .object "SlittingOffice$RunOrder"
abbrev wsX50 : List Cond := u_ws RX5 TX5 17
theorem nmX5 : ∀ a, a < 17 → ∀ b, b < 17 → a ≠ b → (TX5 a).2.1 ≠ (TX5 b).2.1 := by decide +kernel
theorem tyX5_ok : ∀ k, k < 17 → parseFieldDescriptor (TX5 k).2.2.1 = some (tyX5 k) := by decide +kernel
abbrev cX5_init : ByteArray := prog_1_method_1_code
def yX5_init : MethodName := ⟨RX5, "<init>", "()V"⟩
abbrev cX5_coil : ByteArray := prog_1_method_2_code
def yX5_coil : MethodName := ⟨RX5, "coil", "(IIII)I"⟩
abbrev cX5_defect : ByteArray := prog_1_method_3_code
def yX5_defect : MethodName := ⟨RX5, "defect", "(III)I"⟩
abbrev cX5_setRules : ByteArray := prog_1_method_4_code
def yX5_setRules : MethodName := ⟨RX5, "setRules", "(III)I"⟩
abbrev cX5_order : ByteArray := prog_1_method_5_code
def yX5_order : MethodName := ⟨RX5, "order", "(II)I"⟩
abbrev cX5_addSlit : ByteArray := prog_1_method_6_code
def yX5_addSlit : MethodName := ⟨RX5, "addSlit", "(I)I"⟩
abbrev cX5_clearDraft : ByteArray := prog_1_method_7_code
def yX5_clearDraft : MethodName := ⟨RX5, "clearDraft", "()I"⟩
abbrev cX5_draftSlits : ByteArray := prog_1_method_8_code
def yX5_draftSlits : MethodName := ⟨RX5, "draftSlits", "()I"⟩
abbrev cX5_draftWidth : ByteArray := prog_1_method_9_code
def yX5_draftWidth : MethodName := ⟨RX5, "draftWidth", "(I)I"⟩
abbrev cX5_keep : ByteArray := prog_1_method_10_code
def yX5_keep : MethodName := ⟨RX5, "keep", "()I"⟩
abbrev cX5_fits : ByteArray := prog_1_method_11_code
def yX5_fits : MethodName := ⟨RX5, "fits", "(II)Z"⟩
abbrev cX5_fill : ByteArray := prog_1_method_12_code
def yX5_fill : MethodName := ⟨RX5, "fill", "(I)I"⟩
abbrev cX5_fullestByTrying : ByteArray := prog_1_method_13_code
def yX5_fullestByTrying : MethodName := ⟨RX5, "fullestByTrying", "(I)I"⟩
abbrev cX5_run : ByteArray := prog_1_method_14_code
def yX5_run : MethodName := ⟨RX5, "run", "(II)I"⟩
abbrev cX5_moves : ByteArray := prog_1_method_15_code
def yX5_moves : MethodName := ⟨RX5, "moves", "(I)I"⟩
abbrev cX5_moved : ByteArray := prog_1_method_16_code
def yX5_moved : MethodName := ⟨RX5, "moved", "()I"⟩
abbrev cX5_plan : ByteArray := prog_1_method_17_code
def yX5_plan : MethodName := ⟨RX5, "plan", "(II)I"⟩
abbrev cX5_waiting : ByteArray := prog_1_method_18_code
def yX5_waiting : MethodName := ⟨RX5, "waiting", "()I"⟩
abbrev cX5_fewestMoves : ByteArray := prog_1_method_19_code
def yX5_fewestMoves : MethodName := ⟨RX5, "fewestMoves", "()I"⟩
abbrev cX5_fewestByTrying : ByteArray := prog_1_method_20_code
def yX5_fewestByTrying : MethodName := ⟨RX5, "fewestByTrying", "()I"⟩
abbrev cX5_nextAt : ByteArray := prog_1_method_21_code
def yX5_nextAt : MethodName := ⟨RX5, "nextAt", "(I)I"⟩
abbrev cX5_runAll : ByteArray := prog_1_method_22_code
def yX5_runAll : MethodName := ⟨RX5, "runAll", "()I"⟩
abbrev cX5_slits : ByteArray := prog_1_method_23_code
def yX5_slits : MethodName := ⟨RX5, "slits", "(I)I"⟩
abbrev cX5_slitWeight : ByteArray := prog_1_method_24_code
def yX5_slitWeight : MethodName := ⟨RX5, "slitWeight", "(II)I"⟩
abbrev cX5_slitOrder : ByteArray := prog_1_method_25_code
def yX5_slitOrder : MethodName := ⟨RX5, "slitOrder", "(II)I"⟩
abbrev cX5_lost : ByteArray := prog_1_method_26_code
def yX5_lost : MethodName := ⟨RX5, "lost", "(II)I"⟩
abbrev cX5_delivered : ByteArray := prog_1_method_27_code
def yX5_delivered : MethodName := ⟨RX5, "delivered", "(I)I"⟩
abbrev cX5_heatOf : ByteArray := prog_1_method_28_code
def yX5_heatOf : MethodName := ⟨RX5, "heatOf", "(I)I"⟩
abbrev cX5_stock : ByteArray := prog_1_method_29_code
def yX5_stock : MethodName := ⟨RX5, "stock", "(I)I"⟩
abbrev cX5_requireRange : ByteArray := prog_1_method_30_code
def yX5_requireRange : MethodName := ⟨RX5, "requireRange", "(III)V"⟩
abbrev cX5_hasCoil : ByteArray := prog_1_method_31_code
def yX5_hasCoil : MethodName := ⟨RX5, "hasCoil", "(I)Z"⟩
abbrev cX5_hasPattern : ByteArray := prog_1_method_32_code
def yX5_hasPattern : MethodName := ⟨RX5, "hasPattern", "(I)Z"⟩
abbrev cX5_requireCoil : ByteArray := prog_1_method_33_code
def yX5_requireCoil : MethodName := ⟨RX5, "requireCoil", "(I)V"⟩
abbrev cX5_requirePattern : ByteArray := prog_1_method_34_code
def yX5_requirePattern : MethodName := ⟨RX5, "requirePattern", "(I)V"⟩
abbrev cX5_requireOrder : ByteArray := prog_1_method_35_code
def yX5_requireOrder : MethodName := ⟨RX5, "requireOrder", "(I)V"⟩
abbrev cX5_requireSlit : ByteArray := prog_1_method_36_code
def yX5_requireSlit : MethodName := ⟨RX5, "requireSlit", "(II)V"⟩
abbrev cX5_roomOf : ByteArray := prog_1_method_37_code
def yX5_roomOf : MethodName := ⟨RX5, "roomOf", "(LSlittingOffice$Coil;)I"⟩
abbrev cX5_canBeCutFrom : ByteArray := prog_1_method_38_code
def yX5_canBeCutFrom : MethodName := ⟨RX5, "canBeCutFrom", "(LSlittingOffice$Pattern;LSlittingOffice$Coil;)Z"⟩
abbrev cX5_offerWidthsFor : ByteArray := prog_1_method_39_code
def yX5_offerWidthsFor : MethodName := ⟨RX5, "offerWidthsFor", "(LSlittingOffice$Coil;)V"⟩
abbrev cX5_canBeRun : ByteArray := prog_1_method_40_code
def yX5_canBeRun : MethodName := ⟨RX5, "canBeRun", "(II)Z"⟩
abbrev cX5_slitCoil : ByteArray := prog_1_method_41_code
def yX5_slitCoil : MethodName := ⟨RX5, "slitCoil", "(II)I"⟩
abbrev cX5_deliverSlits : ByteArray := prog_1_method_42_code
def yX5_deliverSlits : MethodName := ⟨RX5, "deliverSlits", "(LSlittingOffice$Coil;)I"⟩
abbrev cX5_takerOf : ByteArray := prog_1_method_43_code
def yX5_takerOf : MethodName := ⟨RX5, "takerOf", "(II)I"⟩
abbrev cX5_movesBetween : ByteArray := prog_1_method_44_code
def yX5_movesBetween : MethodName := ⟨RX5, "movesBetween", "(II)I"⟩
abbrev cX5_coilWaits : ByteArray := prog_1_method_45_code
def yX5_coilWaits : MethodName := ⟨RX5, "coilWaits", "(I)Z"⟩
abbrev cX5_readMoves : ByteArray := prog_1_method_46_code
def yX5_readMoves : MethodName := ⟨RX5, "readMoves", "()V"⟩
def RX6 : String := "SlittingOfficeModel"
def TX6 : u_T := fun k => match k with
  | 0 => ("SlittingOfficeModel", "width", "[I", true)
  | 1 => ("SlittingOfficeModel", "weight", "[I", true)
  | 2 => ("SlittingOfficeModel", "length", "[I", true)
  | 3 => ("SlittingOfficeModel", "heat", "[I", true)
  | 4 => ("SlittingOfficeModel", "coils", "I", false)
  | 5 => ("SlittingOfficeModel", "from", "[I", true)
  | 6 => ("SlittingOfficeModel", "to", "[I", true)
  | 7 => ("SlittingOfficeModel", "defects", "[I", true)
  | 8 => ("SlittingOfficeModel", "edge", "I", false)
  | 9 => ("SlittingOfficeModel", "loss", "I", false)
  | 10 => ("SlittingOfficeModel", "knives", "I", false)
  | 11 => ("SlittingOfficeModel", "wants", "[I", true)
  | 12 => ("SlittingOfficeModel", "most", "[I", true)
  | 13 => ("SlittingOfficeModel", "got", "[I", true)
  | 14 => ("SlittingOfficeModel", "has", "[I", true)
  | 15 => ("SlittingOfficeModel", "orders", "I", false)
  | 16 => ("SlittingOfficeModel", "slit", "[I", true)
  | 17 => ("SlittingOfficeModel", "many", "[I", true)
  | 18 => ("SlittingOfficeModel", "patterns", "I", false)
  | 19 => ("SlittingOfficeModel", "by", "[I", true)
  | 20 => ("SlittingOfficeModel", "weighs", "[I", true)
  | 21 => ("SlittingOfficeModel", "went", "[I", true)
  | 22 => ("SlittingOfficeModel", "lost", "[I", true)
  | 23 => ("SlittingOfficeModel", "setup", "I", false)
  | 24 => ("SlittingOfficeModel", "moved", "I", false)
  | 25 => ("SlittingOfficeModel", "waitCoil", "[I", true)
  | 26 => ("SlittingOfficeModel", "waitPattern", "[I", true)
  | 27 => ("SlittingOfficeModel", "waiting", "I", false)
  | 28 => ("SlittingOfficeModel", "fewest", "[I", true)
  | 29 => ("SlittingOfficeModel", "rest", "[I", true)
  | 30 => ("SlittingOfficeModel", "next", "[I", true)
  | _ => ("SlittingOfficeModel", "thrown", "I", false)
def tyX6 : Nat → FieldType := fun k => match k with
  | 0 => .array .int
  | 1 => .array .int
  | 2 => .array .int
  | 3 => .array .int
  | 4 => .int
  | 5 => .array .int
  | 6 => .array .int
  | 7 => .array .int
  | 8 => .int
  | 9 => .int
  | 10 => .int
  | 11 => .array .int
  | 12 => .array .int
  | 13 => .array .int
  | 14 => .array .int
  | 15 => .int
  | 16 => .array .int
  | 17 => .array .int
  | 18 => .int
  | 19 => .array .int
  | 20 => .array .int
  | 21 => .array .int
  | 22 => .array .int
  | 23 => .int
  | 24 => .int
  | 25 => .array .int
  | 26 => .array .int
  | 27 => .int
  | 28 => .array .int
  | 29 => .array .int
  | 30 => .array .int
  | _ => .int
abbrev wsX60 : List Cond := u_ws RX6 TX6 32
theorem nmX6 : ∀ a, a < 32 → ∀ b, b < 32 → a ≠ b → (TX6 a).2.1 ≠ (TX6 b).2.1 := by decide +kernel
theorem tyX6_ok : ∀ k, k < 32 → parseFieldDescriptor (TX6 k).2.2.1 = some (tyX6 k) := by decide +kernel
abbrev cX6_init : ByteArray := prog_8_method_1_code
def yX6_init : MethodName := ⟨RX6, "<init>", "()V"⟩
abbrev cX6_thrown : ByteArray := prog_8_method_2_code
def yX6_thrown : MethodName := ⟨RX6, "thrown", "()I"⟩
abbrev cX6_in : ByteArray := prog_8_method_3_code
def yX6_in : MethodName := ⟨RX6, "in", "(III)Z"⟩
abbrev cX6_asked : ByteArray := prog_8_method_4_code
def yX6_asked : MethodName := ⟨RX6, "asked", "(Z)Z"⟩
abbrev cX6_asked_ : ByteArray := prog_8_method_5_code
def yX6_asked_ : MethodName := ⟨RX6, "asked", "(ZZ)Z"⟩
abbrev cX6_asked__ : ByteArray := prog_8_method_6_code
def yX6_asked__ : MethodName := ⟨RX6, "asked", "(ZZZ)Z"⟩
abbrev cX6_told : ByteArray := prog_8_method_7_code
def yX6_told : MethodName := ⟨RX6, "told", "(I)I"⟩
abbrev cX6_isCoil : ByteArray := prog_8_method_8_code
def yX6_isCoil : MethodName := ⟨RX6, "isCoil", "(I)Z"⟩
abbrev cX6_isPattern : ByteArray := prog_8_method_9_code
def yX6_isPattern : MethodName := ⟨RX6, "isPattern", "(I)Z"⟩
abbrev cX6_coil : ByteArray := prog_8_method_10_code
def yX6_coil : MethodName := ⟨RX6, "coil", "(IIII)I"⟩
abbrev cX6_cutOut : ByteArray := prog_8_method_11_code
def yX6_cutOut : MethodName := ⟨RX6, "cutOut", "(I)I"⟩
abbrev cX6_defect : ByteArray := prog_8_method_12_code
def yX6_defect : MethodName := ⟨RX6, "defect", "(III)I"⟩
abbrev cX6_setRules : ByteArray := prog_8_method_13_code
def yX6_setRules : MethodName := ⟨RX6, "setRules", "(III)I"⟩
abbrev cX6_order : ByteArray := prog_8_method_14_code
def yX6_order : MethodName := ⟨RX6, "order", "(II)I"⟩
abbrev cX6_drafts : ByteArray := prog_8_method_15_code
def yX6_drafts : MethodName := ⟨RX6, "drafts", "(I)V"⟩
abbrev cX6_addSlit : ByteArray := prog_8_method_16_code
def yX6_addSlit : MethodName := ⟨RX6, "addSlit", "(I)I"⟩
abbrev cX6_clearDraft : ByteArray := prog_8_method_17_code
def yX6_clearDraft : MethodName := ⟨RX6, "clearDraft", "()I"⟩
abbrev cX6_draftSlits : ByteArray := prog_8_method_18_code
def yX6_draftSlits : MethodName := ⟨RX6, "draftSlits", "()I"⟩
abbrev cX6_draftWidth : ByteArray := prog_8_method_19_code
def yX6_draftWidth : MethodName := ⟨RX6, "draftWidth", "(I)I"⟩
abbrev cX6_keep : ByteArray := prog_8_method_20_code
def yX6_keep : MethodName := ⟨RX6, "keep", "()I"⟩
abbrev cX6_canRun : ByteArray := prog_8_method_21_code
def yX6_canRun : MethodName := ⟨RX6, "canRun", "(II)Z"⟩
abbrev cX6_fits : ByteArray := prog_8_method_22_code
def yX6_fits : MethodName := ⟨RX6, "fits", "(II)Z"⟩
abbrev cX6_takes : ByteArray := prog_8_method_23_code
def yX6_takes : MethodName := ⟨RX6, "takes", "(II)Z"⟩
abbrev cX6_fullest : ByteArray := prog_8_method_24_code
def yX6_fullest : MethodName := ⟨RX6, "fullest", "(I)I"⟩
abbrev cX6_fill : ByteArray := prog_8_method_25_code
def yX6_fill : MethodName := ⟨RX6, "fill", "(I)I"⟩
abbrev cX6_fullestByTrying : ByteArray := prog_8_method_26_code
def yX6_fullestByTrying : MethodName := ⟨RX6, "fullestByTrying", "(I)I"⟩
abbrev cX6_isPosition : ByteArray := prog_8_method_27_code
def yX6_isPosition : MethodName := ⟨RX6, "isPosition", "(II)Z"⟩
abbrev cX6_movesFrom : ByteArray := prog_8_method_28_code
def yX6_movesFrom : MethodName := ⟨RX6, "movesFrom", "(II)I"⟩
abbrev cX6_runs : ByteArray := prog_8_method_29_code
def yX6_runs : MethodName := ⟨RX6, "runs", "(II)I"⟩
abbrev cX6_run : ByteArray := prog_8_method_30_code
def yX6_run : MethodName := ⟨RX6, "run", "(II)I"⟩
abbrev cX6_moves : ByteArray := prog_8_method_31_code
def yX6_moves : MethodName := ⟨RX6, "moves", "(I)I"⟩
abbrev cX6_moved : ByteArray := prog_8_method_32_code
def yX6_moved : MethodName := ⟨RX6, "moved", "()I"⟩
abbrev cX6_plan : ByteArray := prog_8_method_33_code
def yX6_plan : MethodName := ⟨RX6, "plan", "(II)I"⟩
abbrev cX6_waiting : ByteArray := prog_8_method_34_code
def yX6_waiting : MethodName := ⟨RX6, "waiting", "()I"⟩
abbrev cX6_between : ByteArray := prog_8_method_35_code
def yX6_between : MethodName := ⟨RX6, "between", "(II)I"⟩
abbrev cX6_best : ByteArray := prog_8_method_36_code
def yX6_best : MethodName := ⟨RX6, "best", "()I"⟩
abbrev cX6_fewestMoves : ByteArray := prog_8_method_37_code
def yX6_fewestMoves : MethodName := ⟨RX6, "fewestMoves", "()I"⟩
abbrev cX6_fewestByTrying : ByteArray := prog_8_method_38_code
def yX6_fewestByTrying : MethodName := ⟨RX6, "fewestByTrying", "()I"⟩
abbrev cX6_nextAt : ByteArray := prog_8_method_39_code
def yX6_nextAt : MethodName := ⟨RX6, "nextAt", "(I)I"⟩
abbrev cX6_runAll : ByteArray := prog_8_method_40_code
def yX6_runAll : MethodName := ⟨RX6, "runAll", "()I"⟩
abbrev cX6_slits : ByteArray := prog_8_method_41_code
def yX6_slits : MethodName := ⟨RX6, "slits", "(I)I"⟩
abbrev cX6_isSlit : ByteArray := prog_8_method_42_code
def yX6_isSlit : MethodName := ⟨RX6, "isSlit", "(II)Z"⟩
abbrev cX6_slitWeight : ByteArray := prog_8_method_43_code
def yX6_slitWeight : MethodName := ⟨RX6, "slitWeight", "(II)I"⟩
abbrev cX6_slitOrder : ByteArray := prog_8_method_44_code
def yX6_slitOrder : MethodName := ⟨RX6, "slitOrder", "(II)I"⟩
abbrev cX6_lost : ByteArray := prog_8_method_45_code
def yX6_lost : MethodName := ⟨RX6, "lost", "(II)I"⟩
abbrev cX6_isOrder : ByteArray := prog_8_method_46_code
def yX6_isOrder : MethodName := ⟨RX6, "isOrder", "(I)Z"⟩
abbrev cX6_delivered : ByteArray := prog_8_method_47_code
def yX6_delivered : MethodName := ⟨RX6, "delivered", "(I)I"⟩
abbrev cX6_heatOf : ByteArray := prog_8_method_48_code
def yX6_heatOf : MethodName := ⟨RX6, "heatOf", "(I)I"⟩
abbrev cX6_stock : ByteArray := prog_8_method_49_code
def yX6_stock : MethodName := ⟨RX6, "stock", "(I)I"⟩
def RJ9 : String := "java/lang/Math"
def TJ9 : u_T := fun k => match k with
  | _ => ("", "", "", false)
def tyJ9 : Nat → FieldType := fun k => match k with
  | _ => .int
abbrev wsJ90 : List Cond := u_ws RJ9 TJ9 0
theorem nmJ9 : ∀ a, a < 0 → ∀ b, b < 0 → a ≠ b → (TJ9 a).2.1 ≠ (TJ9 b).2.1 := by decide +kernel
theorem tyJ9_ok : ∀ k, k < 0 → parseFieldDescriptor (TJ9 k).2.2.1 = some (tyJ9 k) := by decide +kernel
abbrev cJ9_max_7cf53 : ByteArray := prog_13_method_65_code
def yJ9_max_7cf53 : MethodName := ⟨RJ9, "max", "(II)I"⟩
abbrev cJ9_min_7cf53 : ByteArray := prog_13_method_69_code
def yJ9_min_7cf53 : MethodName := ⟨RJ9, "min", "(II)I"⟩
def RJ0 : String := "java/lang/String"
def TJ0 : u_T := fun k => match k with
  | _ => ("", "", "", false)
def tyJ0 : Nat → FieldType := fun k => match k with
  | _ => .int
abbrev wsJ00 : List Cond := u_ws RJ0 TJ0 0
theorem nmJ0 : ∀ a, a < 0 → ∀ b, b < 0 → a ≠ b → (TJ0 a).2.1 ≠ (TJ0 b).2.1 := by decide +kernel
theorem tyJ0_ok : ∀ k, k < 0 → parseFieldDescriptor (TJ0 k).2.2.1 = some (tyJ0 k) := by decide +kernel
def RL : String := "SlittingOfficeLaw"
abbrev cL_coil : ByteArray := method_3_code
def yL_coil : MethodName := ⟨RL, "coil", "(LSlittingOffice;IIII[J)I"⟩
abbrev cL_defect : ByteArray := method_4_code
def yL_defect : MethodName := ⟨RL, "defect", "(LSlittingOffice;III[J)I"⟩
abbrev cL_setRules : ByteArray := method_5_code
def yL_setRules : MethodName := ⟨RL, "setRules", "(LSlittingOffice;III[J)I"⟩
abbrev cL_order : ByteArray := method_6_code
def yL_order : MethodName := ⟨RL, "order", "(LSlittingOffice;II[J)I"⟩
abbrev cL_addSlit : ByteArray := method_7_code
def yL_addSlit : MethodName := ⟨RL, "addSlit", "(LSlittingOffice;I[J)I"⟩
abbrev cL_draftWidth : ByteArray := method_8_code
def yL_draftWidth : MethodName := ⟨RL, "draftWidth", "(LSlittingOffice;I[J)I"⟩
abbrev cL_keep : ByteArray := method_9_code
def yL_keep : MethodName := ⟨RL, "keep", "(LSlittingOffice;[J)I"⟩
abbrev cL_fits : ByteArray := method_10_code
def yL_fits : MethodName := ⟨RL, "fits", "(LSlittingOffice;II[J)I"⟩
abbrev cL_fill : ByteArray := method_11_code
def yL_fill : MethodName := ⟨RL, "fill", "(LSlittingOffice;I[J)I"⟩
abbrev cL_fullestByTrying : ByteArray := method_12_code
def yL_fullestByTrying : MethodName := ⟨RL, "fullestByTrying", "(LSlittingOffice;I[J)I"⟩
abbrev cL_run : ByteArray := method_13_code
def yL_run : MethodName := ⟨RL, "run", "(LSlittingOffice;II[J)I"⟩
abbrev cL_moves : ByteArray := method_14_code
def yL_moves : MethodName := ⟨RL, "moves", "(LSlittingOffice;I[J)I"⟩
abbrev cL_plan : ByteArray := method_15_code
def yL_plan : MethodName := ⟨RL, "plan", "(LSlittingOffice;II[J)I"⟩
abbrev cL_nextAt : ByteArray := method_16_code
def yL_nextAt : MethodName := ⟨RL, "nextAt", "(LSlittingOffice;I[J)I"⟩
abbrev cL_slits : ByteArray := method_17_code
def yL_slits : MethodName := ⟨RL, "slits", "(LSlittingOffice;I[J)I"⟩
abbrev cL_slitWeight : ByteArray := method_18_code
def yL_slitWeight : MethodName := ⟨RL, "slitWeight", "(LSlittingOffice;II[J)I"⟩
abbrev cL_slitOrder : ByteArray := method_19_code
def yL_slitOrder : MethodName := ⟨RL, "slitOrder", "(LSlittingOffice;II[J)I"⟩
abbrev cL_lost : ByteArray := method_20_code
def yL_lost : MethodName := ⟨RL, "lost", "(LSlittingOffice;II[J)I"⟩
abbrev cL_delivered : ByteArray := method_21_code
def yL_delivered : MethodName := ⟨RL, "delivered", "(LSlittingOffice;I[J)I"⟩
abbrev cL_heatOf : ByteArray := method_22_code
def yL_heatOf : MethodName := ⟨RL, "heatOf", "(LSlittingOffice;I[J)I"⟩
abbrev cL_law : ByteArray := code
def yL_law : MethodName := ⟨RL, "law", "([I)Z"⟩
def wsJ9_max_7cf53 : List Cond := .code yJ9_max_7cf53 cJ9_max_7cf53 2 (some .int) :: ([])
def wsJ9_min_7cf53 : List Cond := .code yJ9_min_7cf53 cJ9_min_7cf53 2 (some .int) :: ([])
def wsL_law0_r1 : List Cond := [Cond.classLink RL 8 RX5, Cond.instantiable RX5 17, Cond.initialized RX5, Cond.classLink RL 82 RX6, Cond.instantiable RX6 32, Cond.initialized RX6, Cond.arrayClass .long, Cond.methodLink RL 81 yX5_init, Cond.instanceMethod yX5_init, Cond.code yX5_init cX5_init 2 none, Cond.methodLink RX5 1 objectInit, Cond.instanceMethod objectInit, Cond.code objectInit ⟨#[0xb1]⟩ 1 none, Cond.classLink RX5 9 RX0, Cond.fieldLink RX5 11 "SlittingOffice" "coils" "[LSlittingOffice$Coil;", Cond.fieldLink RX5 15 "SlittingOffice" "coilCount" "I", Cond.classLink RX5 19 RX2, Cond.fieldLink RX5 21 "SlittingOffice" "orders" "[LSlittingOffice$Order;", Cond.fieldLink RX5 25 "SlittingOffice" "orderCount" "I", Cond.classLink RX5 28 RX3, Cond.fieldLink RX5 30 "SlittingOffice" "patterns" "[LSlittingOffice$Pattern;", Cond.fieldLink RX5 34 "SlittingOffice" "patternCount" "I", Cond.instantiable RX3 2, Cond.initialized RX3]
def wsL_law0_r2 : List Cond := [Cond.fieldLink RX5 38 "SlittingOffice" "draft" "LSlittingOffice$Pattern;", Cond.fieldLink RX5 42 "SlittingOffice" "edge" "I", Cond.fieldLink RX5 45 "SlittingOffice" "loss" "I", Cond.fieldLink RX5 48 "SlittingOffice" "knives" "I", Cond.fieldLink RX5 51 "SlittingOffice" "setup" "I", Cond.fieldLink RX5 54 "SlittingOffice" "movedKnives" "I", Cond.arrayClass .int, Cond.fieldLink RX5 57 "SlittingOffice" "waitingCoils" "[I", Cond.fieldLink RX5 61 "SlittingOffice" "waitingPatterns" "[I", Cond.fieldLink RX5 64 "SlittingOffice" "waitingCount" "I", Cond.classLink RX5 67 RX1, Cond.instantiable RX1 3, Cond.initialized RX1, Cond.fieldLink RX5 70 "SlittingOffice" "filling" "LSlittingOffice$Filling;", Cond.classLink RX5 74 RX4, Cond.instantiable RX4 3, Cond.initialized RX4, Cond.fieldLink RX5 77 "SlittingOffice" "runOrder" "LSlittingOffice$RunOrder;", Cond.instantiable RX0 14, Cond.initialized RX0, Cond.instantiable RX2 4, Cond.initialized RX2, Cond.instanceMethod yX3_init, Cond.code yX3_init cX3_init 1 none]
def wsL_law0_r3 : List Cond := [Cond.methodLink RX3 3 objectInit, Cond.fieldLink RX3 9 "SlittingOffice$Pattern" "widths" "[I", Cond.fieldLink RX3 15 "SlittingOffice$Pattern" "count" "I", Cond.instanceMethod yX1_init, Cond.code yX1_init cX1_init 1 none, Cond.methodLink RX1 3 objectInit, Cond.fieldLink RX1 9 "SlittingOffice$Filling" "widths" "[I", Cond.fieldLink RX1 15 "SlittingOffice$Filling" "widthCount" "I", Cond.fieldLink RX1 19 "SlittingOffice$Filling" "fewestSlits" "[I", Cond.instanceMethod yX4_init, Cond.code yX4_init cX4_init 1 none, Cond.methodLink RX4 3 objectInit, Cond.classLink RX4 9 "[[I", Cond.fieldLink RX4 11 "SlittingOffice$RunOrder" "moves" "[[I", Cond.fieldLink RX4 16 "SlittingOffice$RunOrder" "fewest" "[[I", Cond.fieldLink RX4 19 "SlittingOffice$RunOrder" "best" "[I", Cond.instanceMethod yX0_init, Cond.code yX0_init cX0_init 1 none, Cond.methodLink RX0 3 objectInit, Cond.fieldLink RX0 9 "SlittingOffice$Coil" "width" "I", Cond.fieldLink RX0 15 "SlittingOffice$Coil" "weight" "I", Cond.fieldLink RX0 18 "SlittingOffice$Coil" "length" "I", Cond.fieldLink RX0 21 "SlittingOffice$Coil" "heat" "I", Cond.fieldLink RX0 24 "SlittingOffice$Coil" "defectFroms" "[I"]
def wsL_law0_r4 : List Cond := [Cond.fieldLink RX0 28 "SlittingOffice$Coil" "defectTos" "[I", Cond.fieldLink RX0 31 "SlittingOffice$Coil" "defectCount" "I", Cond.fieldLink RX0 34 "SlittingOffice$Coil" "slitWidths" "[I", Cond.fieldLink RX0 37 "SlittingOffice$Coil" "slitWeights" "[I", Cond.fieldLink RX0 40 "SlittingOffice$Coil" "slitOrders" "[I", Cond.fieldLink RX0 43 "SlittingOffice$Coil" "slitCount" "I", Cond.fieldLink RX0 46 "SlittingOffice$Coil" "innerTurns" "I", Cond.fieldLink RX0 49 "SlittingOffice$Coil" "cutOut" "I", Cond.fieldLink RX0 52 "SlittingOffice$Coil" "trim" "I", Cond.instanceMethod yX2_init, Cond.code yX2_init cX2_init 1 none, Cond.methodLink RX2 3 objectInit, Cond.fieldLink RX2 9 "SlittingOffice$Order" "width" "I", Cond.fieldLink RX2 15 "SlittingOffice$Order" "weight" "I", Cond.fieldLink RX2 18 "SlittingOffice$Order" "received" "I", Cond.fieldLink RX2 21 "SlittingOffice$Order" "heat" "I", Cond.methodLink RL 84 yX6_init, Cond.instanceMethod yX6_init, Cond.code yX6_init cX6_init 1 none, Cond.methodLink RX6 1 objectInit, Cond.fieldLink RX6 7 "SlittingOfficeModel" "width" "[I", Cond.fieldLink RX6 13 "SlittingOfficeModel" "weight" "[I", Cond.fieldLink RX6 16 "SlittingOfficeModel" "length" "[I", Cond.fieldLink RX6 19 "SlittingOfficeModel" "heat" "[I"]
def wsL_law0_r5 : List Cond := [Cond.fieldLink RX6 22 "SlittingOfficeModel" "from" "[I", Cond.fieldLink RX6 25 "SlittingOfficeModel" "to" "[I", Cond.fieldLink RX6 28 "SlittingOfficeModel" "defects" "[I", Cond.fieldLink RX6 31 "SlittingOfficeModel" "edge" "I", Cond.fieldLink RX6 35 "SlittingOfficeModel" "loss" "I", Cond.fieldLink RX6 38 "SlittingOfficeModel" "knives" "I", Cond.fieldLink RX6 41 "SlittingOfficeModel" "wants" "[I", Cond.fieldLink RX6 44 "SlittingOfficeModel" "most" "[I", Cond.fieldLink RX6 47 "SlittingOfficeModel" "got" "[I", Cond.fieldLink RX6 50 "SlittingOfficeModel" "has" "[I", Cond.fieldLink RX6 53 "SlittingOfficeModel" "slit" "[I", Cond.fieldLink RX6 56 "SlittingOfficeModel" "many" "[I", Cond.fieldLink RX6 59 "SlittingOfficeModel" "by" "[I", Cond.fieldLink RX6 62 "SlittingOfficeModel" "weighs" "[I", Cond.fieldLink RX6 65 "SlittingOfficeModel" "went" "[I", Cond.fieldLink RX6 68 "SlittingOfficeModel" "lost" "[I", Cond.fieldLink RX6 71 "SlittingOfficeModel" "setup" "I", Cond.fieldLink RX6 74 "SlittingOfficeModel" "waitCoil" "[I", Cond.fieldLink RX6 77 "SlittingOfficeModel" "waitPattern" "[I", Cond.fieldLink RX6 80 "SlittingOfficeModel" "fewest" "[I", Cond.fieldLink RX6 83 "SlittingOfficeModel" "rest" "[I", Cond.fieldLink RX6 86 "SlittingOfficeModel" "next" "[I", Cond.methodLink RL 85 yL_coil, Cond.static yL_coil]
def wsL_law0_r6 : List Cond := [Cond.initialized RL, Cond.codeWith yL_coil cL_coil 7 (some .int) [(0, 14, 17, 13), (0, 14, 21, 15)], Cond.classLink RL 13 "java/lang/IllegalArgumentException", Cond.classLink RL 15 "java/lang/IllegalStateException", Cond.methodLink RL 7 yX5_coil, Cond.instanceMethod yX5_coil, Cond.selects RX5 yX5_coil yX5_coil, Cond.code yX5_coil cX5_coil 5 (some .int), Cond.classLink RX5 87 "java/lang/IllegalStateException", Cond.initialized "java/lang/IllegalStateException", Cond.methodLink RX5 83 yX5_requireRange, Cond.static yX5_requireRange, Cond.code yX5_requireRange cX5_requireRange 3 none, Cond.classLink RX5 255 "java/lang/IllegalArgumentException", Cond.initialized "java/lang/IllegalArgumentException", Cond.instanceMethod yX0_describe, Cond.selects RX0 yX0_describe yX0_describe, Cond.code yX0_describe cX0_describe 5 none, Cond.methodLink RL 90 yX6_coil, Cond.instanceMethod yX6_coil, Cond.selects RX6 yX6_coil yX6_coil, Cond.code yX6_coil cX6_coil 6 (some .int), Cond.fieldLink RX6 92 "SlittingOfficeModel" "coils" "I", Cond.methodLink RX6 95 yX6_in]
def wsL_law0_r7 : List Cond := [Cond.static yX6_in, Cond.code yX6_in cX6_in 3 (some .boolean), Cond.methodLink RX6 102 yX6_asked_, Cond.instanceMethod yX6_asked_, Cond.selects RX6 yX6_asked_ yX6_asked_, Cond.code yX6_asked_ cX6_asked_ 3 (some .boolean), Cond.fieldLink RX6 89 "SlittingOfficeModel" "thrown" "I", Cond.methodLink RL 91 yX6_thrown, Cond.instanceMethod yX6_thrown, Cond.selects RX6 yX6_thrown yX6_thrown, Cond.code yX6_thrown cX6_thrown 1 (some .int), Cond.methodLink RL 94 yL_defect, Cond.static yL_defect, Cond.codeWith yL_defect cL_defect 6 (some .int) [(0, 12, 15, 21), (0, 12, 19, 13), (0, 12, 23, 15)], Cond.classLink RL 21 "java/lang/IndexOutOfBoundsException", Cond.methodLink RL 17 yX5_defect, Cond.instanceMethod yX5_defect, Cond.selects RX5 yX5_defect yX5_defect, Cond.code yX5_defect cX5_defect 5 (some .int), Cond.methodLink RX5 98 yX5_requireCoil, Cond.instanceMethod yX5_requireCoil, Cond.selects RX5 yX5_requireCoil yX5_requireCoil, Cond.code yX5_requireCoil cX5_requireCoil 2 none, Cond.classLink RX5 145 "java/lang/IndexOutOfBoundsException"]
def wsL_law0_r8 : List Cond := [Cond.initialized "java/lang/IndexOutOfBoundsException", Cond.methodLink RX5 260 yX5_hasCoil, Cond.instanceMethod yX5_hasCoil, Cond.selects RX5 yX5_hasCoil yX5_hasCoil, Cond.code yX5_hasCoil cX5_hasCoil 2 (some .boolean), Cond.instanceMethod yX0_isSlit, Cond.selects RX0 yX0_isSlit yX0_isSlit, Cond.code yX0_isSlit cX0_isSlit 1 (some .boolean), Cond.instanceMethod yX0_hasMostDefects, Cond.selects RX0 yX0_hasMostDefects yX0_hasMostDefects, Cond.code yX0_hasMostDefects cX0_hasMostDefects 1 (some .boolean), Cond.instanceMethod yX0_addDefect, Cond.selects RX0 yX0_addDefect yX0_addDefect, Cond.code yX0_addDefect cX0_addDefect 4 none, Cond.methodLink RX0 55 yX0_hasMostDefects, Cond.instanceMethod yX0_cutOutLength, Cond.selects RX0 yX0_cutOutLength yX0_cutOutLength, Cond.code yX0_cutOutLength cX0_cutOutLength 5 (some .int), Cond.methodLink RX0 59 Lib.Math.max.name, Cond.static Lib.Math.max.name, Cond.initialized "java/lang/Math", Cond.code Lib.Math.max.name Lib.Math.max.code 2 (some .int), Cond.methodLink RL 97 yX6_defect, Cond.instanceMethod yX6_defect]
def wsL_law0_r9 : List Cond := [Cond.selects RX6 yX6_defect yX6_defect, Cond.code yX6_defect cX6_defect 6 (some .int), Cond.methodLink RX6 106 yX6_isCoil, Cond.instanceMethod yX6_isCoil, Cond.selects RX6 yX6_isCoil yX6_isCoil, Cond.code yX6_isCoil cX6_isCoil 2 (some .boolean), Cond.methodLink RX6 110 yX6_asked__, Cond.instanceMethod yX6_asked__, Cond.selects RX6 yX6_asked__ yX6_asked__, Cond.code yX6_asked__ cX6_asked__ 4 (some .boolean), Cond.methodLink RX6 113 yX6_cutOut, Cond.instanceMethod yX6_cutOut, Cond.selects RX6 yX6_cutOut yX6_cutOut, Cond.code yX6_cutOut cX6_cutOut 6 (some .int), Cond.methodLink RL 98 yL_setRules, Cond.static yL_setRules, Cond.codeWith yL_setRules cL_setRules 6 (some .int) [(0, 12, 15, 13)], Cond.methodLink RL 23 yX5_setRules, Cond.instanceMethod yX5_setRules, Cond.selects RX5 yX5_setRules yX5_setRules, Cond.code yX5_setRules cX5_setRules 5 (some .int), Cond.methodLink RL 100 yX6_setRules, Cond.instanceMethod yX6_setRules, Cond.selects RX6 yX6_setRules yX6_setRules]
def wsL_law0_r10 : List Cond := [Cond.code yX6_setRules cX6_setRules 5 (some .int), Cond.methodLink RX6 117 yX6_asked, Cond.instanceMethod yX6_asked, Cond.selects RX6 yX6_asked yX6_asked, Cond.code yX6_asked cX6_asked 2 (some .boolean), Cond.methodLink RL 101 yL_order, Cond.static yL_order, Cond.codeWith yL_order cL_order 5 (some .int) [(0, 10, 13, 13), (0, 10, 17, 15)], Cond.methodLink RL 26 yX5_order, Cond.instanceMethod yX5_order, Cond.selects RX5 yX5_order yX5_order, Cond.code yX5_order cX5_order 3 (some .int), Cond.constant RX5 122 (50000), Cond.instanceMethod yX2_describe, Cond.selects RX2 yX2_describe yX2_describe, Cond.code yX2_describe cX2_describe 3 none, Cond.methodLink RL 104 yX6_order, Cond.instanceMethod yX6_order, Cond.selects RX6 yX6_order yX6_order, Cond.code yX6_order cX6_order 3 (some .int), Cond.constant RX6 120 (50000), Cond.fieldLink RX6 121 "SlittingOfficeModel" "orders" "I", Cond.methodLink RL 105 yL_addSlit, Cond.static yL_addSlit]
def wsL_law0_r11 : List Cond := [Cond.codeWith yL_addSlit cL_addSlit 4 (some .int) [(0, 9, 12, 13), (0, 9, 15, 15)], Cond.methodLink RL 30 yX5_addSlit, Cond.instanceMethod yX5_addSlit, Cond.selects RX5 yX5_addSlit yX5_addSlit, Cond.code yX5_addSlit cX5_addSlit 2 (some .int), Cond.instanceMethod yX3_isFull, Cond.selects RX3 yX3_isFull yX3_isFull, Cond.code yX3_isFull cX3_isFull 1 (some .boolean), Cond.instanceMethod yX3_append, Cond.selects RX3 yX3_append yX3_append, Cond.code yX3_append cX3_append 2 none, Cond.methodLink RX3 19 yX3_isFull, Cond.methodLink RL 108 yX6_addSlit, Cond.instanceMethod yX6_addSlit, Cond.selects RX6 yX6_addSlit yX6_addSlit, Cond.code yX6_addSlit cX6_addSlit 2 (some .int), Cond.methodLink RX6 124 yX6_drafts, Cond.instanceMethod yX6_drafts, Cond.selects RX6 yX6_drafts yX6_drafts, Cond.code yX6_drafts cX6_drafts 2 none, Cond.methodLink RL 109 yX5_clearDraft, Cond.instanceMethod yX5_clearDraft, Cond.selects RX5 yX5_clearDraft yX5_clearDraft, Cond.code yX5_clearDraft cX5_clearDraft 2 (some .int)]
def wsL_law0_r12 : List Cond := [Cond.instanceMethod yX3_empty, Cond.selects RX3 yX3_empty yX3_empty, Cond.code yX3_empty cX3_empty 1 none, Cond.methodLink RL 112 yX6_clearDraft, Cond.instanceMethod yX6_clearDraft, Cond.selects RX6 yX6_clearDraft yX6_clearDraft, Cond.code yX6_clearDraft cX6_clearDraft 2 (some .int), Cond.methodLink RX6 128 yX6_told, Cond.instanceMethod yX6_told, Cond.selects RX6 yX6_told yX6_told, Cond.code yX6_told cX6_told 2 (some .int), Cond.methodLink RL 113 yX5_draftSlits, Cond.instanceMethod yX5_draftSlits, Cond.selects RX5 yX5_draftSlits yX5_draftSlits, Cond.code yX5_draftSlits cX5_draftSlits 1 (some .int), Cond.methodLink RL 116 yX6_draftSlits, Cond.instanceMethod yX6_draftSlits, Cond.selects RX6 yX6_draftSlits yX6_draftSlits, Cond.code yX6_draftSlits cX6_draftSlits 1 (some .int), Cond.methodLink RL 117 yL_draftWidth, Cond.static yL_draftWidth, Cond.codeWith yL_draftWidth cL_draftWidth 4 (some .int) [(0, 9, 12, 21)], Cond.methodLink RL 34 yX5_draftWidth, Cond.instanceMethod yX5_draftWidth]
def wsL_law0_r13 : List Cond := [Cond.selects RX5 yX5_draftWidth yX5_draftWidth, Cond.code yX5_draftWidth cX5_draftWidth 2 (some .int), Cond.instanceMethod yX3_hasSlitAt, Cond.selects RX3 yX3_hasSlitAt yX3_hasSlitAt, Cond.code yX3_hasSlitAt cX3_hasSlitAt 2 (some .boolean), Cond.methodLink RL 119 yX6_draftWidth, Cond.instanceMethod yX6_draftWidth, Cond.selects RX6 yX6_draftWidth yX6_draftWidth, Cond.code yX6_draftWidth cX6_draftWidth 2 (some .int), Cond.methodLink RL 120 yL_keep, Cond.static yL_keep, Cond.codeWith yL_keep cL_keep 3 (some .int) [(0, 8, 11, 15)], Cond.methodLink RL 37 yX5_keep, Cond.instanceMethod yX5_keep, Cond.selects RX5 yX5_keep yX5_keep, Cond.code yX5_keep cX5_keep 1 (some .int), Cond.instanceMethod yX3_becomeCopyOf, Cond.selects RX3 yX3_becomeCopyOf yX3_becomeCopyOf, Cond.code yX3_becomeCopyOf cX3_becomeCopyOf 3 none, Cond.methodLink RX3 23 yX3_empty, Cond.methodLink RX3 26 yX3_append, Cond.methodLink RL 123 yX6_keep, Cond.instanceMethod yX6_keep, Cond.selects RX6 yX6_keep yX6_keep]
def wsL_law0_r14 : List Cond := [Cond.code yX6_keep cX6_keep 2 (some .int), Cond.fieldLink RX6 99 "SlittingOfficeModel" "patterns" "I", Cond.methodLink RL 124 yL_fits, Cond.static yL_fits, Cond.codeWith yL_fits cL_fits 5 (some .int) [(0, 17, 20, 21)], Cond.methodLink RL 41 yX5_fits, Cond.instanceMethod yX5_fits, Cond.selects RX5 yX5_fits yX5_fits, Cond.code yX5_fits cX5_fits 3 (some .boolean), Cond.methodLink RX5 159 yX5_requirePattern, Cond.instanceMethod yX5_requirePattern, Cond.selects RX5 yX5_requirePattern yX5_requirePattern, Cond.code yX5_requirePattern cX5_requirePattern 2 none, Cond.methodLink RX5 265 yX5_hasPattern, Cond.instanceMethod yX5_hasPattern, Cond.selects RX5 yX5_hasPattern yX5_hasPattern, Cond.code yX5_hasPattern cX5_hasPattern 2 (some .boolean), Cond.methodLink RX5 162 yX5_canBeCutFrom, Cond.instanceMethod yX5_canBeCutFrom, Cond.selects RX5 yX5_canBeCutFrom yX5_canBeCutFrom, Cond.code yX5_canBeCutFrom cX5_canBeCutFrom 3 (some .boolean), Cond.instanceMethod yX3_totalWidth, Cond.selects RX3 yX3_totalWidth yX3_totalWidth, Cond.code yX3_totalWidth cX3_totalWidth 3 (some .int)]
def wsL_law0_r15 : List Cond := [Cond.methodLink RX5 170 yX5_roomOf, Cond.instanceMethod yX5_roomOf, Cond.selects RX5 yX5_roomOf yX5_roomOf, Cond.code yX5_roomOf cX5_roomOf 2 (some .int), Cond.instanceMethod yX3_knivesNeeded, Cond.selects RX3 yX3_knivesNeeded yX3_knivesNeeded, Cond.code yX3_knivesNeeded cX3_knivesNeeded 1 (some .int), Cond.methodLink RL 126 yX6_fits, Cond.instanceMethod yX6_fits, Cond.selects RX6 yX6_fits yX6_fits, Cond.code yX6_fits cX6_fits 3 (some .boolean), Cond.methodLink RX6 131 yX6_isPattern, Cond.instanceMethod yX6_isPattern, Cond.selects RX6 yX6_isPattern yX6_isPattern, Cond.code yX6_isPattern cX6_isPattern 2 (some .boolean), Cond.methodLink RX6 134 yX6_canRun, Cond.instanceMethod yX6_canRun, Cond.selects RX6 yX6_canRun yX6_canRun, Cond.code yX6_canRun cX6_canRun 5 (some .boolean), Cond.methodLink RL 127 yL_fill, Cond.static yL_fill, Cond.codeWith yL_fill cL_fill 4 (some .int) [(0, 9, 12, 21)], Cond.methodLink RL 45 yX5_fill, Cond.instanceMethod yX5_fill]
def wsL_law0_r16 : List Cond := [Cond.selects RX5 yX5_fill yX5_fill, Cond.code yX5_fill cX5_fill 3 (some .int), Cond.methodLink RX5 166 yX5_offerWidthsFor, Cond.instanceMethod yX5_offerWidthsFor, Cond.selects RX5 yX5_offerWidthsFor yX5_offerWidthsFor, Cond.code yX5_offerWidthsFor cX5_offerWidthsFor 3 none, Cond.instanceMethod yX1_forgetWidths, Cond.selects RX1 yX1_forgetWidths yX1_forgetWidths, Cond.code yX1_forgetWidths cX1_forgetWidths 1 none, Cond.instanceMethod yX2_wouldTakeHeat, Cond.selects RX2 yX2_wouldTakeHeat yX2_wouldTakeHeat, Cond.code yX2_wouldTakeHeat cX2_wouldTakeHeat 2 (some .boolean), Cond.instanceMethod yX1_offerWidth, Cond.selects RX1 yX1_offerWidth yX1_offerWidth, Cond.code yX1_offerWidth cX1_offerWidth 5 none, Cond.instanceMethod yX1_greatestTotal, Cond.selects RX1 yX1_greatestTotal yX1_greatestTotal, Cond.code yX1_greatestTotal cX1_greatestTotal 5 (some .int), Cond.methodLink RX1 22 yX1_fewestSlitsFor, Cond.instanceMethod yX1_fewestSlitsFor, Cond.selects RX1 yX1_fewestSlitsFor yX1_fewestSlitsFor, Cond.code yX1_fewestSlitsFor cX1_fewestSlitsFor 4 (some .int), Cond.methodLink RX1 26 Lib.Math.min.name, Cond.static Lib.Math.min.name]
def wsL_law0_r17 : List Cond := [Cond.code Lib.Math.min.name Lib.Math.min.code 2 (some .int), Cond.instanceMethod yX1_layOut, Cond.selects RX1 yX1_layOut yX1_layOut, Cond.code yX1_layOut cX1_layOut 6 none, Cond.methodLink RX1 37 yX1_greatestBefore, Cond.instanceMethod yX1_greatestBefore, Cond.selects RX1 yX1_greatestBefore yX1_greatestBefore, Cond.code yX1_greatestBefore cX1_greatestBefore 4 (some .int), Cond.methodLink RL 129 yX6_fill, Cond.instanceMethod yX6_fill, Cond.selects RX6 yX6_fill yX6_fill, Cond.code yX6_fill cX6_fill 7 (some .int), Cond.methodLink RX6 141 yX6_fullest, Cond.instanceMethod yX6_fullest, Cond.selects RX6 yX6_fullest yX6_fullest, Cond.code yX6_fullest cX6_fullest 6 (some .int), Cond.methodLink RX6 138 yX6_takes, Cond.instanceMethod yX6_takes, Cond.selects RX6 yX6_takes yX6_takes, Cond.code yX6_takes cX6_takes 3 (some .boolean), Cond.methodLink RL 130 yL_fullestByTrying, Cond.static yL_fullestByTrying, Cond.codeWith yL_fullestByTrying cL_fullestByTrying 4 (some .int) [(0, 9, 12, 21), (0, 9, 15, 15)], Cond.methodLink RL 48 yX5_fullestByTrying]
def wsL_law0_r18 : List Cond := [Cond.instanceMethod yX5_fullestByTrying, Cond.selects RX5 yX5_fullestByTrying yX5_fullestByTrying, Cond.code yX5_fullestByTrying cX5_fullestByTrying 2 (some .int), Cond.instanceMethod yX1_greatestTotalByTrying, Cond.selects RX1 yX1_greatestTotalByTrying yX1_greatestTotalByTrying, Cond.code yX1_greatestTotalByTrying cX1_greatestTotalByTrying 3 (some .int), Cond.methodLink RX1 44 yX1_tryFrom, Cond.static yX1_tryFrom, Cond.code yX1_tryFrom cX1_tryFrom 8 (some .int), Cond.methodLink RX1 48 Lib.Math.max.name, Cond.methodLink RL 132 yX6_fullestByTrying, Cond.instanceMethod yX6_fullestByTrying, Cond.selects RX6 yX6_fullestByTrying yX6_fullestByTrying, Cond.code yX6_fullestByTrying cX6_fullestByTrying 3 (some .int), Cond.methodLink RL 133 yL_run, Cond.static yL_run, Cond.codeWith yL_run cL_run 5 (some .int) [(0, 10, 13, 21), (0, 10, 17, 15)], Cond.methodLink RL 51 yX5_run, Cond.instanceMethod yX5_run, Cond.selects RX5 yX5_run yX5_run, Cond.code yX5_run cX5_run 3 (some .int), Cond.methodLink RX5 187 yX5_canBeRun, Cond.instanceMethod yX5_canBeRun, Cond.selects RX5 yX5_canBeRun yX5_canBeRun]
def wsL_law0_r19 : List Cond := [Cond.code yX5_canBeRun cX5_canBeRun 3 (some .boolean), Cond.methodLink RX5 193 yX5_slitCoil, Cond.instanceMethod yX5_slitCoil, Cond.selects RX5 yX5_slitCoil yX5_slitCoil, Cond.code yX5_slitCoil cX5_slitCoil 3 (some .int), Cond.methodLink RX5 196 yX5_movesBetween, Cond.instanceMethod yX5_movesBetween, Cond.selects RX5 yX5_movesBetween yX5_movesBetween, Cond.code yX5_movesBetween cX5_movesBetween 3 (some .int), Cond.instanceMethod yX3_knivesNotIn, Cond.selects RX3 yX3_knivesNotIn yX3_knivesNotIn, Cond.code yX3_knivesNotIn cX3_knivesNotIn 5 (some .int), Cond.methodLink RX3 30 yX3_hasKnifeAt, Cond.instanceMethod yX3_hasKnifeAt, Cond.selects RX3 yX3_hasKnifeAt yX3_hasKnifeAt, Cond.code yX3_hasKnifeAt cX3_hasKnifeAt 4 (some .boolean), Cond.instanceMethod yX0_slitBy, Cond.selects RX0 yX0_slitBy yX0_slitBy, Cond.code yX0_slitBy cX0_slitBy 6 none, Cond.methodLink RX0 65 Lib.Math.min.name, Cond.methodLink RX0 68 yX0_cutOutLength, Cond.methodLink RX0 72 yX0_share, Cond.static yX0_share, Cond.code yX0_share cX0_share 3 (some .int)]
def wsL_law0_r20 : List Cond := [Cond.methodLink RX5 299 yX5_deliverSlits, Cond.instanceMethod yX5_deliverSlits, Cond.selects RX5 yX5_deliverSlits yX5_deliverSlits, Cond.code yX5_deliverSlits cX5_deliverSlits 5 (some .int), Cond.methodLink RX5 305 yX5_takerOf, Cond.instanceMethod yX5_takerOf, Cond.selects RX5 yX5_takerOf yX5_takerOf, Cond.code yX5_takerOf cX5_takerOf 4 (some .int), Cond.instanceMethod yX2_receive, Cond.selects RX2 yX2_receive yX2_receive, Cond.code yX2_receive cX2_receive 3 none, Cond.methodLink RL 135 yX6_run, Cond.instanceMethod yX6_run, Cond.selects RX6 yX6_run yX6_run, Cond.code yX6_run cX6_run 4 (some .int), Cond.methodLink RX6 154 yX6_runs, Cond.instanceMethod yX6_runs, Cond.selects RX6 yX6_runs yX6_runs, Cond.code yX6_runs cX6_runs 14 (some .int), Cond.fieldLink RX6 147 "SlittingOfficeModel" "moved" "I", Cond.methodLink RX6 150 yX6_movesFrom, Cond.instanceMethod yX6_movesFrom, Cond.selects RX6 yX6_movesFrom yX6_movesFrom, Cond.code yX6_movesFrom cX6_movesFrom 6 (some .int)]
def wsL_law0_r21 : List Cond := [Cond.methodLink RX6 144 yX6_isPosition, Cond.instanceMethod yX6_isPosition, Cond.selects RX6 yX6_isPosition yX6_isPosition, Cond.code yX6_isPosition cX6_isPosition 6 (some .boolean), Cond.methodLink RL 136 yL_moves, Cond.static yL_moves, Cond.codeWith yL_moves cL_moves 4 (some .int) [(0, 9, 12, 21)], Cond.methodLink RL 54 yX5_moves, Cond.instanceMethod yX5_moves, Cond.selects RX5 yX5_moves yX5_moves, Cond.code yX5_moves cX5_moves 2 (some .int), Cond.methodLink RL 138 yX6_moves, Cond.instanceMethod yX6_moves, Cond.selects RX6 yX6_moves yX6_moves, Cond.code yX6_moves cX6_moves 2 (some .int), Cond.methodLink RL 139 yX5_moved, Cond.instanceMethod yX5_moved, Cond.selects RX5 yX5_moved yX5_moved, Cond.code yX5_moved cX5_moved 1 (some .int), Cond.methodLink RL 142 yX6_moved, Cond.instanceMethod yX6_moved, Cond.selects RX6 yX6_moved yX6_moved, Cond.code yX6_moved cX6_moved 1 (some .int), Cond.methodLink RL 143 yL_plan]
def wsL_law0_r22 : List Cond := [Cond.static yL_plan, Cond.codeWith yL_plan cL_plan 5 (some .int) [(0, 10, 13, 21), (0, 10, 17, 15)], Cond.methodLink RL 57 yX5_plan, Cond.instanceMethod yX5_plan, Cond.selects RX5 yX5_plan yX5_plan, Cond.code yX5_plan cX5_plan 3 (some .int), Cond.methodLink RX5 199 yX5_coilWaits, Cond.instanceMethod yX5_coilWaits, Cond.selects RX5 yX5_coilWaits yX5_coilWaits, Cond.code yX5_coilWaits cX5_coilWaits 3 (some .boolean), Cond.methodLink RL 145 yX6_plan, Cond.instanceMethod yX6_plan, Cond.selects RX6 yX6_plan yX6_plan, Cond.code yX6_plan cX6_plan 6 (some .int), Cond.fieldLink RX6 157 "SlittingOfficeModel" "waiting" "I", Cond.methodLink RL 146 yX5_waiting, Cond.instanceMethod yX5_waiting, Cond.selects RX5 yX5_waiting yX5_waiting, Cond.code yX5_waiting cX5_waiting 1 (some .int), Cond.methodLink RL 149 yX6_waiting, Cond.instanceMethod yX6_waiting, Cond.selects RX6 yX6_waiting yX6_waiting, Cond.code yX6_waiting cX6_waiting 1 (some .int), Cond.methodLink RL 150 yX5_fewestMoves]
def wsL_law0_r23 : List Cond := [Cond.instanceMethod yX5_fewestMoves, Cond.selects RX5 yX5_fewestMoves yX5_fewestMoves, Cond.code yX5_fewestMoves cX5_fewestMoves 1 (some .int), Cond.methodLink RX5 204 yX5_readMoves, Cond.instanceMethod yX5_readMoves, Cond.selects RX5 yX5_readMoves yX5_readMoves, Cond.code yX5_readMoves cX5_readMoves 3 none, Cond.instanceMethod yX4_fewestBySets, Cond.selects RX4 yX4_fewestBySets yX4_fewestBySets, Cond.code yX4_fewestBySets cX4_fewestBySets 5 (some .int), Cond.methodLink RX4 23 yX4_fewestAfter, Cond.instanceMethod yX4_fewestAfter, Cond.selects RX4 yX4_fewestAfter yX4_fewestAfter, Cond.code yX4_fewestAfter cX4_fewestAfter 6 (some .int), Cond.methodLink RX4 34 Lib.Math.min.name, Cond.methodLink RX4 27 yX4_holds, Cond.static yX4_holds, Cond.code yX4_holds cX4_holds 2 (some .boolean), Cond.methodLink RX4 31 yX4_movesThrough, Cond.instanceMethod yX4_movesThrough, Cond.selects RX4 yX4_movesThrough yX4_movesThrough, Cond.code yX4_movesThrough cX4_movesThrough 4 (some .int), Cond.methodLink RX4 40 yX4_without, Cond.static yX4_without]
def wsL_law0_r24 : List Cond := [Cond.code yX4_without cX4_without 2 (some .int), Cond.methodLink RL 153 yX6_fewestMoves, Cond.instanceMethod yX6_fewestMoves, Cond.selects RX6 yX6_fewestMoves yX6_fewestMoves, Cond.code yX6_fewestMoves cX6_fewestMoves 1 (some .int), Cond.methodLink RX6 163 yX6_best, Cond.instanceMethod yX6_best, Cond.selects RX6 yX6_best yX6_best, Cond.code yX6_best cX6_best 8 (some .int), Cond.methodLink RX6 160 yX6_between, Cond.instanceMethod yX6_between, Cond.selects RX6 yX6_between yX6_between, Cond.code yX6_between cX6_between 3 (some .int), Cond.methodLink RL 154 yX5_fewestByTrying, Cond.instanceMethod yX5_fewestByTrying, Cond.selects RX5 yX5_fewestByTrying yX5_fewestByTrying, Cond.code yX5_fewestByTrying cX5_fewestByTrying 1 (some .int), Cond.instanceMethod yX4_fewestByOrders, Cond.selects RX4 yX4_fewestByOrders yX4_fewestByOrders, Cond.code yX4_fewestByOrders cX4_fewestByOrders 2 (some .int), Cond.methodLink RX4 50 yX4_tryOrders, Cond.static yX4_tryOrders, Cond.code yX4_tryOrders cX4_tryOrders 8 (some .int), Cond.methodLink RL 157 yX6_fewestByTrying]
def wsL_law0_r25 : List Cond := [Cond.instanceMethod yX6_fewestByTrying, Cond.selects RX6 yX6_fewestByTrying yX6_fewestByTrying, Cond.code yX6_fewestByTrying cX6_fewestByTrying 1 (some .int), Cond.methodLink RL 158 yL_nextAt, Cond.static yL_nextAt, Cond.codeWith yL_nextAt cL_nextAt 4 (some .int) [(0, 9, 12, 21)], Cond.methodLink RL 60 yX5_nextAt, Cond.instanceMethod yX5_nextAt, Cond.selects RX5 yX5_nextAt yX5_nextAt, Cond.code yX5_nextAt cX5_nextAt 2 (some .int), Cond.instanceMethod yX4_findBest, Cond.selects RX4 yX4_findBest yX4_findBest, Cond.code yX4_findBest cX4_findBest 6 none, Cond.methodLink RX4 43 yX4_fewestBySets, Cond.methodLink RX4 47 yX4_leastNext, Cond.instanceMethod yX4_leastNext, Cond.selects RX4 yX4_leastNext yX4_leastNext, Cond.code yX4_leastNext cX4_leastNext 5 (some .int), Cond.methodLink RL 160 yX6_nextAt, Cond.instanceMethod yX6_nextAt, Cond.selects RX6 yX6_nextAt yX6_nextAt, Cond.code yX6_nextAt cX6_nextAt 2 (some .int), Cond.methodLink RL 161 yX5_runAll, Cond.instanceMethod yX5_runAll]
def wsL_law0_r26 : List Cond := [Cond.selects RX5 yX5_runAll yX5_runAll, Cond.code yX5_runAll cX5_runAll 4 (some .int), Cond.methodLink RL 164 yX6_runAll, Cond.instanceMethod yX6_runAll, Cond.selects RX6 yX6_runAll yX6_runAll, Cond.code yX6_runAll cX6_runAll 5 (some .int), Cond.methodLink RL 165 yL_slits, Cond.static yL_slits, Cond.codeWith yL_slits cL_slits 4 (some .int) [(0, 9, 12, 21)], Cond.methodLink RL 63 yX5_slits, Cond.instanceMethod yX5_slits, Cond.selects RX5 yX5_slits yX5_slits, Cond.code yX5_slits cX5_slits 2 (some .int), Cond.methodLink RL 167 yX6_slits, Cond.instanceMethod yX6_slits, Cond.selects RX6 yX6_slits yX6_slits, Cond.code yX6_slits cX6_slits 2 (some .int), Cond.methodLink RL 168 yL_slitWeight, Cond.static yL_slitWeight, Cond.codeWith yL_slitWeight cL_slitWeight 5 (some .int) [(0, 10, 13, 21)], Cond.methodLink RL 66 yX5_slitWeight, Cond.instanceMethod yX5_slitWeight, Cond.selects RX5 yX5_slitWeight yX5_slitWeight, Cond.code yX5_slitWeight cX5_slitWeight 3 (some .int)]
def wsL_law0_r27 : List Cond := [Cond.methodLink RX5 225 yX5_requireSlit, Cond.instanceMethod yX5_requireSlit, Cond.selects RX5 yX5_requireSlit yX5_requireSlit, Cond.code yX5_requireSlit cX5_requireSlit 3 none, Cond.instanceMethod yX0_hasSlitAt, Cond.selects RX0 yX0_hasSlitAt yX0_hasSlitAt, Cond.code yX0_hasSlitAt cX0_hasSlitAt 2 (some .boolean), Cond.methodLink RL 170 yX6_slitWeight, Cond.instanceMethod yX6_slitWeight, Cond.selects RX6 yX6_slitWeight yX6_slitWeight, Cond.code yX6_slitWeight cX6_slitWeight 3 (some .int), Cond.methodLink RX6 167 yX6_isSlit, Cond.instanceMethod yX6_isSlit, Cond.selects RX6 yX6_isSlit yX6_isSlit, Cond.code yX6_isSlit cX6_isSlit 4 (some .boolean), Cond.methodLink RL 171 yL_slitOrder, Cond.static yL_slitOrder, Cond.codeWith yL_slitOrder cL_slitOrder 5 (some .int) [(0, 10, 13, 21)], Cond.methodLink RL 69 yX5_slitOrder, Cond.instanceMethod yX5_slitOrder, Cond.selects RX5 yX5_slitOrder yX5_slitOrder, Cond.code yX5_slitOrder cX5_slitOrder 3 (some .int), Cond.methodLink RL 173 yX6_slitOrder, Cond.instanceMethod yX6_slitOrder]
def wsL_law0_r28 : List Cond := [Cond.selects RX6 yX6_slitOrder yX6_slitOrder, Cond.code yX6_slitOrder cX6_slitOrder 3 (some .int), Cond.methodLink RL 174 yL_lost, Cond.static yL_lost, Cond.codeWith yL_lost cL_lost 5 (some .int) [(0, 10, 13, 21), (0, 10, 17, 13)], Cond.methodLink RL 72 yX5_lost, Cond.instanceMethod yX5_lost, Cond.selects RX5 yX5_lost yX5_lost, Cond.code yX5_lost cX5_lost 3 (some .int), Cond.methodLink RL 176 yX6_lost, Cond.instanceMethod yX6_lost, Cond.selects RX6 yX6_lost yX6_lost, Cond.code yX6_lost cX6_lost 3 (some .int), Cond.methodLink RL 177 yL_delivered, Cond.static yL_delivered, Cond.codeWith yL_delivered cL_delivered 4 (some .int) [(0, 9, 12, 21)], Cond.methodLink RL 75 yX5_delivered, Cond.instanceMethod yX5_delivered, Cond.selects RX5 yX5_delivered yX5_delivered, Cond.code yX5_delivered cX5_delivered 2 (some .int), Cond.methodLink RX5 243 yX5_requireOrder, Cond.instanceMethod yX5_requireOrder, Cond.selects RX5 yX5_requireOrder yX5_requireOrder, Cond.code yX5_requireOrder cX5_requireOrder 2 none]
def wsL_law0_r29 : List Cond := [Cond.methodLink RL 179 yX6_delivered, Cond.instanceMethod yX6_delivered, Cond.selects RX6 yX6_delivered yX6_delivered, Cond.code yX6_delivered cX6_delivered 2 (some .int), Cond.methodLink RX6 170 yX6_isOrder, Cond.instanceMethod yX6_isOrder, Cond.selects RX6 yX6_isOrder yX6_isOrder, Cond.code yX6_isOrder cX6_isOrder 2 (some .boolean), Cond.methodLink RL 180 yL_heatOf, Cond.static yL_heatOf, Cond.codeWith yL_heatOf cL_heatOf 4 (some .int) [(0, 9, 12, 21)], Cond.methodLink RL 78 yX5_heatOf, Cond.instanceMethod yX5_heatOf, Cond.selects RX5 yX5_heatOf yX5_heatOf, Cond.code yX5_heatOf cX5_heatOf 2 (some .int), Cond.methodLink RL 182 yX6_heatOf, Cond.instanceMethod yX6_heatOf, Cond.selects RX6 yX6_heatOf yX6_heatOf, Cond.code yX6_heatOf cX6_heatOf 2 (some .int), Cond.methodLink RL 183 yX5_stock, Cond.instanceMethod yX5_stock, Cond.selects RX5 yX5_stock yX5_stock, Cond.code yX5_stock cX5_stock 4 (some .int), Cond.instanceMethod yX0_stockOf]
def wsL_law0_r30 : List Cond := [Cond.selects RX0 yX0_stockOf yX0_stockOf, Cond.code yX0_stockOf cX0_stockOf 4 (some .int), Cond.methodLink RL 186 yX6_stock, Cond.instanceMethod yX6_stock, Cond.selects RX6 yX6_stock yX6_stock, Cond.code yX6_stock cX6_stock 6 (some .int)]
def wsL_law0 : List Cond := (wsL_law0_r1 ++ (wsL_law0_r2 ++ (wsL_law0_r3 ++ (wsL_law0_r4 ++ (wsL_law0_r5 ++ (wsL_law0_r6 ++ (wsL_law0_r7 ++ (wsL_law0_r8 ++ (wsL_law0_r9 ++ (wsL_law0_r10 ++ (wsL_law0_r11 ++ (wsL_law0_r12 ++ (wsL_law0_r13 ++ (wsL_law0_r14 ++ (wsL_law0_r15 ++ (wsL_law0_r16 ++ (wsL_law0_r17 ++ (wsL_law0_r18 ++ (wsL_law0_r19 ++ (wsL_law0_r20 ++ (wsL_law0_r21 ++ (wsL_law0_r22 ++ (wsL_law0_r23 ++ (wsL_law0_r24 ++ (wsL_law0_r25 ++ (wsL_law0_r26 ++ (wsL_law0_r27 ++ (wsL_law0_r28 ++ (wsL_law0_r29 ++ wsL_law0_r30))))))))))))))))))))))))))))) ++ wsX50 ++ wsX60 ++ wsX30 ++ wsX10 ++ wsX40 ++ wsX00 ++ wsX20 ++ ([] : List Cond)
def wsL_law : List Cond := wsL_law0 ++ (vx_atS RX5 91 "java/lang/IllegalStateException" ["java/lang/RuntimeException", "java/lang/Exception"]).filter goodWord ++ (vx_atS RX5 259 "java/lang/IllegalArgumentException" ["java/lang/RuntimeException", "java/lang/Exception"]).filter goodWord ++ (vx_atS RX5 149 "java/lang/IndexOutOfBoundsException" ["java/lang/RuntimeException", "java/lang/Exception"]).filter goodWord
end
section
theorem inlX0 : ∀ w ∈ wsX00, w ∈ wsL_law := fun _ h => List.mem_append_left _ (List.mem_append_left _ (List.mem_append_left _ (List.mem_append_left _ (List.mem_append_left _ (List.mem_append_right _ h)))))
theorem inlX1 : ∀ w ∈ wsX10, w ∈ wsL_law := fun _ h => List.mem_append_left _ (List.mem_append_left _ (List.mem_append_left _ (List.mem_append_left _ (List.mem_append_left _ (List.mem_append_left _ (List.mem_append_left _ (List.mem_append_right _ h)))))))
theorem inlX2 : ∀ w ∈ wsX20, w ∈ wsL_law := fun _ h => List.mem_append_left _ (List.mem_append_left _ (List.mem_append_left _ (List.mem_append_left _ (List.mem_append_right _ h))))
theorem inlX3 : ∀ w ∈ wsX30, w ∈ wsL_law := fun _ h => List.mem_append_left _ (List.mem_append_left _ (List.mem_append_left _ (List.mem_append_left _ (List.mem_append_left _ (List.mem_append_left _ (List.mem_append_left _ (List.mem_append_left _ (List.mem_append_right _ h))))))))
theorem inlX4 : ∀ w ∈ wsX40, w ∈ wsL_law := fun _ h => List.mem_append_left _ (List.mem_append_left _ (List.mem_append_left _ (List.mem_append_left _ (List.mem_append_left _ (List.mem_append_left _ (List.mem_append_right _ h))))))
theorem inlX5 : ∀ w ∈ wsX50, w ∈ wsL_law := fun _ h => List.mem_append_left _ (List.mem_append_left _ (List.mem_append_left _ (List.mem_append_left _ (List.mem_append_left _ (List.mem_append_left _ (List.mem_append_left _ (List.mem_append_left _ (List.mem_append_left _ (List.mem_append_left _ (List.mem_append_right _ h))))))))))
theorem inlX6 : ∀ w ∈ wsX60, w ∈ wsL_law := fun _ h => List.mem_append_left _ (List.mem_append_left _ (List.mem_append_left _ (List.mem_append_left _ (List.mem_append_left _ (List.mem_append_left _ (List.mem_append_left _ (List.mem_append_left _ (List.mem_append_left _ (List.mem_append_right _ h)))))))))
abbrev vwCl : List vw_C := [(RX0, TX0, 14), (RX1, TX1, 3), (RX2, TX2, 4), (RX3, TX3, 2), (RX4, TX4, 3), (RX5, TX5, 17), (RX6, TX6, 32)]
theorem wc_1 : ∀ w ∈ wsL_law0_r1, w ∈ wsL_law := fun _ h => List.mem_append_left _ (List.mem_append_left _ (List.mem_append_left _ (List.mem_append_left _ (List.mem_append_left _ (List.mem_append_left _ (List.mem_append_left _ (List.mem_append_left _ (List.mem_append_left _ (List.mem_append_left _ (List.mem_append_left _ (List.mem_append_left _ h)))))))))))
theorem kw_1_0 : Cond.classLink RL 8 RX5 ∈ wsL_law := wc_1 _ (List.mem_of_getElem? (i := 0) rfl)
theorem kw_1_1 : Cond.instantiable RX5 17 ∈ wsL_law := wc_1 _ (List.mem_of_getElem? (i := 1) rfl)
theorem kw_1_2 : Cond.initialized RX5 ∈ wsL_law := wc_1 _ (List.mem_of_getElem? (i := 2) rfl)
theorem kw_1_3 : Cond.classLink RL 82 RX6 ∈ wsL_law := wc_1 _ (List.mem_of_getElem? (i := 3) rfl)
theorem kw_1_4 : Cond.instantiable RX6 32 ∈ wsL_law := wc_1 _ (List.mem_of_getElem? (i := 4) rfl)
theorem kw_1_5 : Cond.initialized RX6 ∈ wsL_law := wc_1 _ (List.mem_of_getElem? (i := 5) rfl)
theorem kw_1_6 : Cond.arrayClass .long ∈ wsL_law := wc_1 _ (List.mem_of_getElem? (i := 6) rfl)
theorem kw_1_7 : Cond.methodLink RL 81 yX5_init ∈ wsL_law := wc_1 _ (List.mem_of_getElem? (i := 7) rfl)
theorem kw_1_8 : Cond.instanceMethod yX5_init ∈ wsL_law := wc_1 _ (List.mem_of_getElem? (i := 8) rfl)
theorem kw_1_9 : Cond.code yX5_init cX5_init 2 none ∈ wsL_law := wc_1 _ (List.mem_of_getElem? (i := 9) rfl)
theorem kw_1_10 : Cond.methodLink RX5 1 objectInit ∈ wsL_law := wc_1 _ (List.mem_of_getElem? (i := 10) rfl)
theorem kw_1_11 : Cond.instanceMethod objectInit ∈ wsL_law := wc_1 _ (List.mem_of_getElem? (i := 11) rfl)
theorem kw_1_12 : Cond.code objectInit ⟨#[0xb1]⟩ 1 none ∈ wsL_law := wc_1 _ (List.mem_of_getElem? (i := 12) rfl)
theorem kw_1_13 : Cond.classLink RX5 9 RX0 ∈ wsL_law := wc_1 _ (List.mem_of_getElem? (i := 13) rfl)
theorem kw_1_14 : Cond.fieldLink RX5 11 "SlittingOffice" "coils" "[LSlittingOffice$Coil;" ∈ wsL_law := wc_1 _ (List.mem_of_getElem? (i := 14) rfl)
theorem kw_1_15 : Cond.fieldLink RX5 15 "SlittingOffice" "coilCount" "I" ∈ wsL_law := wc_1 _ (List.mem_of_getElem? (i := 15) rfl)
theorem kw_1_16 : Cond.classLink RX5 19 RX2 ∈ wsL_law := wc_1 _ (List.mem_of_getElem? (i := 16) rfl)
theorem kw_1_17 : Cond.fieldLink RX5 21 "SlittingOffice" "orders" "[LSlittingOffice$Order;" ∈ wsL_law := wc_1 _ (List.mem_of_getElem? (i := 17) rfl)
theorem kw_1_18 : Cond.fieldLink RX5 25 "SlittingOffice" "orderCount" "I" ∈ wsL_law := wc_1 _ (List.mem_of_getElem? (i := 18) rfl)
theorem kw_1_19 : Cond.classLink RX5 28 RX3 ∈ wsL_law := wc_1 _ (List.mem_of_getElem? (i := 19) rfl)
theorem kw_1_20 : Cond.fieldLink RX5 30 "SlittingOffice" "patterns" "[LSlittingOffice$Pattern;" ∈ wsL_law := wc_1 _ (List.mem_of_getElem? (i := 20) rfl)
theorem kw_1_21 : Cond.fieldLink RX5 34 "SlittingOffice" "patternCount" "I" ∈ wsL_law := wc_1 _ (List.mem_of_getElem? (i := 21) rfl)
theorem kw_1_22 : Cond.instantiable RX3 2 ∈ wsL_law := wc_1 _ (List.mem_of_getElem? (i := 22) rfl)
theorem kw_1_23 : Cond.initialized RX3 ∈ wsL_law := wc_1 _ (List.mem_of_getElem? (i := 23) rfl)
theorem wc_2 : ∀ w ∈ wsL_law0_r2, w ∈ wsL_law := fun _ h => List.mem_append_left _ (List.mem_append_left _ (List.mem_append_left _ (List.mem_append_left _ (List.mem_append_left _ (List.mem_append_left _ (List.mem_append_left _ (List.mem_append_left _ (List.mem_append_left _ (List.mem_append_left _ (List.mem_append_left _ (List.mem_append_right _ (List.mem_append_left _ h))))))))))))
theorem kw_2_0 : Cond.fieldLink RX5 38 "SlittingOffice" "draft" "LSlittingOffice$Pattern;" ∈ wsL_law := wc_2 _ (List.mem_of_getElem? (i := 0) rfl)
theorem kw_2_1 : Cond.fieldLink RX5 42 "SlittingOffice" "edge" "I" ∈ wsL_law := wc_2 _ (List.mem_of_getElem? (i := 1) rfl)
theorem kw_2_2 : Cond.fieldLink RX5 45 "SlittingOffice" "loss" "I" ∈ wsL_law := wc_2 _ (List.mem_of_getElem? (i := 2) rfl)
theorem kw_2_3 : Cond.fieldLink RX5 48 "SlittingOffice" "knives" "I" ∈ wsL_law := wc_2 _ (List.mem_of_getElem? (i := 3) rfl)
theorem kw_2_4 : Cond.fieldLink RX5 51 "SlittingOffice" "setup" "I" ∈ wsL_law := wc_2 _ (List.mem_of_getElem? (i := 4) rfl)
theorem kw_2_5 : Cond.fieldLink RX5 54 "SlittingOffice" "movedKnives" "I" ∈ wsL_law := wc_2 _ (List.mem_of_getElem? (i := 5) rfl)
theorem kw_2_6 : Cond.arrayClass .int ∈ wsL_law := wc_2 _ (List.mem_of_getElem? (i := 6) rfl)
theorem kw_2_7 : Cond.fieldLink RX5 57 "SlittingOffice" "waitingCoils" "[I" ∈ wsL_law := wc_2 _ (List.mem_of_getElem? (i := 7) rfl)
theorem kw_2_8 : Cond.fieldLink RX5 61 "SlittingOffice" "waitingPatterns" "[I" ∈ wsL_law := wc_2 _ (List.mem_of_getElem? (i := 8) rfl)
theorem kw_2_9 : Cond.fieldLink RX5 64 "SlittingOffice" "waitingCount" "I" ∈ wsL_law := wc_2 _ (List.mem_of_getElem? (i := 9) rfl)
theorem kw_2_10 : Cond.classLink RX5 67 RX1 ∈ wsL_law := wc_2 _ (List.mem_of_getElem? (i := 10) rfl)
theorem kw_2_11 : Cond.instantiable RX1 3 ∈ wsL_law := wc_2 _ (List.mem_of_getElem? (i := 11) rfl)
theorem kw_2_12 : Cond.initialized RX1 ∈ wsL_law := wc_2 _ (List.mem_of_getElem? (i := 12) rfl)
theorem kw_2_13 : Cond.fieldLink RX5 70 "SlittingOffice" "filling" "LSlittingOffice$Filling;" ∈ wsL_law := wc_2 _ (List.mem_of_getElem? (i := 13) rfl)
theorem kw_2_14 : Cond.classLink RX5 74 RX4 ∈ wsL_law := wc_2 _ (List.mem_of_getElem? (i := 14) rfl)
theorem kw_2_15 : Cond.instantiable RX4 3 ∈ wsL_law := wc_2 _ (List.mem_of_getElem? (i := 15) rfl)
theorem kw_2_16 : Cond.initialized RX4 ∈ wsL_law := wc_2 _ (List.mem_of_getElem? (i := 16) rfl)
theorem kw_2_17 : Cond.fieldLink RX5 77 "SlittingOffice" "runOrder" "LSlittingOffice$RunOrder;" ∈ wsL_law := wc_2 _ (List.mem_of_getElem? (i := 17) rfl)
theorem kw_2_18 : Cond.instantiable RX0 14 ∈ wsL_law := wc_2 _ (List.mem_of_getElem? (i := 18) rfl)
theorem kw_2_19 : Cond.initialized RX0 ∈ wsL_law := wc_2 _ (List.mem_of_getElem? (i := 19) rfl)
theorem kw_2_20 : Cond.instantiable RX2 4 ∈ wsL_law := wc_2 _ (List.mem_of_getElem? (i := 20) rfl)
theorem kw_2_21 : Cond.initialized RX2 ∈ wsL_law := wc_2 _ (List.mem_of_getElem? (i := 21) rfl)
theorem kw_2_22 : Cond.instanceMethod yX3_init ∈ wsL_law := wc_2 _ (List.mem_of_getElem? (i := 22) rfl)
theorem kw_2_23 : Cond.code yX3_init cX3_init 1 none ∈ wsL_law := wc_2 _ (List.mem_of_getElem? (i := 23) rfl)
theorem wc_3 : ∀ w ∈ wsL_law0_r3, w ∈ wsL_law := fun _ h => List.mem_append_left _ (List.mem_append_left _ (List.mem_append_left _ (List.mem_append_left _ (List.mem_append_left _ (List.mem_append_left _ (List.mem_append_left _ (List.mem_append_left _ (List.mem_append_left _ (List.mem_append_left _ (List.mem_append_left _ (List.mem_append_right _ (List.mem_append_right _ (List.mem_append_left _ h)))))))))))))
theorem kw_3_0 : Cond.methodLink RX3 3 objectInit ∈ wsL_law := wc_3 _ (List.mem_of_getElem? (i := 0) rfl)
theorem kw_3_1 : Cond.fieldLink RX3 9 "SlittingOffice$Pattern" "widths" "[I" ∈ wsL_law := wc_3 _ (List.mem_of_getElem? (i := 1) rfl)
theorem kw_3_2 : Cond.fieldLink RX3 15 "SlittingOffice$Pattern" "count" "I" ∈ wsL_law := wc_3 _ (List.mem_of_getElem? (i := 2) rfl)
theorem kw_3_3 : Cond.instanceMethod yX1_init ∈ wsL_law := wc_3 _ (List.mem_of_getElem? (i := 3) rfl)
theorem kw_3_4 : Cond.code yX1_init cX1_init 1 none ∈ wsL_law := wc_3 _ (List.mem_of_getElem? (i := 4) rfl)
theorem kw_3_5 : Cond.methodLink RX1 3 objectInit ∈ wsL_law := wc_3 _ (List.mem_of_getElem? (i := 5) rfl)
theorem kw_3_6 : Cond.fieldLink RX1 9 "SlittingOffice$Filling" "widths" "[I" ∈ wsL_law := wc_3 _ (List.mem_of_getElem? (i := 6) rfl)
theorem kw_3_7 : Cond.fieldLink RX1 15 "SlittingOffice$Filling" "widthCount" "I" ∈ wsL_law := wc_3 _ (List.mem_of_getElem? (i := 7) rfl)
theorem kw_3_8 : Cond.fieldLink RX1 19 "SlittingOffice$Filling" "fewestSlits" "[I" ∈ wsL_law := wc_3 _ (List.mem_of_getElem? (i := 8) rfl)
theorem kw_3_9 : Cond.instanceMethod yX4_init ∈ wsL_law := wc_3 _ (List.mem_of_getElem? (i := 9) rfl)
theorem kw_3_10 : Cond.code yX4_init cX4_init 1 none ∈ wsL_law := wc_3 _ (List.mem_of_getElem? (i := 10) rfl)
theorem kw_3_11 : Cond.methodLink RX4 3 objectInit ∈ wsL_law := wc_3 _ (List.mem_of_getElem? (i := 11) rfl)
theorem kw_3_12 : Cond.classLink RX4 9 "[[I" ∈ wsL_law := wc_3 _ (List.mem_of_getElem? (i := 12) rfl)
theorem kw_3_13 : Cond.fieldLink RX4 11 "SlittingOffice$RunOrder" "moves" "[[I" ∈ wsL_law := wc_3 _ (List.mem_of_getElem? (i := 13) rfl)
theorem kw_3_14 : Cond.fieldLink RX4 16 "SlittingOffice$RunOrder" "fewest" "[[I" ∈ wsL_law := wc_3 _ (List.mem_of_getElem? (i := 14) rfl)
theorem kw_3_15 : Cond.fieldLink RX4 19 "SlittingOffice$RunOrder" "best" "[I" ∈ wsL_law := wc_3 _ (List.mem_of_getElem? (i := 15) rfl)
theorem kw_3_16 : Cond.instanceMethod yX0_init ∈ wsL_law := wc_3 _ (List.mem_of_getElem? (i := 16) rfl)
theorem kw_3_17 : Cond.code yX0_init cX0_init 1 none ∈ wsL_law := wc_3 _ (List.mem_of_getElem? (i := 17) rfl)
theorem kw_3_18 : Cond.methodLink RX0 3 objectInit ∈ wsL_law := wc_3 _ (List.mem_of_getElem? (i := 18) rfl)
theorem kw_3_19 : Cond.fieldLink RX0 9 "SlittingOffice$Coil" "width" "I" ∈ wsL_law := wc_3 _ (List.mem_of_getElem? (i := 19) rfl)
theorem kw_3_20 : Cond.fieldLink RX0 15 "SlittingOffice$Coil" "weight" "I" ∈ wsL_law := wc_3 _ (List.mem_of_getElem? (i := 20) rfl)
theorem kw_3_21 : Cond.fieldLink RX0 18 "SlittingOffice$Coil" "length" "I" ∈ wsL_law := wc_3 _ (List.mem_of_getElem? (i := 21) rfl)
theorem kw_3_22 : Cond.fieldLink RX0 21 "SlittingOffice$Coil" "heat" "I" ∈ wsL_law := wc_3 _ (List.mem_of_getElem? (i := 22) rfl)
theorem kw_3_23 : Cond.fieldLink RX0 24 "SlittingOffice$Coil" "defectFroms" "[I" ∈ wsL_law := wc_3 _ (List.mem_of_getElem? (i := 23) rfl)
theorem wc_4 : ∀ w ∈ wsL_law0_r4, w ∈ wsL_law := fun _ h => List.mem_append_left _ (List.mem_append_left _ (List.mem_append_left _ (List.mem_append_left _ (List.mem_append_left _ (List.mem_append_left _ (List.mem_append_left _ (List.mem_append_left _ (List.mem_append_left _ (List.mem_append_left _ (List.mem_append_left _ (List.mem_append_right _ (List.mem_append_right _ (List.mem_append_right _ (List.mem_append_left _ h))))))))))))))
theorem kw_4_0 : Cond.fieldLink RX0 28 "SlittingOffice$Coil" "defectTos" "[I" ∈ wsL_law := wc_4 _ (List.mem_of_getElem? (i := 0) rfl)
theorem kw_4_1 : Cond.fieldLink RX0 31 "SlittingOffice$Coil" "defectCount" "I" ∈ wsL_law := wc_4 _ (List.mem_of_getElem? (i := 1) rfl)
theorem kw_4_2 : Cond.fieldLink RX0 34 "SlittingOffice$Coil" "slitWidths" "[I" ∈ wsL_law := wc_4 _ (List.mem_of_getElem? (i := 2) rfl)
theorem kw_4_3 : Cond.fieldLink RX0 37 "SlittingOffice$Coil" "slitWeights" "[I" ∈ wsL_law := wc_4 _ (List.mem_of_getElem? (i := 3) rfl)
theorem kw_4_4 : Cond.fieldLink RX0 40 "SlittingOffice$Coil" "slitOrders" "[I" ∈ wsL_law := wc_4 _ (List.mem_of_getElem? (i := 4) rfl)
theorem kw_4_5 : Cond.fieldLink RX0 43 "SlittingOffice$Coil" "slitCount" "I" ∈ wsL_law := wc_4 _ (List.mem_of_getElem? (i := 5) rfl)
theorem kw_4_6 : Cond.fieldLink RX0 46 "SlittingOffice$Coil" "innerTurns" "I" ∈ wsL_law := wc_4 _ (List.mem_of_getElem? (i := 6) rfl)
theorem kw_4_7 : Cond.fieldLink RX0 49 "SlittingOffice$Coil" "cutOut" "I" ∈ wsL_law := wc_4 _ (List.mem_of_getElem? (i := 7) rfl)
theorem kw_4_8 : Cond.fieldLink RX0 52 "SlittingOffice$Coil" "trim" "I" ∈ wsL_law := wc_4 _ (List.mem_of_getElem? (i := 8) rfl)
theorem kw_4_9 : Cond.instanceMethod yX2_init ∈ wsL_law := wc_4 _ (List.mem_of_getElem? (i := 9) rfl)
theorem kw_4_10 : Cond.code yX2_init cX2_init 1 none ∈ wsL_law := wc_4 _ (List.mem_of_getElem? (i := 10) rfl)
theorem kw_4_11 : Cond.methodLink RX2 3 objectInit ∈ wsL_law := wc_4 _ (List.mem_of_getElem? (i := 11) rfl)
theorem kw_4_12 : Cond.fieldLink RX2 9 "SlittingOffice$Order" "width" "I" ∈ wsL_law := wc_4 _ (List.mem_of_getElem? (i := 12) rfl)
theorem kw_4_13 : Cond.fieldLink RX2 15 "SlittingOffice$Order" "weight" "I" ∈ wsL_law := wc_4 _ (List.mem_of_getElem? (i := 13) rfl)
theorem kw_4_14 : Cond.fieldLink RX2 18 "SlittingOffice$Order" "received" "I" ∈ wsL_law := wc_4 _ (List.mem_of_getElem? (i := 14) rfl)
theorem kw_4_15 : Cond.fieldLink RX2 21 "SlittingOffice$Order" "heat" "I" ∈ wsL_law := wc_4 _ (List.mem_of_getElem? (i := 15) rfl)
theorem kw_4_16 : Cond.methodLink RL 84 yX6_init ∈ wsL_law := wc_4 _ (List.mem_of_getElem? (i := 16) rfl)
theorem kw_4_17 : Cond.instanceMethod yX6_init ∈ wsL_law := wc_4 _ (List.mem_of_getElem? (i := 17) rfl)
theorem kw_4_18 : Cond.code yX6_init cX6_init 1 none ∈ wsL_law := wc_4 _ (List.mem_of_getElem? (i := 18) rfl)
theorem kw_4_19 : Cond.methodLink RX6 1 objectInit ∈ wsL_law := wc_4 _ (List.mem_of_getElem? (i := 19) rfl)
theorem kw_4_20 : Cond.fieldLink RX6 7 "SlittingOfficeModel" "width" "[I" ∈ wsL_law := wc_4 _ (List.mem_of_getElem? (i := 20) rfl)
theorem kw_4_21 : Cond.fieldLink RX6 13 "SlittingOfficeModel" "weight" "[I" ∈ wsL_law := wc_4 _ (List.mem_of_getElem? (i := 21) rfl)
theorem kw_4_22 : Cond.fieldLink RX6 16 "SlittingOfficeModel" "length" "[I" ∈ wsL_law := wc_4 _ (List.mem_of_getElem? (i := 22) rfl)
theorem kw_4_23 : Cond.fieldLink RX6 19 "SlittingOfficeModel" "heat" "[I" ∈ wsL_law := wc_4 _ (List.mem_of_getElem? (i := 23) rfl)
theorem wc_5 : ∀ w ∈ wsL_law0_r5, w ∈ wsL_law := fun _ h => List.mem_append_left _ (List.mem_append_left _ (List.mem_append_left _ (List.mem_append_left _ (List.mem_append_left _ (List.mem_append_left _ (List.mem_append_left _ (List.mem_append_left _ (List.mem_append_left _ (List.mem_append_left _ (List.mem_append_left _ (List.mem_append_right _ (List.mem_append_right _ (List.mem_append_right _ (List.mem_append_right _ (List.mem_append_left _ h)))))))))))))))
theorem kw_5_0 : Cond.fieldLink RX6 22 "SlittingOfficeModel" "from" "[I" ∈ wsL_law := wc_5 _ (List.mem_of_getElem? (i := 0) rfl)
theorem kw_5_1 : Cond.fieldLink RX6 25 "SlittingOfficeModel" "to" "[I" ∈ wsL_law := wc_5 _ (List.mem_of_getElem? (i := 1) rfl)
theorem kw_5_2 : Cond.fieldLink RX6 28 "SlittingOfficeModel" "defects" "[I" ∈ wsL_law := wc_5 _ (List.mem_of_getElem? (i := 2) rfl)
theorem kw_5_3 : Cond.fieldLink RX6 31 "SlittingOfficeModel" "edge" "I" ∈ wsL_law := wc_5 _ (List.mem_of_getElem? (i := 3) rfl)
theorem kw_5_4 : Cond.fieldLink RX6 35 "SlittingOfficeModel" "loss" "I" ∈ wsL_law := wc_5 _ (List.mem_of_getElem? (i := 4) rfl)
theorem kw_5_5 : Cond.fieldLink RX6 38 "SlittingOfficeModel" "knives" "I" ∈ wsL_law := wc_5 _ (List.mem_of_getElem? (i := 5) rfl)
theorem kw_5_6 : Cond.fieldLink RX6 41 "SlittingOfficeModel" "wants" "[I" ∈ wsL_law := wc_5 _ (List.mem_of_getElem? (i := 6) rfl)
theorem kw_5_7 : Cond.fieldLink RX6 44 "SlittingOfficeModel" "most" "[I" ∈ wsL_law := wc_5 _ (List.mem_of_getElem? (i := 7) rfl)
theorem kw_5_8 : Cond.fieldLink RX6 47 "SlittingOfficeModel" "got" "[I" ∈ wsL_law := wc_5 _ (List.mem_of_getElem? (i := 8) rfl)
theorem kw_5_9 : Cond.fieldLink RX6 50 "SlittingOfficeModel" "has" "[I" ∈ wsL_law := wc_5 _ (List.mem_of_getElem? (i := 9) rfl)
theorem kw_5_10 : Cond.fieldLink RX6 53 "SlittingOfficeModel" "slit" "[I" ∈ wsL_law := wc_5 _ (List.mem_of_getElem? (i := 10) rfl)
theorem kw_5_11 : Cond.fieldLink RX6 56 "SlittingOfficeModel" "many" "[I" ∈ wsL_law := wc_5 _ (List.mem_of_getElem? (i := 11) rfl)
theorem kw_5_12 : Cond.fieldLink RX6 59 "SlittingOfficeModel" "by" "[I" ∈ wsL_law := wc_5 _ (List.mem_of_getElem? (i := 12) rfl)
theorem kw_5_13 : Cond.fieldLink RX6 62 "SlittingOfficeModel" "weighs" "[I" ∈ wsL_law := wc_5 _ (List.mem_of_getElem? (i := 13) rfl)
theorem kw_5_14 : Cond.fieldLink RX6 65 "SlittingOfficeModel" "went" "[I" ∈ wsL_law := wc_5 _ (List.mem_of_getElem? (i := 14) rfl)
theorem kw_5_15 : Cond.fieldLink RX6 68 "SlittingOfficeModel" "lost" "[I" ∈ wsL_law := wc_5 _ (List.mem_of_getElem? (i := 15) rfl)
theorem kw_5_16 : Cond.fieldLink RX6 71 "SlittingOfficeModel" "setup" "I" ∈ wsL_law := wc_5 _ (List.mem_of_getElem? (i := 16) rfl)
theorem kw_5_17 : Cond.fieldLink RX6 74 "SlittingOfficeModel" "waitCoil" "[I" ∈ wsL_law := wc_5 _ (List.mem_of_getElem? (i := 17) rfl)
theorem kw_5_18 : Cond.fieldLink RX6 77 "SlittingOfficeModel" "waitPattern" "[I" ∈ wsL_law := wc_5 _ (List.mem_of_getElem? (i := 18) rfl)
theorem kw_5_19 : Cond.fieldLink RX6 80 "SlittingOfficeModel" "fewest" "[I" ∈ wsL_law := wc_5 _ (List.mem_of_getElem? (i := 19) rfl)
theorem kw_5_20 : Cond.fieldLink RX6 83 "SlittingOfficeModel" "rest" "[I" ∈ wsL_law := wc_5 _ (List.mem_of_getElem? (i := 20) rfl)
theorem kw_5_21 : Cond.fieldLink RX6 86 "SlittingOfficeModel" "next" "[I" ∈ wsL_law := wc_5 _ (List.mem_of_getElem? (i := 21) rfl)
theorem kw_5_22 : Cond.methodLink RL 85 yL_coil ∈ wsL_law := wc_5 _ (List.mem_of_getElem? (i := 22) rfl)
theorem kw_5_23 : Cond.static yL_coil ∈ wsL_law := wc_5 _ (List.mem_of_getElem? (i := 23) rfl)
theorem wc_6 : ∀ w ∈ wsL_law0_r6, w ∈ wsL_law := fun _ h => List.mem_append_left _ (List.mem_append_left _ (List.mem_append_left _ (List.mem_append_left _ (List.mem_append_left _ (List.mem_append_left _ (List.mem_append_left _ (List.mem_append_left _ (List.mem_append_left _ (List.mem_append_left _ (List.mem_append_left _ (List.mem_append_right _ (List.mem_append_right _ (List.mem_append_right _ (List.mem_append_right _ (List.mem_append_right _ (List.mem_append_left _ h))))))))))))))))
theorem kw_6_0 : Cond.initialized RL ∈ wsL_law := wc_6 _ (List.mem_of_getElem? (i := 0) rfl)
theorem kw_6_1 : Cond.codeWith yL_coil cL_coil 7 (some .int) [(0, 14, 17, 13), (0, 14, 21, 15)] ∈ wsL_law := wc_6 _ (List.mem_of_getElem? (i := 1) rfl)
theorem kw_6_2 : Cond.classLink RL 13 "java/lang/IllegalArgumentException" ∈ wsL_law := wc_6 _ (List.mem_of_getElem? (i := 2) rfl)
theorem kw_6_3 : Cond.classLink RL 15 "java/lang/IllegalStateException" ∈ wsL_law := wc_6 _ (List.mem_of_getElem? (i := 3) rfl)
theorem kw_6_4 : Cond.methodLink RL 7 yX5_coil ∈ wsL_law := wc_6 _ (List.mem_of_getElem? (i := 4) rfl)
theorem kw_6_5 : Cond.instanceMethod yX5_coil ∈ wsL_law := wc_6 _ (List.mem_of_getElem? (i := 5) rfl)
theorem kw_6_6 : Cond.selects RX5 yX5_coil yX5_coil ∈ wsL_law := wc_6 _ (List.mem_of_getElem? (i := 6) rfl)
theorem kw_6_7 : Cond.code yX5_coil cX5_coil 5 (some .int) ∈ wsL_law := wc_6 _ (List.mem_of_getElem? (i := 7) rfl)
theorem kw_6_8 : Cond.classLink RX5 87 "java/lang/IllegalStateException" ∈ wsL_law := wc_6 _ (List.mem_of_getElem? (i := 8) rfl)
theorem kw_6_9 : Cond.initialized "java/lang/IllegalStateException" ∈ wsL_law := wc_6 _ (List.mem_of_getElem? (i := 9) rfl)
theorem kw_6_10 : Cond.methodLink RX5 83 yX5_requireRange ∈ wsL_law := wc_6 _ (List.mem_of_getElem? (i := 10) rfl)
theorem kw_6_11 : Cond.static yX5_requireRange ∈ wsL_law := wc_6 _ (List.mem_of_getElem? (i := 11) rfl)
theorem kw_6_12 : Cond.code yX5_requireRange cX5_requireRange 3 none ∈ wsL_law := wc_6 _ (List.mem_of_getElem? (i := 12) rfl)
theorem kw_6_13 : Cond.classLink RX5 255 "java/lang/IllegalArgumentException" ∈ wsL_law := wc_6 _ (List.mem_of_getElem? (i := 13) rfl)
theorem kw_6_14 : Cond.initialized "java/lang/IllegalArgumentException" ∈ wsL_law := wc_6 _ (List.mem_of_getElem? (i := 14) rfl)
theorem kw_6_15 : Cond.instanceMethod yX0_describe ∈ wsL_law := wc_6 _ (List.mem_of_getElem? (i := 15) rfl)
theorem kw_6_16 : Cond.selects RX0 yX0_describe yX0_describe ∈ wsL_law := wc_6 _ (List.mem_of_getElem? (i := 16) rfl)
theorem kw_6_17 : Cond.code yX0_describe cX0_describe 5 none ∈ wsL_law := wc_6 _ (List.mem_of_getElem? (i := 17) rfl)
theorem kw_6_18 : Cond.methodLink RL 90 yX6_coil ∈ wsL_law := wc_6 _ (List.mem_of_getElem? (i := 18) rfl)
theorem kw_6_19 : Cond.instanceMethod yX6_coil ∈ wsL_law := wc_6 _ (List.mem_of_getElem? (i := 19) rfl)
theorem kw_6_20 : Cond.selects RX6 yX6_coil yX6_coil ∈ wsL_law := wc_6 _ (List.mem_of_getElem? (i := 20) rfl)
theorem kw_6_21 : Cond.code yX6_coil cX6_coil 6 (some .int) ∈ wsL_law := wc_6 _ (List.mem_of_getElem? (i := 21) rfl)
theorem kw_6_22 : Cond.fieldLink RX6 92 "SlittingOfficeModel" "coils" "I" ∈ wsL_law := wc_6 _ (List.mem_of_getElem? (i := 22) rfl)
theorem kw_6_23 : Cond.methodLink RX6 95 yX6_in ∈ wsL_law := wc_6 _ (List.mem_of_getElem? (i := 23) rfl)
theorem wc_7 : ∀ w ∈ wsL_law0_r7, w ∈ wsL_law := fun _ h => List.mem_append_left _ (List.mem_append_left _ (List.mem_append_left _ (List.mem_append_left _ (List.mem_append_left _ (List.mem_append_left _ (List.mem_append_left _ (List.mem_append_left _ (List.mem_append_left _ (List.mem_append_left _ (List.mem_append_left _ (List.mem_append_right _ (List.mem_append_right _ (List.mem_append_right _ (List.mem_append_right _ (List.mem_append_right _ (List.mem_append_right _ (List.mem_append_left _ h)))))))))))))))))
theorem kw_7_0 : Cond.static yX6_in ∈ wsL_law := wc_7 _ (List.mem_of_getElem? (i := 0) rfl)
theorem kw_7_1 : Cond.code yX6_in cX6_in 3 (some .boolean) ∈ wsL_law := wc_7 _ (List.mem_of_getElem? (i := 1) rfl)
theorem kw_7_2 : Cond.methodLink RX6 102 yX6_asked_ ∈ wsL_law := wc_7 _ (List.mem_of_getElem? (i := 2) rfl)
theorem kw_7_3 : Cond.instanceMethod yX6_asked_ ∈ wsL_law := wc_7 _ (List.mem_of_getElem? (i := 3) rfl)
theorem kw_7_4 : Cond.selects RX6 yX6_asked_ yX6_asked_ ∈ wsL_law := wc_7 _ (List.mem_of_getElem? (i := 4) rfl)
theorem kw_7_5 : Cond.code yX6_asked_ cX6_asked_ 3 (some .boolean) ∈ wsL_law := wc_7 _ (List.mem_of_getElem? (i := 5) rfl)
theorem kw_7_6 : Cond.fieldLink RX6 89 "SlittingOfficeModel" "thrown" "I" ∈ wsL_law := wc_7 _ (List.mem_of_getElem? (i := 6) rfl)
theorem kw_7_7 : Cond.methodLink RL 91 yX6_thrown ∈ wsL_law := wc_7 _ (List.mem_of_getElem? (i := 7) rfl)
theorem kw_7_8 : Cond.instanceMethod yX6_thrown ∈ wsL_law := wc_7 _ (List.mem_of_getElem? (i := 8) rfl)
theorem kw_7_9 : Cond.selects RX6 yX6_thrown yX6_thrown ∈ wsL_law := wc_7 _ (List.mem_of_getElem? (i := 9) rfl)
theorem kw_7_10 : Cond.code yX6_thrown cX6_thrown 1 (some .int) ∈ wsL_law := wc_7 _ (List.mem_of_getElem? (i := 10) rfl)
theorem kw_7_11 : Cond.methodLink RL 94 yL_defect ∈ wsL_law := wc_7 _ (List.mem_of_getElem? (i := 11) rfl)
theorem kw_7_12 : Cond.static yL_defect ∈ wsL_law := wc_7 _ (List.mem_of_getElem? (i := 12) rfl)
theorem kw_7_13 : Cond.codeWith yL_defect cL_defect 6 (some .int) [(0, 12, 15, 21), (0, 12, 19, 13), (0, 12, 23, 15)] ∈ wsL_law := wc_7 _ (List.mem_of_getElem? (i := 13) rfl)
theorem kw_7_14 : Cond.classLink RL 21 "java/lang/IndexOutOfBoundsException" ∈ wsL_law := wc_7 _ (List.mem_of_getElem? (i := 14) rfl)
theorem kw_7_15 : Cond.methodLink RL 17 yX5_defect ∈ wsL_law := wc_7 _ (List.mem_of_getElem? (i := 15) rfl)
theorem kw_7_16 : Cond.instanceMethod yX5_defect ∈ wsL_law := wc_7 _ (List.mem_of_getElem? (i := 16) rfl)
theorem kw_7_17 : Cond.selects RX5 yX5_defect yX5_defect ∈ wsL_law := wc_7 _ (List.mem_of_getElem? (i := 17) rfl)
theorem kw_7_18 : Cond.code yX5_defect cX5_defect 5 (some .int) ∈ wsL_law := wc_7 _ (List.mem_of_getElem? (i := 18) rfl)
theorem kw_7_19 : Cond.methodLink RX5 98 yX5_requireCoil ∈ wsL_law := wc_7 _ (List.mem_of_getElem? (i := 19) rfl)
theorem kw_7_20 : Cond.instanceMethod yX5_requireCoil ∈ wsL_law := wc_7 _ (List.mem_of_getElem? (i := 20) rfl)
theorem kw_7_21 : Cond.selects RX5 yX5_requireCoil yX5_requireCoil ∈ wsL_law := wc_7 _ (List.mem_of_getElem? (i := 21) rfl)
theorem kw_7_22 : Cond.code yX5_requireCoil cX5_requireCoil 2 none ∈ wsL_law := wc_7 _ (List.mem_of_getElem? (i := 22) rfl)
theorem kw_7_23 : Cond.classLink RX5 145 "java/lang/IndexOutOfBoundsException" ∈ wsL_law := wc_7 _ (List.mem_of_getElem? (i := 23) rfl)
theorem wc_8 : ∀ w ∈ wsL_law0_r8, w ∈ wsL_law := fun _ h => List.mem_append_left _ (List.mem_append_left _ (List.mem_append_left _ (List.mem_append_left _ (List.mem_append_left _ (List.mem_append_left _ (List.mem_append_left _ (List.mem_append_left _ (List.mem_append_left _ (List.mem_append_left _ (List.mem_append_left _ (List.mem_append_right _ (List.mem_append_right _ (List.mem_append_right _ (List.mem_append_right _ (List.mem_append_right _ (List.mem_append_right _ (List.mem_append_right _ (List.mem_append_left _ h))))))))))))))))))
theorem kw_8_0 : Cond.initialized "java/lang/IndexOutOfBoundsException" ∈ wsL_law := wc_8 _ (List.mem_of_getElem? (i := 0) rfl)
theorem kw_8_1 : Cond.methodLink RX5 260 yX5_hasCoil ∈ wsL_law := wc_8 _ (List.mem_of_getElem? (i := 1) rfl)
theorem kw_8_2 : Cond.instanceMethod yX5_hasCoil ∈ wsL_law := wc_8 _ (List.mem_of_getElem? (i := 2) rfl)
theorem kw_8_3 : Cond.selects RX5 yX5_hasCoil yX5_hasCoil ∈ wsL_law := wc_8 _ (List.mem_of_getElem? (i := 3) rfl)
theorem kw_8_4 : Cond.code yX5_hasCoil cX5_hasCoil 2 (some .boolean) ∈ wsL_law := wc_8 _ (List.mem_of_getElem? (i := 4) rfl)
theorem kw_8_5 : Cond.instanceMethod yX0_isSlit ∈ wsL_law := wc_8 _ (List.mem_of_getElem? (i := 5) rfl)
theorem kw_8_6 : Cond.selects RX0 yX0_isSlit yX0_isSlit ∈ wsL_law := wc_8 _ (List.mem_of_getElem? (i := 6) rfl)
theorem kw_8_7 : Cond.code yX0_isSlit cX0_isSlit 1 (some .boolean) ∈ wsL_law := wc_8 _ (List.mem_of_getElem? (i := 7) rfl)
theorem kw_8_8 : Cond.instanceMethod yX0_hasMostDefects ∈ wsL_law := wc_8 _ (List.mem_of_getElem? (i := 8) rfl)
theorem kw_8_9 : Cond.selects RX0 yX0_hasMostDefects yX0_hasMostDefects ∈ wsL_law := wc_8 _ (List.mem_of_getElem? (i := 9) rfl)
theorem kw_8_10 : Cond.code yX0_hasMostDefects cX0_hasMostDefects 1 (some .boolean) ∈ wsL_law := wc_8 _ (List.mem_of_getElem? (i := 10) rfl)
theorem kw_8_11 : Cond.instanceMethod yX0_addDefect ∈ wsL_law := wc_8 _ (List.mem_of_getElem? (i := 11) rfl)
theorem kw_8_12 : Cond.selects RX0 yX0_addDefect yX0_addDefect ∈ wsL_law := wc_8 _ (List.mem_of_getElem? (i := 12) rfl)
theorem kw_8_13 : Cond.code yX0_addDefect cX0_addDefect 4 none ∈ wsL_law := wc_8 _ (List.mem_of_getElem? (i := 13) rfl)
theorem kw_8_14 : Cond.methodLink RX0 55 yX0_hasMostDefects ∈ wsL_law := wc_8 _ (List.mem_of_getElem? (i := 14) rfl)
theorem kw_8_15 : Cond.instanceMethod yX0_cutOutLength ∈ wsL_law := wc_8 _ (List.mem_of_getElem? (i := 15) rfl)
theorem kw_8_16 : Cond.selects RX0 yX0_cutOutLength yX0_cutOutLength ∈ wsL_law := wc_8 _ (List.mem_of_getElem? (i := 16) rfl)
theorem kw_8_17 : Cond.code yX0_cutOutLength cX0_cutOutLength 5 (some .int) ∈ wsL_law := wc_8 _ (List.mem_of_getElem? (i := 17) rfl)
theorem kw_8_18 : Cond.methodLink RX0 59 Lib.Math.max.name ∈ wsL_law := wc_8 _ (List.mem_of_getElem? (i := 18) rfl)
theorem kw_8_19 : Cond.static Lib.Math.max.name ∈ wsL_law := wc_8 _ (List.mem_of_getElem? (i := 19) rfl)
theorem kw_8_20 : Cond.initialized "java/lang/Math" ∈ wsL_law := wc_8 _ (List.mem_of_getElem? (i := 20) rfl)
theorem kw_8_21 : Cond.code Lib.Math.max.name Lib.Math.max.code 2 (some .int) ∈ wsL_law := wc_8 _ (List.mem_of_getElem? (i := 21) rfl)
theorem kw_8_22 : Cond.methodLink RL 97 yX6_defect ∈ wsL_law := wc_8 _ (List.mem_of_getElem? (i := 22) rfl)
theorem kw_8_23 : Cond.instanceMethod yX6_defect ∈ wsL_law := wc_8 _ (List.mem_of_getElem? (i := 23) rfl)
theorem wc_9 : ∀ w ∈ wsL_law0_r9, w ∈ wsL_law := fun _ h => List.mem_append_left _ (List.mem_append_left _ (List.mem_append_left _ (List.mem_append_left _ (List.mem_append_left _ (List.mem_append_left _ (List.mem_append_left _ (List.mem_append_left _ (List.mem_append_left _ (List.mem_append_left _ (List.mem_append_left _ (List.mem_append_right _ (List.mem_append_right _ (List.mem_append_right _ (List.mem_append_right _ (List.mem_append_right _ (List.mem_append_right _ (List.mem_append_right _ (List.mem_append_right _ (List.mem_append_left _ h)))))))))))))))))))
theorem kw_9_0 : Cond.selects RX6 yX6_defect yX6_defect ∈ wsL_law := wc_9 _ (List.mem_of_getElem? (i := 0) rfl)
theorem kw_9_1 : Cond.code yX6_defect cX6_defect 6 (some .int) ∈ wsL_law := wc_9 _ (List.mem_of_getElem? (i := 1) rfl)
theorem kw_9_2 : Cond.methodLink RX6 106 yX6_isCoil ∈ wsL_law := wc_9 _ (List.mem_of_getElem? (i := 2) rfl)
theorem kw_9_3 : Cond.instanceMethod yX6_isCoil ∈ wsL_law := wc_9 _ (List.mem_of_getElem? (i := 3) rfl)
theorem kw_9_4 : Cond.selects RX6 yX6_isCoil yX6_isCoil ∈ wsL_law := wc_9 _ (List.mem_of_getElem? (i := 4) rfl)
theorem kw_9_5 : Cond.code yX6_isCoil cX6_isCoil 2 (some .boolean) ∈ wsL_law := wc_9 _ (List.mem_of_getElem? (i := 5) rfl)
theorem kw_9_6 : Cond.methodLink RX6 110 yX6_asked__ ∈ wsL_law := wc_9 _ (List.mem_of_getElem? (i := 6) rfl)
theorem kw_9_7 : Cond.instanceMethod yX6_asked__ ∈ wsL_law := wc_9 _ (List.mem_of_getElem? (i := 7) rfl)
theorem kw_9_8 : Cond.selects RX6 yX6_asked__ yX6_asked__ ∈ wsL_law := wc_9 _ (List.mem_of_getElem? (i := 8) rfl)
theorem kw_9_9 : Cond.code yX6_asked__ cX6_asked__ 4 (some .boolean) ∈ wsL_law := wc_9 _ (List.mem_of_getElem? (i := 9) rfl)
theorem kw_9_10 : Cond.methodLink RX6 113 yX6_cutOut ∈ wsL_law := wc_9 _ (List.mem_of_getElem? (i := 10) rfl)
theorem kw_9_11 : Cond.instanceMethod yX6_cutOut ∈ wsL_law := wc_9 _ (List.mem_of_getElem? (i := 11) rfl)
theorem kw_9_12 : Cond.selects RX6 yX6_cutOut yX6_cutOut ∈ wsL_law := wc_9 _ (List.mem_of_getElem? (i := 12) rfl)
theorem kw_9_13 : Cond.code yX6_cutOut cX6_cutOut 6 (some .int) ∈ wsL_law := wc_9 _ (List.mem_of_getElem? (i := 13) rfl)
theorem kw_9_14 : Cond.methodLink RL 98 yL_setRules ∈ wsL_law := wc_9 _ (List.mem_of_getElem? (i := 14) rfl)
theorem kw_9_15 : Cond.static yL_setRules ∈ wsL_law := wc_9 _ (List.mem_of_getElem? (i := 15) rfl)
theorem kw_9_16 : Cond.codeWith yL_setRules cL_setRules 6 (some .int) [(0, 12, 15, 13)] ∈ wsL_law := wc_9 _ (List.mem_of_getElem? (i := 16) rfl)
theorem kw_9_17 : Cond.methodLink RL 23 yX5_setRules ∈ wsL_law := wc_9 _ (List.mem_of_getElem? (i := 17) rfl)
theorem kw_9_18 : Cond.instanceMethod yX5_setRules ∈ wsL_law := wc_9 _ (List.mem_of_getElem? (i := 18) rfl)
theorem kw_9_19 : Cond.selects RX5 yX5_setRules yX5_setRules ∈ wsL_law := wc_9 _ (List.mem_of_getElem? (i := 19) rfl)
theorem kw_9_20 : Cond.code yX5_setRules cX5_setRules 5 (some .int) ∈ wsL_law := wc_9 _ (List.mem_of_getElem? (i := 20) rfl)
theorem kw_9_21 : Cond.methodLink RL 100 yX6_setRules ∈ wsL_law := wc_9 _ (List.mem_of_getElem? (i := 21) rfl)
theorem kw_9_22 : Cond.instanceMethod yX6_setRules ∈ wsL_law := wc_9 _ (List.mem_of_getElem? (i := 22) rfl)
theorem kw_9_23 : Cond.selects RX6 yX6_setRules yX6_setRules ∈ wsL_law := wc_9 _ (List.mem_of_getElem? (i := 23) rfl)
theorem wc_10 : ∀ w ∈ wsL_law0_r10, w ∈ wsL_law := fun _ h => List.mem_append_left _ (List.mem_append_left _ (List.mem_append_left _ (List.mem_append_left _ (List.mem_append_left _ (List.mem_append_left _ (List.mem_append_left _ (List.mem_append_left _ (List.mem_append_left _ (List.mem_append_left _ (List.mem_append_left _ (List.mem_append_right _ (List.mem_append_right _ (List.mem_append_right _ (List.mem_append_right _ (List.mem_append_right _ (List.mem_append_right _ (List.mem_append_right _ (List.mem_append_right _ (List.mem_append_right _ (List.mem_append_left _ h))))))))))))))))))))
theorem kw_10_0 : Cond.code yX6_setRules cX6_setRules 5 (some .int) ∈ wsL_law := wc_10 _ (List.mem_of_getElem? (i := 0) rfl)
theorem kw_10_1 : Cond.methodLink RX6 117 yX6_asked ∈ wsL_law := wc_10 _ (List.mem_of_getElem? (i := 1) rfl)
theorem kw_10_2 : Cond.instanceMethod yX6_asked ∈ wsL_law := wc_10 _ (List.mem_of_getElem? (i := 2) rfl)
theorem kw_10_3 : Cond.selects RX6 yX6_asked yX6_asked ∈ wsL_law := wc_10 _ (List.mem_of_getElem? (i := 3) rfl)
theorem kw_10_4 : Cond.code yX6_asked cX6_asked 2 (some .boolean) ∈ wsL_law := wc_10 _ (List.mem_of_getElem? (i := 4) rfl)
theorem kw_10_5 : Cond.methodLink RL 101 yL_order ∈ wsL_law := wc_10 _ (List.mem_of_getElem? (i := 5) rfl)
theorem kw_10_6 : Cond.static yL_order ∈ wsL_law := wc_10 _ (List.mem_of_getElem? (i := 6) rfl)
theorem kw_10_7 : Cond.codeWith yL_order cL_order 5 (some .int) [(0, 10, 13, 13), (0, 10, 17, 15)] ∈ wsL_law := wc_10 _ (List.mem_of_getElem? (i := 7) rfl)
theorem kw_10_8 : Cond.methodLink RL 26 yX5_order ∈ wsL_law := wc_10 _ (List.mem_of_getElem? (i := 8) rfl)
theorem kw_10_9 : Cond.instanceMethod yX5_order ∈ wsL_law := wc_10 _ (List.mem_of_getElem? (i := 9) rfl)
theorem kw_10_10 : Cond.selects RX5 yX5_order yX5_order ∈ wsL_law := wc_10 _ (List.mem_of_getElem? (i := 10) rfl)
theorem kw_10_11 : Cond.code yX5_order cX5_order 3 (some .int) ∈ wsL_law := wc_10 _ (List.mem_of_getElem? (i := 11) rfl)
theorem kw_10_12 : Cond.constant RX5 122 (50000) ∈ wsL_law := wc_10 _ (List.mem_of_getElem? (i := 12) rfl)
theorem kw_10_13 : Cond.instanceMethod yX2_describe ∈ wsL_law := wc_10 _ (List.mem_of_getElem? (i := 13) rfl)
theorem kw_10_14 : Cond.selects RX2 yX2_describe yX2_describe ∈ wsL_law := wc_10 _ (List.mem_of_getElem? (i := 14) rfl)
theorem kw_10_15 : Cond.code yX2_describe cX2_describe 3 none ∈ wsL_law := wc_10 _ (List.mem_of_getElem? (i := 15) rfl)
theorem kw_10_16 : Cond.methodLink RL 104 yX6_order ∈ wsL_law := wc_10 _ (List.mem_of_getElem? (i := 16) rfl)
theorem kw_10_17 : Cond.instanceMethod yX6_order ∈ wsL_law := wc_10 _ (List.mem_of_getElem? (i := 17) rfl)
theorem kw_10_18 : Cond.selects RX6 yX6_order yX6_order ∈ wsL_law := wc_10 _ (List.mem_of_getElem? (i := 18) rfl)
theorem kw_10_19 : Cond.code yX6_order cX6_order 3 (some .int) ∈ wsL_law := wc_10 _ (List.mem_of_getElem? (i := 19) rfl)
theorem kw_10_20 : Cond.constant RX6 120 (50000) ∈ wsL_law := wc_10 _ (List.mem_of_getElem? (i := 20) rfl)
theorem kw_10_21 : Cond.fieldLink RX6 121 "SlittingOfficeModel" "orders" "I" ∈ wsL_law := wc_10 _ (List.mem_of_getElem? (i := 21) rfl)
theorem kw_10_22 : Cond.methodLink RL 105 yL_addSlit ∈ wsL_law := wc_10 _ (List.mem_of_getElem? (i := 22) rfl)
theorem kw_10_23 : Cond.static yL_addSlit ∈ wsL_law := wc_10 _ (List.mem_of_getElem? (i := 23) rfl)
theorem wc_11 : ∀ w ∈ wsL_law0_r11, w ∈ wsL_law := fun _ h => List.mem_append_left _ (List.mem_append_left _ (List.mem_append_left _ (List.mem_append_left _ (List.mem_append_left _ (List.mem_append_left _ (List.mem_append_left _ (List.mem_append_left _ (List.mem_append_left _ (List.mem_append_left _ (List.mem_append_left _ (List.mem_append_right _ (List.mem_append_right _ (List.mem_append_right _ (List.mem_append_right _ (List.mem_append_right _ (List.mem_append_right _ (List.mem_append_right _ (List.mem_append_right _ (List.mem_append_right _ (List.mem_append_right _ (List.mem_append_left _ h)))))))))))))))))))))
theorem kw_11_0 : Cond.codeWith yL_addSlit cL_addSlit 4 (some .int) [(0, 9, 12, 13), (0, 9, 15, 15)] ∈ wsL_law := wc_11 _ (List.mem_of_getElem? (i := 0) rfl)
theorem kw_11_1 : Cond.methodLink RL 30 yX5_addSlit ∈ wsL_law := wc_11 _ (List.mem_of_getElem? (i := 1) rfl)
theorem kw_11_2 : Cond.instanceMethod yX5_addSlit ∈ wsL_law := wc_11 _ (List.mem_of_getElem? (i := 2) rfl)
theorem kw_11_3 : Cond.selects RX5 yX5_addSlit yX5_addSlit ∈ wsL_law := wc_11 _ (List.mem_of_getElem? (i := 3) rfl)
theorem kw_11_4 : Cond.code yX5_addSlit cX5_addSlit 2 (some .int) ∈ wsL_law := wc_11 _ (List.mem_of_getElem? (i := 4) rfl)
theorem kw_11_5 : Cond.instanceMethod yX3_isFull ∈ wsL_law := wc_11 _ (List.mem_of_getElem? (i := 5) rfl)
theorem kw_11_6 : Cond.selects RX3 yX3_isFull yX3_isFull ∈ wsL_law := wc_11 _ (List.mem_of_getElem? (i := 6) rfl)
theorem kw_11_7 : Cond.code yX3_isFull cX3_isFull 1 (some .boolean) ∈ wsL_law := wc_11 _ (List.mem_of_getElem? (i := 7) rfl)
theorem kw_11_8 : Cond.instanceMethod yX3_append ∈ wsL_law := wc_11 _ (List.mem_of_getElem? (i := 8) rfl)
theorem kw_11_9 : Cond.selects RX3 yX3_append yX3_append ∈ wsL_law := wc_11 _ (List.mem_of_getElem? (i := 9) rfl)
theorem kw_11_10 : Cond.code yX3_append cX3_append 2 none ∈ wsL_law := wc_11 _ (List.mem_of_getElem? (i := 10) rfl)
theorem kw_11_11 : Cond.methodLink RX3 19 yX3_isFull ∈ wsL_law := wc_11 _ (List.mem_of_getElem? (i := 11) rfl)
theorem kw_11_12 : Cond.methodLink RL 108 yX6_addSlit ∈ wsL_law := wc_11 _ (List.mem_of_getElem? (i := 12) rfl)
theorem kw_11_13 : Cond.instanceMethod yX6_addSlit ∈ wsL_law := wc_11 _ (List.mem_of_getElem? (i := 13) rfl)
theorem kw_11_14 : Cond.selects RX6 yX6_addSlit yX6_addSlit ∈ wsL_law := wc_11 _ (List.mem_of_getElem? (i := 14) rfl)
theorem kw_11_15 : Cond.code yX6_addSlit cX6_addSlit 2 (some .int) ∈ wsL_law := wc_11 _ (List.mem_of_getElem? (i := 15) rfl)
theorem kw_11_16 : Cond.methodLink RX6 124 yX6_drafts ∈ wsL_law := wc_11 _ (List.mem_of_getElem? (i := 16) rfl)
theorem kw_11_17 : Cond.instanceMethod yX6_drafts ∈ wsL_law := wc_11 _ (List.mem_of_getElem? (i := 17) rfl)
theorem kw_11_18 : Cond.selects RX6 yX6_drafts yX6_drafts ∈ wsL_law := wc_11 _ (List.mem_of_getElem? (i := 18) rfl)
theorem kw_11_19 : Cond.code yX6_drafts cX6_drafts 2 none ∈ wsL_law := wc_11 _ (List.mem_of_getElem? (i := 19) rfl)
theorem kw_11_20 : Cond.methodLink RL 109 yX5_clearDraft ∈ wsL_law := wc_11 _ (List.mem_of_getElem? (i := 20) rfl)
theorem kw_11_21 : Cond.instanceMethod yX5_clearDraft ∈ wsL_law := wc_11 _ (List.mem_of_getElem? (i := 21) rfl)
theorem kw_11_22 : Cond.selects RX5 yX5_clearDraft yX5_clearDraft ∈ wsL_law := wc_11 _ (List.mem_of_getElem? (i := 22) rfl)
theorem kw_11_23 : Cond.code yX5_clearDraft cX5_clearDraft 2 (some .int) ∈ wsL_law := wc_11 _ (List.mem_of_getElem? (i := 23) rfl)
theorem wc_12 : ∀ w ∈ wsL_law0_r12, w ∈ wsL_law := fun _ h => List.mem_append_left _ (List.mem_append_left _ (List.mem_append_left _ (List.mem_append_left _ (List.mem_append_left _ (List.mem_append_left _ (List.mem_append_left _ (List.mem_append_left _ (List.mem_append_left _ (List.mem_append_left _ (List.mem_append_left _ (List.mem_append_right _ (List.mem_append_right _ (List.mem_append_right _ (List.mem_append_right _ (List.mem_append_right _ (List.mem_append_right _ (List.mem_append_right _ (List.mem_append_right _ (List.mem_append_right _ (List.mem_append_right _ (List.mem_append_right _ (List.mem_append_left _ h))))))))))))))))))))))
theorem kw_12_0 : Cond.instanceMethod yX3_empty ∈ wsL_law := wc_12 _ (List.mem_of_getElem? (i := 0) rfl)
theorem kw_12_1 : Cond.selects RX3 yX3_empty yX3_empty ∈ wsL_law := wc_12 _ (List.mem_of_getElem? (i := 1) rfl)
theorem kw_12_2 : Cond.code yX3_empty cX3_empty 1 none ∈ wsL_law := wc_12 _ (List.mem_of_getElem? (i := 2) rfl)
theorem kw_12_3 : Cond.methodLink RL 112 yX6_clearDraft ∈ wsL_law := wc_12 _ (List.mem_of_getElem? (i := 3) rfl)
theorem kw_12_4 : Cond.instanceMethod yX6_clearDraft ∈ wsL_law := wc_12 _ (List.mem_of_getElem? (i := 4) rfl)
theorem kw_12_5 : Cond.selects RX6 yX6_clearDraft yX6_clearDraft ∈ wsL_law := wc_12 _ (List.mem_of_getElem? (i := 5) rfl)
theorem kw_12_6 : Cond.code yX6_clearDraft cX6_clearDraft 2 (some .int) ∈ wsL_law := wc_12 _ (List.mem_of_getElem? (i := 6) rfl)
theorem kw_12_7 : Cond.methodLink RX6 128 yX6_told ∈ wsL_law := wc_12 _ (List.mem_of_getElem? (i := 7) rfl)
theorem kw_12_8 : Cond.instanceMethod yX6_told ∈ wsL_law := wc_12 _ (List.mem_of_getElem? (i := 8) rfl)
theorem kw_12_9 : Cond.selects RX6 yX6_told yX6_told ∈ wsL_law := wc_12 _ (List.mem_of_getElem? (i := 9) rfl)
theorem kw_12_10 : Cond.code yX6_told cX6_told 2 (some .int) ∈ wsL_law := wc_12 _ (List.mem_of_getElem? (i := 10) rfl)
theorem kw_12_11 : Cond.methodLink RL 113 yX5_draftSlits ∈ wsL_law := wc_12 _ (List.mem_of_getElem? (i := 11) rfl)
theorem kw_12_12 : Cond.instanceMethod yX5_draftSlits ∈ wsL_law := wc_12 _ (List.mem_of_getElem? (i := 12) rfl)
theorem kw_12_13 : Cond.selects RX5 yX5_draftSlits yX5_draftSlits ∈ wsL_law := wc_12 _ (List.mem_of_getElem? (i := 13) rfl)
theorem kw_12_14 : Cond.code yX5_draftSlits cX5_draftSlits 1 (some .int) ∈ wsL_law := wc_12 _ (List.mem_of_getElem? (i := 14) rfl)
theorem kw_12_15 : Cond.methodLink RL 116 yX6_draftSlits ∈ wsL_law := wc_12 _ (List.mem_of_getElem? (i := 15) rfl)
theorem kw_12_16 : Cond.instanceMethod yX6_draftSlits ∈ wsL_law := wc_12 _ (List.mem_of_getElem? (i := 16) rfl)
theorem kw_12_17 : Cond.selects RX6 yX6_draftSlits yX6_draftSlits ∈ wsL_law := wc_12 _ (List.mem_of_getElem? (i := 17) rfl)
theorem kw_12_18 : Cond.code yX6_draftSlits cX6_draftSlits 1 (some .int) ∈ wsL_law := wc_12 _ (List.mem_of_getElem? (i := 18) rfl)
theorem kw_12_19 : Cond.methodLink RL 117 yL_draftWidth ∈ wsL_law := wc_12 _ (List.mem_of_getElem? (i := 19) rfl)
theorem kw_12_20 : Cond.static yL_draftWidth ∈ wsL_law := wc_12 _ (List.mem_of_getElem? (i := 20) rfl)
theorem kw_12_21 : Cond.codeWith yL_draftWidth cL_draftWidth 4 (some .int) [(0, 9, 12, 21)] ∈ wsL_law := wc_12 _ (List.mem_of_getElem? (i := 21) rfl)
theorem kw_12_22 : Cond.methodLink RL 34 yX5_draftWidth ∈ wsL_law := wc_12 _ (List.mem_of_getElem? (i := 22) rfl)
theorem kw_12_23 : Cond.instanceMethod yX5_draftWidth ∈ wsL_law := wc_12 _ (List.mem_of_getElem? (i := 23) rfl)
theorem wc_13 : ∀ w ∈ wsL_law0_r13, w ∈ wsL_law := fun _ h => List.mem_append_left _ (List.mem_append_left _ (List.mem_append_left _ (List.mem_append_left _ (List.mem_append_left _ (List.mem_append_left _ (List.mem_append_left _ (List.mem_append_left _ (List.mem_append_left _ (List.mem_append_left _ (List.mem_append_left _ (List.mem_append_right _ (List.mem_append_right _ (List.mem_append_right _ (List.mem_append_right _ (List.mem_append_right _ (List.mem_append_right _ (List.mem_append_right _ (List.mem_append_right _ (List.mem_append_right _ (List.mem_append_right _ (List.mem_append_right _ (List.mem_append_right _ (List.mem_append_left _ h)))))))))))))))))))))))
theorem kw_13_0 : Cond.selects RX5 yX5_draftWidth yX5_draftWidth ∈ wsL_law := wc_13 _ (List.mem_of_getElem? (i := 0) rfl)
theorem kw_13_1 : Cond.code yX5_draftWidth cX5_draftWidth 2 (some .int) ∈ wsL_law := wc_13 _ (List.mem_of_getElem? (i := 1) rfl)
theorem kw_13_2 : Cond.instanceMethod yX3_hasSlitAt ∈ wsL_law := wc_13 _ (List.mem_of_getElem? (i := 2) rfl)
theorem kw_13_3 : Cond.selects RX3 yX3_hasSlitAt yX3_hasSlitAt ∈ wsL_law := wc_13 _ (List.mem_of_getElem? (i := 3) rfl)
theorem kw_13_4 : Cond.code yX3_hasSlitAt cX3_hasSlitAt 2 (some .boolean) ∈ wsL_law := wc_13 _ (List.mem_of_getElem? (i := 4) rfl)
theorem kw_13_5 : Cond.methodLink RL 119 yX6_draftWidth ∈ wsL_law := wc_13 _ (List.mem_of_getElem? (i := 5) rfl)
theorem kw_13_6 : Cond.instanceMethod yX6_draftWidth ∈ wsL_law := wc_13 _ (List.mem_of_getElem? (i := 6) rfl)
theorem kw_13_7 : Cond.selects RX6 yX6_draftWidth yX6_draftWidth ∈ wsL_law := wc_13 _ (List.mem_of_getElem? (i := 7) rfl)
theorem kw_13_8 : Cond.code yX6_draftWidth cX6_draftWidth 2 (some .int) ∈ wsL_law := wc_13 _ (List.mem_of_getElem? (i := 8) rfl)
theorem kw_13_9 : Cond.methodLink RL 120 yL_keep ∈ wsL_law := wc_13 _ (List.mem_of_getElem? (i := 9) rfl)
theorem kw_13_10 : Cond.static yL_keep ∈ wsL_law := wc_13 _ (List.mem_of_getElem? (i := 10) rfl)
theorem kw_13_11 : Cond.codeWith yL_keep cL_keep 3 (some .int) [(0, 8, 11, 15)] ∈ wsL_law := wc_13 _ (List.mem_of_getElem? (i := 11) rfl)
theorem kw_13_12 : Cond.methodLink RL 37 yX5_keep ∈ wsL_law := wc_13 _ (List.mem_of_getElem? (i := 12) rfl)
theorem kw_13_13 : Cond.instanceMethod yX5_keep ∈ wsL_law := wc_13 _ (List.mem_of_getElem? (i := 13) rfl)
theorem kw_13_14 : Cond.selects RX5 yX5_keep yX5_keep ∈ wsL_law := wc_13 _ (List.mem_of_getElem? (i := 14) rfl)
theorem kw_13_15 : Cond.code yX5_keep cX5_keep 1 (some .int) ∈ wsL_law := wc_13 _ (List.mem_of_getElem? (i := 15) rfl)
theorem kw_13_16 : Cond.instanceMethod yX3_becomeCopyOf ∈ wsL_law := wc_13 _ (List.mem_of_getElem? (i := 16) rfl)
theorem kw_13_17 : Cond.selects RX3 yX3_becomeCopyOf yX3_becomeCopyOf ∈ wsL_law := wc_13 _ (List.mem_of_getElem? (i := 17) rfl)
theorem kw_13_18 : Cond.code yX3_becomeCopyOf cX3_becomeCopyOf 3 none ∈ wsL_law := wc_13 _ (List.mem_of_getElem? (i := 18) rfl)
theorem kw_13_19 : Cond.methodLink RX3 23 yX3_empty ∈ wsL_law := wc_13 _ (List.mem_of_getElem? (i := 19) rfl)
theorem kw_13_20 : Cond.methodLink RX3 26 yX3_append ∈ wsL_law := wc_13 _ (List.mem_of_getElem? (i := 20) rfl)
theorem kw_13_21 : Cond.methodLink RL 123 yX6_keep ∈ wsL_law := wc_13 _ (List.mem_of_getElem? (i := 21) rfl)
theorem kw_13_22 : Cond.instanceMethod yX6_keep ∈ wsL_law := wc_13 _ (List.mem_of_getElem? (i := 22) rfl)
theorem kw_13_23 : Cond.selects RX6 yX6_keep yX6_keep ∈ wsL_law := wc_13 _ (List.mem_of_getElem? (i := 23) rfl)
theorem wc_14 : ∀ w ∈ wsL_law0_r14, w ∈ wsL_law := fun _ h => List.mem_append_left _ (List.mem_append_left _ (List.mem_append_left _ (List.mem_append_left _ (List.mem_append_left _ (List.mem_append_left _ (List.mem_append_left _ (List.mem_append_left _ (List.mem_append_left _ (List.mem_append_left _ (List.mem_append_left _ (List.mem_append_right _ (List.mem_append_right _ (List.mem_append_right _ (List.mem_append_right _ (List.mem_append_right _ (List.mem_append_right _ (List.mem_append_right _ (List.mem_append_right _ (List.mem_append_right _ (List.mem_append_right _ (List.mem_append_right _ (List.mem_append_right _ (List.mem_append_right _ (List.mem_append_left _ h))))))))))))))))))))))))
theorem kw_14_0 : Cond.code yX6_keep cX6_keep 2 (some .int) ∈ wsL_law := wc_14 _ (List.mem_of_getElem? (i := 0) rfl)
theorem kw_14_1 : Cond.fieldLink RX6 99 "SlittingOfficeModel" "patterns" "I" ∈ wsL_law := wc_14 _ (List.mem_of_getElem? (i := 1) rfl)
theorem kw_14_2 : Cond.methodLink RL 124 yL_fits ∈ wsL_law := wc_14 _ (List.mem_of_getElem? (i := 2) rfl)
theorem kw_14_3 : Cond.static yL_fits ∈ wsL_law := wc_14 _ (List.mem_of_getElem? (i := 3) rfl)
theorem kw_14_4 : Cond.codeWith yL_fits cL_fits 5 (some .int) [(0, 17, 20, 21)] ∈ wsL_law := wc_14 _ (List.mem_of_getElem? (i := 4) rfl)
theorem kw_14_5 : Cond.methodLink RL 41 yX5_fits ∈ wsL_law := wc_14 _ (List.mem_of_getElem? (i := 5) rfl)
theorem kw_14_6 : Cond.instanceMethod yX5_fits ∈ wsL_law := wc_14 _ (List.mem_of_getElem? (i := 6) rfl)
theorem kw_14_7 : Cond.selects RX5 yX5_fits yX5_fits ∈ wsL_law := wc_14 _ (List.mem_of_getElem? (i := 7) rfl)
theorem kw_14_8 : Cond.code yX5_fits cX5_fits 3 (some .boolean) ∈ wsL_law := wc_14 _ (List.mem_of_getElem? (i := 8) rfl)
theorem kw_14_9 : Cond.methodLink RX5 159 yX5_requirePattern ∈ wsL_law := wc_14 _ (List.mem_of_getElem? (i := 9) rfl)
theorem kw_14_10 : Cond.instanceMethod yX5_requirePattern ∈ wsL_law := wc_14 _ (List.mem_of_getElem? (i := 10) rfl)
theorem kw_14_11 : Cond.selects RX5 yX5_requirePattern yX5_requirePattern ∈ wsL_law := wc_14 _ (List.mem_of_getElem? (i := 11) rfl)
theorem kw_14_12 : Cond.code yX5_requirePattern cX5_requirePattern 2 none ∈ wsL_law := wc_14 _ (List.mem_of_getElem? (i := 12) rfl)
theorem kw_14_13 : Cond.methodLink RX5 265 yX5_hasPattern ∈ wsL_law := wc_14 _ (List.mem_of_getElem? (i := 13) rfl)
theorem kw_14_14 : Cond.instanceMethod yX5_hasPattern ∈ wsL_law := wc_14 _ (List.mem_of_getElem? (i := 14) rfl)
theorem kw_14_15 : Cond.selects RX5 yX5_hasPattern yX5_hasPattern ∈ wsL_law := wc_14 _ (List.mem_of_getElem? (i := 15) rfl)
theorem kw_14_16 : Cond.code yX5_hasPattern cX5_hasPattern 2 (some .boolean) ∈ wsL_law := wc_14 _ (List.mem_of_getElem? (i := 16) rfl)
theorem kw_14_17 : Cond.methodLink RX5 162 yX5_canBeCutFrom ∈ wsL_law := wc_14 _ (List.mem_of_getElem? (i := 17) rfl)
theorem kw_14_18 : Cond.instanceMethod yX5_canBeCutFrom ∈ wsL_law := wc_14 _ (List.mem_of_getElem? (i := 18) rfl)
theorem kw_14_19 : Cond.selects RX5 yX5_canBeCutFrom yX5_canBeCutFrom ∈ wsL_law := wc_14 _ (List.mem_of_getElem? (i := 19) rfl)
theorem kw_14_20 : Cond.code yX5_canBeCutFrom cX5_canBeCutFrom 3 (some .boolean) ∈ wsL_law := wc_14 _ (List.mem_of_getElem? (i := 20) rfl)
theorem kw_14_21 : Cond.instanceMethod yX3_totalWidth ∈ wsL_law := wc_14 _ (List.mem_of_getElem? (i := 21) rfl)
theorem kw_14_22 : Cond.selects RX3 yX3_totalWidth yX3_totalWidth ∈ wsL_law := wc_14 _ (List.mem_of_getElem? (i := 22) rfl)
theorem kw_14_23 : Cond.code yX3_totalWidth cX3_totalWidth 3 (some .int) ∈ wsL_law := wc_14 _ (List.mem_of_getElem? (i := 23) rfl)
theorem wc_15 : ∀ w ∈ wsL_law0_r15, w ∈ wsL_law := fun _ h => List.mem_append_left _ (List.mem_append_left _ (List.mem_append_left _ (List.mem_append_left _ (List.mem_append_left _ (List.mem_append_left _ (List.mem_append_left _ (List.mem_append_left _ (List.mem_append_left _ (List.mem_append_left _ (List.mem_append_left _ (List.mem_append_right _ (List.mem_append_right _ (List.mem_append_right _ (List.mem_append_right _ (List.mem_append_right _ (List.mem_append_right _ (List.mem_append_right _ (List.mem_append_right _ (List.mem_append_right _ (List.mem_append_right _ (List.mem_append_right _ (List.mem_append_right _ (List.mem_append_right _ (List.mem_append_right _ (List.mem_append_left _ h)))))))))))))))))))))))))
theorem kw_15_0 : Cond.methodLink RX5 170 yX5_roomOf ∈ wsL_law := wc_15 _ (List.mem_of_getElem? (i := 0) rfl)
theorem kw_15_1 : Cond.instanceMethod yX5_roomOf ∈ wsL_law := wc_15 _ (List.mem_of_getElem? (i := 1) rfl)
theorem kw_15_2 : Cond.selects RX5 yX5_roomOf yX5_roomOf ∈ wsL_law := wc_15 _ (List.mem_of_getElem? (i := 2) rfl)
theorem kw_15_3 : Cond.code yX5_roomOf cX5_roomOf 2 (some .int) ∈ wsL_law := wc_15 _ (List.mem_of_getElem? (i := 3) rfl)
theorem kw_15_4 : Cond.instanceMethod yX3_knivesNeeded ∈ wsL_law := wc_15 _ (List.mem_of_getElem? (i := 4) rfl)
theorem kw_15_5 : Cond.selects RX3 yX3_knivesNeeded yX3_knivesNeeded ∈ wsL_law := wc_15 _ (List.mem_of_getElem? (i := 5) rfl)
theorem kw_15_6 : Cond.code yX3_knivesNeeded cX3_knivesNeeded 1 (some .int) ∈ wsL_law := wc_15 _ (List.mem_of_getElem? (i := 6) rfl)
theorem kw_15_7 : Cond.methodLink RL 126 yX6_fits ∈ wsL_law := wc_15 _ (List.mem_of_getElem? (i := 7) rfl)
theorem kw_15_8 : Cond.instanceMethod yX6_fits ∈ wsL_law := wc_15 _ (List.mem_of_getElem? (i := 8) rfl)
theorem kw_15_9 : Cond.selects RX6 yX6_fits yX6_fits ∈ wsL_law := wc_15 _ (List.mem_of_getElem? (i := 9) rfl)
theorem kw_15_10 : Cond.code yX6_fits cX6_fits 3 (some .boolean) ∈ wsL_law := wc_15 _ (List.mem_of_getElem? (i := 10) rfl)
theorem kw_15_11 : Cond.methodLink RX6 131 yX6_isPattern ∈ wsL_law := wc_15 _ (List.mem_of_getElem? (i := 11) rfl)
theorem kw_15_12 : Cond.instanceMethod yX6_isPattern ∈ wsL_law := wc_15 _ (List.mem_of_getElem? (i := 12) rfl)
theorem kw_15_13 : Cond.selects RX6 yX6_isPattern yX6_isPattern ∈ wsL_law := wc_15 _ (List.mem_of_getElem? (i := 13) rfl)
theorem kw_15_14 : Cond.code yX6_isPattern cX6_isPattern 2 (some .boolean) ∈ wsL_law := wc_15 _ (List.mem_of_getElem? (i := 14) rfl)
theorem kw_15_15 : Cond.methodLink RX6 134 yX6_canRun ∈ wsL_law := wc_15 _ (List.mem_of_getElem? (i := 15) rfl)
theorem kw_15_16 : Cond.instanceMethod yX6_canRun ∈ wsL_law := wc_15 _ (List.mem_of_getElem? (i := 16) rfl)
theorem kw_15_17 : Cond.selects RX6 yX6_canRun yX6_canRun ∈ wsL_law := wc_15 _ (List.mem_of_getElem? (i := 17) rfl)
theorem kw_15_18 : Cond.code yX6_canRun cX6_canRun 5 (some .boolean) ∈ wsL_law := wc_15 _ (List.mem_of_getElem? (i := 18) rfl)
theorem kw_15_19 : Cond.methodLink RL 127 yL_fill ∈ wsL_law := wc_15 _ (List.mem_of_getElem? (i := 19) rfl)
theorem kw_15_20 : Cond.static yL_fill ∈ wsL_law := wc_15 _ (List.mem_of_getElem? (i := 20) rfl)
theorem kw_15_21 : Cond.codeWith yL_fill cL_fill 4 (some .int) [(0, 9, 12, 21)] ∈ wsL_law := wc_15 _ (List.mem_of_getElem? (i := 21) rfl)
theorem kw_15_22 : Cond.methodLink RL 45 yX5_fill ∈ wsL_law := wc_15 _ (List.mem_of_getElem? (i := 22) rfl)
theorem kw_15_23 : Cond.instanceMethod yX5_fill ∈ wsL_law := wc_15 _ (List.mem_of_getElem? (i := 23) rfl)
theorem wc_16 : ∀ w ∈ wsL_law0_r16, w ∈ wsL_law := fun _ h => List.mem_append_left _ (List.mem_append_left _ (List.mem_append_left _ (List.mem_append_left _ (List.mem_append_left _ (List.mem_append_left _ (List.mem_append_left _ (List.mem_append_left _ (List.mem_append_left _ (List.mem_append_left _ (List.mem_append_left _ (List.mem_append_right _ (List.mem_append_right _ (List.mem_append_right _ (List.mem_append_right _ (List.mem_append_right _ (List.mem_append_right _ (List.mem_append_right _ (List.mem_append_right _ (List.mem_append_right _ (List.mem_append_right _ (List.mem_append_right _ (List.mem_append_right _ (List.mem_append_right _ (List.mem_append_right _ (List.mem_append_right _ (List.mem_append_left _ h))))))))))))))))))))))))))
theorem kw_16_0 : Cond.selects RX5 yX5_fill yX5_fill ∈ wsL_law := wc_16 _ (List.mem_of_getElem? (i := 0) rfl)
theorem kw_16_1 : Cond.code yX5_fill cX5_fill 3 (some .int) ∈ wsL_law := wc_16 _ (List.mem_of_getElem? (i := 1) rfl)
theorem kw_16_2 : Cond.methodLink RX5 166 yX5_offerWidthsFor ∈ wsL_law := wc_16 _ (List.mem_of_getElem? (i := 2) rfl)
theorem kw_16_3 : Cond.instanceMethod yX5_offerWidthsFor ∈ wsL_law := wc_16 _ (List.mem_of_getElem? (i := 3) rfl)
theorem kw_16_4 : Cond.selects RX5 yX5_offerWidthsFor yX5_offerWidthsFor ∈ wsL_law := wc_16 _ (List.mem_of_getElem? (i := 4) rfl)
theorem kw_16_5 : Cond.code yX5_offerWidthsFor cX5_offerWidthsFor 3 none ∈ wsL_law := wc_16 _ (List.mem_of_getElem? (i := 5) rfl)
theorem kw_16_6 : Cond.instanceMethod yX1_forgetWidths ∈ wsL_law := wc_16 _ (List.mem_of_getElem? (i := 6) rfl)
theorem kw_16_7 : Cond.selects RX1 yX1_forgetWidths yX1_forgetWidths ∈ wsL_law := wc_16 _ (List.mem_of_getElem? (i := 7) rfl)
theorem kw_16_8 : Cond.code yX1_forgetWidths cX1_forgetWidths 1 none ∈ wsL_law := wc_16 _ (List.mem_of_getElem? (i := 8) rfl)
theorem kw_16_9 : Cond.instanceMethod yX2_wouldTakeHeat ∈ wsL_law := wc_16 _ (List.mem_of_getElem? (i := 9) rfl)
theorem kw_16_10 : Cond.selects RX2 yX2_wouldTakeHeat yX2_wouldTakeHeat ∈ wsL_law := wc_16 _ (List.mem_of_getElem? (i := 10) rfl)
theorem kw_16_11 : Cond.code yX2_wouldTakeHeat cX2_wouldTakeHeat 2 (some .boolean) ∈ wsL_law := wc_16 _ (List.mem_of_getElem? (i := 11) rfl)
theorem kw_16_12 : Cond.instanceMethod yX1_offerWidth ∈ wsL_law := wc_16 _ (List.mem_of_getElem? (i := 12) rfl)
theorem kw_16_13 : Cond.selects RX1 yX1_offerWidth yX1_offerWidth ∈ wsL_law := wc_16 _ (List.mem_of_getElem? (i := 13) rfl)
theorem kw_16_14 : Cond.code yX1_offerWidth cX1_offerWidth 5 none ∈ wsL_law := wc_16 _ (List.mem_of_getElem? (i := 14) rfl)
theorem kw_16_15 : Cond.instanceMethod yX1_greatestTotal ∈ wsL_law := wc_16 _ (List.mem_of_getElem? (i := 15) rfl)
theorem kw_16_16 : Cond.selects RX1 yX1_greatestTotal yX1_greatestTotal ∈ wsL_law := wc_16 _ (List.mem_of_getElem? (i := 16) rfl)
theorem kw_16_17 : Cond.code yX1_greatestTotal cX1_greatestTotal 5 (some .int) ∈ wsL_law := wc_16 _ (List.mem_of_getElem? (i := 17) rfl)
theorem kw_16_18 : Cond.methodLink RX1 22 yX1_fewestSlitsFor ∈ wsL_law := wc_16 _ (List.mem_of_getElem? (i := 18) rfl)
theorem kw_16_19 : Cond.instanceMethod yX1_fewestSlitsFor ∈ wsL_law := wc_16 _ (List.mem_of_getElem? (i := 19) rfl)
theorem kw_16_20 : Cond.selects RX1 yX1_fewestSlitsFor yX1_fewestSlitsFor ∈ wsL_law := wc_16 _ (List.mem_of_getElem? (i := 20) rfl)
theorem kw_16_21 : Cond.code yX1_fewestSlitsFor cX1_fewestSlitsFor 4 (some .int) ∈ wsL_law := wc_16 _ (List.mem_of_getElem? (i := 21) rfl)
theorem kw_16_22 : Cond.methodLink RX1 26 Lib.Math.min.name ∈ wsL_law := wc_16 _ (List.mem_of_getElem? (i := 22) rfl)
theorem kw_16_23 : Cond.static Lib.Math.min.name ∈ wsL_law := wc_16 _ (List.mem_of_getElem? (i := 23) rfl)
theorem wc_17 : ∀ w ∈ wsL_law0_r17, w ∈ wsL_law := fun _ h => List.mem_append_left _ (List.mem_append_left _ (List.mem_append_left _ (List.mem_append_left _ (List.mem_append_left _ (List.mem_append_left _ (List.mem_append_left _ (List.mem_append_left _ (List.mem_append_left _ (List.mem_append_left _ (List.mem_append_left _ (List.mem_append_right _ (List.mem_append_right _ (List.mem_append_right _ (List.mem_append_right _ (List.mem_append_right _ (List.mem_append_right _ (List.mem_append_right _ (List.mem_append_right _ (List.mem_append_right _ (List.mem_append_right _ (List.mem_append_right _ (List.mem_append_right _ (List.mem_append_right _ (List.mem_append_right _ (List.mem_append_right _ (List.mem_append_right _ (List.mem_append_left _ h)))))))))))))))))))))))))))
theorem kw_17_0 : Cond.code Lib.Math.min.name Lib.Math.min.code 2 (some .int) ∈ wsL_law := wc_17 _ (List.mem_of_getElem? (i := 0) rfl)
theorem kw_17_1 : Cond.instanceMethod yX1_layOut ∈ wsL_law := wc_17 _ (List.mem_of_getElem? (i := 1) rfl)
theorem kw_17_2 : Cond.selects RX1 yX1_layOut yX1_layOut ∈ wsL_law := wc_17 _ (List.mem_of_getElem? (i := 2) rfl)
theorem kw_17_3 : Cond.code yX1_layOut cX1_layOut 6 none ∈ wsL_law := wc_17 _ (List.mem_of_getElem? (i := 3) rfl)
theorem kw_17_4 : Cond.methodLink RX1 37 yX1_greatestBefore ∈ wsL_law := wc_17 _ (List.mem_of_getElem? (i := 4) rfl)
theorem kw_17_5 : Cond.instanceMethod yX1_greatestBefore ∈ wsL_law := wc_17 _ (List.mem_of_getElem? (i := 5) rfl)
theorem kw_17_6 : Cond.selects RX1 yX1_greatestBefore yX1_greatestBefore ∈ wsL_law := wc_17 _ (List.mem_of_getElem? (i := 6) rfl)
theorem kw_17_7 : Cond.code yX1_greatestBefore cX1_greatestBefore 4 (some .int) ∈ wsL_law := wc_17 _ (List.mem_of_getElem? (i := 7) rfl)
theorem kw_17_8 : Cond.methodLink RL 129 yX6_fill ∈ wsL_law := wc_17 _ (List.mem_of_getElem? (i := 8) rfl)
theorem kw_17_9 : Cond.instanceMethod yX6_fill ∈ wsL_law := wc_17 _ (List.mem_of_getElem? (i := 9) rfl)
theorem kw_17_10 : Cond.selects RX6 yX6_fill yX6_fill ∈ wsL_law := wc_17 _ (List.mem_of_getElem? (i := 10) rfl)
theorem kw_17_11 : Cond.code yX6_fill cX6_fill 7 (some .int) ∈ wsL_law := wc_17 _ (List.mem_of_getElem? (i := 11) rfl)
theorem kw_17_12 : Cond.methodLink RX6 141 yX6_fullest ∈ wsL_law := wc_17 _ (List.mem_of_getElem? (i := 12) rfl)
theorem kw_17_13 : Cond.instanceMethod yX6_fullest ∈ wsL_law := wc_17 _ (List.mem_of_getElem? (i := 13) rfl)
theorem kw_17_14 : Cond.selects RX6 yX6_fullest yX6_fullest ∈ wsL_law := wc_17 _ (List.mem_of_getElem? (i := 14) rfl)
theorem kw_17_15 : Cond.code yX6_fullest cX6_fullest 6 (some .int) ∈ wsL_law := wc_17 _ (List.mem_of_getElem? (i := 15) rfl)
theorem kw_17_16 : Cond.methodLink RX6 138 yX6_takes ∈ wsL_law := wc_17 _ (List.mem_of_getElem? (i := 16) rfl)
theorem kw_17_17 : Cond.instanceMethod yX6_takes ∈ wsL_law := wc_17 _ (List.mem_of_getElem? (i := 17) rfl)
theorem kw_17_18 : Cond.selects RX6 yX6_takes yX6_takes ∈ wsL_law := wc_17 _ (List.mem_of_getElem? (i := 18) rfl)
theorem kw_17_19 : Cond.code yX6_takes cX6_takes 3 (some .boolean) ∈ wsL_law := wc_17 _ (List.mem_of_getElem? (i := 19) rfl)
theorem kw_17_20 : Cond.methodLink RL 130 yL_fullestByTrying ∈ wsL_law := wc_17 _ (List.mem_of_getElem? (i := 20) rfl)
theorem kw_17_21 : Cond.static yL_fullestByTrying ∈ wsL_law := wc_17 _ (List.mem_of_getElem? (i := 21) rfl)
theorem kw_17_22 : Cond.codeWith yL_fullestByTrying cL_fullestByTrying 4 (some .int) [(0, 9, 12, 21), (0, 9, 15, 15)] ∈ wsL_law := wc_17 _ (List.mem_of_getElem? (i := 22) rfl)
theorem kw_17_23 : Cond.methodLink RL 48 yX5_fullestByTrying ∈ wsL_law := wc_17 _ (List.mem_of_getElem? (i := 23) rfl)
theorem wc_18 : ∀ w ∈ wsL_law0_r18, w ∈ wsL_law := fun _ h => List.mem_append_left _ (List.mem_append_left _ (List.mem_append_left _ (List.mem_append_left _ (List.mem_append_left _ (List.mem_append_left _ (List.mem_append_left _ (List.mem_append_left _ (List.mem_append_left _ (List.mem_append_left _ (List.mem_append_left _ (List.mem_append_right _ (List.mem_append_right _ (List.mem_append_right _ (List.mem_append_right _ (List.mem_append_right _ (List.mem_append_right _ (List.mem_append_right _ (List.mem_append_right _ (List.mem_append_right _ (List.mem_append_right _ (List.mem_append_right _ (List.mem_append_right _ (List.mem_append_right _ (List.mem_append_right _ (List.mem_append_right _ (List.mem_append_right _ (List.mem_append_right _ (List.mem_append_left _ h))))))))))))))))))))))))))))
theorem kw_18_0 : Cond.instanceMethod yX5_fullestByTrying ∈ wsL_law := wc_18 _ (List.mem_of_getElem? (i := 0) rfl)
theorem kw_18_1 : Cond.selects RX5 yX5_fullestByTrying yX5_fullestByTrying ∈ wsL_law := wc_18 _ (List.mem_of_getElem? (i := 1) rfl)
theorem kw_18_2 : Cond.code yX5_fullestByTrying cX5_fullestByTrying 2 (some .int) ∈ wsL_law := wc_18 _ (List.mem_of_getElem? (i := 2) rfl)
theorem kw_18_3 : Cond.instanceMethod yX1_greatestTotalByTrying ∈ wsL_law := wc_18 _ (List.mem_of_getElem? (i := 3) rfl)
theorem kw_18_4 : Cond.selects RX1 yX1_greatestTotalByTrying yX1_greatestTotalByTrying ∈ wsL_law := wc_18 _ (List.mem_of_getElem? (i := 4) rfl)
theorem kw_18_5 : Cond.code yX1_greatestTotalByTrying cX1_greatestTotalByTrying 3 (some .int) ∈ wsL_law := wc_18 _ (List.mem_of_getElem? (i := 5) rfl)
theorem kw_18_6 : Cond.methodLink RX1 44 yX1_tryFrom ∈ wsL_law := wc_18 _ (List.mem_of_getElem? (i := 6) rfl)
theorem kw_18_7 : Cond.static yX1_tryFrom ∈ wsL_law := wc_18 _ (List.mem_of_getElem? (i := 7) rfl)
theorem kw_18_8 : Cond.code yX1_tryFrom cX1_tryFrom 8 (some .int) ∈ wsL_law := wc_18 _ (List.mem_of_getElem? (i := 8) rfl)
theorem kw_18_9 : Cond.methodLink RX1 48 Lib.Math.max.name ∈ wsL_law := wc_18 _ (List.mem_of_getElem? (i := 9) rfl)
theorem kw_18_10 : Cond.methodLink RL 132 yX6_fullestByTrying ∈ wsL_law := wc_18 _ (List.mem_of_getElem? (i := 10) rfl)
theorem kw_18_11 : Cond.instanceMethod yX6_fullestByTrying ∈ wsL_law := wc_18 _ (List.mem_of_getElem? (i := 11) rfl)
theorem kw_18_12 : Cond.selects RX6 yX6_fullestByTrying yX6_fullestByTrying ∈ wsL_law := wc_18 _ (List.mem_of_getElem? (i := 12) rfl)
theorem kw_18_13 : Cond.code yX6_fullestByTrying cX6_fullestByTrying 3 (some .int) ∈ wsL_law := wc_18 _ (List.mem_of_getElem? (i := 13) rfl)
theorem kw_18_14 : Cond.methodLink RL 133 yL_run ∈ wsL_law := wc_18 _ (List.mem_of_getElem? (i := 14) rfl)
theorem kw_18_15 : Cond.static yL_run ∈ wsL_law := wc_18 _ (List.mem_of_getElem? (i := 15) rfl)
theorem kw_18_16 : Cond.codeWith yL_run cL_run 5 (some .int) [(0, 10, 13, 21), (0, 10, 17, 15)] ∈ wsL_law := wc_18 _ (List.mem_of_getElem? (i := 16) rfl)
theorem kw_18_17 : Cond.methodLink RL 51 yX5_run ∈ wsL_law := wc_18 _ (List.mem_of_getElem? (i := 17) rfl)
theorem kw_18_18 : Cond.instanceMethod yX5_run ∈ wsL_law := wc_18 _ (List.mem_of_getElem? (i := 18) rfl)
theorem kw_18_19 : Cond.selects RX5 yX5_run yX5_run ∈ wsL_law := wc_18 _ (List.mem_of_getElem? (i := 19) rfl)
theorem kw_18_20 : Cond.code yX5_run cX5_run 3 (some .int) ∈ wsL_law := wc_18 _ (List.mem_of_getElem? (i := 20) rfl)
theorem kw_18_21 : Cond.methodLink RX5 187 yX5_canBeRun ∈ wsL_law := wc_18 _ (List.mem_of_getElem? (i := 21) rfl)
theorem kw_18_22 : Cond.instanceMethod yX5_canBeRun ∈ wsL_law := wc_18 _ (List.mem_of_getElem? (i := 22) rfl)
theorem kw_18_23 : Cond.selects RX5 yX5_canBeRun yX5_canBeRun ∈ wsL_law := wc_18 _ (List.mem_of_getElem? (i := 23) rfl)
theorem wc_19 : ∀ w ∈ wsL_law0_r19, w ∈ wsL_law := fun _ h => List.mem_append_left _ (List.mem_append_left _ (List.mem_append_left _ (List.mem_append_left _ (List.mem_append_left _ (List.mem_append_left _ (List.mem_append_left _ (List.mem_append_left _ (List.mem_append_left _ (List.mem_append_left _ (List.mem_append_left _ (List.mem_append_right _ (List.mem_append_right _ (List.mem_append_right _ (List.mem_append_right _ (List.mem_append_right _ (List.mem_append_right _ (List.mem_append_right _ (List.mem_append_right _ (List.mem_append_right _ (List.mem_append_right _ (List.mem_append_right _ (List.mem_append_right _ (List.mem_append_right _ (List.mem_append_right _ (List.mem_append_right _ (List.mem_append_right _ (List.mem_append_right _ (List.mem_append_right _ (List.mem_append_left _ h)))))))))))))))))))))))))))))
theorem kw_19_0 : Cond.code yX5_canBeRun cX5_canBeRun 3 (some .boolean) ∈ wsL_law := wc_19 _ (List.mem_of_getElem? (i := 0) rfl)
theorem kw_19_1 : Cond.methodLink RX5 193 yX5_slitCoil ∈ wsL_law := wc_19 _ (List.mem_of_getElem? (i := 1) rfl)
theorem kw_19_2 : Cond.instanceMethod yX5_slitCoil ∈ wsL_law := wc_19 _ (List.mem_of_getElem? (i := 2) rfl)
theorem kw_19_3 : Cond.selects RX5 yX5_slitCoil yX5_slitCoil ∈ wsL_law := wc_19 _ (List.mem_of_getElem? (i := 3) rfl)
theorem kw_19_4 : Cond.code yX5_slitCoil cX5_slitCoil 3 (some .int) ∈ wsL_law := wc_19 _ (List.mem_of_getElem? (i := 4) rfl)
theorem kw_19_5 : Cond.methodLink RX5 196 yX5_movesBetween ∈ wsL_law := wc_19 _ (List.mem_of_getElem? (i := 5) rfl)
theorem kw_19_6 : Cond.instanceMethod yX5_movesBetween ∈ wsL_law := wc_19 _ (List.mem_of_getElem? (i := 6) rfl)
theorem kw_19_7 : Cond.selects RX5 yX5_movesBetween yX5_movesBetween ∈ wsL_law := wc_19 _ (List.mem_of_getElem? (i := 7) rfl)
theorem kw_19_8 : Cond.code yX5_movesBetween cX5_movesBetween 3 (some .int) ∈ wsL_law := wc_19 _ (List.mem_of_getElem? (i := 8) rfl)
theorem kw_19_9 : Cond.instanceMethod yX3_knivesNotIn ∈ wsL_law := wc_19 _ (List.mem_of_getElem? (i := 9) rfl)
theorem kw_19_10 : Cond.selects RX3 yX3_knivesNotIn yX3_knivesNotIn ∈ wsL_law := wc_19 _ (List.mem_of_getElem? (i := 10) rfl)
theorem kw_19_11 : Cond.code yX3_knivesNotIn cX3_knivesNotIn 5 (some .int) ∈ wsL_law := wc_19 _ (List.mem_of_getElem? (i := 11) rfl)
theorem kw_19_12 : Cond.methodLink RX3 30 yX3_hasKnifeAt ∈ wsL_law := wc_19 _ (List.mem_of_getElem? (i := 12) rfl)
theorem kw_19_13 : Cond.instanceMethod yX3_hasKnifeAt ∈ wsL_law := wc_19 _ (List.mem_of_getElem? (i := 13) rfl)
theorem kw_19_14 : Cond.selects RX3 yX3_hasKnifeAt yX3_hasKnifeAt ∈ wsL_law := wc_19 _ (List.mem_of_getElem? (i := 14) rfl)
theorem kw_19_15 : Cond.code yX3_hasKnifeAt cX3_hasKnifeAt 4 (some .boolean) ∈ wsL_law := wc_19 _ (List.mem_of_getElem? (i := 15) rfl)
theorem kw_19_16 : Cond.instanceMethod yX0_slitBy ∈ wsL_law := wc_19 _ (List.mem_of_getElem? (i := 16) rfl)
theorem kw_19_17 : Cond.selects RX0 yX0_slitBy yX0_slitBy ∈ wsL_law := wc_19 _ (List.mem_of_getElem? (i := 17) rfl)
theorem kw_19_18 : Cond.code yX0_slitBy cX0_slitBy 6 none ∈ wsL_law := wc_19 _ (List.mem_of_getElem? (i := 18) rfl)
theorem kw_19_19 : Cond.methodLink RX0 65 Lib.Math.min.name ∈ wsL_law := wc_19 _ (List.mem_of_getElem? (i := 19) rfl)
theorem kw_19_20 : Cond.methodLink RX0 68 yX0_cutOutLength ∈ wsL_law := wc_19 _ (List.mem_of_getElem? (i := 20) rfl)
theorem kw_19_21 : Cond.methodLink RX0 72 yX0_share ∈ wsL_law := wc_19 _ (List.mem_of_getElem? (i := 21) rfl)
theorem kw_19_22 : Cond.static yX0_share ∈ wsL_law := wc_19 _ (List.mem_of_getElem? (i := 22) rfl)
theorem kw_19_23 : Cond.code yX0_share cX0_share 3 (some .int) ∈ wsL_law := wc_19 _ (List.mem_of_getElem? (i := 23) rfl)
theorem wc_20 : ∀ w ∈ wsL_law0_r20, w ∈ wsL_law := fun _ h => List.mem_append_left _ (List.mem_append_left _ (List.mem_append_left _ (List.mem_append_left _ (List.mem_append_left _ (List.mem_append_left _ (List.mem_append_left _ (List.mem_append_left _ (List.mem_append_left _ (List.mem_append_left _ (List.mem_append_left _ (List.mem_append_right _ (List.mem_append_right _ (List.mem_append_right _ (List.mem_append_right _ (List.mem_append_right _ (List.mem_append_right _ (List.mem_append_right _ (List.mem_append_right _ (List.mem_append_right _ (List.mem_append_right _ (List.mem_append_right _ (List.mem_append_right _ (List.mem_append_right _ (List.mem_append_right _ (List.mem_append_right _ (List.mem_append_right _ (List.mem_append_right _ (List.mem_append_right _ (List.mem_append_right _ (List.mem_append_left _ h))))))))))))))))))))))))))))))
theorem kw_20_0 : Cond.methodLink RX5 299 yX5_deliverSlits ∈ wsL_law := wc_20 _ (List.mem_of_getElem? (i := 0) rfl)
theorem kw_20_1 : Cond.instanceMethod yX5_deliverSlits ∈ wsL_law := wc_20 _ (List.mem_of_getElem? (i := 1) rfl)
theorem kw_20_2 : Cond.selects RX5 yX5_deliverSlits yX5_deliverSlits ∈ wsL_law := wc_20 _ (List.mem_of_getElem? (i := 2) rfl)
theorem kw_20_3 : Cond.code yX5_deliverSlits cX5_deliverSlits 5 (some .int) ∈ wsL_law := wc_20 _ (List.mem_of_getElem? (i := 3) rfl)
theorem kw_20_4 : Cond.methodLink RX5 305 yX5_takerOf ∈ wsL_law := wc_20 _ (List.mem_of_getElem? (i := 4) rfl)
theorem kw_20_5 : Cond.instanceMethod yX5_takerOf ∈ wsL_law := wc_20 _ (List.mem_of_getElem? (i := 5) rfl)
theorem kw_20_6 : Cond.selects RX5 yX5_takerOf yX5_takerOf ∈ wsL_law := wc_20 _ (List.mem_of_getElem? (i := 6) rfl)
theorem kw_20_7 : Cond.code yX5_takerOf cX5_takerOf 4 (some .int) ∈ wsL_law := wc_20 _ (List.mem_of_getElem? (i := 7) rfl)
theorem kw_20_8 : Cond.instanceMethod yX2_receive ∈ wsL_law := wc_20 _ (List.mem_of_getElem? (i := 8) rfl)
theorem kw_20_9 : Cond.selects RX2 yX2_receive yX2_receive ∈ wsL_law := wc_20 _ (List.mem_of_getElem? (i := 9) rfl)
theorem kw_20_10 : Cond.code yX2_receive cX2_receive 3 none ∈ wsL_law := wc_20 _ (List.mem_of_getElem? (i := 10) rfl)
theorem kw_20_11 : Cond.methodLink RL 135 yX6_run ∈ wsL_law := wc_20 _ (List.mem_of_getElem? (i := 11) rfl)
theorem kw_20_12 : Cond.instanceMethod yX6_run ∈ wsL_law := wc_20 _ (List.mem_of_getElem? (i := 12) rfl)
theorem kw_20_13 : Cond.selects RX6 yX6_run yX6_run ∈ wsL_law := wc_20 _ (List.mem_of_getElem? (i := 13) rfl)
theorem kw_20_14 : Cond.code yX6_run cX6_run 4 (some .int) ∈ wsL_law := wc_20 _ (List.mem_of_getElem? (i := 14) rfl)
theorem kw_20_15 : Cond.methodLink RX6 154 yX6_runs ∈ wsL_law := wc_20 _ (List.mem_of_getElem? (i := 15) rfl)
theorem kw_20_16 : Cond.instanceMethod yX6_runs ∈ wsL_law := wc_20 _ (List.mem_of_getElem? (i := 16) rfl)
theorem kw_20_17 : Cond.selects RX6 yX6_runs yX6_runs ∈ wsL_law := wc_20 _ (List.mem_of_getElem? (i := 17) rfl)
theorem kw_20_18 : Cond.code yX6_runs cX6_runs 14 (some .int) ∈ wsL_law := wc_20 _ (List.mem_of_getElem? (i := 18) rfl)
theorem kw_20_19 : Cond.fieldLink RX6 147 "SlittingOfficeModel" "moved" "I" ∈ wsL_law := wc_20 _ (List.mem_of_getElem? (i := 19) rfl)
theorem kw_20_20 : Cond.methodLink RX6 150 yX6_movesFrom ∈ wsL_law := wc_20 _ (List.mem_of_getElem? (i := 20) rfl)
theorem kw_20_21 : Cond.instanceMethod yX6_movesFrom ∈ wsL_law := wc_20 _ (List.mem_of_getElem? (i := 21) rfl)
theorem kw_20_22 : Cond.selects RX6 yX6_movesFrom yX6_movesFrom ∈ wsL_law := wc_20 _ (List.mem_of_getElem? (i := 22) rfl)
theorem kw_20_23 : Cond.code yX6_movesFrom cX6_movesFrom 6 (some .int) ∈ wsL_law := wc_20 _ (List.mem_of_getElem? (i := 23) rfl)
theorem wc_21 : ∀ w ∈ wsL_law0_r21, w ∈ wsL_law := fun _ h => List.mem_append_left _ (List.mem_append_left _ (List.mem_append_left _ (List.mem_append_left _ (List.mem_append_left _ (List.mem_append_left _ (List.mem_append_left _ (List.mem_append_left _ (List.mem_append_left _ (List.mem_append_left _ (List.mem_append_left _ (List.mem_append_right _ (List.mem_append_right _ (List.mem_append_right _ (List.mem_append_right _ (List.mem_append_right _ (List.mem_append_right _ (List.mem_append_right _ (List.mem_append_right _ (List.mem_append_right _ (List.mem_append_right _ (List.mem_append_right _ (List.mem_append_right _ (List.mem_append_right _ (List.mem_append_right _ (List.mem_append_right _ (List.mem_append_right _ (List.mem_append_right _ (List.mem_append_right _ (List.mem_append_right _ (List.mem_append_right _ (List.mem_append_left _ h)))))))))))))))))))))))))))))))
theorem kw_21_0 : Cond.methodLink RX6 144 yX6_isPosition ∈ wsL_law := wc_21 _ (List.mem_of_getElem? (i := 0) rfl)
theorem kw_21_1 : Cond.instanceMethod yX6_isPosition ∈ wsL_law := wc_21 _ (List.mem_of_getElem? (i := 1) rfl)
theorem kw_21_2 : Cond.selects RX6 yX6_isPosition yX6_isPosition ∈ wsL_law := wc_21 _ (List.mem_of_getElem? (i := 2) rfl)
theorem kw_21_3 : Cond.code yX6_isPosition cX6_isPosition 6 (some .boolean) ∈ wsL_law := wc_21 _ (List.mem_of_getElem? (i := 3) rfl)
theorem kw_21_4 : Cond.methodLink RL 136 yL_moves ∈ wsL_law := wc_21 _ (List.mem_of_getElem? (i := 4) rfl)
theorem kw_21_5 : Cond.static yL_moves ∈ wsL_law := wc_21 _ (List.mem_of_getElem? (i := 5) rfl)
theorem kw_21_6 : Cond.codeWith yL_moves cL_moves 4 (some .int) [(0, 9, 12, 21)] ∈ wsL_law := wc_21 _ (List.mem_of_getElem? (i := 6) rfl)
theorem kw_21_7 : Cond.methodLink RL 54 yX5_moves ∈ wsL_law := wc_21 _ (List.mem_of_getElem? (i := 7) rfl)
theorem kw_21_8 : Cond.instanceMethod yX5_moves ∈ wsL_law := wc_21 _ (List.mem_of_getElem? (i := 8) rfl)
theorem kw_21_9 : Cond.selects RX5 yX5_moves yX5_moves ∈ wsL_law := wc_21 _ (List.mem_of_getElem? (i := 9) rfl)
theorem kw_21_10 : Cond.code yX5_moves cX5_moves 2 (some .int) ∈ wsL_law := wc_21 _ (List.mem_of_getElem? (i := 10) rfl)
theorem kw_21_11 : Cond.methodLink RL 138 yX6_moves ∈ wsL_law := wc_21 _ (List.mem_of_getElem? (i := 11) rfl)
theorem kw_21_12 : Cond.instanceMethod yX6_moves ∈ wsL_law := wc_21 _ (List.mem_of_getElem? (i := 12) rfl)
theorem kw_21_13 : Cond.selects RX6 yX6_moves yX6_moves ∈ wsL_law := wc_21 _ (List.mem_of_getElem? (i := 13) rfl)
theorem kw_21_14 : Cond.code yX6_moves cX6_moves 2 (some .int) ∈ wsL_law := wc_21 _ (List.mem_of_getElem? (i := 14) rfl)
theorem kw_21_15 : Cond.methodLink RL 139 yX5_moved ∈ wsL_law := wc_21 _ (List.mem_of_getElem? (i := 15) rfl)
theorem kw_21_16 : Cond.instanceMethod yX5_moved ∈ wsL_law := wc_21 _ (List.mem_of_getElem? (i := 16) rfl)
theorem kw_21_17 : Cond.selects RX5 yX5_moved yX5_moved ∈ wsL_law := wc_21 _ (List.mem_of_getElem? (i := 17) rfl)
theorem kw_21_18 : Cond.code yX5_moved cX5_moved 1 (some .int) ∈ wsL_law := wc_21 _ (List.mem_of_getElem? (i := 18) rfl)
theorem kw_21_19 : Cond.methodLink RL 142 yX6_moved ∈ wsL_law := wc_21 _ (List.mem_of_getElem? (i := 19) rfl)
theorem kw_21_20 : Cond.instanceMethod yX6_moved ∈ wsL_law := wc_21 _ (List.mem_of_getElem? (i := 20) rfl)
theorem kw_21_21 : Cond.selects RX6 yX6_moved yX6_moved ∈ wsL_law := wc_21 _ (List.mem_of_getElem? (i := 21) rfl)
theorem kw_21_22 : Cond.code yX6_moved cX6_moved 1 (some .int) ∈ wsL_law := wc_21 _ (List.mem_of_getElem? (i := 22) rfl)
theorem kw_21_23 : Cond.methodLink RL 143 yL_plan ∈ wsL_law := wc_21 _ (List.mem_of_getElem? (i := 23) rfl)
theorem wc_22 : ∀ w ∈ wsL_law0_r22, w ∈ wsL_law := fun _ h => List.mem_append_left _ (List.mem_append_left _ (List.mem_append_left _ (List.mem_append_left _ (List.mem_append_left _ (List.mem_append_left _ (List.mem_append_left _ (List.mem_append_left _ (List.mem_append_left _ (List.mem_append_left _ (List.mem_append_left _ (List.mem_append_right _ (List.mem_append_right _ (List.mem_append_right _ (List.mem_append_right _ (List.mem_append_right _ (List.mem_append_right _ (List.mem_append_right _ (List.mem_append_right _ (List.mem_append_right _ (List.mem_append_right _ (List.mem_append_right _ (List.mem_append_right _ (List.mem_append_right _ (List.mem_append_right _ (List.mem_append_right _ (List.mem_append_right _ (List.mem_append_right _ (List.mem_append_right _ (List.mem_append_right _ (List.mem_append_right _ (List.mem_append_right _ (List.mem_append_left _ h))))))))))))))))))))))))))))))))
theorem kw_22_0 : Cond.static yL_plan ∈ wsL_law := wc_22 _ (List.mem_of_getElem? (i := 0) rfl)
theorem kw_22_1 : Cond.codeWith yL_plan cL_plan 5 (some .int) [(0, 10, 13, 21), (0, 10, 17, 15)] ∈ wsL_law := wc_22 _ (List.mem_of_getElem? (i := 1) rfl)
theorem kw_22_2 : Cond.methodLink RL 57 yX5_plan ∈ wsL_law := wc_22 _ (List.mem_of_getElem? (i := 2) rfl)
theorem kw_22_3 : Cond.instanceMethod yX5_plan ∈ wsL_law := wc_22 _ (List.mem_of_getElem? (i := 3) rfl)
theorem kw_22_4 : Cond.selects RX5 yX5_plan yX5_plan ∈ wsL_law := wc_22 _ (List.mem_of_getElem? (i := 4) rfl)
theorem kw_22_5 : Cond.code yX5_plan cX5_plan 3 (some .int) ∈ wsL_law := wc_22 _ (List.mem_of_getElem? (i := 5) rfl)
theorem kw_22_6 : Cond.methodLink RX5 199 yX5_coilWaits ∈ wsL_law := wc_22 _ (List.mem_of_getElem? (i := 6) rfl)
theorem kw_22_7 : Cond.instanceMethod yX5_coilWaits ∈ wsL_law := wc_22 _ (List.mem_of_getElem? (i := 7) rfl)
theorem kw_22_8 : Cond.selects RX5 yX5_coilWaits yX5_coilWaits ∈ wsL_law := wc_22 _ (List.mem_of_getElem? (i := 8) rfl)
theorem kw_22_9 : Cond.code yX5_coilWaits cX5_coilWaits 3 (some .boolean) ∈ wsL_law := wc_22 _ (List.mem_of_getElem? (i := 9) rfl)
theorem kw_22_10 : Cond.methodLink RL 145 yX6_plan ∈ wsL_law := wc_22 _ (List.mem_of_getElem? (i := 10) rfl)
theorem kw_22_11 : Cond.instanceMethod yX6_plan ∈ wsL_law := wc_22 _ (List.mem_of_getElem? (i := 11) rfl)
theorem kw_22_12 : Cond.selects RX6 yX6_plan yX6_plan ∈ wsL_law := wc_22 _ (List.mem_of_getElem? (i := 12) rfl)
theorem kw_22_13 : Cond.code yX6_plan cX6_plan 6 (some .int) ∈ wsL_law := wc_22 _ (List.mem_of_getElem? (i := 13) rfl)
theorem kw_22_14 : Cond.fieldLink RX6 157 "SlittingOfficeModel" "waiting" "I" ∈ wsL_law := wc_22 _ (List.mem_of_getElem? (i := 14) rfl)
theorem kw_22_15 : Cond.methodLink RL 146 yX5_waiting ∈ wsL_law := wc_22 _ (List.mem_of_getElem? (i := 15) rfl)
theorem kw_22_16 : Cond.instanceMethod yX5_waiting ∈ wsL_law := wc_22 _ (List.mem_of_getElem? (i := 16) rfl)
theorem kw_22_17 : Cond.selects RX5 yX5_waiting yX5_waiting ∈ wsL_law := wc_22 _ (List.mem_of_getElem? (i := 17) rfl)
theorem kw_22_18 : Cond.code yX5_waiting cX5_waiting 1 (some .int) ∈ wsL_law := wc_22 _ (List.mem_of_getElem? (i := 18) rfl)
theorem kw_22_19 : Cond.methodLink RL 149 yX6_waiting ∈ wsL_law := wc_22 _ (List.mem_of_getElem? (i := 19) rfl)
theorem kw_22_20 : Cond.instanceMethod yX6_waiting ∈ wsL_law := wc_22 _ (List.mem_of_getElem? (i := 20) rfl)
theorem kw_22_21 : Cond.selects RX6 yX6_waiting yX6_waiting ∈ wsL_law := wc_22 _ (List.mem_of_getElem? (i := 21) rfl)
theorem kw_22_22 : Cond.code yX6_waiting cX6_waiting 1 (some .int) ∈ wsL_law := wc_22 _ (List.mem_of_getElem? (i := 22) rfl)
theorem kw_22_23 : Cond.methodLink RL 150 yX5_fewestMoves ∈ wsL_law := wc_22 _ (List.mem_of_getElem? (i := 23) rfl)
theorem wc_23 : ∀ w ∈ wsL_law0_r23, w ∈ wsL_law := fun _ h => List.mem_append_left _ (List.mem_append_left _ (List.mem_append_left _ (List.mem_append_left _ (List.mem_append_left _ (List.mem_append_left _ (List.mem_append_left _ (List.mem_append_left _ (List.mem_append_left _ (List.mem_append_left _ (List.mem_append_left _ (List.mem_append_right _ (List.mem_append_right _ (List.mem_append_right _ (List.mem_append_right _ (List.mem_append_right _ (List.mem_append_right _ (List.mem_append_right _ (List.mem_append_right _ (List.mem_append_right _ (List.mem_append_right _ (List.mem_append_right _ (List.mem_append_right _ (List.mem_append_right _ (List.mem_append_right _ (List.mem_append_right _ (List.mem_append_right _ (List.mem_append_right _ (List.mem_append_right _ (List.mem_append_right _ (List.mem_append_right _ (List.mem_append_right _ (List.mem_append_right _ (List.mem_append_left _ h)))))))))))))))))))))))))))))))))
theorem kw_23_0 : Cond.instanceMethod yX5_fewestMoves ∈ wsL_law := wc_23 _ (List.mem_of_getElem? (i := 0) rfl)
theorem kw_23_1 : Cond.selects RX5 yX5_fewestMoves yX5_fewestMoves ∈ wsL_law := wc_23 _ (List.mem_of_getElem? (i := 1) rfl)
theorem kw_23_2 : Cond.code yX5_fewestMoves cX5_fewestMoves 1 (some .int) ∈ wsL_law := wc_23 _ (List.mem_of_getElem? (i := 2) rfl)
theorem kw_23_3 : Cond.methodLink RX5 204 yX5_readMoves ∈ wsL_law := wc_23 _ (List.mem_of_getElem? (i := 3) rfl)
theorem kw_23_4 : Cond.instanceMethod yX5_readMoves ∈ wsL_law := wc_23 _ (List.mem_of_getElem? (i := 4) rfl)
theorem kw_23_5 : Cond.selects RX5 yX5_readMoves yX5_readMoves ∈ wsL_law := wc_23 _ (List.mem_of_getElem? (i := 5) rfl)
theorem kw_23_6 : Cond.code yX5_readMoves cX5_readMoves 3 none ∈ wsL_law := wc_23 _ (List.mem_of_getElem? (i := 6) rfl)
theorem kw_23_7 : Cond.instanceMethod yX4_fewestBySets ∈ wsL_law := wc_23 _ (List.mem_of_getElem? (i := 7) rfl)
theorem kw_23_8 : Cond.selects RX4 yX4_fewestBySets yX4_fewestBySets ∈ wsL_law := wc_23 _ (List.mem_of_getElem? (i := 8) rfl)
theorem kw_23_9 : Cond.code yX4_fewestBySets cX4_fewestBySets 5 (some .int) ∈ wsL_law := wc_23 _ (List.mem_of_getElem? (i := 9) rfl)
theorem kw_23_10 : Cond.methodLink RX4 23 yX4_fewestAfter ∈ wsL_law := wc_23 _ (List.mem_of_getElem? (i := 10) rfl)
theorem kw_23_11 : Cond.instanceMethod yX4_fewestAfter ∈ wsL_law := wc_23 _ (List.mem_of_getElem? (i := 11) rfl)
theorem kw_23_12 : Cond.selects RX4 yX4_fewestAfter yX4_fewestAfter ∈ wsL_law := wc_23 _ (List.mem_of_getElem? (i := 12) rfl)
theorem kw_23_13 : Cond.code yX4_fewestAfter cX4_fewestAfter 6 (some .int) ∈ wsL_law := wc_23 _ (List.mem_of_getElem? (i := 13) rfl)
theorem kw_23_14 : Cond.methodLink RX4 34 Lib.Math.min.name ∈ wsL_law := wc_23 _ (List.mem_of_getElem? (i := 14) rfl)
theorem kw_23_15 : Cond.methodLink RX4 27 yX4_holds ∈ wsL_law := wc_23 _ (List.mem_of_getElem? (i := 15) rfl)
theorem kw_23_16 : Cond.static yX4_holds ∈ wsL_law := wc_23 _ (List.mem_of_getElem? (i := 16) rfl)
theorem kw_23_17 : Cond.code yX4_holds cX4_holds 2 (some .boolean) ∈ wsL_law := wc_23 _ (List.mem_of_getElem? (i := 17) rfl)
theorem kw_23_18 : Cond.methodLink RX4 31 yX4_movesThrough ∈ wsL_law := wc_23 _ (List.mem_of_getElem? (i := 18) rfl)
theorem kw_23_19 : Cond.instanceMethod yX4_movesThrough ∈ wsL_law := wc_23 _ (List.mem_of_getElem? (i := 19) rfl)
theorem kw_23_20 : Cond.selects RX4 yX4_movesThrough yX4_movesThrough ∈ wsL_law := wc_23 _ (List.mem_of_getElem? (i := 20) rfl)
theorem kw_23_21 : Cond.code yX4_movesThrough cX4_movesThrough 4 (some .int) ∈ wsL_law := wc_23 _ (List.mem_of_getElem? (i := 21) rfl)
theorem kw_23_22 : Cond.methodLink RX4 40 yX4_without ∈ wsL_law := wc_23 _ (List.mem_of_getElem? (i := 22) rfl)
theorem kw_23_23 : Cond.static yX4_without ∈ wsL_law := wc_23 _ (List.mem_of_getElem? (i := 23) rfl)
theorem wc_24 : ∀ w ∈ wsL_law0_r24, w ∈ wsL_law := fun _ h => List.mem_append_left _ (List.mem_append_left _ (List.mem_append_left _ (List.mem_append_left _ (List.mem_append_left _ (List.mem_append_left _ (List.mem_append_left _ (List.mem_append_left _ (List.mem_append_left _ (List.mem_append_left _ (List.mem_append_left _ (List.mem_append_right _ (List.mem_append_right _ (List.mem_append_right _ (List.mem_append_right _ (List.mem_append_right _ (List.mem_append_right _ (List.mem_append_right _ (List.mem_append_right _ (List.mem_append_right _ (List.mem_append_right _ (List.mem_append_right _ (List.mem_append_right _ (List.mem_append_right _ (List.mem_append_right _ (List.mem_append_right _ (List.mem_append_right _ (List.mem_append_right _ (List.mem_append_right _ (List.mem_append_right _ (List.mem_append_right _ (List.mem_append_right _ (List.mem_append_right _ (List.mem_append_right _ (List.mem_append_left _ h))))))))))))))))))))))))))))))))))
theorem kw_24_0 : Cond.code yX4_without cX4_without 2 (some .int) ∈ wsL_law := wc_24 _ (List.mem_of_getElem? (i := 0) rfl)
theorem kw_24_1 : Cond.methodLink RL 153 yX6_fewestMoves ∈ wsL_law := wc_24 _ (List.mem_of_getElem? (i := 1) rfl)
theorem kw_24_2 : Cond.instanceMethod yX6_fewestMoves ∈ wsL_law := wc_24 _ (List.mem_of_getElem? (i := 2) rfl)
theorem kw_24_3 : Cond.selects RX6 yX6_fewestMoves yX6_fewestMoves ∈ wsL_law := wc_24 _ (List.mem_of_getElem? (i := 3) rfl)
theorem kw_24_4 : Cond.code yX6_fewestMoves cX6_fewestMoves 1 (some .int) ∈ wsL_law := wc_24 _ (List.mem_of_getElem? (i := 4) rfl)
theorem kw_24_5 : Cond.methodLink RX6 163 yX6_best ∈ wsL_law := wc_24 _ (List.mem_of_getElem? (i := 5) rfl)
theorem kw_24_6 : Cond.instanceMethod yX6_best ∈ wsL_law := wc_24 _ (List.mem_of_getElem? (i := 6) rfl)
theorem kw_24_7 : Cond.selects RX6 yX6_best yX6_best ∈ wsL_law := wc_24 _ (List.mem_of_getElem? (i := 7) rfl)
theorem kw_24_8 : Cond.code yX6_best cX6_best 8 (some .int) ∈ wsL_law := wc_24 _ (List.mem_of_getElem? (i := 8) rfl)
theorem kw_24_9 : Cond.methodLink RX6 160 yX6_between ∈ wsL_law := wc_24 _ (List.mem_of_getElem? (i := 9) rfl)
theorem kw_24_10 : Cond.instanceMethod yX6_between ∈ wsL_law := wc_24 _ (List.mem_of_getElem? (i := 10) rfl)
theorem kw_24_11 : Cond.selects RX6 yX6_between yX6_between ∈ wsL_law := wc_24 _ (List.mem_of_getElem? (i := 11) rfl)
theorem kw_24_12 : Cond.code yX6_between cX6_between 3 (some .int) ∈ wsL_law := wc_24 _ (List.mem_of_getElem? (i := 12) rfl)
theorem kw_24_13 : Cond.methodLink RL 154 yX5_fewestByTrying ∈ wsL_law := wc_24 _ (List.mem_of_getElem? (i := 13) rfl)
theorem kw_24_14 : Cond.instanceMethod yX5_fewestByTrying ∈ wsL_law := wc_24 _ (List.mem_of_getElem? (i := 14) rfl)
theorem kw_24_15 : Cond.selects RX5 yX5_fewestByTrying yX5_fewestByTrying ∈ wsL_law := wc_24 _ (List.mem_of_getElem? (i := 15) rfl)
theorem kw_24_16 : Cond.code yX5_fewestByTrying cX5_fewestByTrying 1 (some .int) ∈ wsL_law := wc_24 _ (List.mem_of_getElem? (i := 16) rfl)
theorem kw_24_17 : Cond.instanceMethod yX4_fewestByOrders ∈ wsL_law := wc_24 _ (List.mem_of_getElem? (i := 17) rfl)
theorem kw_24_18 : Cond.selects RX4 yX4_fewestByOrders yX4_fewestByOrders ∈ wsL_law := wc_24 _ (List.mem_of_getElem? (i := 18) rfl)
theorem kw_24_19 : Cond.code yX4_fewestByOrders cX4_fewestByOrders 2 (some .int) ∈ wsL_law := wc_24 _ (List.mem_of_getElem? (i := 19) rfl)
theorem kw_24_20 : Cond.methodLink RX4 50 yX4_tryOrders ∈ wsL_law := wc_24 _ (List.mem_of_getElem? (i := 20) rfl)
theorem kw_24_21 : Cond.static yX4_tryOrders ∈ wsL_law := wc_24 _ (List.mem_of_getElem? (i := 21) rfl)
theorem kw_24_22 : Cond.code yX4_tryOrders cX4_tryOrders 8 (some .int) ∈ wsL_law := wc_24 _ (List.mem_of_getElem? (i := 22) rfl)
theorem kw_24_23 : Cond.methodLink RL 157 yX6_fewestByTrying ∈ wsL_law := wc_24 _ (List.mem_of_getElem? (i := 23) rfl)
theorem wc_25 : ∀ w ∈ wsL_law0_r25, w ∈ wsL_law := fun _ h => List.mem_append_left _ (List.mem_append_left _ (List.mem_append_left _ (List.mem_append_left _ (List.mem_append_left _ (List.mem_append_left _ (List.mem_append_left _ (List.mem_append_left _ (List.mem_append_left _ (List.mem_append_left _ (List.mem_append_left _ (List.mem_append_right _ (List.mem_append_right _ (List.mem_append_right _ (List.mem_append_right _ (List.mem_append_right _ (List.mem_append_right _ (List.mem_append_right _ (List.mem_append_right _ (List.mem_append_right _ (List.mem_append_right _ (List.mem_append_right _ (List.mem_append_right _ (List.mem_append_right _ (List.mem_append_right _ (List.mem_append_right _ (List.mem_append_right _ (List.mem_append_right _ (List.mem_append_right _ (List.mem_append_right _ (List.mem_append_right _ (List.mem_append_right _ (List.mem_append_right _ (List.mem_append_right _ (List.mem_append_right _ (List.mem_append_left _ h)))))))))))))))))))))))))))))))))))
theorem kw_25_0 : Cond.instanceMethod yX6_fewestByTrying ∈ wsL_law := wc_25 _ (List.mem_of_getElem? (i := 0) rfl)
theorem kw_25_1 : Cond.selects RX6 yX6_fewestByTrying yX6_fewestByTrying ∈ wsL_law := wc_25 _ (List.mem_of_getElem? (i := 1) rfl)
theorem kw_25_2 : Cond.code yX6_fewestByTrying cX6_fewestByTrying 1 (some .int) ∈ wsL_law := wc_25 _ (List.mem_of_getElem? (i := 2) rfl)
theorem kw_25_3 : Cond.methodLink RL 158 yL_nextAt ∈ wsL_law := wc_25 _ (List.mem_of_getElem? (i := 3) rfl)
theorem kw_25_4 : Cond.static yL_nextAt ∈ wsL_law := wc_25 _ (List.mem_of_getElem? (i := 4) rfl)
theorem kw_25_5 : Cond.codeWith yL_nextAt cL_nextAt 4 (some .int) [(0, 9, 12, 21)] ∈ wsL_law := wc_25 _ (List.mem_of_getElem? (i := 5) rfl)
theorem kw_25_6 : Cond.methodLink RL 60 yX5_nextAt ∈ wsL_law := wc_25 _ (List.mem_of_getElem? (i := 6) rfl)
theorem kw_25_7 : Cond.instanceMethod yX5_nextAt ∈ wsL_law := wc_25 _ (List.mem_of_getElem? (i := 7) rfl)
theorem kw_25_8 : Cond.selects RX5 yX5_nextAt yX5_nextAt ∈ wsL_law := wc_25 _ (List.mem_of_getElem? (i := 8) rfl)
theorem kw_25_9 : Cond.code yX5_nextAt cX5_nextAt 2 (some .int) ∈ wsL_law := wc_25 _ (List.mem_of_getElem? (i := 9) rfl)
theorem kw_25_10 : Cond.instanceMethod yX4_findBest ∈ wsL_law := wc_25 _ (List.mem_of_getElem? (i := 10) rfl)
theorem kw_25_11 : Cond.selects RX4 yX4_findBest yX4_findBest ∈ wsL_law := wc_25 _ (List.mem_of_getElem? (i := 11) rfl)
theorem kw_25_12 : Cond.code yX4_findBest cX4_findBest 6 none ∈ wsL_law := wc_25 _ (List.mem_of_getElem? (i := 12) rfl)
theorem kw_25_13 : Cond.methodLink RX4 43 yX4_fewestBySets ∈ wsL_law := wc_25 _ (List.mem_of_getElem? (i := 13) rfl)
theorem kw_25_14 : Cond.methodLink RX4 47 yX4_leastNext ∈ wsL_law := wc_25 _ (List.mem_of_getElem? (i := 14) rfl)
theorem kw_25_15 : Cond.instanceMethod yX4_leastNext ∈ wsL_law := wc_25 _ (List.mem_of_getElem? (i := 15) rfl)
theorem kw_25_16 : Cond.selects RX4 yX4_leastNext yX4_leastNext ∈ wsL_law := wc_25 _ (List.mem_of_getElem? (i := 16) rfl)
theorem kw_25_17 : Cond.code yX4_leastNext cX4_leastNext 5 (some .int) ∈ wsL_law := wc_25 _ (List.mem_of_getElem? (i := 17) rfl)
theorem kw_25_18 : Cond.methodLink RL 160 yX6_nextAt ∈ wsL_law := wc_25 _ (List.mem_of_getElem? (i := 18) rfl)
theorem kw_25_19 : Cond.instanceMethod yX6_nextAt ∈ wsL_law := wc_25 _ (List.mem_of_getElem? (i := 19) rfl)
theorem kw_25_20 : Cond.selects RX6 yX6_nextAt yX6_nextAt ∈ wsL_law := wc_25 _ (List.mem_of_getElem? (i := 20) rfl)
theorem kw_25_21 : Cond.code yX6_nextAt cX6_nextAt 2 (some .int) ∈ wsL_law := wc_25 _ (List.mem_of_getElem? (i := 21) rfl)
theorem kw_25_22 : Cond.methodLink RL 161 yX5_runAll ∈ wsL_law := wc_25 _ (List.mem_of_getElem? (i := 22) rfl)
theorem kw_25_23 : Cond.instanceMethod yX5_runAll ∈ wsL_law := wc_25 _ (List.mem_of_getElem? (i := 23) rfl)
theorem wc_26 : ∀ w ∈ wsL_law0_r26, w ∈ wsL_law := fun _ h => List.mem_append_left _ (List.mem_append_left _ (List.mem_append_left _ (List.mem_append_left _ (List.mem_append_left _ (List.mem_append_left _ (List.mem_append_left _ (List.mem_append_left _ (List.mem_append_left _ (List.mem_append_left _ (List.mem_append_left _ (List.mem_append_right _ (List.mem_append_right _ (List.mem_append_right _ (List.mem_append_right _ (List.mem_append_right _ (List.mem_append_right _ (List.mem_append_right _ (List.mem_append_right _ (List.mem_append_right _ (List.mem_append_right _ (List.mem_append_right _ (List.mem_append_right _ (List.mem_append_right _ (List.mem_append_right _ (List.mem_append_right _ (List.mem_append_right _ (List.mem_append_right _ (List.mem_append_right _ (List.mem_append_right _ (List.mem_append_right _ (List.mem_append_right _ (List.mem_append_right _ (List.mem_append_right _ (List.mem_append_right _ (List.mem_append_right _ (List.mem_append_left _ h))))))))))))))))))))))))))))))))))))
theorem kw_26_0 : Cond.selects RX5 yX5_runAll yX5_runAll ∈ wsL_law := wc_26 _ (List.mem_of_getElem? (i := 0) rfl)
theorem kw_26_1 : Cond.code yX5_runAll cX5_runAll 4 (some .int) ∈ wsL_law := wc_26 _ (List.mem_of_getElem? (i := 1) rfl)
theorem kw_26_2 : Cond.methodLink RL 164 yX6_runAll ∈ wsL_law := wc_26 _ (List.mem_of_getElem? (i := 2) rfl)
theorem kw_26_3 : Cond.instanceMethod yX6_runAll ∈ wsL_law := wc_26 _ (List.mem_of_getElem? (i := 3) rfl)
theorem kw_26_4 : Cond.selects RX6 yX6_runAll yX6_runAll ∈ wsL_law := wc_26 _ (List.mem_of_getElem? (i := 4) rfl)
theorem kw_26_5 : Cond.code yX6_runAll cX6_runAll 5 (some .int) ∈ wsL_law := wc_26 _ (List.mem_of_getElem? (i := 5) rfl)
theorem kw_26_6 : Cond.methodLink RL 165 yL_slits ∈ wsL_law := wc_26 _ (List.mem_of_getElem? (i := 6) rfl)
theorem kw_26_7 : Cond.static yL_slits ∈ wsL_law := wc_26 _ (List.mem_of_getElem? (i := 7) rfl)
theorem kw_26_8 : Cond.codeWith yL_slits cL_slits 4 (some .int) [(0, 9, 12, 21)] ∈ wsL_law := wc_26 _ (List.mem_of_getElem? (i := 8) rfl)
theorem kw_26_9 : Cond.methodLink RL 63 yX5_slits ∈ wsL_law := wc_26 _ (List.mem_of_getElem? (i := 9) rfl)
theorem kw_26_10 : Cond.instanceMethod yX5_slits ∈ wsL_law := wc_26 _ (List.mem_of_getElem? (i := 10) rfl)
theorem kw_26_11 : Cond.selects RX5 yX5_slits yX5_slits ∈ wsL_law := wc_26 _ (List.mem_of_getElem? (i := 11) rfl)
theorem kw_26_12 : Cond.code yX5_slits cX5_slits 2 (some .int) ∈ wsL_law := wc_26 _ (List.mem_of_getElem? (i := 12) rfl)
theorem kw_26_13 : Cond.methodLink RL 167 yX6_slits ∈ wsL_law := wc_26 _ (List.mem_of_getElem? (i := 13) rfl)
theorem kw_26_14 : Cond.instanceMethod yX6_slits ∈ wsL_law := wc_26 _ (List.mem_of_getElem? (i := 14) rfl)
theorem kw_26_15 : Cond.selects RX6 yX6_slits yX6_slits ∈ wsL_law := wc_26 _ (List.mem_of_getElem? (i := 15) rfl)
theorem kw_26_16 : Cond.code yX6_slits cX6_slits 2 (some .int) ∈ wsL_law := wc_26 _ (List.mem_of_getElem? (i := 16) rfl)
theorem kw_26_17 : Cond.methodLink RL 168 yL_slitWeight ∈ wsL_law := wc_26 _ (List.mem_of_getElem? (i := 17) rfl)
theorem kw_26_18 : Cond.static yL_slitWeight ∈ wsL_law := wc_26 _ (List.mem_of_getElem? (i := 18) rfl)
theorem kw_26_19 : Cond.codeWith yL_slitWeight cL_slitWeight 5 (some .int) [(0, 10, 13, 21)] ∈ wsL_law := wc_26 _ (List.mem_of_getElem? (i := 19) rfl)
theorem kw_26_20 : Cond.methodLink RL 66 yX5_slitWeight ∈ wsL_law := wc_26 _ (List.mem_of_getElem? (i := 20) rfl)
theorem kw_26_21 : Cond.instanceMethod yX5_slitWeight ∈ wsL_law := wc_26 _ (List.mem_of_getElem? (i := 21) rfl)
theorem kw_26_22 : Cond.selects RX5 yX5_slitWeight yX5_slitWeight ∈ wsL_law := wc_26 _ (List.mem_of_getElem? (i := 22) rfl)
theorem kw_26_23 : Cond.code yX5_slitWeight cX5_slitWeight 3 (some .int) ∈ wsL_law := wc_26 _ (List.mem_of_getElem? (i := 23) rfl)
theorem wc_27 : ∀ w ∈ wsL_law0_r27, w ∈ wsL_law := fun _ h => List.mem_append_left _ (List.mem_append_left _ (List.mem_append_left _ (List.mem_append_left _ (List.mem_append_left _ (List.mem_append_left _ (List.mem_append_left _ (List.mem_append_left _ (List.mem_append_left _ (List.mem_append_left _ (List.mem_append_left _ (List.mem_append_right _ (List.mem_append_right _ (List.mem_append_right _ (List.mem_append_right _ (List.mem_append_right _ (List.mem_append_right _ (List.mem_append_right _ (List.mem_append_right _ (List.mem_append_right _ (List.mem_append_right _ (List.mem_append_right _ (List.mem_append_right _ (List.mem_append_right _ (List.mem_append_right _ (List.mem_append_right _ (List.mem_append_right _ (List.mem_append_right _ (List.mem_append_right _ (List.mem_append_right _ (List.mem_append_right _ (List.mem_append_right _ (List.mem_append_right _ (List.mem_append_right _ (List.mem_append_right _ (List.mem_append_right _ (List.mem_append_right _ (List.mem_append_left _ h)))))))))))))))))))))))))))))))))))))
theorem kw_27_0 : Cond.methodLink RX5 225 yX5_requireSlit ∈ wsL_law := wc_27 _ (List.mem_of_getElem? (i := 0) rfl)
theorem kw_27_1 : Cond.instanceMethod yX5_requireSlit ∈ wsL_law := wc_27 _ (List.mem_of_getElem? (i := 1) rfl)
theorem kw_27_2 : Cond.selects RX5 yX5_requireSlit yX5_requireSlit ∈ wsL_law := wc_27 _ (List.mem_of_getElem? (i := 2) rfl)
theorem kw_27_3 : Cond.code yX5_requireSlit cX5_requireSlit 3 none ∈ wsL_law := wc_27 _ (List.mem_of_getElem? (i := 3) rfl)
theorem kw_27_4 : Cond.instanceMethod yX0_hasSlitAt ∈ wsL_law := wc_27 _ (List.mem_of_getElem? (i := 4) rfl)
theorem kw_27_5 : Cond.selects RX0 yX0_hasSlitAt yX0_hasSlitAt ∈ wsL_law := wc_27 _ (List.mem_of_getElem? (i := 5) rfl)
theorem kw_27_6 : Cond.code yX0_hasSlitAt cX0_hasSlitAt 2 (some .boolean) ∈ wsL_law := wc_27 _ (List.mem_of_getElem? (i := 6) rfl)
theorem kw_27_7 : Cond.methodLink RL 170 yX6_slitWeight ∈ wsL_law := wc_27 _ (List.mem_of_getElem? (i := 7) rfl)
theorem kw_27_8 : Cond.instanceMethod yX6_slitWeight ∈ wsL_law := wc_27 _ (List.mem_of_getElem? (i := 8) rfl)
theorem kw_27_9 : Cond.selects RX6 yX6_slitWeight yX6_slitWeight ∈ wsL_law := wc_27 _ (List.mem_of_getElem? (i := 9) rfl)
theorem kw_27_10 : Cond.code yX6_slitWeight cX6_slitWeight 3 (some .int) ∈ wsL_law := wc_27 _ (List.mem_of_getElem? (i := 10) rfl)
theorem kw_27_11 : Cond.methodLink RX6 167 yX6_isSlit ∈ wsL_law := wc_27 _ (List.mem_of_getElem? (i := 11) rfl)
theorem kw_27_12 : Cond.instanceMethod yX6_isSlit ∈ wsL_law := wc_27 _ (List.mem_of_getElem? (i := 12) rfl)
theorem kw_27_13 : Cond.selects RX6 yX6_isSlit yX6_isSlit ∈ wsL_law := wc_27 _ (List.mem_of_getElem? (i := 13) rfl)
theorem kw_27_14 : Cond.code yX6_isSlit cX6_isSlit 4 (some .boolean) ∈ wsL_law := wc_27 _ (List.mem_of_getElem? (i := 14) rfl)
theorem kw_27_15 : Cond.methodLink RL 171 yL_slitOrder ∈ wsL_law := wc_27 _ (List.mem_of_getElem? (i := 15) rfl)
theorem kw_27_16 : Cond.static yL_slitOrder ∈ wsL_law := wc_27 _ (List.mem_of_getElem? (i := 16) rfl)
theorem kw_27_17 : Cond.codeWith yL_slitOrder cL_slitOrder 5 (some .int) [(0, 10, 13, 21)] ∈ wsL_law := wc_27 _ (List.mem_of_getElem? (i := 17) rfl)
theorem kw_27_18 : Cond.methodLink RL 69 yX5_slitOrder ∈ wsL_law := wc_27 _ (List.mem_of_getElem? (i := 18) rfl)
theorem kw_27_19 : Cond.instanceMethod yX5_slitOrder ∈ wsL_law := wc_27 _ (List.mem_of_getElem? (i := 19) rfl)
theorem kw_27_20 : Cond.selects RX5 yX5_slitOrder yX5_slitOrder ∈ wsL_law := wc_27 _ (List.mem_of_getElem? (i := 20) rfl)
theorem kw_27_21 : Cond.code yX5_slitOrder cX5_slitOrder 3 (some .int) ∈ wsL_law := wc_27 _ (List.mem_of_getElem? (i := 21) rfl)
theorem kw_27_22 : Cond.methodLink RL 173 yX6_slitOrder ∈ wsL_law := wc_27 _ (List.mem_of_getElem? (i := 22) rfl)
theorem kw_27_23 : Cond.instanceMethod yX6_slitOrder ∈ wsL_law := wc_27 _ (List.mem_of_getElem? (i := 23) rfl)
theorem wc_28 : ∀ w ∈ wsL_law0_r28, w ∈ wsL_law := fun _ h => List.mem_append_left _ (List.mem_append_left _ (List.mem_append_left _ (List.mem_append_left _ (List.mem_append_left _ (List.mem_append_left _ (List.mem_append_left _ (List.mem_append_left _ (List.mem_append_left _ (List.mem_append_left _ (List.mem_append_left _ (List.mem_append_right _ (List.mem_append_right _ (List.mem_append_right _ (List.mem_append_right _ (List.mem_append_right _ (List.mem_append_right _ (List.mem_append_right _ (List.mem_append_right _ (List.mem_append_right _ (List.mem_append_right _ (List.mem_append_right _ (List.mem_append_right _ (List.mem_append_right _ (List.mem_append_right _ (List.mem_append_right _ (List.mem_append_right _ (List.mem_append_right _ (List.mem_append_right _ (List.mem_append_right _ (List.mem_append_right _ (List.mem_append_right _ (List.mem_append_right _ (List.mem_append_right _ (List.mem_append_right _ (List.mem_append_right _ (List.mem_append_right _ (List.mem_append_right _ (List.mem_append_left _ h))))))))))))))))))))))))))))))))))))))
theorem kw_28_0 : Cond.selects RX6 yX6_slitOrder yX6_slitOrder ∈ wsL_law := wc_28 _ (List.mem_of_getElem? (i := 0) rfl)
theorem kw_28_1 : Cond.code yX6_slitOrder cX6_slitOrder 3 (some .int) ∈ wsL_law := wc_28 _ (List.mem_of_getElem? (i := 1) rfl)
theorem kw_28_2 : Cond.methodLink RL 174 yL_lost ∈ wsL_law := wc_28 _ (List.mem_of_getElem? (i := 2) rfl)
theorem kw_28_3 : Cond.static yL_lost ∈ wsL_law := wc_28 _ (List.mem_of_getElem? (i := 3) rfl)
theorem kw_28_4 : Cond.codeWith yL_lost cL_lost 5 (some .int) [(0, 10, 13, 21), (0, 10, 17, 13)] ∈ wsL_law := wc_28 _ (List.mem_of_getElem? (i := 4) rfl)
theorem kw_28_5 : Cond.methodLink RL 72 yX5_lost ∈ wsL_law := wc_28 _ (List.mem_of_getElem? (i := 5) rfl)
theorem kw_28_6 : Cond.instanceMethod yX5_lost ∈ wsL_law := wc_28 _ (List.mem_of_getElem? (i := 6) rfl)
theorem kw_28_7 : Cond.selects RX5 yX5_lost yX5_lost ∈ wsL_law := wc_28 _ (List.mem_of_getElem? (i := 7) rfl)
theorem kw_28_8 : Cond.code yX5_lost cX5_lost 3 (some .int) ∈ wsL_law := wc_28 _ (List.mem_of_getElem? (i := 8) rfl)
theorem kw_28_9 : Cond.methodLink RL 176 yX6_lost ∈ wsL_law := wc_28 _ (List.mem_of_getElem? (i := 9) rfl)
theorem kw_28_10 : Cond.instanceMethod yX6_lost ∈ wsL_law := wc_28 _ (List.mem_of_getElem? (i := 10) rfl)
theorem kw_28_11 : Cond.selects RX6 yX6_lost yX6_lost ∈ wsL_law := wc_28 _ (List.mem_of_getElem? (i := 11) rfl)
theorem kw_28_12 : Cond.code yX6_lost cX6_lost 3 (some .int) ∈ wsL_law := wc_28 _ (List.mem_of_getElem? (i := 12) rfl)
theorem kw_28_13 : Cond.methodLink RL 177 yL_delivered ∈ wsL_law := wc_28 _ (List.mem_of_getElem? (i := 13) rfl)
theorem kw_28_14 : Cond.static yL_delivered ∈ wsL_law := wc_28 _ (List.mem_of_getElem? (i := 14) rfl)
theorem kw_28_15 : Cond.codeWith yL_delivered cL_delivered 4 (some .int) [(0, 9, 12, 21)] ∈ wsL_law := wc_28 _ (List.mem_of_getElem? (i := 15) rfl)
theorem kw_28_16 : Cond.methodLink RL 75 yX5_delivered ∈ wsL_law := wc_28 _ (List.mem_of_getElem? (i := 16) rfl)
theorem kw_28_17 : Cond.instanceMethod yX5_delivered ∈ wsL_law := wc_28 _ (List.mem_of_getElem? (i := 17) rfl)
theorem kw_28_18 : Cond.selects RX5 yX5_delivered yX5_delivered ∈ wsL_law := wc_28 _ (List.mem_of_getElem? (i := 18) rfl)
theorem kw_28_19 : Cond.code yX5_delivered cX5_delivered 2 (some .int) ∈ wsL_law := wc_28 _ (List.mem_of_getElem? (i := 19) rfl)
theorem kw_28_20 : Cond.methodLink RX5 243 yX5_requireOrder ∈ wsL_law := wc_28 _ (List.mem_of_getElem? (i := 20) rfl)
theorem kw_28_21 : Cond.instanceMethod yX5_requireOrder ∈ wsL_law := wc_28 _ (List.mem_of_getElem? (i := 21) rfl)
theorem kw_28_22 : Cond.selects RX5 yX5_requireOrder yX5_requireOrder ∈ wsL_law := wc_28 _ (List.mem_of_getElem? (i := 22) rfl)
theorem kw_28_23 : Cond.code yX5_requireOrder cX5_requireOrder 2 none ∈ wsL_law := wc_28 _ (List.mem_of_getElem? (i := 23) rfl)
theorem wc_29 : ∀ w ∈ wsL_law0_r29, w ∈ wsL_law := fun _ h => List.mem_append_left _ (List.mem_append_left _ (List.mem_append_left _ (List.mem_append_left _ (List.mem_append_left _ (List.mem_append_left _ (List.mem_append_left _ (List.mem_append_left _ (List.mem_append_left _ (List.mem_append_left _ (List.mem_append_left _ (List.mem_append_right _ (List.mem_append_right _ (List.mem_append_right _ (List.mem_append_right _ (List.mem_append_right _ (List.mem_append_right _ (List.mem_append_right _ (List.mem_append_right _ (List.mem_append_right _ (List.mem_append_right _ (List.mem_append_right _ (List.mem_append_right _ (List.mem_append_right _ (List.mem_append_right _ (List.mem_append_right _ (List.mem_append_right _ (List.mem_append_right _ (List.mem_append_right _ (List.mem_append_right _ (List.mem_append_right _ (List.mem_append_right _ (List.mem_append_right _ (List.mem_append_right _ (List.mem_append_right _ (List.mem_append_right _ (List.mem_append_right _ (List.mem_append_right _ (List.mem_append_right _ (List.mem_append_left _ h)))))))))))))))))))))))))))))))))))))))
theorem kw_29_0 : Cond.methodLink RL 179 yX6_delivered ∈ wsL_law := wc_29 _ (List.mem_of_getElem? (i := 0) rfl)
theorem kw_29_1 : Cond.instanceMethod yX6_delivered ∈ wsL_law := wc_29 _ (List.mem_of_getElem? (i := 1) rfl)
theorem kw_29_2 : Cond.selects RX6 yX6_delivered yX6_delivered ∈ wsL_law := wc_29 _ (List.mem_of_getElem? (i := 2) rfl)
theorem kw_29_3 : Cond.code yX6_delivered cX6_delivered 2 (some .int) ∈ wsL_law := wc_29 _ (List.mem_of_getElem? (i := 3) rfl)
theorem kw_29_4 : Cond.methodLink RX6 170 yX6_isOrder ∈ wsL_law := wc_29 _ (List.mem_of_getElem? (i := 4) rfl)
theorem kw_29_5 : Cond.instanceMethod yX6_isOrder ∈ wsL_law := wc_29 _ (List.mem_of_getElem? (i := 5) rfl)
theorem kw_29_6 : Cond.selects RX6 yX6_isOrder yX6_isOrder ∈ wsL_law := wc_29 _ (List.mem_of_getElem? (i := 6) rfl)
theorem kw_29_7 : Cond.code yX6_isOrder cX6_isOrder 2 (some .boolean) ∈ wsL_law := wc_29 _ (List.mem_of_getElem? (i := 7) rfl)
theorem kw_29_8 : Cond.methodLink RL 180 yL_heatOf ∈ wsL_law := wc_29 _ (List.mem_of_getElem? (i := 8) rfl)
theorem kw_29_9 : Cond.static yL_heatOf ∈ wsL_law := wc_29 _ (List.mem_of_getElem? (i := 9) rfl)
theorem kw_29_10 : Cond.codeWith yL_heatOf cL_heatOf 4 (some .int) [(0, 9, 12, 21)] ∈ wsL_law := wc_29 _ (List.mem_of_getElem? (i := 10) rfl)
theorem kw_29_11 : Cond.methodLink RL 78 yX5_heatOf ∈ wsL_law := wc_29 _ (List.mem_of_getElem? (i := 11) rfl)
theorem kw_29_12 : Cond.instanceMethod yX5_heatOf ∈ wsL_law := wc_29 _ (List.mem_of_getElem? (i := 12) rfl)
theorem kw_29_13 : Cond.selects RX5 yX5_heatOf yX5_heatOf ∈ wsL_law := wc_29 _ (List.mem_of_getElem? (i := 13) rfl)
theorem kw_29_14 : Cond.code yX5_heatOf cX5_heatOf 2 (some .int) ∈ wsL_law := wc_29 _ (List.mem_of_getElem? (i := 14) rfl)
theorem kw_29_15 : Cond.methodLink RL 182 yX6_heatOf ∈ wsL_law := wc_29 _ (List.mem_of_getElem? (i := 15) rfl)
theorem kw_29_16 : Cond.instanceMethod yX6_heatOf ∈ wsL_law := wc_29 _ (List.mem_of_getElem? (i := 16) rfl)
theorem kw_29_17 : Cond.selects RX6 yX6_heatOf yX6_heatOf ∈ wsL_law := wc_29 _ (List.mem_of_getElem? (i := 17) rfl)
theorem kw_29_18 : Cond.code yX6_heatOf cX6_heatOf 2 (some .int) ∈ wsL_law := wc_29 _ (List.mem_of_getElem? (i := 18) rfl)
theorem kw_29_19 : Cond.methodLink RL 183 yX5_stock ∈ wsL_law := wc_29 _ (List.mem_of_getElem? (i := 19) rfl)
theorem kw_29_20 : Cond.instanceMethod yX5_stock ∈ wsL_law := wc_29 _ (List.mem_of_getElem? (i := 20) rfl)
theorem kw_29_21 : Cond.selects RX5 yX5_stock yX5_stock ∈ wsL_law := wc_29 _ (List.mem_of_getElem? (i := 21) rfl)
theorem kw_29_22 : Cond.code yX5_stock cX5_stock 4 (some .int) ∈ wsL_law := wc_29 _ (List.mem_of_getElem? (i := 22) rfl)
theorem kw_29_23 : Cond.instanceMethod yX0_stockOf ∈ wsL_law := wc_29 _ (List.mem_of_getElem? (i := 23) rfl)
theorem wc_30 : ∀ w ∈ wsL_law0_r30, w ∈ wsL_law := fun _ h => List.mem_append_left _ (List.mem_append_left _ (List.mem_append_left _ (List.mem_append_left _ (List.mem_append_left _ (List.mem_append_left _ (List.mem_append_left _ (List.mem_append_left _ (List.mem_append_left _ (List.mem_append_left _ (List.mem_append_left _ (List.mem_append_right _ (List.mem_append_right _ (List.mem_append_right _ (List.mem_append_right _ (List.mem_append_right _ (List.mem_append_right _ (List.mem_append_right _ (List.mem_append_right _ (List.mem_append_right _ (List.mem_append_right _ (List.mem_append_right _ (List.mem_append_right _ (List.mem_append_right _ (List.mem_append_right _ (List.mem_append_right _ (List.mem_append_right _ (List.mem_append_right _ (List.mem_append_right _ (List.mem_append_right _ (List.mem_append_right _ (List.mem_append_right _ (List.mem_append_right _ (List.mem_append_right _ (List.mem_append_right _ (List.mem_append_right _ (List.mem_append_right _ (List.mem_append_right _ (List.mem_append_right _ (List.mem_append_right _ (h))))))))))))))))))))))))))))))))))))))))
theorem kw_30_0 : Cond.selects RX0 yX0_stockOf yX0_stockOf ∈ wsL_law := wc_30 _ (List.mem_of_getElem? (i := 0) rfl)
theorem kw_30_1 : Cond.code yX0_stockOf cX0_stockOf 4 (some .int) ∈ wsL_law := wc_30 _ (List.mem_of_getElem? (i := 1) rfl)
theorem kw_30_2 : Cond.methodLink RL 186 yX6_stock ∈ wsL_law := wc_30 _ (List.mem_of_getElem? (i := 2) rfl)
theorem kw_30_3 : Cond.instanceMethod yX6_stock ∈ wsL_law := wc_30 _ (List.mem_of_getElem? (i := 3) rfl)
theorem kw_30_4 : Cond.selects RX6 yX6_stock yX6_stock ∈ wsL_law := wc_30 _ (List.mem_of_getElem? (i := 4) rfl)
theorem kw_30_5 : Cond.code yX6_stock cX6_stock 6 (some .int) ∈ wsL_law := wc_30 _ (List.mem_of_getElem? (i := 5) rfl)
theorem wsL_x0 : ∀ w ∈ (vx_atS RX5 91 "java/lang/IllegalStateException" ["java/lang/RuntimeException", "java/lang/Exception"]).filter goodWord, w ∈ wsL_law := fun _ h => List.mem_append_left _ (List.mem_append_left _ (List.mem_append_right _ h))
theorem wsL_x1 : ∀ w ∈ (vx_atS RX5 259 "java/lang/IllegalArgumentException" ["java/lang/RuntimeException", "java/lang/Exception"]).filter goodWord, w ∈ wsL_law := fun _ h => List.mem_append_left _ (List.mem_append_right _ h)
theorem wsL_x2 : ∀ w ∈ (vx_atS RX5 149 "java/lang/IndexOutOfBoundsException" ["java/lang/RuntimeException", "java/lang/Exception"]).filter goodWord, w ∈ wsL_law := fun _ h => List.mem_append_right _ h
set_option maxRecDepth 100000 in
theorem wsL_good : wsL_law.all goodWord = true := by decide +kernel
theorem o_good {w : Cond} (h : w ∈ wsL_law) : GoodIn wsL_law (w :: wsL_law) := goodIn_sub (fun v hv => (List.mem_cons.mp hv).elim (fun e => e ▸ h) id) (by rw [List.all_cons, wsL_good, List.all_eq_true.mp wsL_good w h]; rfl)
theorem o_good4 {a b c d : Cond} {ws : List Cond} (ha : a ∈ wsL_law) (hb : b ∈ wsL_law) (hc : c ∈ wsL_law) (hd : d ∈ wsL_law) (h : GoodIn wsL_law ws) : GoodIn wsL_law ([a, b, c, d] ++ ws) := goodIn_app (fun v hv => by
  have hm : v ∈ wsL_law := by
    simp only [List.mem_cons, List.not_mem_nil, or_false] at hv
    rcases hv with rfl | rfl | rfl | rfl <;> assumption
  exact ⟨hm, good_of_word (List.all_eq_true.mp wsL_good v hm)⟩) h
theorem o_good3 {a b c : Cond} {ws : List Cond} (ha : a ∈ wsL_law) (hb : b ∈ wsL_law) (hc : c ∈ wsL_law) (h : GoodIn wsL_law ws) : GoodIn wsL_law ([a, b, c] ++ ws) := goodIn_app (fun v hv => by
  have hm : v ∈ wsL_law := by
    simp only [List.mem_cons, List.not_mem_nil, or_false] at hv
    rcases hv with rfl | rfl | rfl <;> assumption
  exact ⟨hm, good_of_word (List.all_eq_true.mp wsL_good v hm)⟩) h
end
section
theorem dX0_init_0 : decode cX0_init 0 = .ok (.aload_n 0, 1) := by decide +kernel
theorem dX0_init_1 : decode cX0_init 1 = .ok (.invokespecial 3, 3) := by decide +kernel
theorem dX0_init_4 : decode cX0_init 4 = .ok (.aload_n 0, 1) := by decide +kernel
theorem dX0_init_5 : decode cX0_init 5 = .ok (.iconst 0, 1) := by decide +kernel
theorem dX0_init_6 : decode cX0_init 6 = .ok (.putfield 9, 3) := by decide +kernel
theorem dX0_init_9 : decode cX0_init 9 = .ok (.aload_n 0, 1) := by decide +kernel
theorem dX0_init_10 : decode cX0_init 10 = .ok (.iconst 0, 1) := by decide +kernel
theorem dX0_init_11 : decode cX0_init 11 = .ok (.putfield 15, 3) := by decide +kernel
theorem dX0_init_14 : decode cX0_init 14 = .ok (.aload_n 0, 1) := by decide +kernel
theorem dX0_init_15 : decode cX0_init 15 = .ok (.iconst 0, 1) := by decide +kernel
theorem dX0_init_16 : decode cX0_init 16 = .ok (.putfield 18, 3) := by decide +kernel
theorem dX0_init_19 : decode cX0_init 19 = .ok (.aload_n 0, 1) := by decide +kernel
theorem dX0_init_20 : decode cX0_init 20 = .ok (.iconst 0, 1) := by decide +kernel
theorem dX0_init_21 : decode cX0_init 21 = .ok (.putfield 21, 3) := by decide +kernel
theorem dX0_init_24 : decode cX0_init 24 = .ok (.aload_n 0, 1) := by decide +kernel
theorem dX0_init_25 : decode cX0_init 25 = .ok (.bipush 8, 2) := by decide +kernel
theorem dX0_init_27 : decode cX0_init 27 = .ok (.newarray .int, 2) := by decide +kernel
theorem dX0_init_29 : decode cX0_init 29 = .ok (.putfield 24, 3) := by decide +kernel
theorem dX0_init_32 : decode cX0_init 32 = .ok (.aload_n 0, 1) := by decide +kernel
theorem dX0_init_33 : decode cX0_init 33 = .ok (.bipush 8, 2) := by decide +kernel
theorem dX0_init_35 : decode cX0_init 35 = .ok (.newarray .int, 2) := by decide +kernel
theorem dX0_init_37 : decode cX0_init 37 = .ok (.putfield 28, 3) := by decide +kernel
theorem dX0_init_40 : decode cX0_init 40 = .ok (.aload_n 0, 1) := by decide +kernel
theorem dX0_init_41 : decode cX0_init 41 = .ok (.iconst 0, 1) := by decide +kernel
theorem dX0_init_42 : decode cX0_init 42 = .ok (.putfield 31, 3) := by decide +kernel
theorem dX0_init_45 : decode cX0_init 45 = .ok (.aload_n 0, 1) := by decide +kernel
theorem dX0_init_46 : decode cX0_init 46 = .ok (.bipush 15, 2) := by decide +kernel
theorem dX0_init_48 : decode cX0_init 48 = .ok (.newarray .int, 2) := by decide +kernel
theorem dX0_init_50 : decode cX0_init 50 = .ok (.putfield 34, 3) := by decide +kernel
theorem dX0_init_53 : decode cX0_init 53 = .ok (.aload_n 0, 1) := by decide +kernel
theorem dX0_init_54 : decode cX0_init 54 = .ok (.bipush 15, 2) := by decide +kernel
theorem dX0_init_56 : decode cX0_init 56 = .ok (.newarray .int, 2) := by decide +kernel
theorem dX0_init_58 : decode cX0_init 58 = .ok (.putfield 37, 3) := by decide +kernel
theorem dX0_init_61 : decode cX0_init 61 = .ok (.aload_n 0, 1) := by decide +kernel
theorem dX0_init_62 : decode cX0_init 62 = .ok (.bipush 15, 2) := by decide +kernel
theorem dX0_init_64 : decode cX0_init 64 = .ok (.newarray .int, 2) := by decide +kernel
theorem dX0_init_66 : decode cX0_init 66 = .ok (.putfield 40, 3) := by decide +kernel
theorem dX0_init_69 : decode cX0_init 69 = .ok (.aload_n 0, 1) := by decide +kernel
theorem dX0_init_70 : decode cX0_init 70 = .ok (.iconst (-1), 1) := by decide +kernel
theorem dX0_init_71 : decode cX0_init 71 = .ok (.putfield 43, 3) := by decide +kernel
theorem dX0_init_74 : decode cX0_init 74 = .ok (.aload_n 0, 1) := by decide +kernel
theorem dX0_init_75 : decode cX0_init 75 = .ok (.iconst 0, 1) := by decide +kernel
theorem dX0_init_76 : decode cX0_init 76 = .ok (.putfield 46, 3) := by decide +kernel
theorem dX0_init_79 : decode cX0_init 79 = .ok (.aload_n 0, 1) := by decide +kernel
theorem dX0_init_80 : decode cX0_init 80 = .ok (.iconst 0, 1) := by decide +kernel
theorem dX0_init_81 : decode cX0_init 81 = .ok (.putfield 49, 3) := by decide +kernel
theorem dX0_init_84 : decode cX0_init 84 = .ok (.aload_n 0, 1) := by decide +kernel
theorem dX0_init_85 : decode cX0_init 85 = .ok (.iconst 0, 1) := by decide +kernel
theorem dX0_init_86 : decode cX0_init 86 = .ok (.putfield 52, 3) := by decide +kernel
theorem dX0_init_89 : decode cX0_init 89 = .ok (.return_, 1) := by decide +kernel
theorem dX0_describe_0 : decode cX0_describe 0 = .ok (.aload_n 0, 1) := by decide +kernel
theorem dX0_describe_1 : decode cX0_describe 1 = .ok (.iload_n 1, 1) := by decide +kernel
theorem dX0_describe_2 : decode cX0_describe 2 = .ok (.putfield 9, 3) := by decide +kernel
theorem dX0_describe_5 : decode cX0_describe 5 = .ok (.aload_n 0, 1) := by decide +kernel
theorem dX0_describe_6 : decode cX0_describe 6 = .ok (.iload_n 2, 1) := by decide +kernel
theorem dX0_describe_7 : decode cX0_describe 7 = .ok (.putfield 15, 3) := by decide +kernel
theorem dX0_describe_10 : decode cX0_describe 10 = .ok (.aload_n 0, 1) := by decide +kernel
theorem dX0_describe_11 : decode cX0_describe 11 = .ok (.iload_n 3, 1) := by decide +kernel
theorem dX0_describe_12 : decode cX0_describe 12 = .ok (.putfield 18, 3) := by decide +kernel
theorem dX0_describe_15 : decode cX0_describe 15 = .ok (.aload_n 0, 1) := by decide +kernel
theorem dX0_describe_16 : decode cX0_describe 16 = .ok (.iload 4, 2) := by decide +kernel
theorem dX0_describe_18 : decode cX0_describe 18 = .ok (.putfield 21, 3) := by decide +kernel
theorem dX0_describe_21 : decode cX0_describe 21 = .ok (.return_, 1) := by decide +kernel
theorem dX0_isSlit_0 : decode cX0_isSlit 0 = .ok (.aload_n 0, 1) := by decide +kernel
theorem dX0_isSlit_1 : decode cX0_isSlit 1 = .ok (.getfield 43, 3) := by decide +kernel
theorem dX0_isSlit_4 : decode cX0_isSlit 4 = .ok (.iconst (-1), 1) := by decide +kernel
theorem dX0_isSlit_5 : decode cX0_isSlit 5 = .ok (.if_icmp .eq 7, 3) := by decide +kernel
theorem dX0_isSlit_8 : decode cX0_isSlit 8 = .ok (.iconst 1, 1) := by decide +kernel
theorem dX0_isSlit_9 : decode cX0_isSlit 9 = .ok (.goto 4, 3) := by decide +kernel
theorem dX0_isSlit_12 : decode cX0_isSlit 12 = .ok (.iconst 0, 1) := by decide +kernel
theorem dX0_isSlit_13 : decode cX0_isSlit 13 = .ok (.ireturn, 1) := by decide +kernel
theorem dX0_hasSlitAt_0 : decode cX0_hasSlitAt 0 = .ok (.iload_n 1, 1) := by decide +kernel
theorem dX0_hasSlitAt_1 : decode cX0_hasSlitAt 1 = .ok (.ifCond .lt 15, 3) := by decide +kernel
theorem dX0_hasSlitAt_4 : decode cX0_hasSlitAt 4 = .ok (.iload_n 1, 1) := by decide +kernel
theorem dX0_hasSlitAt_5 : decode cX0_hasSlitAt 5 = .ok (.aload_n 0, 1) := by decide +kernel
theorem dX0_hasSlitAt_6 : decode cX0_hasSlitAt 6 = .ok (.getfield 43, 3) := by decide +kernel
theorem dX0_hasSlitAt_9 : decode cX0_hasSlitAt 9 = .ok (.if_icmp .ge 7, 3) := by decide +kernel
theorem dX0_hasSlitAt_12 : decode cX0_hasSlitAt 12 = .ok (.iconst 1, 1) := by decide +kernel
theorem dX0_hasSlitAt_13 : decode cX0_hasSlitAt 13 = .ok (.goto 4, 3) := by decide +kernel
theorem dX0_hasSlitAt_16 : decode cX0_hasSlitAt 16 = .ok (.iconst 0, 1) := by decide +kernel
theorem dX0_hasSlitAt_17 : decode cX0_hasSlitAt 17 = .ok (.ireturn, 1) := by decide +kernel
theorem dX0_hasMostDefects_0 : decode cX0_hasMostDefects 0 = .ok (.aload_n 0, 1) := by decide +kernel
theorem dX0_hasMostDefects_1 : decode cX0_hasMostDefects 1 = .ok (.getfield 31, 3) := by decide +kernel
theorem dX0_hasMostDefects_4 : decode cX0_hasMostDefects 4 = .ok (.bipush 8, 2) := by decide +kernel
theorem dX0_hasMostDefects_6 : decode cX0_hasMostDefects 6 = .ok (.if_icmp .lt 7, 3) := by decide +kernel
theorem dX0_hasMostDefects_9 : decode cX0_hasMostDefects 9 = .ok (.iconst 1, 1) := by decide +kernel
theorem dX0_hasMostDefects_10 : decode cX0_hasMostDefects 10 = .ok (.goto 4, 3) := by decide +kernel
theorem dX0_hasMostDefects_13 : decode cX0_hasMostDefects 13 = .ok (.iconst 0, 1) := by decide +kernel
theorem dX0_hasMostDefects_14 : decode cX0_hasMostDefects 14 = .ok (.ireturn, 1) := by decide +kernel
theorem dX0_addDefect_0 : decode cX0_addDefect 0 = .ok (.aload_n 0, 1) := by decide +kernel
theorem dX0_addDefect_1 : decode cX0_addDefect 1 = .ok (.invokevirtual 55, 3) := by decide +kernel
theorem dX0_addDefect_4 : decode cX0_addDefect 4 = .ok (.ifCond .eq 4, 3) := by decide +kernel
theorem dX0_addDefect_7 : decode cX0_addDefect 7 = .ok (.return_, 1) := by decide +kernel
theorem dX0_addDefect_8 : decode cX0_addDefect 8 = .ok (.aload_n 0, 1) := by decide +kernel
theorem dX0_addDefect_9 : decode cX0_addDefect 9 = .ok (.getfield 31, 3) := by decide +kernel
theorem dX0_addDefect_12 : decode cX0_addDefect 12 = .ok (.istore_n 3, 1) := by decide +kernel
theorem dX0_addDefect_13 : decode cX0_addDefect 13 = .ok (.iload_n 3, 1) := by decide +kernel
theorem dX0_addDefect_14 : decode cX0_addDefect 14 = .ok (.ifCond .le 49, 3) := by decide +kernel
theorem dX0_addDefect_17 : decode cX0_addDefect 17 = .ok (.aload_n 0, 1) := by decide +kernel
theorem dX0_addDefect_18 : decode cX0_addDefect 18 = .ok (.getfield 24, 3) := by decide +kernel
theorem dX0_addDefect_21 : decode cX0_addDefect 21 = .ok (.iload_n 3, 1) := by decide +kernel
theorem dX0_addDefect_22 : decode cX0_addDefect 22 = .ok (.iconst 1, 1) := by decide +kernel
theorem dX0_addDefect_23 : decode cX0_addDefect 23 = .ok (.isub, 1) := by decide +kernel
theorem dX0_addDefect_24 : decode cX0_addDefect 24 = .ok (.iaload, 1) := by decide +kernel
theorem dX0_addDefect_25 : decode cX0_addDefect 25 = .ok (.iload_n 1, 1) := by decide +kernel
theorem dX0_addDefect_26 : decode cX0_addDefect 26 = .ok (.if_icmp .le 37, 3) := by decide +kernel
theorem dX0_addDefect_29 : decode cX0_addDefect 29 = .ok (.aload_n 0, 1) := by decide +kernel
theorem dX0_addDefect_30 : decode cX0_addDefect 30 = .ok (.getfield 24, 3) := by decide +kernel
theorem dX0_addDefect_33 : decode cX0_addDefect 33 = .ok (.iload_n 3, 1) := by decide +kernel
theorem dX0_addDefect_34 : decode cX0_addDefect 34 = .ok (.aload_n 0, 1) := by decide +kernel
theorem dX0_addDefect_35 : decode cX0_addDefect 35 = .ok (.getfield 24, 3) := by decide +kernel
theorem dX0_addDefect_38 : decode cX0_addDefect 38 = .ok (.iload_n 3, 1) := by decide +kernel
theorem dX0_addDefect_39 : decode cX0_addDefect 39 = .ok (.iconst 1, 1) := by decide +kernel
theorem dX0_addDefect_40 : decode cX0_addDefect 40 = .ok (.isub, 1) := by decide +kernel
theorem dX0_addDefect_41 : decode cX0_addDefect 41 = .ok (.iaload, 1) := by decide +kernel
theorem dX0_addDefect_42 : decode cX0_addDefect 42 = .ok (.iastore, 1) := by decide +kernel
theorem dX0_addDefect_43 : decode cX0_addDefect 43 = .ok (.aload_n 0, 1) := by decide +kernel
theorem dX0_addDefect_44 : decode cX0_addDefect 44 = .ok (.getfield 28, 3) := by decide +kernel
theorem dX0_addDefect_47 : decode cX0_addDefect 47 = .ok (.iload_n 3, 1) := by decide +kernel
theorem dX0_addDefect_48 : decode cX0_addDefect 48 = .ok (.aload_n 0, 1) := by decide +kernel
theorem dX0_addDefect_49 : decode cX0_addDefect 49 = .ok (.getfield 28, 3) := by decide +kernel
theorem dX0_addDefect_52 : decode cX0_addDefect 52 = .ok (.iload_n 3, 1) := by decide +kernel
theorem dX0_addDefect_53 : decode cX0_addDefect 53 = .ok (.iconst 1, 1) := by decide +kernel
theorem dX0_addDefect_54 : decode cX0_addDefect 54 = .ok (.isub, 1) := by decide +kernel
theorem dX0_addDefect_55 : decode cX0_addDefect 55 = .ok (.iaload, 1) := by decide +kernel
theorem dX0_addDefect_56 : decode cX0_addDefect 56 = .ok (.iastore, 1) := by decide +kernel
theorem dX0_addDefect_57 : decode cX0_addDefect 57 = .ok (.iinc 3 (-1), 3) := by decide +kernel
theorem dX0_addDefect_60 : decode cX0_addDefect 60 = .ok (.goto (-47), 3) := by decide +kernel
theorem dX0_addDefect_63 : decode cX0_addDefect 63 = .ok (.aload_n 0, 1) := by decide +kernel
theorem dX0_addDefect_64 : decode cX0_addDefect 64 = .ok (.getfield 24, 3) := by decide +kernel
theorem dX0_addDefect_67 : decode cX0_addDefect 67 = .ok (.iload_n 3, 1) := by decide +kernel
theorem dX0_addDefect_68 : decode cX0_addDefect 68 = .ok (.iload_n 1, 1) := by decide +kernel
theorem dX0_addDefect_69 : decode cX0_addDefect 69 = .ok (.iastore, 1) := by decide +kernel
theorem dX0_addDefect_70 : decode cX0_addDefect 70 = .ok (.aload_n 0, 1) := by decide +kernel
theorem dX0_addDefect_71 : decode cX0_addDefect 71 = .ok (.getfield 28, 3) := by decide +kernel
theorem dX0_addDefect_74 : decode cX0_addDefect 74 = .ok (.iload_n 3, 1) := by decide +kernel
theorem dX0_addDefect_75 : decode cX0_addDefect 75 = .ok (.iload_n 2, 1) := by decide +kernel
theorem dX0_addDefect_76 : decode cX0_addDefect 76 = .ok (.iastore, 1) := by decide +kernel
theorem dX0_addDefect_77 : decode cX0_addDefect 77 = .ok (.aload_n 0, 1) := by decide +kernel
theorem dX0_addDefect_78 : decode cX0_addDefect 78 = .ok (.dup, 1) := by decide +kernel
theorem dX0_addDefect_79 : decode cX0_addDefect 79 = .ok (.getfield 31, 3) := by decide +kernel
theorem dX0_addDefect_82 : decode cX0_addDefect 82 = .ok (.iconst 1, 1) := by decide +kernel
theorem dX0_addDefect_83 : decode cX0_addDefect 83 = .ok (.iadd, 1) := by decide +kernel
theorem dX0_addDefect_84 : decode cX0_addDefect 84 = .ok (.putfield 31, 3) := by decide +kernel
theorem dX0_addDefect_87 : decode cX0_addDefect 87 = .ok (.return_, 1) := by decide +kernel
theorem dX0_cutOutLength_0 : decode cX0_cutOutLength 0 = .ok (.iconst 0, 1) := by decide +kernel
theorem dX0_cutOutLength_1 : decode cX0_cutOutLength 1 = .ok (.istore_n 1, 1) := by decide +kernel
theorem dX0_cutOutLength_2 : decode cX0_cutOutLength 2 = .ok (.iconst 0, 1) := by decide +kernel
theorem dX0_cutOutLength_3 : decode cX0_cutOutLength 3 = .ok (.istore_n 2, 1) := by decide +kernel
theorem dX0_cutOutLength_4 : decode cX0_cutOutLength 4 = .ok (.iconst 0, 1) := by decide +kernel
theorem dX0_cutOutLength_5 : decode cX0_cutOutLength 5 = .ok (.istore_n 3, 1) := by decide +kernel
theorem dX0_cutOutLength_6 : decode cX0_cutOutLength 6 = .ok (.iload_n 3, 1) := by decide +kernel
theorem dX0_cutOutLength_7 : decode cX0_cutOutLength 7 = .ok (.aload_n 0, 1) := by decide +kernel
theorem dX0_cutOutLength_8 : decode cX0_cutOutLength 8 = .ok (.getfield 31, 3) := by decide +kernel
theorem dX0_cutOutLength_11 : decode cX0_cutOutLength 11 = .ok (.if_icmp .ge 51, 3) := by decide +kernel
theorem dX0_cutOutLength_14 : decode cX0_cutOutLength 14 = .ok (.aload_n 0, 1) := by decide +kernel
theorem dX0_cutOutLength_15 : decode cX0_cutOutLength 15 = .ok (.getfield 24, 3) := by decide +kernel
theorem dX0_cutOutLength_18 : decode cX0_cutOutLength 18 = .ok (.iload_n 3, 1) := by decide +kernel
theorem dX0_cutOutLength_19 : decode cX0_cutOutLength 19 = .ok (.iaload, 1) := by decide +kernel
theorem dX0_cutOutLength_20 : decode cX0_cutOutLength 20 = .ok (.iload_n 2, 1) := by decide +kernel
theorem dX0_cutOutLength_21 : decode cX0_cutOutLength 21 = .ok (.invokestatic 59, 3) := by decide +kernel
theorem dX0_cutOutLength_24 : decode cX0_cutOutLength 24 = .ok (.istore 4, 2) := by decide +kernel
theorem dX0_cutOutLength_26 : decode cX0_cutOutLength 26 = .ok (.aload_n 0, 1) := by decide +kernel
theorem dX0_cutOutLength_27 : decode cX0_cutOutLength 27 = .ok (.getfield 28, 3) := by decide +kernel
theorem dX0_cutOutLength_30 : decode cX0_cutOutLength 30 = .ok (.iload_n 3, 1) := by decide +kernel
theorem dX0_cutOutLength_31 : decode cX0_cutOutLength 31 = .ok (.iaload, 1) := by decide +kernel
theorem dX0_cutOutLength_32 : decode cX0_cutOutLength 32 = .ok (.iload 4, 2) := by decide +kernel
theorem dX0_cutOutLength_34 : decode cX0_cutOutLength 34 = .ok (.if_icmp .le 22, 3) := by decide +kernel
theorem dX0_cutOutLength_37 : decode cX0_cutOutLength 37 = .ok (.iload_n 1, 1) := by decide +kernel
theorem dX0_cutOutLength_38 : decode cX0_cutOutLength 38 = .ok (.aload_n 0, 1) := by decide +kernel
theorem dX0_cutOutLength_39 : decode cX0_cutOutLength 39 = .ok (.getfield 28, 3) := by decide +kernel
theorem dX0_cutOutLength_42 : decode cX0_cutOutLength 42 = .ok (.iload_n 3, 1) := by decide +kernel
theorem dX0_cutOutLength_43 : decode cX0_cutOutLength 43 = .ok (.iaload, 1) := by decide +kernel
theorem dX0_cutOutLength_44 : decode cX0_cutOutLength 44 = .ok (.iload 4, 2) := by decide +kernel
theorem dX0_cutOutLength_46 : decode cX0_cutOutLength 46 = .ok (.isub, 1) := by decide +kernel
theorem dX0_cutOutLength_47 : decode cX0_cutOutLength 47 = .ok (.iadd, 1) := by decide +kernel
theorem dX0_cutOutLength_48 : decode cX0_cutOutLength 48 = .ok (.istore_n 1, 1) := by decide +kernel
theorem dX0_cutOutLength_49 : decode cX0_cutOutLength 49 = .ok (.aload_n 0, 1) := by decide +kernel
theorem dX0_cutOutLength_50 : decode cX0_cutOutLength 50 = .ok (.getfield 28, 3) := by decide +kernel
theorem dX0_cutOutLength_53 : decode cX0_cutOutLength 53 = .ok (.iload_n 3, 1) := by decide +kernel
theorem dX0_cutOutLength_54 : decode cX0_cutOutLength 54 = .ok (.iaload, 1) := by decide +kernel
theorem dX0_cutOutLength_55 : decode cX0_cutOutLength 55 = .ok (.istore_n 2, 1) := by decide +kernel
theorem dX0_cutOutLength_56 : decode cX0_cutOutLength 56 = .ok (.iinc 3 1, 3) := by decide +kernel
theorem dX0_cutOutLength_59 : decode cX0_cutOutLength 59 = .ok (.goto (-53), 3) := by decide +kernel
theorem dX0_cutOutLength_62 : decode cX0_cutOutLength 62 = .ok (.iload_n 1, 1) := by decide +kernel
theorem dX0_cutOutLength_63 : decode cX0_cutOutLength 63 = .ok (.ireturn, 1) := by decide +kernel
theorem dX0_slitBy_0 : decode cX0_slitBy 0 = .ok (.aload_n 0, 1) := by decide +kernel
theorem dX0_slitBy_1 : decode cX0_slitBy 1 = .ok (.iload_n 2, 1) := by decide +kernel
theorem dX0_slitBy_2 : decode cX0_slitBy 2 = .ok (.aload_n 0, 1) := by decide +kernel
theorem dX0_slitBy_3 : decode cX0_slitBy 3 = .ok (.getfield 15, 3) := by decide +kernel
theorem dX0_slitBy_6 : decode cX0_slitBy 6 = .ok (.invokestatic 65, 3) := by decide +kernel
theorem dX0_slitBy_9 : decode cX0_slitBy 9 = .ok (.putfield 46, 3) := by decide +kernel
theorem dX0_slitBy_12 : decode cX0_slitBy 12 = .ok (.aload_n 0, 1) := by decide +kernel
theorem dX0_slitBy_13 : decode cX0_slitBy 13 = .ok (.getfield 15, 3) := by decide +kernel
theorem dX0_slitBy_16 : decode cX0_slitBy 16 = .ok (.aload_n 0, 1) := by decide +kernel
theorem dX0_slitBy_17 : decode cX0_slitBy 17 = .ok (.getfield 46, 3) := by decide +kernel
theorem dX0_slitBy_20 : decode cX0_slitBy 20 = .ok (.isub, 1) := by decide +kernel
theorem dX0_slitBy_21 : decode cX0_slitBy 21 = .ok (.istore_n 3, 1) := by decide +kernel
theorem dX0_slitBy_22 : decode cX0_slitBy 22 = .ok (.aload_n 0, 1) := by decide +kernel
theorem dX0_slitBy_23 : decode cX0_slitBy 23 = .ok (.iload_n 3, 1) := by decide +kernel
theorem dX0_slitBy_24 : decode cX0_slitBy 24 = .ok (.aload_n 0, 1) := by decide +kernel
theorem dX0_slitBy_25 : decode cX0_slitBy 25 = .ok (.invokevirtual 68, 3) := by decide +kernel
theorem dX0_slitBy_28 : decode cX0_slitBy 28 = .ok (.aload_n 0, 1) := by decide +kernel
theorem dX0_slitBy_29 : decode cX0_slitBy 29 = .ok (.getfield 18, 3) := by decide +kernel
theorem dX0_slitBy_32 : decode cX0_slitBy 32 = .ok (.invokestatic 72, 3) := by decide +kernel
theorem dX0_slitBy_35 : decode cX0_slitBy 35 = .ok (.putfield 49, 3) := by decide +kernel
theorem dX0_slitBy_38 : decode cX0_slitBy 38 = .ok (.iload_n 3, 1) := by decide +kernel
theorem dX0_slitBy_39 : decode cX0_slitBy 39 = .ok (.aload_n 0, 1) := by decide +kernel
theorem dX0_slitBy_40 : decode cX0_slitBy 40 = .ok (.getfield 49, 3) := by decide +kernel
theorem dX0_slitBy_43 : decode cX0_slitBy 43 = .ok (.isub, 1) := by decide +kernel
theorem dX0_slitBy_44 : decode cX0_slitBy 44 = .ok (.istore 4, 2) := by decide +kernel
theorem dX0_slitBy_46 : decode cX0_slitBy 46 = .ok (.aload_n 0, 1) := by decide +kernel
theorem dX0_slitBy_47 : decode cX0_slitBy 47 = .ok (.iload 4, 2) := by decide +kernel
theorem dX0_slitBy_49 : decode cX0_slitBy 49 = .ok (.putfield 52, 3) := by decide +kernel
theorem dX0_slitBy_52 : decode cX0_slitBy 52 = .ok (.aload_n 0, 1) := by decide +kernel
theorem dX0_slitBy_53 : decode cX0_slitBy 53 = .ok (.aload_n 1, 1) := by decide +kernel
theorem dX0_slitBy_54 : decode cX0_slitBy 54 = .ok (.getfield 76, 3) := by decide +kernel
theorem dX0_slitBy_57 : decode cX0_slitBy 57 = .ok (.putfield 43, 3) := by decide +kernel
theorem dX0_slitBy_60 : decode cX0_slitBy 60 = .ok (.iconst 0, 1) := by decide +kernel
theorem dX0_slitBy_61 : decode cX0_slitBy 61 = .ok (.istore 5, 2) := by decide +kernel
theorem dX0_slitBy_63 : decode cX0_slitBy 63 = .ok (.iload 5, 2) := by decide +kernel
theorem dX0_slitBy_65 : decode cX0_slitBy 65 = .ok (.aload_n 0, 1) := by decide +kernel
theorem dX0_slitBy_66 : decode cX0_slitBy 66 = .ok (.getfield 43, 3) := by decide +kernel
theorem dX0_slitBy_69 : decode cX0_slitBy 69 = .ok (.if_icmp .ge 62, 3) := by decide +kernel
theorem dX0_slitBy_72 : decode cX0_slitBy 72 = .ok (.aload_n 0, 1) := by decide +kernel
theorem dX0_slitBy_73 : decode cX0_slitBy 73 = .ok (.getfield 34, 3) := by decide +kernel
theorem dX0_slitBy_76 : decode cX0_slitBy 76 = .ok (.iload 5, 2) := by decide +kernel
theorem dX0_slitBy_78 : decode cX0_slitBy 78 = .ok (.aload_n 1, 1) := by decide +kernel
theorem dX0_slitBy_79 : decode cX0_slitBy 79 = .ok (.getfield 81, 3) := by decide +kernel
theorem dX0_slitBy_82 : decode cX0_slitBy 82 = .ok (.iload 5, 2) := by decide +kernel
theorem dX0_slitBy_84 : decode cX0_slitBy 84 = .ok (.iaload, 1) := by decide +kernel
theorem dX0_slitBy_85 : decode cX0_slitBy 85 = .ok (.iastore, 1) := by decide +kernel
theorem dX0_slitBy_86 : decode cX0_slitBy 86 = .ok (.aload_n 0, 1) := by decide +kernel
theorem dX0_slitBy_87 : decode cX0_slitBy 87 = .ok (.getfield 37, 3) := by decide +kernel
theorem dX0_slitBy_90 : decode cX0_slitBy 90 = .ok (.iload 5, 2) := by decide +kernel
theorem dX0_slitBy_92 : decode cX0_slitBy 92 = .ok (.iload 4, 2) := by decide +kernel
theorem dX0_slitBy_94 : decode cX0_slitBy 94 = .ok (.aload_n 0, 1) := by decide +kernel
theorem dX0_slitBy_95 : decode cX0_slitBy 95 = .ok (.getfield 34, 3) := by decide +kernel
theorem dX0_slitBy_98 : decode cX0_slitBy 98 = .ok (.iload 5, 2) := by decide +kernel
theorem dX0_slitBy_100 : decode cX0_slitBy 100 = .ok (.iaload, 1) := by decide +kernel
theorem dX0_slitBy_101 : decode cX0_slitBy 101 = .ok (.aload_n 0, 1) := by decide +kernel
theorem dX0_slitBy_102 : decode cX0_slitBy 102 = .ok (.getfield 9, 3) := by decide +kernel
theorem dX0_slitBy_105 : decode cX0_slitBy 105 = .ok (.invokestatic 72, 3) := by decide +kernel
theorem dX0_slitBy_108 : decode cX0_slitBy 108 = .ok (.iastore, 1) := by decide +kernel
theorem dX0_slitBy_109 : decode cX0_slitBy 109 = .ok (.aload_n 0, 1) := by decide +kernel
theorem dX0_slitBy_110 : decode cX0_slitBy 110 = .ok (.dup, 1) := by decide +kernel
theorem dX0_slitBy_111 : decode cX0_slitBy 111 = .ok (.getfield 52, 3) := by decide +kernel
theorem dX0_slitBy_114 : decode cX0_slitBy 114 = .ok (.aload_n 0, 1) := by decide +kernel
theorem dX0_slitBy_115 : decode cX0_slitBy 115 = .ok (.getfield 37, 3) := by decide +kernel
theorem dX0_slitBy_118 : decode cX0_slitBy 118 = .ok (.iload 5, 2) := by decide +kernel
theorem dX0_slitBy_120 : decode cX0_slitBy 120 = .ok (.iaload, 1) := by decide +kernel
theorem dX0_slitBy_121 : decode cX0_slitBy 121 = .ok (.isub, 1) := by decide +kernel
theorem dX0_slitBy_122 : decode cX0_slitBy 122 = .ok (.putfield 52, 3) := by decide +kernel
theorem dX0_slitBy_125 : decode cX0_slitBy 125 = .ok (.iinc 5 1, 3) := by decide +kernel
theorem dX0_slitBy_128 : decode cX0_slitBy 128 = .ok (.goto (-65), 3) := by decide +kernel
theorem dX0_slitBy_131 : decode cX0_slitBy 131 = .ok (.return_, 1) := by decide +kernel
theorem dX0_stockOf_0 : decode cX0_stockOf 0 = .ok (.iconst 0, 1) := by decide +kernel
theorem dX0_stockOf_1 : decode cX0_stockOf 1 = .ok (.istore_n 2, 1) := by decide +kernel
theorem dX0_stockOf_2 : decode cX0_stockOf 2 = .ok (.iconst 0, 1) := by decide +kernel
theorem dX0_stockOf_3 : decode cX0_stockOf 3 = .ok (.istore_n 3, 1) := by decide +kernel
theorem dX0_stockOf_4 : decode cX0_stockOf 4 = .ok (.iload_n 3, 1) := by decide +kernel
theorem dX0_stockOf_5 : decode cX0_stockOf 5 = .ok (.aload_n 0, 1) := by decide +kernel
theorem dX0_stockOf_6 : decode cX0_stockOf 6 = .ok (.getfield 43, 3) := by decide +kernel
theorem dX0_stockOf_9 : decode cX0_stockOf 9 = .ok (.if_icmp .ge 38, 3) := by decide +kernel
theorem dX0_stockOf_12 : decode cX0_stockOf 12 = .ok (.aload_n 0, 1) := by decide +kernel
theorem dX0_stockOf_13 : decode cX0_stockOf 13 = .ok (.getfield 34, 3) := by decide +kernel
theorem dX0_stockOf_16 : decode cX0_stockOf 16 = .ok (.iload_n 3, 1) := by decide +kernel
theorem dX0_stockOf_17 : decode cX0_stockOf 17 = .ok (.iaload, 1) := by decide +kernel
theorem dX0_stockOf_18 : decode cX0_stockOf 18 = .ok (.iload_n 1, 1) := by decide +kernel
theorem dX0_stockOf_19 : decode cX0_stockOf 19 = .ok (.if_icmp .ne 22, 3) := by decide +kernel
theorem dX0_stockOf_22 : decode cX0_stockOf 22 = .ok (.aload_n 0, 1) := by decide +kernel
theorem dX0_stockOf_23 : decode cX0_stockOf 23 = .ok (.getfield 40, 3) := by decide +kernel
theorem dX0_stockOf_26 : decode cX0_stockOf 26 = .ok (.iload_n 3, 1) := by decide +kernel
theorem dX0_stockOf_27 : decode cX0_stockOf 27 = .ok (.iaload, 1) := by decide +kernel
theorem dX0_stockOf_28 : decode cX0_stockOf 28 = .ok (.iconst (-1), 1) := by decide +kernel
theorem dX0_stockOf_29 : decode cX0_stockOf 29 = .ok (.if_icmp .ne 12, 3) := by decide +kernel
theorem dX0_stockOf_32 : decode cX0_stockOf 32 = .ok (.iload_n 2, 1) := by decide +kernel
theorem dX0_stockOf_33 : decode cX0_stockOf 33 = .ok (.aload_n 0, 1) := by decide +kernel
theorem dX0_stockOf_34 : decode cX0_stockOf 34 = .ok (.getfield 37, 3) := by decide +kernel
theorem dX0_stockOf_37 : decode cX0_stockOf 37 = .ok (.iload_n 3, 1) := by decide +kernel
theorem dX0_stockOf_38 : decode cX0_stockOf 38 = .ok (.iaload, 1) := by decide +kernel
theorem dX0_stockOf_39 : decode cX0_stockOf 39 = .ok (.iadd, 1) := by decide +kernel
theorem dX0_stockOf_40 : decode cX0_stockOf 40 = .ok (.istore_n 2, 1) := by decide +kernel
theorem dX0_stockOf_41 : decode cX0_stockOf 41 = .ok (.iinc 3 1, 3) := by decide +kernel
theorem dX0_stockOf_44 : decode cX0_stockOf 44 = .ok (.goto (-40), 3) := by decide +kernel
theorem dX0_stockOf_47 : decode cX0_stockOf 47 = .ok (.iload_n 2, 1) := by decide +kernel
theorem dX0_stockOf_48 : decode cX0_stockOf 48 = .ok (.ireturn, 1) := by decide +kernel
theorem dX0_share_0 : decode cX0_share 0 = .ok (.iload_n 2, 1) := by decide +kernel
theorem dX0_share_1 : decode cX0_share 1 = .ok (.ifCond .gt 7, 3) := by decide +kernel
theorem dX0_share_4 : decode cX0_share 4 = .ok (.iconst 0, 1) := by decide +kernel
theorem dX0_share_5 : decode cX0_share 5 = .ok (.goto 8, 3) := by decide +kernel
theorem dX0_share_8 : decode cX0_share 8 = .ok (.iload_n 0, 1) := by decide +kernel
theorem dX0_share_9 : decode cX0_share 9 = .ok (.iload_n 1, 1) := by decide +kernel
theorem dX0_share_10 : decode cX0_share 10 = .ok (.imul, 1) := by decide +kernel
theorem dX0_share_11 : decode cX0_share 11 = .ok (.iload_n 2, 1) := by decide +kernel
theorem dX0_share_12 : decode cX0_share 12 = .ok (.idiv, 1) := by decide +kernel
theorem dX0_share_13 : decode cX0_share 13 = .ok (.ireturn, 1) := by decide +kernel
theorem dX1_init_0 : decode cX1_init 0 = .ok (.aload_n 0, 1) := by decide +kernel
theorem dX1_init_1 : decode cX1_init 1 = .ok (.invokespecial 3, 3) := by decide +kernel
theorem dX1_init_4 : decode cX1_init 4 = .ok (.aload_n 0, 1) := by decide +kernel
theorem dX1_init_5 : decode cX1_init 5 = .ok (.bipush 12, 2) := by decide +kernel
theorem dX1_init_7 : decode cX1_init 7 = .ok (.newarray .int, 2) := by decide +kernel
theorem dX1_init_9 : decode cX1_init 9 = .ok (.putfield 9, 3) := by decide +kernel
theorem dX1_init_12 : decode cX1_init 12 = .ok (.aload_n 0, 1) := by decide +kernel
theorem dX1_init_13 : decode cX1_init 13 = .ok (.iconst 0, 1) := by decide +kernel
theorem dX1_init_14 : decode cX1_init 14 = .ok (.putfield 15, 3) := by decide +kernel
theorem dX1_init_17 : decode cX1_init 17 = .ok (.aload_n 0, 1) := by decide +kernel
theorem dX1_init_18 : decode cX1_init 18 = .ok (.sipush 2001, 3) := by decide +kernel
theorem dX1_init_21 : decode cX1_init 21 = .ok (.newarray .int, 2) := by decide +kernel
theorem dX1_init_23 : decode cX1_init 23 = .ok (.putfield 19, 3) := by decide +kernel
theorem dX1_init_26 : decode cX1_init 26 = .ok (.return_, 1) := by decide +kernel
theorem dX1_forgetWidths_0 : decode cX1_forgetWidths 0 = .ok (.aload_n 0, 1) := by decide +kernel
theorem dX1_forgetWidths_1 : decode cX1_forgetWidths 1 = .ok (.iconst 0, 1) := by decide +kernel
theorem dX1_forgetWidths_2 : decode cX1_forgetWidths 2 = .ok (.putfield 15, 3) := by decide +kernel
theorem dX1_forgetWidths_5 : decode cX1_forgetWidths 5 = .ok (.return_, 1) := by decide +kernel
theorem dX1_offerWidth_0 : decode cX1_offerWidth 0 = .ok (.iconst 0, 1) := by decide +kernel
theorem dX1_offerWidth_1 : decode cX1_offerWidth 1 = .ok (.istore_n 2, 1) := by decide +kernel
theorem dX1_offerWidth_2 : decode cX1_offerWidth 2 = .ok (.iload_n 2, 1) := by decide +kernel
theorem dX1_offerWidth_3 : decode cX1_offerWidth 3 = .ok (.aload_n 0, 1) := by decide +kernel
theorem dX1_offerWidth_4 : decode cX1_offerWidth 4 = .ok (.getfield 15, 3) := by decide +kernel
theorem dX1_offerWidth_7 : decode cX1_offerWidth 7 = .ok (.if_icmp .ge 19, 3) := by decide +kernel
theorem dX1_offerWidth_10 : decode cX1_offerWidth 10 = .ok (.aload_n 0, 1) := by decide +kernel
theorem dX1_offerWidth_11 : decode cX1_offerWidth 11 = .ok (.getfield 9, 3) := by decide +kernel
theorem dX1_offerWidth_14 : decode cX1_offerWidth 14 = .ok (.iload_n 2, 1) := by decide +kernel
theorem dX1_offerWidth_15 : decode cX1_offerWidth 15 = .ok (.iaload, 1) := by decide +kernel
theorem dX1_offerWidth_16 : decode cX1_offerWidth 16 = .ok (.iload_n 1, 1) := by decide +kernel
theorem dX1_offerWidth_17 : decode cX1_offerWidth 17 = .ok (.if_icmp .le 9, 3) := by decide +kernel
theorem dX1_offerWidth_20 : decode cX1_offerWidth 20 = .ok (.iinc 2 1, 3) := by decide +kernel
theorem dX1_offerWidth_23 : decode cX1_offerWidth 23 = .ok (.goto (-21), 3) := by decide +kernel
theorem dX1_offerWidth_26 : decode cX1_offerWidth 26 = .ok (.iload_n 2, 1) := by decide +kernel
theorem dX1_offerWidth_27 : decode cX1_offerWidth 27 = .ok (.aload_n 0, 1) := by decide +kernel
theorem dX1_offerWidth_28 : decode cX1_offerWidth 28 = .ok (.getfield 15, 3) := by decide +kernel
theorem dX1_offerWidth_31 : decode cX1_offerWidth 31 = .ok (.if_icmp .ge 17, 3) := by decide +kernel
theorem dX1_offerWidth_34 : decode cX1_offerWidth 34 = .ok (.aload_n 0, 1) := by decide +kernel
theorem dX1_offerWidth_35 : decode cX1_offerWidth 35 = .ok (.getfield 9, 3) := by decide +kernel
theorem dX1_offerWidth_38 : decode cX1_offerWidth 38 = .ok (.iload_n 2, 1) := by decide +kernel
theorem dX1_offerWidth_39 : decode cX1_offerWidth 39 = .ok (.iaload, 1) := by decide +kernel
theorem dX1_offerWidth_40 : decode cX1_offerWidth 40 = .ok (.iload_n 1, 1) := by decide +kernel
theorem dX1_offerWidth_41 : decode cX1_offerWidth 41 = .ok (.if_icmp .ne 7, 3) := by decide +kernel
theorem dX1_offerWidth_44 : decode cX1_offerWidth 44 = .ok (.iconst 1, 1) := by decide +kernel
theorem dX1_offerWidth_45 : decode cX1_offerWidth 45 = .ok (.goto 4, 3) := by decide +kernel
theorem dX1_offerWidth_48 : decode cX1_offerWidth 48 = .ok (.iconst 0, 1) := by decide +kernel
theorem dX1_offerWidth_49 : decode cX1_offerWidth 49 = .ok (.istore_n 3, 1) := by decide +kernel
theorem dX1_offerWidth_50 : decode cX1_offerWidth 50 = .ok (.iload_n 3, 1) := by decide +kernel
theorem dX1_offerWidth_51 : decode cX1_offerWidth 51 = .ok (.ifCond .ne 15, 3) := by decide +kernel
theorem dX1_offerWidth_54 : decode cX1_offerWidth 54 = .ok (.aload_n 0, 1) := by decide +kernel
theorem dX1_offerWidth_55 : decode cX1_offerWidth 55 = .ok (.getfield 15, 3) := by decide +kernel
theorem dX1_offerWidth_58 : decode cX1_offerWidth 58 = .ok (.aload_n 0, 1) := by decide +kernel
theorem dX1_offerWidth_59 : decode cX1_offerWidth 59 = .ok (.getfield 9, 3) := by decide +kernel
theorem dX1_offerWidth_62 : decode cX1_offerWidth 62 = .ok (.arraylength, 1) := by decide +kernel
theorem dX1_offerWidth_63 : decode cX1_offerWidth 63 = .ok (.if_icmp .lt 4, 3) := by decide +kernel
theorem dX1_offerWidth_66 : decode cX1_offerWidth 66 = .ok (.return_, 1) := by decide +kernel
theorem dX1_offerWidth_67 : decode cX1_offerWidth 67 = .ok (.aload_n 0, 1) := by decide +kernel
theorem dX1_offerWidth_68 : decode cX1_offerWidth 68 = .ok (.getfield 15, 3) := by decide +kernel
theorem dX1_offerWidth_71 : decode cX1_offerWidth 71 = .ok (.istore 4, 2) := by decide +kernel
theorem dX1_offerWidth_73 : decode cX1_offerWidth 73 = .ok (.iload 4, 2) := by decide +kernel
theorem dX1_offerWidth_75 : decode cX1_offerWidth 75 = .ok (.iload_n 2, 1) := by decide +kernel
theorem dX1_offerWidth_76 : decode cX1_offerWidth 76 = .ok (.if_icmp .le 25, 3) := by decide +kernel
theorem dX1_offerWidth_79 : decode cX1_offerWidth 79 = .ok (.aload_n 0, 1) := by decide +kernel
theorem dX1_offerWidth_80 : decode cX1_offerWidth 80 = .ok (.getfield 9, 3) := by decide +kernel
theorem dX1_offerWidth_83 : decode cX1_offerWidth 83 = .ok (.iload 4, 2) := by decide +kernel
theorem dX1_offerWidth_85 : decode cX1_offerWidth 85 = .ok (.aload_n 0, 1) := by decide +kernel
theorem dX1_offerWidth_86 : decode cX1_offerWidth 86 = .ok (.getfield 9, 3) := by decide +kernel
theorem dX1_offerWidth_89 : decode cX1_offerWidth 89 = .ok (.iload 4, 2) := by decide +kernel
theorem dX1_offerWidth_91 : decode cX1_offerWidth 91 = .ok (.iconst 1, 1) := by decide +kernel
theorem dX1_offerWidth_92 : decode cX1_offerWidth 92 = .ok (.isub, 1) := by decide +kernel
theorem dX1_offerWidth_93 : decode cX1_offerWidth 93 = .ok (.iaload, 1) := by decide +kernel
theorem dX1_offerWidth_94 : decode cX1_offerWidth 94 = .ok (.iastore, 1) := by decide +kernel
theorem dX1_offerWidth_95 : decode cX1_offerWidth 95 = .ok (.iinc 4 (-1), 3) := by decide +kernel
theorem dX1_offerWidth_98 : decode cX1_offerWidth 98 = .ok (.goto (-25), 3) := by decide +kernel
theorem dX1_offerWidth_101 : decode cX1_offerWidth 101 = .ok (.aload_n 0, 1) := by decide +kernel
theorem dX1_offerWidth_102 : decode cX1_offerWidth 102 = .ok (.getfield 9, 3) := by decide +kernel
theorem dX1_offerWidth_105 : decode cX1_offerWidth 105 = .ok (.iload_n 2, 1) := by decide +kernel
theorem dX1_offerWidth_106 : decode cX1_offerWidth 106 = .ok (.iload_n 1, 1) := by decide +kernel
theorem dX1_offerWidth_107 : decode cX1_offerWidth 107 = .ok (.iastore, 1) := by decide +kernel
theorem dX1_offerWidth_108 : decode cX1_offerWidth 108 = .ok (.aload_n 0, 1) := by decide +kernel
theorem dX1_offerWidth_109 : decode cX1_offerWidth 109 = .ok (.dup, 1) := by decide +kernel
theorem dX1_offerWidth_110 : decode cX1_offerWidth 110 = .ok (.getfield 15, 3) := by decide +kernel
theorem dX1_offerWidth_113 : decode cX1_offerWidth 113 = .ok (.iconst 1, 1) := by decide +kernel
theorem dX1_offerWidth_114 : decode cX1_offerWidth 114 = .ok (.iadd, 1) := by decide +kernel
theorem dX1_offerWidth_115 : decode cX1_offerWidth 115 = .ok (.putfield 15, 3) := by decide +kernel
theorem dX1_offerWidth_118 : decode cX1_offerWidth 118 = .ok (.return_, 1) := by decide +kernel
theorem dX1_greatestTotal_0 : decode cX1_greatestTotal 0 = .ok (.iconst 0, 1) := by decide +kernel
theorem dX1_greatestTotal_1 : decode cX1_greatestTotal 1 = .ok (.istore_n 3, 1) := by decide +kernel
theorem dX1_greatestTotal_2 : decode cX1_greatestTotal 2 = .ok (.iconst 1, 1) := by decide +kernel
theorem dX1_greatestTotal_3 : decode cX1_greatestTotal 3 = .ok (.istore 4, 2) := by decide +kernel
theorem dX1_greatestTotal_5 : decode cX1_greatestTotal 5 = .ok (.iload 4, 2) := by decide +kernel
theorem dX1_greatestTotal_7 : decode cX1_greatestTotal 7 = .ok (.iload_n 1, 1) := by decide +kernel
theorem dX1_greatestTotal_8 : decode cX1_greatestTotal 8 = .ok (.if_icmp .gt 46, 3) := by decide +kernel
theorem dX1_greatestTotal_11 : decode cX1_greatestTotal 11 = .ok (.iload 4, 2) := by decide +kernel
theorem dX1_greatestTotal_13 : decode cX1_greatestTotal 13 = .ok (.aload_n 0, 1) := by decide +kernel
theorem dX1_greatestTotal_14 : decode cX1_greatestTotal 14 = .ok (.getfield 19, 3) := by decide +kernel
theorem dX1_greatestTotal_17 : decode cX1_greatestTotal 17 = .ok (.arraylength, 1) := by decide +kernel
theorem dX1_greatestTotal_18 : decode cX1_greatestTotal 18 = .ok (.if_icmp .ge 36, 3) := by decide +kernel
theorem dX1_greatestTotal_21 : decode cX1_greatestTotal 21 = .ok (.aload_n 0, 1) := by decide +kernel
theorem dX1_greatestTotal_22 : decode cX1_greatestTotal 22 = .ok (.getfield 19, 3) := by decide +kernel
theorem dX1_greatestTotal_25 : decode cX1_greatestTotal 25 = .ok (.iload 4, 2) := by decide +kernel
theorem dX1_greatestTotal_27 : decode cX1_greatestTotal 27 = .ok (.aload_n 0, 1) := by decide +kernel
theorem dX1_greatestTotal_28 : decode cX1_greatestTotal 28 = .ok (.iload 4, 2) := by decide +kernel
theorem dX1_greatestTotal_30 : decode cX1_greatestTotal 30 = .ok (.invokevirtual 22, 3) := by decide +kernel
theorem dX1_greatestTotal_33 : decode cX1_greatestTotal 33 = .ok (.iastore, 1) := by decide +kernel
theorem dX1_greatestTotal_34 : decode cX1_greatestTotal 34 = .ok (.aload_n 0, 1) := by decide +kernel
theorem dX1_greatestTotal_35 : decode cX1_greatestTotal 35 = .ok (.getfield 19, 3) := by decide +kernel
theorem dX1_greatestTotal_38 : decode cX1_greatestTotal 38 = .ok (.iload 4, 2) := by decide +kernel
theorem dX1_greatestTotal_40 : decode cX1_greatestTotal 40 = .ok (.iaload, 1) := by decide +kernel
theorem dX1_greatestTotal_41 : decode cX1_greatestTotal 41 = .ok (.iload_n 2, 1) := by decide +kernel
theorem dX1_greatestTotal_42 : decode cX1_greatestTotal 42 = .ok (.if_icmp .gt 6, 3) := by decide +kernel
theorem dX1_greatestTotal_45 : decode cX1_greatestTotal 45 = .ok (.iload 4, 2) := by decide +kernel
theorem dX1_greatestTotal_47 : decode cX1_greatestTotal 47 = .ok (.istore_n 3, 1) := by decide +kernel
theorem dX1_greatestTotal_48 : decode cX1_greatestTotal 48 = .ok (.iinc 4 1, 3) := by decide +kernel
theorem dX1_greatestTotal_51 : decode cX1_greatestTotal 51 = .ok (.goto (-46), 3) := by decide +kernel
theorem dX1_greatestTotal_54 : decode cX1_greatestTotal 54 = .ok (.iload_n 3, 1) := by decide +kernel
theorem dX1_greatestTotal_55 : decode cX1_greatestTotal 55 = .ok (.ireturn, 1) := by decide +kernel
theorem dX1_fewestSlitsFor_0 : decode cX1_fewestSlitsFor 0 = .ok (.bipush 16, 2) := by decide +kernel
theorem dX1_fewestSlitsFor_2 : decode cX1_fewestSlitsFor 2 = .ok (.istore_n 2, 1) := by decide +kernel
theorem dX1_fewestSlitsFor_3 : decode cX1_fewestSlitsFor 3 = .ok (.iconst 0, 1) := by decide +kernel
theorem dX1_fewestSlitsFor_4 : decode cX1_fewestSlitsFor 4 = .ok (.istore_n 3, 1) := by decide +kernel
theorem dX1_fewestSlitsFor_5 : decode cX1_fewestSlitsFor 5 = .ok (.iload_n 3, 1) := by decide +kernel
theorem dX1_fewestSlitsFor_6 : decode cX1_fewestSlitsFor 6 = .ok (.aload_n 0, 1) := by decide +kernel
theorem dX1_fewestSlitsFor_7 : decode cX1_fewestSlitsFor 7 = .ok (.getfield 15, 3) := by decide +kernel
theorem dX1_fewestSlitsFor_10 : decode cX1_fewestSlitsFor 10 = .ok (.if_icmp .ge 39, 3) := by decide +kernel
theorem dX1_fewestSlitsFor_13 : decode cX1_fewestSlitsFor 13 = .ok (.aload_n 0, 1) := by decide +kernel
theorem dX1_fewestSlitsFor_14 : decode cX1_fewestSlitsFor 14 = .ok (.getfield 9, 3) := by decide +kernel
theorem dX1_fewestSlitsFor_17 : decode cX1_fewestSlitsFor 17 = .ok (.iload_n 3, 1) := by decide +kernel
theorem dX1_fewestSlitsFor_18 : decode cX1_fewestSlitsFor 18 = .ok (.iaload, 1) := by decide +kernel
theorem dX1_fewestSlitsFor_19 : decode cX1_fewestSlitsFor 19 = .ok (.iload_n 1, 1) := by decide +kernel
theorem dX1_fewestSlitsFor_20 : decode cX1_fewestSlitsFor 20 = .ok (.if_icmp .gt 23, 3) := by decide +kernel
theorem dX1_fewestSlitsFor_23 : decode cX1_fewestSlitsFor 23 = .ok (.iload_n 2, 1) := by decide +kernel
theorem dX1_fewestSlitsFor_24 : decode cX1_fewestSlitsFor 24 = .ok (.aload_n 0, 1) := by decide +kernel
theorem dX1_fewestSlitsFor_25 : decode cX1_fewestSlitsFor 25 = .ok (.getfield 19, 3) := by decide +kernel
theorem dX1_fewestSlitsFor_28 : decode cX1_fewestSlitsFor 28 = .ok (.iload_n 1, 1) := by decide +kernel
theorem dX1_fewestSlitsFor_29 : decode cX1_fewestSlitsFor 29 = .ok (.aload_n 0, 1) := by decide +kernel
theorem dX1_fewestSlitsFor_30 : decode cX1_fewestSlitsFor 30 = .ok (.getfield 9, 3) := by decide +kernel
theorem dX1_fewestSlitsFor_33 : decode cX1_fewestSlitsFor 33 = .ok (.iload_n 3, 1) := by decide +kernel
theorem dX1_fewestSlitsFor_34 : decode cX1_fewestSlitsFor 34 = .ok (.iaload, 1) := by decide +kernel
theorem dX1_fewestSlitsFor_35 : decode cX1_fewestSlitsFor 35 = .ok (.isub, 1) := by decide +kernel
theorem dX1_fewestSlitsFor_36 : decode cX1_fewestSlitsFor 36 = .ok (.iaload, 1) := by decide +kernel
theorem dX1_fewestSlitsFor_37 : decode cX1_fewestSlitsFor 37 = .ok (.iconst 1, 1) := by decide +kernel
theorem dX1_fewestSlitsFor_38 : decode cX1_fewestSlitsFor 38 = .ok (.iadd, 1) := by decide +kernel
theorem dX1_fewestSlitsFor_39 : decode cX1_fewestSlitsFor 39 = .ok (.invokestatic 26, 3) := by decide +kernel
theorem dX1_fewestSlitsFor_42 : decode cX1_fewestSlitsFor 42 = .ok (.istore_n 2, 1) := by decide +kernel
theorem dX1_fewestSlitsFor_43 : decode cX1_fewestSlitsFor 43 = .ok (.iinc 3 1, 3) := by decide +kernel
theorem dX1_fewestSlitsFor_46 : decode cX1_fewestSlitsFor 46 = .ok (.goto (-41), 3) := by decide +kernel
theorem dX1_fewestSlitsFor_49 : decode cX1_fewestSlitsFor 49 = .ok (.iload_n 2, 1) := by decide +kernel
theorem dX1_fewestSlitsFor_50 : decode cX1_fewestSlitsFor 50 = .ok (.ireturn, 1) := by decide +kernel
theorem dX1_layOut_0 : decode cX1_layOut 0 = .ok (.aload_n 2, 1) := by decide +kernel
theorem dX1_layOut_1 : decode cX1_layOut 1 = .ok (.invokevirtual 32, 3) := by decide +kernel
theorem dX1_layOut_4 : decode cX1_layOut 4 = .ok (.iload_n 1, 1) := by decide +kernel
theorem dX1_layOut_5 : decode cX1_layOut 5 = .ok (.istore_n 3, 1) := by decide +kernel
theorem dX1_layOut_6 : decode cX1_layOut 6 = .ok (.aload_n 0, 1) := by decide +kernel
theorem dX1_layOut_7 : decode cX1_layOut 7 = .ok (.getfield 19, 3) := by decide +kernel
theorem dX1_layOut_10 : decode cX1_layOut 10 = .ok (.iload_n 1, 1) := by decide +kernel
theorem dX1_layOut_11 : decode cX1_layOut 11 = .ok (.iaload, 1) := by decide +kernel
theorem dX1_layOut_12 : decode cX1_layOut 12 = .ok (.istore 4, 2) := by decide +kernel
theorem dX1_layOut_14 : decode cX1_layOut 14 = .ok (.iload 4, 2) := by decide +kernel
theorem dX1_layOut_16 : decode cX1_layOut 16 = .ok (.ifCond .le 31, 3) := by decide +kernel
theorem dX1_layOut_19 : decode cX1_layOut 19 = .ok (.aload_n 0, 1) := by decide +kernel
theorem dX1_layOut_20 : decode cX1_layOut 20 = .ok (.iload_n 3, 1) := by decide +kernel
theorem dX1_layOut_21 : decode cX1_layOut 21 = .ok (.iload 4, 2) := by decide +kernel
theorem dX1_layOut_23 : decode cX1_layOut 23 = .ok (.iconst 1, 1) := by decide +kernel
theorem dX1_layOut_24 : decode cX1_layOut 24 = .ok (.isub, 1) := by decide +kernel
theorem dX1_layOut_25 : decode cX1_layOut 25 = .ok (.invokevirtual 37, 3) := by decide +kernel
theorem dX1_layOut_28 : decode cX1_layOut 28 = .ok (.istore 5, 2) := by decide +kernel
theorem dX1_layOut_30 : decode cX1_layOut 30 = .ok (.aload_n 2, 1) := by decide +kernel
theorem dX1_layOut_31 : decode cX1_layOut 31 = .ok (.iload 5, 2) := by decide +kernel
theorem dX1_layOut_33 : decode cX1_layOut 33 = .ok (.invokevirtual 40, 3) := by decide +kernel
theorem dX1_layOut_36 : decode cX1_layOut 36 = .ok (.iload_n 3, 1) := by decide +kernel
theorem dX1_layOut_37 : decode cX1_layOut 37 = .ok (.iload 5, 2) := by decide +kernel
theorem dX1_layOut_39 : decode cX1_layOut 39 = .ok (.isub, 1) := by decide +kernel
theorem dX1_layOut_40 : decode cX1_layOut 40 = .ok (.istore_n 3, 1) := by decide +kernel
theorem dX1_layOut_41 : decode cX1_layOut 41 = .ok (.iinc 4 (-1), 3) := by decide +kernel
theorem dX1_layOut_44 : decode cX1_layOut 44 = .ok (.goto (-30), 3) := by decide +kernel
theorem dX1_layOut_47 : decode cX1_layOut 47 = .ok (.return_, 1) := by decide +kernel
theorem dX1_greatestBefore_0 : decode cX1_greatestBefore 0 = .ok (.iconst 0, 1) := by decide +kernel
theorem dX1_greatestBefore_1 : decode cX1_greatestBefore 1 = .ok (.istore_n 3, 1) := by decide +kernel
theorem dX1_greatestBefore_2 : decode cX1_greatestBefore 2 = .ok (.iload_n 3, 1) := by decide +kernel
theorem dX1_greatestBefore_3 : decode cX1_greatestBefore 3 = .ok (.aload_n 0, 1) := by decide +kernel
theorem dX1_greatestBefore_4 : decode cX1_greatestBefore 4 = .ok (.getfield 15, 3) := by decide +kernel
theorem dX1_greatestBefore_7 : decode cX1_greatestBefore 7 = .ok (.if_icmp .ge 43, 3) := by decide +kernel
theorem dX1_greatestBefore_10 : decode cX1_greatestBefore 10 = .ok (.aload_n 0, 1) := by decide +kernel
theorem dX1_greatestBefore_11 : decode cX1_greatestBefore 11 = .ok (.getfield 9, 3) := by decide +kernel
theorem dX1_greatestBefore_14 : decode cX1_greatestBefore 14 = .ok (.iload_n 3, 1) := by decide +kernel
theorem dX1_greatestBefore_15 : decode cX1_greatestBefore 15 = .ok (.iaload, 1) := by decide +kernel
theorem dX1_greatestBefore_16 : decode cX1_greatestBefore 16 = .ok (.iload_n 1, 1) := by decide +kernel
theorem dX1_greatestBefore_17 : decode cX1_greatestBefore 17 = .ok (.if_icmp .gt 27, 3) := by decide +kernel
theorem dX1_greatestBefore_20 : decode cX1_greatestBefore 20 = .ok (.aload_n 0, 1) := by decide +kernel
theorem dX1_greatestBefore_21 : decode cX1_greatestBefore 21 = .ok (.getfield 19, 3) := by decide +kernel
theorem dX1_greatestBefore_24 : decode cX1_greatestBefore 24 = .ok (.iload_n 1, 1) := by decide +kernel
theorem dX1_greatestBefore_25 : decode cX1_greatestBefore 25 = .ok (.aload_n 0, 1) := by decide +kernel
theorem dX1_greatestBefore_26 : decode cX1_greatestBefore 26 = .ok (.getfield 9, 3) := by decide +kernel
theorem dX1_greatestBefore_29 : decode cX1_greatestBefore 29 = .ok (.iload_n 3, 1) := by decide +kernel
theorem dX1_greatestBefore_30 : decode cX1_greatestBefore 30 = .ok (.iaload, 1) := by decide +kernel
theorem dX1_greatestBefore_31 : decode cX1_greatestBefore 31 = .ok (.isub, 1) := by decide +kernel
theorem dX1_greatestBefore_32 : decode cX1_greatestBefore 32 = .ok (.iaload, 1) := by decide +kernel
theorem dX1_greatestBefore_33 : decode cX1_greatestBefore 33 = .ok (.iload_n 2, 1) := by decide +kernel
theorem dX1_greatestBefore_34 : decode cX1_greatestBefore 34 = .ok (.if_icmp .ne 10, 3) := by decide +kernel
theorem dX1_greatestBefore_37 : decode cX1_greatestBefore 37 = .ok (.aload_n 0, 1) := by decide +kernel
theorem dX1_greatestBefore_38 : decode cX1_greatestBefore 38 = .ok (.getfield 9, 3) := by decide +kernel
theorem dX1_greatestBefore_41 : decode cX1_greatestBefore 41 = .ok (.iload_n 3, 1) := by decide +kernel
theorem dX1_greatestBefore_42 : decode cX1_greatestBefore 42 = .ok (.iaload, 1) := by decide +kernel
end
section
theorem dX1_greatestBefore_43 : decode cX1_greatestBefore 43 = .ok (.ireturn, 1) := by decide +kernel
theorem dX1_greatestBefore_44 : decode cX1_greatestBefore 44 = .ok (.iinc 3 1, 3) := by decide +kernel
theorem dX1_greatestBefore_47 : decode cX1_greatestBefore 47 = .ok (.goto (-45), 3) := by decide +kernel
theorem dX1_greatestBefore_50 : decode cX1_greatestBefore 50 = .ok (.iconst 0, 1) := by decide +kernel
theorem dX1_greatestBefore_51 : decode cX1_greatestBefore 51 = .ok (.ireturn, 1) := by decide +kernel
theorem dX1_greatestTotalByTrying_0 : decode cX1_greatestTotalByTrying 0 = .ok (.aload_n 0, 1) := by decide +kernel
theorem dX1_greatestTotalByTrying_1 : decode cX1_greatestTotalByTrying 1 = .ok (.getfield 9, 3) := by decide +kernel
theorem dX1_greatestTotalByTrying_4 : decode cX1_greatestTotalByTrying 4 = .ok (.aload_n 0, 1) := by decide +kernel
theorem dX1_greatestTotalByTrying_5 : decode cX1_greatestTotalByTrying 5 = .ok (.getfield 15, 3) := by decide +kernel
theorem dX1_greatestTotalByTrying_8 : decode cX1_greatestTotalByTrying 8 = .ok (.iconst 0, 1) := by decide +kernel
theorem dX1_greatestTotalByTrying_9 : decode cX1_greatestTotalByTrying 9 = .ok (.iload_n 1, 1) := by decide +kernel
theorem dX1_greatestTotalByTrying_10 : decode cX1_greatestTotalByTrying 10 = .ok (.iload_n 2, 1) := by decide +kernel
theorem dX1_greatestTotalByTrying_11 : decode cX1_greatestTotalByTrying 11 = .ok (.invokestatic 44, 3) := by decide +kernel
theorem dX1_greatestTotalByTrying_14 : decode cX1_greatestTotalByTrying 14 = .ok (.ireturn, 1) := by decide +kernel
theorem dX1_tryFrom_0 : decode cX1_tryFrom 0 = .ok (.iconst 0, 1) := by decide +kernel
theorem dX1_tryFrom_1 : decode cX1_tryFrom 1 = .ok (.istore 5, 2) := by decide +kernel
theorem dX1_tryFrom_3 : decode cX1_tryFrom 3 = .ok (.iload 4, 2) := by decide +kernel
theorem dX1_tryFrom_5 : decode cX1_tryFrom 5 = .ok (.ifCond .gt 6, 3) := by decide +kernel
theorem dX1_tryFrom_8 : decode cX1_tryFrom 8 = .ok (.iload 5, 2) := by decide +kernel
theorem dX1_tryFrom_10 : decode cX1_tryFrom 10 = .ok (.ireturn, 1) := by decide +kernel
theorem dX1_tryFrom_11 : decode cX1_tryFrom 11 = .ok (.iload_n 2, 1) := by decide +kernel
theorem dX1_tryFrom_12 : decode cX1_tryFrom 12 = .ok (.istore 6, 2) := by decide +kernel
theorem dX1_tryFrom_14 : decode cX1_tryFrom 14 = .ok (.iload 6, 2) := by decide +kernel
theorem dX1_tryFrom_16 : decode cX1_tryFrom 16 = .ok (.iload_n 1, 1) := by decide +kernel
theorem dX1_tryFrom_17 : decode cX1_tryFrom 17 = .ok (.if_icmp .ge 50, 3) := by decide +kernel
theorem dX1_tryFrom_20 : decode cX1_tryFrom 20 = .ok (.aload_n 0, 1) := by decide +kernel
theorem dX1_tryFrom_21 : decode cX1_tryFrom 21 = .ok (.iload 6, 2) := by decide +kernel
theorem dX1_tryFrom_23 : decode cX1_tryFrom 23 = .ok (.iaload, 1) := by decide +kernel
theorem dX1_tryFrom_24 : decode cX1_tryFrom 24 = .ok (.iload_n 3, 1) := by decide +kernel
theorem dX1_tryFrom_25 : decode cX1_tryFrom 25 = .ok (.if_icmp .gt 36, 3) := by decide +kernel
theorem dX1_tryFrom_28 : decode cX1_tryFrom 28 = .ok (.aload_n 0, 1) := by decide +kernel
theorem dX1_tryFrom_29 : decode cX1_tryFrom 29 = .ok (.iload 6, 2) := by decide +kernel
theorem dX1_tryFrom_31 : decode cX1_tryFrom 31 = .ok (.iaload, 1) := by decide +kernel
theorem dX1_tryFrom_32 : decode cX1_tryFrom 32 = .ok (.aload_n 0, 1) := by decide +kernel
theorem dX1_tryFrom_33 : decode cX1_tryFrom 33 = .ok (.iload_n 1, 1) := by decide +kernel
theorem dX1_tryFrom_34 : decode cX1_tryFrom 34 = .ok (.iload 6, 2) := by decide +kernel
theorem dX1_tryFrom_36 : decode cX1_tryFrom 36 = .ok (.iload_n 3, 1) := by decide +kernel
theorem dX1_tryFrom_37 : decode cX1_tryFrom 37 = .ok (.aload_n 0, 1) := by decide +kernel
theorem dX1_tryFrom_38 : decode cX1_tryFrom 38 = .ok (.iload 6, 2) := by decide +kernel
theorem dX1_tryFrom_40 : decode cX1_tryFrom 40 = .ok (.iaload, 1) := by decide +kernel
theorem dX1_tryFrom_41 : decode cX1_tryFrom 41 = .ok (.isub, 1) := by decide +kernel
theorem dX1_tryFrom_42 : decode cX1_tryFrom 42 = .ok (.iload 4, 2) := by decide +kernel
theorem dX1_tryFrom_44 : decode cX1_tryFrom 44 = .ok (.iconst 1, 1) := by decide +kernel
theorem dX1_tryFrom_45 : decode cX1_tryFrom 45 = .ok (.isub, 1) := by decide +kernel
theorem dX1_tryFrom_46 : decode cX1_tryFrom 46 = .ok (.invokestatic 44, 3) := by decide +kernel
theorem dX1_tryFrom_49 : decode cX1_tryFrom 49 = .ok (.iadd, 1) := by decide +kernel
theorem dX1_tryFrom_50 : decode cX1_tryFrom 50 = .ok (.istore 7, 2) := by decide +kernel
theorem dX1_tryFrom_52 : decode cX1_tryFrom 52 = .ok (.iload 5, 2) := by decide +kernel
theorem dX1_tryFrom_54 : decode cX1_tryFrom 54 = .ok (.iload 7, 2) := by decide +kernel
theorem dX1_tryFrom_56 : decode cX1_tryFrom 56 = .ok (.invokestatic 48, 3) := by decide +kernel
theorem dX1_tryFrom_59 : decode cX1_tryFrom 59 = .ok (.istore 5, 2) := by decide +kernel
theorem dX1_tryFrom_61 : decode cX1_tryFrom 61 = .ok (.iinc 6 1, 3) := by decide +kernel
theorem dX1_tryFrom_64 : decode cX1_tryFrom 64 = .ok (.goto (-50), 3) := by decide +kernel
theorem dX1_tryFrom_67 : decode cX1_tryFrom 67 = .ok (.iload 5, 2) := by decide +kernel
theorem dX1_tryFrom_69 : decode cX1_tryFrom 69 = .ok (.ireturn, 1) := by decide +kernel
theorem dX2_init_0 : decode cX2_init 0 = .ok (.aload_n 0, 1) := by decide +kernel
theorem dX2_init_1 : decode cX2_init 1 = .ok (.invokespecial 3, 3) := by decide +kernel
theorem dX2_init_4 : decode cX2_init 4 = .ok (.aload_n 0, 1) := by decide +kernel
theorem dX2_init_5 : decode cX2_init 5 = .ok (.iconst 0, 1) := by decide +kernel
theorem dX2_init_6 : decode cX2_init 6 = .ok (.putfield 9, 3) := by decide +kernel
theorem dX2_init_9 : decode cX2_init 9 = .ok (.aload_n 0, 1) := by decide +kernel
theorem dX2_init_10 : decode cX2_init 10 = .ok (.iconst 0, 1) := by decide +kernel
theorem dX2_init_11 : decode cX2_init 11 = .ok (.putfield 15, 3) := by decide +kernel
theorem dX2_init_14 : decode cX2_init 14 = .ok (.aload_n 0, 1) := by decide +kernel
theorem dX2_init_15 : decode cX2_init 15 = .ok (.iconst 0, 1) := by decide +kernel
theorem dX2_init_16 : decode cX2_init 16 = .ok (.putfield 18, 3) := by decide +kernel
theorem dX2_init_19 : decode cX2_init 19 = .ok (.aload_n 0, 1) := by decide +kernel
theorem dX2_init_20 : decode cX2_init 20 = .ok (.iconst (-1), 1) := by decide +kernel
theorem dX2_init_21 : decode cX2_init 21 = .ok (.putfield 21, 3) := by decide +kernel
theorem dX2_init_24 : decode cX2_init 24 = .ok (.return_, 1) := by decide +kernel
theorem dX2_describe_0 : decode cX2_describe 0 = .ok (.aload_n 0, 1) := by decide +kernel
theorem dX2_describe_1 : decode cX2_describe 1 = .ok (.iload_n 1, 1) := by decide +kernel
theorem dX2_describe_2 : decode cX2_describe 2 = .ok (.putfield 9, 3) := by decide +kernel
theorem dX2_describe_5 : decode cX2_describe 5 = .ok (.aload_n 0, 1) := by decide +kernel
theorem dX2_describe_6 : decode cX2_describe 6 = .ok (.iload_n 2, 1) := by decide +kernel
theorem dX2_describe_7 : decode cX2_describe 7 = .ok (.putfield 15, 3) := by decide +kernel
theorem dX2_describe_10 : decode cX2_describe 10 = .ok (.return_, 1) := by decide +kernel
theorem dX2_wouldTakeHeat_0 : decode cX2_wouldTakeHeat 0 = .ok (.aload_n 0, 1) := by decide +kernel
theorem dX2_wouldTakeHeat_1 : decode cX2_wouldTakeHeat 1 = .ok (.getfield 18, 3) := by decide +kernel
theorem dX2_wouldTakeHeat_4 : decode cX2_wouldTakeHeat 4 = .ok (.aload_n 0, 1) := by decide +kernel
theorem dX2_wouldTakeHeat_5 : decode cX2_wouldTakeHeat 5 = .ok (.getfield 15, 3) := by decide +kernel
theorem dX2_wouldTakeHeat_8 : decode cX2_wouldTakeHeat 8 = .ok (.if_icmp .ge 23, 3) := by decide +kernel
theorem dX2_wouldTakeHeat_11 : decode cX2_wouldTakeHeat 11 = .ok (.aload_n 0, 1) := by decide +kernel
theorem dX2_wouldTakeHeat_12 : decode cX2_wouldTakeHeat 12 = .ok (.getfield 21, 3) := by decide +kernel
theorem dX2_wouldTakeHeat_15 : decode cX2_wouldTakeHeat 15 = .ok (.iconst (-1), 1) := by decide +kernel
theorem dX2_wouldTakeHeat_16 : decode cX2_wouldTakeHeat 16 = .ok (.if_icmp .eq 11, 3) := by decide +kernel
theorem dX2_wouldTakeHeat_19 : decode cX2_wouldTakeHeat 19 = .ok (.aload_n 0, 1) := by decide +kernel
theorem dX2_wouldTakeHeat_20 : decode cX2_wouldTakeHeat 20 = .ok (.getfield 21, 3) := by decide +kernel
theorem dX2_wouldTakeHeat_23 : decode cX2_wouldTakeHeat 23 = .ok (.iload_n 1, 1) := by decide +kernel
theorem dX2_wouldTakeHeat_24 : decode cX2_wouldTakeHeat 24 = .ok (.if_icmp .ne 7, 3) := by decide +kernel
theorem dX2_wouldTakeHeat_27 : decode cX2_wouldTakeHeat 27 = .ok (.iconst 1, 1) := by decide +kernel
theorem dX2_wouldTakeHeat_28 : decode cX2_wouldTakeHeat 28 = .ok (.goto 4, 3) := by decide +kernel
theorem dX2_wouldTakeHeat_31 : decode cX2_wouldTakeHeat 31 = .ok (.iconst 0, 1) := by decide +kernel
theorem dX2_wouldTakeHeat_32 : decode cX2_wouldTakeHeat 32 = .ok (.ireturn, 1) := by decide +kernel
theorem dX2_receive_0 : decode cX2_receive 0 = .ok (.aload_n 0, 1) := by decide +kernel
theorem dX2_receive_1 : decode cX2_receive 1 = .ok (.dup, 1) := by decide +kernel
theorem dX2_receive_2 : decode cX2_receive 2 = .ok (.getfield 18, 3) := by decide +kernel
theorem dX2_receive_5 : decode cX2_receive 5 = .ok (.iload_n 1, 1) := by decide +kernel
theorem dX2_receive_6 : decode cX2_receive 6 = .ok (.iadd, 1) := by decide +kernel
theorem dX2_receive_7 : decode cX2_receive 7 = .ok (.putfield 18, 3) := by decide +kernel
theorem dX2_receive_10 : decode cX2_receive 10 = .ok (.aload_n 0, 1) := by decide +kernel
theorem dX2_receive_11 : decode cX2_receive 11 = .ok (.iload_n 2, 1) := by decide +kernel
theorem dX2_receive_12 : decode cX2_receive 12 = .ok (.putfield 21, 3) := by decide +kernel
theorem dX2_receive_15 : decode cX2_receive 15 = .ok (.return_, 1) := by decide +kernel
theorem dX3_init_0 : decode cX3_init 0 = .ok (.aload_n 0, 1) := by decide +kernel
theorem dX3_init_1 : decode cX3_init 1 = .ok (.invokespecial 3, 3) := by decide +kernel
theorem dX3_init_4 : decode cX3_init 4 = .ok (.aload_n 0, 1) := by decide +kernel
theorem dX3_init_5 : decode cX3_init 5 = .ok (.bipush 15, 2) := by decide +kernel
theorem dX3_init_7 : decode cX3_init 7 = .ok (.newarray .int, 2) := by decide +kernel
theorem dX3_init_9 : decode cX3_init 9 = .ok (.putfield 9, 3) := by decide +kernel
theorem dX3_init_12 : decode cX3_init 12 = .ok (.aload_n 0, 1) := by decide +kernel
theorem dX3_init_13 : decode cX3_init 13 = .ok (.iconst 0, 1) := by decide +kernel
theorem dX3_init_14 : decode cX3_init 14 = .ok (.putfield 15, 3) := by decide +kernel
theorem dX3_init_17 : decode cX3_init 17 = .ok (.return_, 1) := by decide +kernel
theorem dX3_isFull_0 : decode cX3_isFull 0 = .ok (.aload_n 0, 1) := by decide +kernel
theorem dX3_isFull_1 : decode cX3_isFull 1 = .ok (.getfield 15, 3) := by decide +kernel
theorem dX3_isFull_4 : decode cX3_isFull 4 = .ok (.aload_n 0, 1) := by decide +kernel
theorem dX3_isFull_5 : decode cX3_isFull 5 = .ok (.getfield 9, 3) := by decide +kernel
theorem dX3_isFull_8 : decode cX3_isFull 8 = .ok (.arraylength, 1) := by decide +kernel
theorem dX3_isFull_9 : decode cX3_isFull 9 = .ok (.if_icmp .lt 7, 3) := by decide +kernel
theorem dX3_isFull_12 : decode cX3_isFull 12 = .ok (.iconst 1, 1) := by decide +kernel
theorem dX3_isFull_13 : decode cX3_isFull 13 = .ok (.goto 4, 3) := by decide +kernel
theorem dX3_isFull_16 : decode cX3_isFull 16 = .ok (.iconst 0, 1) := by decide +kernel
theorem dX3_isFull_17 : decode cX3_isFull 17 = .ok (.ireturn, 1) := by decide +kernel
theorem dX3_hasSlitAt_0 : decode cX3_hasSlitAt 0 = .ok (.iload_n 1, 1) := by decide +kernel
theorem dX3_hasSlitAt_1 : decode cX3_hasSlitAt 1 = .ok (.ifCond .lt 15, 3) := by decide +kernel
theorem dX3_hasSlitAt_4 : decode cX3_hasSlitAt 4 = .ok (.iload_n 1, 1) := by decide +kernel
theorem dX3_hasSlitAt_5 : decode cX3_hasSlitAt 5 = .ok (.aload_n 0, 1) := by decide +kernel
theorem dX3_hasSlitAt_6 : decode cX3_hasSlitAt 6 = .ok (.getfield 15, 3) := by decide +kernel
theorem dX3_hasSlitAt_9 : decode cX3_hasSlitAt 9 = .ok (.if_icmp .ge 7, 3) := by decide +kernel
theorem dX3_hasSlitAt_12 : decode cX3_hasSlitAt 12 = .ok (.iconst 1, 1) := by decide +kernel
theorem dX3_hasSlitAt_13 : decode cX3_hasSlitAt 13 = .ok (.goto 4, 3) := by decide +kernel
theorem dX3_hasSlitAt_16 : decode cX3_hasSlitAt 16 = .ok (.iconst 0, 1) := by decide +kernel
theorem dX3_hasSlitAt_17 : decode cX3_hasSlitAt 17 = .ok (.ireturn, 1) := by decide +kernel
theorem dX3_empty_0 : decode cX3_empty 0 = .ok (.aload_n 0, 1) := by decide +kernel
theorem dX3_empty_1 : decode cX3_empty 1 = .ok (.iconst 0, 1) := by decide +kernel
theorem dX3_empty_2 : decode cX3_empty 2 = .ok (.putfield 15, 3) := by decide +kernel
theorem dX3_empty_5 : decode cX3_empty 5 = .ok (.return_, 1) := by decide +kernel
theorem dX3_append_0 : decode cX3_append 0 = .ok (.aload_n 0, 1) := by decide +kernel
theorem dX3_append_1 : decode cX3_append 1 = .ok (.invokevirtual 19, 3) := by decide +kernel
theorem dX3_append_4 : decode cX3_append 4 = .ok (.ifCond .ne 23, 3) := by decide +kernel
theorem dX3_append_7 : decode cX3_append 7 = .ok (.aload_n 0, 1) := by decide +kernel
theorem dX3_append_8 : decode cX3_append 8 = .ok (.getfield 9, 3) := by decide +kernel
theorem dX3_append_11 : decode cX3_append 11 = .ok (.aload_n 0, 1) := by decide +kernel
theorem dX3_append_12 : decode cX3_append 12 = .ok (.getfield 15, 3) := by decide +kernel
theorem dX3_append_15 : decode cX3_append 15 = .ok (.iload_n 1, 1) := by decide +kernel
theorem dX3_append_16 : decode cX3_append 16 = .ok (.iastore, 1) := by decide +kernel
theorem dX3_append_17 : decode cX3_append 17 = .ok (.aload_n 0, 1) := by decide +kernel
theorem dX3_append_18 : decode cX3_append 18 = .ok (.dup, 1) := by decide +kernel
theorem dX3_append_19 : decode cX3_append 19 = .ok (.getfield 15, 3) := by decide +kernel
theorem dX3_append_22 : decode cX3_append 22 = .ok (.iconst 1, 1) := by decide +kernel
theorem dX3_append_23 : decode cX3_append 23 = .ok (.iadd, 1) := by decide +kernel
theorem dX3_append_24 : decode cX3_append 24 = .ok (.putfield 15, 3) := by decide +kernel
theorem dX3_append_27 : decode cX3_append 27 = .ok (.return_, 1) := by decide +kernel
theorem dX3_becomeCopyOf_0 : decode cX3_becomeCopyOf 0 = .ok (.aload_n 0, 1) := by decide +kernel
theorem dX3_becomeCopyOf_1 : decode cX3_becomeCopyOf 1 = .ok (.invokevirtual 23, 3) := by decide +kernel
theorem dX3_becomeCopyOf_4 : decode cX3_becomeCopyOf 4 = .ok (.iconst 0, 1) := by decide +kernel
theorem dX3_becomeCopyOf_5 : decode cX3_becomeCopyOf 5 = .ok (.istore_n 2, 1) := by decide +kernel
theorem dX3_becomeCopyOf_6 : decode cX3_becomeCopyOf 6 = .ok (.iload_n 2, 1) := by decide +kernel
theorem dX3_becomeCopyOf_7 : decode cX3_becomeCopyOf 7 = .ok (.aload_n 1, 1) := by decide +kernel
theorem dX3_becomeCopyOf_8 : decode cX3_becomeCopyOf 8 = .ok (.getfield 15, 3) := by decide +kernel
theorem dX3_becomeCopyOf_11 : decode cX3_becomeCopyOf 11 = .ok (.if_icmp .ge 19, 3) := by decide +kernel
theorem dX3_becomeCopyOf_14 : decode cX3_becomeCopyOf 14 = .ok (.aload_n 0, 1) := by decide +kernel
theorem dX3_becomeCopyOf_15 : decode cX3_becomeCopyOf 15 = .ok (.aload_n 1, 1) := by decide +kernel
theorem dX3_becomeCopyOf_16 : decode cX3_becomeCopyOf 16 = .ok (.getfield 9, 3) := by decide +kernel
theorem dX3_becomeCopyOf_19 : decode cX3_becomeCopyOf 19 = .ok (.iload_n 2, 1) := by decide +kernel
theorem dX3_becomeCopyOf_20 : decode cX3_becomeCopyOf 20 = .ok (.iaload, 1) := by decide +kernel
theorem dX3_becomeCopyOf_21 : decode cX3_becomeCopyOf 21 = .ok (.invokevirtual 26, 3) := by decide +kernel
theorem dX3_becomeCopyOf_24 : decode cX3_becomeCopyOf 24 = .ok (.iinc 2 1, 3) := by decide +kernel
theorem dX3_becomeCopyOf_27 : decode cX3_becomeCopyOf 27 = .ok (.goto (-21), 3) := by decide +kernel
theorem dX3_becomeCopyOf_30 : decode cX3_becomeCopyOf 30 = .ok (.return_, 1) := by decide +kernel
theorem dX3_totalWidth_0 : decode cX3_totalWidth 0 = .ok (.iconst 0, 1) := by decide +kernel
theorem dX3_totalWidth_1 : decode cX3_totalWidth 1 = .ok (.istore_n 1, 1) := by decide +kernel
theorem dX3_totalWidth_2 : decode cX3_totalWidth 2 = .ok (.iconst 0, 1) := by decide +kernel
theorem dX3_totalWidth_3 : decode cX3_totalWidth 3 = .ok (.istore_n 2, 1) := by decide +kernel
theorem dX3_totalWidth_4 : decode cX3_totalWidth 4 = .ok (.iload_n 2, 1) := by decide +kernel
theorem dX3_totalWidth_5 : decode cX3_totalWidth 5 = .ok (.aload_n 0, 1) := by decide +kernel
theorem dX3_totalWidth_6 : decode cX3_totalWidth 6 = .ok (.getfield 15, 3) := by decide +kernel
theorem dX3_totalWidth_9 : decode cX3_totalWidth 9 = .ok (.if_icmp .ge 18, 3) := by decide +kernel
theorem dX3_totalWidth_12 : decode cX3_totalWidth 12 = .ok (.iload_n 1, 1) := by decide +kernel
theorem dX3_totalWidth_13 : decode cX3_totalWidth 13 = .ok (.aload_n 0, 1) := by decide +kernel
theorem dX3_totalWidth_14 : decode cX3_totalWidth 14 = .ok (.getfield 9, 3) := by decide +kernel
theorem dX3_totalWidth_17 : decode cX3_totalWidth 17 = .ok (.iload_n 2, 1) := by decide +kernel
theorem dX3_totalWidth_18 : decode cX3_totalWidth 18 = .ok (.iaload, 1) := by decide +kernel
theorem dX3_totalWidth_19 : decode cX3_totalWidth 19 = .ok (.iadd, 1) := by decide +kernel
theorem dX3_totalWidth_20 : decode cX3_totalWidth 20 = .ok (.istore_n 1, 1) := by decide +kernel
theorem dX3_totalWidth_21 : decode cX3_totalWidth 21 = .ok (.iinc 2 1, 3) := by decide +kernel
theorem dX3_totalWidth_24 : decode cX3_totalWidth 24 = .ok (.goto (-20), 3) := by decide +kernel
theorem dX3_totalWidth_27 : decode cX3_totalWidth 27 = .ok (.iload_n 1, 1) := by decide +kernel
theorem dX3_totalWidth_28 : decode cX3_totalWidth 28 = .ok (.ireturn, 1) := by decide +kernel
theorem dX3_knivesNeeded_0 : decode cX3_knivesNeeded 0 = .ok (.aload_n 0, 1) := by decide +kernel
theorem dX3_knivesNeeded_1 : decode cX3_knivesNeeded 1 = .ok (.getfield 15, 3) := by decide +kernel
theorem dX3_knivesNeeded_4 : decode cX3_knivesNeeded 4 = .ok (.iconst 1, 1) := by decide +kernel
theorem dX3_knivesNeeded_5 : decode cX3_knivesNeeded 5 = .ok (.iadd, 1) := by decide +kernel
theorem dX3_knivesNeeded_6 : decode cX3_knivesNeeded 6 = .ok (.ireturn, 1) := by decide +kernel
theorem dX3_knivesNotIn_0 : decode cX3_knivesNotIn 0 = .ok (.iconst 0, 1) := by decide +kernel
theorem dX3_knivesNotIn_1 : decode cX3_knivesNotIn 1 = .ok (.istore_n 2, 1) := by decide +kernel
theorem dX3_knivesNotIn_2 : decode cX3_knivesNotIn 2 = .ok (.iconst 0, 1) := by decide +kernel
theorem dX3_knivesNotIn_3 : decode cX3_knivesNotIn 3 = .ok (.istore_n 3, 1) := by decide +kernel
theorem dX3_knivesNotIn_4 : decode cX3_knivesNotIn 4 = .ok (.iconst 0, 1) := by decide +kernel
theorem dX3_knivesNotIn_5 : decode cX3_knivesNotIn 5 = .ok (.istore 4, 2) := by decide +kernel
theorem dX3_knivesNotIn_7 : decode cX3_knivesNotIn 7 = .ok (.iload 4, 2) := by decide +kernel
theorem dX3_knivesNotIn_9 : decode cX3_knivesNotIn 9 = .ok (.aload_n 0, 1) := by decide +kernel
theorem dX3_knivesNotIn_10 : decode cX3_knivesNotIn 10 = .ok (.getfield 15, 3) := by decide +kernel
theorem dX3_knivesNotIn_13 : decode cX3_knivesNotIn 13 = .ok (.if_icmp .ge 30, 3) := by decide +kernel
theorem dX3_knivesNotIn_16 : decode cX3_knivesNotIn 16 = .ok (.iload_n 3, 1) := by decide +kernel
theorem dX3_knivesNotIn_17 : decode cX3_knivesNotIn 17 = .ok (.aload_n 0, 1) := by decide +kernel
theorem dX3_knivesNotIn_18 : decode cX3_knivesNotIn 18 = .ok (.getfield 9, 3) := by decide +kernel
theorem dX3_knivesNotIn_21 : decode cX3_knivesNotIn 21 = .ok (.iload 4, 2) := by decide +kernel
theorem dX3_knivesNotIn_23 : decode cX3_knivesNotIn 23 = .ok (.iaload, 1) := by decide +kernel
theorem dX3_knivesNotIn_24 : decode cX3_knivesNotIn 24 = .ok (.iadd, 1) := by decide +kernel
theorem dX3_knivesNotIn_25 : decode cX3_knivesNotIn 25 = .ok (.istore_n 3, 1) := by decide +kernel
theorem dX3_knivesNotIn_26 : decode cX3_knivesNotIn 26 = .ok (.aload_n 1, 1) := by decide +kernel
theorem dX3_knivesNotIn_27 : decode cX3_knivesNotIn 27 = .ok (.iload_n 3, 1) := by decide +kernel
theorem dX3_knivesNotIn_28 : decode cX3_knivesNotIn 28 = .ok (.invokevirtual 30, 3) := by decide +kernel
theorem dX3_knivesNotIn_31 : decode cX3_knivesNotIn 31 = .ok (.ifCond .ne 6, 3) := by decide +kernel
theorem dX3_knivesNotIn_34 : decode cX3_knivesNotIn 34 = .ok (.iinc 2 1, 3) := by decide +kernel
theorem dX3_knivesNotIn_37 : decode cX3_knivesNotIn 37 = .ok (.iinc 4 1, 3) := by decide +kernel
theorem dX3_knivesNotIn_40 : decode cX3_knivesNotIn 40 = .ok (.goto (-33), 3) := by decide +kernel
theorem dX3_knivesNotIn_43 : decode cX3_knivesNotIn 43 = .ok (.iload_n 2, 1) := by decide +kernel
theorem dX3_knivesNotIn_44 : decode cX3_knivesNotIn 44 = .ok (.ireturn, 1) := by decide +kernel
theorem dX3_hasKnifeAt_0 : decode cX3_hasKnifeAt 0 = .ok (.iconst 0, 1) := by decide +kernel
theorem dX3_hasKnifeAt_1 : decode cX3_hasKnifeAt 1 = .ok (.istore_n 2, 1) := by decide +kernel
theorem dX3_hasKnifeAt_2 : decode cX3_hasKnifeAt 2 = .ok (.iconst 0, 1) := by decide +kernel
theorem dX3_hasKnifeAt_3 : decode cX3_hasKnifeAt 3 = .ok (.istore_n 3, 1) := by decide +kernel
theorem dX3_hasKnifeAt_4 : decode cX3_hasKnifeAt 4 = .ok (.iload_n 3, 1) := by decide +kernel
theorem dX3_hasKnifeAt_5 : decode cX3_hasKnifeAt 5 = .ok (.aload_n 0, 1) := by decide +kernel
theorem dX3_hasKnifeAt_6 : decode cX3_hasKnifeAt 6 = .ok (.getfield 15, 3) := by decide +kernel
theorem dX3_hasKnifeAt_9 : decode cX3_hasKnifeAt 9 = .ok (.if_icmp .ge 23, 3) := by decide +kernel
theorem dX3_hasKnifeAt_12 : decode cX3_hasKnifeAt 12 = .ok (.iload_n 2, 1) := by decide +kernel
theorem dX3_hasKnifeAt_13 : decode cX3_hasKnifeAt 13 = .ok (.iload_n 1, 1) := by decide +kernel
theorem dX3_hasKnifeAt_14 : decode cX3_hasKnifeAt 14 = .ok (.if_icmp .ge 18, 3) := by decide +kernel
theorem dX3_hasKnifeAt_17 : decode cX3_hasKnifeAt 17 = .ok (.iload_n 2, 1) := by decide +kernel
theorem dX3_hasKnifeAt_18 : decode cX3_hasKnifeAt 18 = .ok (.aload_n 0, 1) := by decide +kernel
theorem dX3_hasKnifeAt_19 : decode cX3_hasKnifeAt 19 = .ok (.getfield 9, 3) := by decide +kernel
theorem dX3_hasKnifeAt_22 : decode cX3_hasKnifeAt 22 = .ok (.iload_n 3, 1) := by decide +kernel
theorem dX3_hasKnifeAt_23 : decode cX3_hasKnifeAt 23 = .ok (.iaload, 1) := by decide +kernel
theorem dX3_hasKnifeAt_24 : decode cX3_hasKnifeAt 24 = .ok (.iadd, 1) := by decide +kernel
theorem dX3_hasKnifeAt_25 : decode cX3_hasKnifeAt 25 = .ok (.istore_n 2, 1) := by decide +kernel
theorem dX3_hasKnifeAt_26 : decode cX3_hasKnifeAt 26 = .ok (.iinc 3 1, 3) := by decide +kernel
theorem dX3_hasKnifeAt_29 : decode cX3_hasKnifeAt 29 = .ok (.goto (-25), 3) := by decide +kernel
theorem dX3_hasKnifeAt_32 : decode cX3_hasKnifeAt 32 = .ok (.iload_n 2, 1) := by decide +kernel
theorem dX3_hasKnifeAt_33 : decode cX3_hasKnifeAt 33 = .ok (.iload_n 1, 1) := by decide +kernel
theorem dX3_hasKnifeAt_34 : decode cX3_hasKnifeAt 34 = .ok (.if_icmp .ne 7, 3) := by decide +kernel
theorem dX3_hasKnifeAt_37 : decode cX3_hasKnifeAt 37 = .ok (.iconst 1, 1) := by decide +kernel
theorem dX3_hasKnifeAt_38 : decode cX3_hasKnifeAt 38 = .ok (.goto 4, 3) := by decide +kernel
theorem dX3_hasKnifeAt_41 : decode cX3_hasKnifeAt 41 = .ok (.iconst 0, 1) := by decide +kernel
theorem dX3_hasKnifeAt_42 : decode cX3_hasKnifeAt 42 = .ok (.ireturn, 1) := by decide +kernel
theorem dX4_init_0 : decode cX4_init 0 = .ok (.aload_n 0, 1) := by decide +kernel
theorem dX4_init_1 : decode cX4_init 1 = .ok (.invokespecial 3, 3) := by decide +kernel
theorem dX4_init_4 : decode cX4_init 4 = .ok (.aload_n 0, 1) := by decide +kernel
theorem dX4_init_5 : decode cX4_init 5 = .ok (.bipush 8, 2) := by decide +kernel
theorem dX4_init_7 : decode cX4_init 7 = .ok (.bipush 7, 2) := by decide +kernel
theorem dX4_init_9 : decode cX4_init 9 = .ok (.multianewarray 9 2, 4) := by decide +kernel
theorem dX4_init_13 : decode cX4_init 13 = .ok (.putfield 11, 3) := by decide +kernel
theorem dX4_init_16 : decode cX4_init 16 = .ok (.aload_n 0, 1) := by decide +kernel
theorem dX4_init_17 : decode cX4_init 17 = .ok (.bipush 8, 2) := by decide +kernel
theorem dX4_init_19 : decode cX4_init 19 = .ok (.sipush 128, 3) := by decide +kernel
theorem dX4_init_22 : decode cX4_init 22 = .ok (.multianewarray 9 2, 4) := by decide +kernel
theorem dX4_init_26 : decode cX4_init 26 = .ok (.putfield 16, 3) := by decide +kernel
theorem dX4_init_29 : decode cX4_init 29 = .ok (.aload_n 0, 1) := by decide +kernel
theorem dX4_init_30 : decode cX4_init 30 = .ok (.bipush 7, 2) := by decide +kernel
theorem dX4_init_32 : decode cX4_init 32 = .ok (.newarray .int, 2) := by decide +kernel
theorem dX4_init_34 : decode cX4_init 34 = .ok (.putfield 19, 3) := by decide +kernel
theorem dX4_init_37 : decode cX4_init 37 = .ok (.return_, 1) := by decide +kernel
theorem dX4_fewestBySets_0 : decode cX4_fewestBySets 0 = .ok (.iconst 1, 1) := by decide +kernel
theorem dX4_fewestBySets_1 : decode cX4_fewestBySets 1 = .ok (.iload_n 1, 1) := by decide +kernel
theorem dX4_fewestBySets_2 : decode cX4_fewestBySets 2 = .ok (.ishl, 1) := by decide +kernel
theorem dX4_fewestBySets_3 : decode cX4_fewestBySets 3 = .ok (.iconst 1, 1) := by decide +kernel
theorem dX4_fewestBySets_4 : decode cX4_fewestBySets 4 = .ok (.isub, 1) := by decide +kernel
theorem dX4_fewestBySets_5 : decode cX4_fewestBySets 5 = .ok (.istore_n 2, 1) := by decide +kernel
theorem dX4_fewestBySets_6 : decode cX4_fewestBySets 6 = .ok (.iconst 1, 1) := by decide +kernel
theorem dX4_fewestBySets_7 : decode cX4_fewestBySets 7 = .ok (.istore_n 3, 1) := by decide +kernel
theorem dX4_fewestBySets_8 : decode cX4_fewestBySets 8 = .ok (.iload_n 3, 1) := by decide +kernel
theorem dX4_fewestBySets_9 : decode cX4_fewestBySets 9 = .ok (.iload_n 2, 1) := by decide +kernel
theorem dX4_fewestBySets_10 : decode cX4_fewestBySets 10 = .ok (.if_icmp .gt 42, 3) := by decide +kernel
theorem dX4_fewestBySets_13 : decode cX4_fewestBySets 13 = .ok (.iconst 0, 1) := by decide +kernel
theorem dX4_fewestBySets_14 : decode cX4_fewestBySets 14 = .ok (.istore 4, 2) := by decide +kernel
theorem dX4_fewestBySets_16 : decode cX4_fewestBySets 16 = .ok (.iload 4, 2) := by decide +kernel
theorem dX4_fewestBySets_18 : decode cX4_fewestBySets 18 = .ok (.bipush 7, 2) := by decide +kernel
theorem dX4_fewestBySets_20 : decode cX4_fewestBySets 20 = .ok (.if_icmp .gt 26, 3) := by decide +kernel
theorem dX4_fewestBySets_23 : decode cX4_fewestBySets 23 = .ok (.aload_n 0, 1) := by decide +kernel
theorem dX4_fewestBySets_24 : decode cX4_fewestBySets 24 = .ok (.getfield 16, 3) := by decide +kernel
theorem dX4_fewestBySets_27 : decode cX4_fewestBySets 27 = .ok (.iload 4, 2) := by decide +kernel
theorem dX4_fewestBySets_29 : decode cX4_fewestBySets 29 = .ok (.aaload, 1) := by decide +kernel
theorem dX4_fewestBySets_30 : decode cX4_fewestBySets 30 = .ok (.iload_n 3, 1) := by decide +kernel
theorem dX4_fewestBySets_31 : decode cX4_fewestBySets 31 = .ok (.aload_n 0, 1) := by decide +kernel
theorem dX4_fewestBySets_32 : decode cX4_fewestBySets 32 = .ok (.iload 4, 2) := by decide +kernel
theorem dX4_fewestBySets_34 : decode cX4_fewestBySets 34 = .ok (.iload_n 3, 1) := by decide +kernel
theorem dX4_fewestBySets_35 : decode cX4_fewestBySets 35 = .ok (.iload_n 1, 1) := by decide +kernel
theorem dX4_fewestBySets_36 : decode cX4_fewestBySets 36 = .ok (.invokevirtual 23, 3) := by decide +kernel
theorem dX4_fewestBySets_39 : decode cX4_fewestBySets 39 = .ok (.iastore, 1) := by decide +kernel
theorem dX4_fewestBySets_40 : decode cX4_fewestBySets 40 = .ok (.iinc 4 1, 3) := by decide +kernel
theorem dX4_fewestBySets_43 : decode cX4_fewestBySets 43 = .ok (.goto (-27), 3) := by decide +kernel
theorem dX4_fewestBySets_46 : decode cX4_fewestBySets 46 = .ok (.iinc 3 1, 3) := by decide +kernel
theorem dX4_fewestBySets_49 : decode cX4_fewestBySets 49 = .ok (.goto (-41), 3) := by decide +kernel
theorem dX4_fewestBySets_52 : decode cX4_fewestBySets 52 = .ok (.aload_n 0, 1) := by decide +kernel
theorem dX4_fewestBySets_53 : decode cX4_fewestBySets 53 = .ok (.getfield 16, 3) := by decide +kernel
theorem dX4_fewestBySets_56 : decode cX4_fewestBySets 56 = .ok (.bipush 7, 2) := by decide +kernel
theorem dX4_fewestBySets_58 : decode cX4_fewestBySets 58 = .ok (.aaload, 1) := by decide +kernel
theorem dX4_fewestBySets_59 : decode cX4_fewestBySets 59 = .ok (.iload_n 2, 1) := by decide +kernel
theorem dX4_fewestBySets_60 : decode cX4_fewestBySets 60 = .ok (.iaload, 1) := by decide +kernel
theorem dX4_fewestBySets_61 : decode cX4_fewestBySets 61 = .ok (.ireturn, 1) := by decide +kernel
theorem dX4_fewestAfter_0 : decode cX4_fewestAfter 0 = .ok (.sipush 128, 3) := by decide +kernel
theorem dX4_fewestAfter_3 : decode cX4_fewestAfter 3 = .ok (.istore 4, 2) := by decide +kernel
theorem dX4_fewestAfter_5 : decode cX4_fewestAfter 5 = .ok (.iconst 0, 1) := by decide +kernel
theorem dX4_fewestAfter_6 : decode cX4_fewestAfter 6 = .ok (.istore 5, 2) := by decide +kernel
theorem dX4_fewestAfter_8 : decode cX4_fewestAfter 8 = .ok (.iload 5, 2) := by decide +kernel
theorem dX4_fewestAfter_10 : decode cX4_fewestAfter 10 = .ok (.iload_n 3, 1) := by decide +kernel
theorem dX4_fewestAfter_11 : decode cX4_fewestAfter 11 = .ok (.if_icmp .ge 33, 3) := by decide +kernel
theorem dX4_fewestAfter_14 : decode cX4_fewestAfter 14 = .ok (.iload_n 2, 1) := by decide +kernel
theorem dX4_fewestAfter_15 : decode cX4_fewestAfter 15 = .ok (.iload 5, 2) := by decide +kernel
theorem dX4_fewestAfter_17 : decode cX4_fewestAfter 17 = .ok (.invokestatic 27, 3) := by decide +kernel
theorem dX4_fewestAfter_20 : decode cX4_fewestAfter 20 = .ok (.ifCond .eq 18, 3) := by decide +kernel
theorem dX4_fewestAfter_23 : decode cX4_fewestAfter 23 = .ok (.iload 4, 2) := by decide +kernel
theorem dX4_fewestAfter_25 : decode cX4_fewestAfter 25 = .ok (.aload_n 0, 1) := by decide +kernel
theorem dX4_fewestAfter_26 : decode cX4_fewestAfter 26 = .ok (.iload_n 1, 1) := by decide +kernel
theorem dX4_fewestAfter_27 : decode cX4_fewestAfter 27 = .ok (.iload 5, 2) := by decide +kernel
theorem dX4_fewestAfter_29 : decode cX4_fewestAfter 29 = .ok (.iload_n 2, 1) := by decide +kernel
theorem dX4_fewestAfter_30 : decode cX4_fewestAfter 30 = .ok (.invokevirtual 31, 3) := by decide +kernel
theorem dX4_fewestAfter_33 : decode cX4_fewestAfter 33 = .ok (.invokestatic 34, 3) := by decide +kernel
theorem dX4_fewestAfter_36 : decode cX4_fewestAfter 36 = .ok (.istore 4, 2) := by decide +kernel
theorem dX4_fewestAfter_38 : decode cX4_fewestAfter 38 = .ok (.iinc 5 1, 3) := by decide +kernel
theorem dX4_fewestAfter_41 : decode cX4_fewestAfter 41 = .ok (.goto (-33), 3) := by decide +kernel
theorem dX4_fewestAfter_44 : decode cX4_fewestAfter 44 = .ok (.iload 4, 2) := by decide +kernel
theorem dX4_fewestAfter_46 : decode cX4_fewestAfter 46 = .ok (.ireturn, 1) := by decide +kernel
theorem dX4_movesThrough_0 : decode cX4_movesThrough 0 = .ok (.aload_n 0, 1) := by decide +kernel
theorem dX4_movesThrough_1 : decode cX4_movesThrough 1 = .ok (.getfield 11, 3) := by decide +kernel
theorem dX4_movesThrough_4 : decode cX4_movesThrough 4 = .ok (.iload_n 1, 1) := by decide +kernel
theorem dX4_movesThrough_5 : decode cX4_movesThrough 5 = .ok (.aaload, 1) := by decide +kernel
theorem dX4_movesThrough_6 : decode cX4_movesThrough 6 = .ok (.iload_n 2, 1) := by decide +kernel
theorem dX4_movesThrough_7 : decode cX4_movesThrough 7 = .ok (.iaload, 1) := by decide +kernel
theorem dX4_movesThrough_8 : decode cX4_movesThrough 8 = .ok (.aload_n 0, 1) := by decide +kernel
theorem dX4_movesThrough_9 : decode cX4_movesThrough 9 = .ok (.getfield 16, 3) := by decide +kernel
theorem dX4_movesThrough_12 : decode cX4_movesThrough 12 = .ok (.iload_n 2, 1) := by decide +kernel
theorem dX4_movesThrough_13 : decode cX4_movesThrough 13 = .ok (.aaload, 1) := by decide +kernel
theorem dX4_movesThrough_14 : decode cX4_movesThrough 14 = .ok (.iload_n 3, 1) := by decide +kernel
theorem dX4_movesThrough_15 : decode cX4_movesThrough 15 = .ok (.iload_n 2, 1) := by decide +kernel
theorem dX4_movesThrough_16 : decode cX4_movesThrough 16 = .ok (.invokestatic 40, 3) := by decide +kernel
theorem dX4_movesThrough_19 : decode cX4_movesThrough 19 = .ok (.iaload, 1) := by decide +kernel
theorem dX4_movesThrough_20 : decode cX4_movesThrough 20 = .ok (.iadd, 1) := by decide +kernel
theorem dX4_movesThrough_21 : decode cX4_movesThrough 21 = .ok (.ireturn, 1) := by decide +kernel
theorem dX4_findBest_0 : decode cX4_findBest 0 = .ok (.aload_n 0, 1) := by decide +kernel
theorem dX4_findBest_1 : decode cX4_findBest 1 = .ok (.iload_n 1, 1) := by decide +kernel
theorem dX4_findBest_2 : decode cX4_findBest 2 = .ok (.invokevirtual 43, 3) := by decide +kernel
theorem dX4_findBest_5 : decode cX4_findBest 5 = .ok (.pop, 1) := by decide +kernel
theorem dX4_findBest_6 : decode cX4_findBest 6 = .ok (.bipush 7, 2) := by decide +kernel
theorem dX4_findBest_8 : decode cX4_findBest 8 = .ok (.istore_n 2, 1) := by decide +kernel
theorem dX4_findBest_9 : decode cX4_findBest 9 = .ok (.iconst 1, 1) := by decide +kernel
theorem dX4_findBest_10 : decode cX4_findBest 10 = .ok (.iload_n 1, 1) := by decide +kernel
theorem dX4_findBest_11 : decode cX4_findBest 11 = .ok (.ishl, 1) := by decide +kernel
theorem dX4_findBest_12 : decode cX4_findBest 12 = .ok (.iconst 1, 1) := by decide +kernel
theorem dX4_findBest_13 : decode cX4_findBest 13 = .ok (.isub, 1) := by decide +kernel
theorem dX4_findBest_14 : decode cX4_findBest 14 = .ok (.istore_n 3, 1) := by decide +kernel
theorem dX4_findBest_15 : decode cX4_findBest 15 = .ok (.iconst 0, 1) := by decide +kernel
theorem dX4_findBest_16 : decode cX4_findBest 16 = .ok (.istore 4, 2) := by decide +kernel
theorem dX4_findBest_18 : decode cX4_findBest 18 = .ok (.iload 4, 2) := by decide +kernel
theorem dX4_findBest_20 : decode cX4_findBest 20 = .ok (.iload_n 1, 1) := by decide +kernel
theorem dX4_findBest_21 : decode cX4_findBest 21 = .ok (.if_icmp .ge 37, 3) := by decide +kernel
theorem dX4_findBest_24 : decode cX4_findBest 24 = .ok (.aload_n 0, 1) := by decide +kernel
theorem dX4_findBest_25 : decode cX4_findBest 25 = .ok (.iload_n 2, 1) := by decide +kernel
theorem dX4_findBest_26 : decode cX4_findBest 26 = .ok (.iload_n 3, 1) := by decide +kernel
theorem dX4_findBest_27 : decode cX4_findBest 27 = .ok (.iload_n 1, 1) := by decide +kernel
theorem dX4_findBest_28 : decode cX4_findBest 28 = .ok (.invokevirtual 47, 3) := by decide +kernel
theorem dX4_findBest_31 : decode cX4_findBest 31 = .ok (.istore 5, 2) := by decide +kernel
theorem dX4_findBest_33 : decode cX4_findBest 33 = .ok (.aload_n 0, 1) := by decide +kernel
theorem dX4_findBest_34 : decode cX4_findBest 34 = .ok (.getfield 19, 3) := by decide +kernel
theorem dX4_findBest_37 : decode cX4_findBest 37 = .ok (.iload 4, 2) := by decide +kernel
theorem dX4_findBest_39 : decode cX4_findBest 39 = .ok (.iload 5, 2) := by decide +kernel
theorem dX4_findBest_41 : decode cX4_findBest 41 = .ok (.iastore, 1) := by decide +kernel
theorem dX4_findBest_42 : decode cX4_findBest 42 = .ok (.iload_n 3, 1) := by decide +kernel
theorem dX4_findBest_43 : decode cX4_findBest 43 = .ok (.iload 5, 2) := by decide +kernel
theorem dX4_findBest_45 : decode cX4_findBest 45 = .ok (.invokestatic 40, 3) := by decide +kernel
theorem dX4_findBest_48 : decode cX4_findBest 48 = .ok (.istore_n 3, 1) := by decide +kernel
theorem dX4_findBest_49 : decode cX4_findBest 49 = .ok (.iload 5, 2) := by decide +kernel
theorem dX4_findBest_51 : decode cX4_findBest 51 = .ok (.istore_n 2, 1) := by decide +kernel
theorem dX4_findBest_52 : decode cX4_findBest 52 = .ok (.iinc 4 1, 3) := by decide +kernel
theorem dX4_findBest_55 : decode cX4_findBest 55 = .ok (.goto (-37), 3) := by decide +kernel
theorem dX4_findBest_58 : decode cX4_findBest 58 = .ok (.return_, 1) := by decide +kernel
theorem dX4_leastNext_0 : decode cX4_leastNext 0 = .ok (.iconst 0, 1) := by decide +kernel
theorem dX4_leastNext_1 : decode cX4_leastNext 1 = .ok (.istore 4, 2) := by decide +kernel
theorem dX4_leastNext_3 : decode cX4_leastNext 3 = .ok (.iload 4, 2) := by decide +kernel
theorem dX4_leastNext_5 : decode cX4_leastNext 5 = .ok (.iload_n 3, 1) := by decide +kernel
theorem dX4_leastNext_6 : decode cX4_leastNext 6 = .ok (.if_icmp .ge 40, 3) := by decide +kernel
theorem dX4_leastNext_9 : decode cX4_leastNext 9 = .ok (.iload_n 2, 1) := by decide +kernel
theorem dX4_leastNext_10 : decode cX4_leastNext 10 = .ok (.iload 4, 2) := by decide +kernel
theorem dX4_leastNext_12 : decode cX4_leastNext 12 = .ok (.invokestatic 27, 3) := by decide +kernel
theorem dX4_leastNext_15 : decode cX4_leastNext 15 = .ok (.ifCond .eq 25, 3) := by decide +kernel
theorem dX4_leastNext_18 : decode cX4_leastNext 18 = .ok (.aload_n 0, 1) := by decide +kernel
theorem dX4_leastNext_19 : decode cX4_leastNext 19 = .ok (.iload_n 1, 1) := by decide +kernel
theorem dX4_leastNext_20 : decode cX4_leastNext 20 = .ok (.iload 4, 2) := by decide +kernel
theorem dX4_leastNext_22 : decode cX4_leastNext 22 = .ok (.iload_n 2, 1) := by decide +kernel
theorem dX4_leastNext_23 : decode cX4_leastNext 23 = .ok (.invokevirtual 31, 3) := by decide +kernel
theorem dX4_leastNext_26 : decode cX4_leastNext 26 = .ok (.aload_n 0, 1) := by decide +kernel
theorem dX4_leastNext_27 : decode cX4_leastNext 27 = .ok (.getfield 16, 3) := by decide +kernel
theorem dX4_leastNext_30 : decode cX4_leastNext 30 = .ok (.iload_n 1, 1) := by decide +kernel
theorem dX4_leastNext_31 : decode cX4_leastNext 31 = .ok (.aaload, 1) := by decide +kernel
theorem dX4_leastNext_32 : decode cX4_leastNext 32 = .ok (.iload_n 2, 1) := by decide +kernel
theorem dX4_leastNext_33 : decode cX4_leastNext 33 = .ok (.iaload, 1) := by decide +kernel
theorem dX4_leastNext_34 : decode cX4_leastNext 34 = .ok (.if_icmp .ne 6, 3) := by decide +kernel
theorem dX4_leastNext_37 : decode cX4_leastNext 37 = .ok (.iload 4, 2) := by decide +kernel
theorem dX4_leastNext_39 : decode cX4_leastNext 39 = .ok (.ireturn, 1) := by decide +kernel
theorem dX4_leastNext_40 : decode cX4_leastNext 40 = .ok (.iinc 4 1, 3) := by decide +kernel
theorem dX4_leastNext_43 : decode cX4_leastNext 43 = .ok (.goto (-40), 3) := by decide +kernel
theorem dX4_leastNext_46 : decode cX4_leastNext 46 = .ok (.iconst 0, 1) := by decide +kernel
theorem dX4_leastNext_47 : decode cX4_leastNext 47 = .ok (.ireturn, 1) := by decide +kernel
theorem dX4_fewestByOrders_0 : decode cX4_fewestByOrders 0 = .ok (.aload_n 0, 1) := by decide +kernel
theorem dX4_fewestByOrders_1 : decode cX4_fewestByOrders 1 = .ok (.getfield 11, 3) := by decide +kernel
theorem dX4_fewestByOrders_4 : decode cX4_fewestByOrders 4 = .ok (.iload_n 1, 1) := by decide +kernel
theorem dX4_fewestByOrders_5 : decode cX4_fewestByOrders 5 = .ok (.bipush 7, 2) := by decide +kernel
theorem dX4_fewestByOrders_7 : decode cX4_fewestByOrders 7 = .ok (.iconst 1, 1) := by decide +kernel
theorem dX4_fewestByOrders_8 : decode cX4_fewestByOrders 8 = .ok (.iload_n 1, 1) := by decide +kernel
theorem dX4_fewestByOrders_9 : decode cX4_fewestByOrders 9 = .ok (.ishl, 1) := by decide +kernel
theorem dX4_fewestByOrders_10 : decode cX4_fewestByOrders 10 = .ok (.iconst 1, 1) := by decide +kernel
theorem dX4_fewestByOrders_11 : decode cX4_fewestByOrders 11 = .ok (.isub, 1) := by decide +kernel
theorem dX4_fewestByOrders_12 : decode cX4_fewestByOrders 12 = .ok (.iload_n 1, 1) := by decide +kernel
theorem dX4_fewestByOrders_13 : decode cX4_fewestByOrders 13 = .ok (.invokestatic 50, 3) := by decide +kernel
theorem dX4_fewestByOrders_16 : decode cX4_fewestByOrders 16 = .ok (.ireturn, 1) := by decide +kernel
theorem dX4_tryOrders_0 : decode cX4_tryOrders 0 = .ok (.iload 4, 2) := by decide +kernel
theorem dX4_tryOrders_2 : decode cX4_tryOrders 2 = .ok (.ifCond .gt 5, 3) := by decide +kernel
theorem dX4_tryOrders_5 : decode cX4_tryOrders 5 = .ok (.iconst 0, 1) := by decide +kernel
theorem dX4_tryOrders_6 : decode cX4_tryOrders 6 = .ok (.ireturn, 1) := by decide +kernel
theorem dX4_tryOrders_7 : decode cX4_tryOrders 7 = .ok (.sipush 128, 3) := by decide +kernel
theorem dX4_tryOrders_10 : decode cX4_tryOrders 10 = .ok (.istore 5, 2) := by decide +kernel
theorem dX4_tryOrders_12 : decode cX4_tryOrders 12 = .ok (.iconst 0, 1) := by decide +kernel
theorem dX4_tryOrders_13 : decode cX4_tryOrders 13 = .ok (.istore 6, 2) := by decide +kernel
theorem dX4_tryOrders_15 : decode cX4_tryOrders 15 = .ok (.iload 6, 2) := by decide +kernel
theorem dX4_tryOrders_17 : decode cX4_tryOrders 17 = .ok (.iload_n 1, 1) := by decide +kernel
theorem dX4_tryOrders_18 : decode cX4_tryOrders 18 = .ok (.if_icmp .ge 53, 3) := by decide +kernel
theorem dX4_tryOrders_21 : decode cX4_tryOrders 21 = .ok (.iload_n 3, 1) := by decide +kernel
theorem dX4_tryOrders_22 : decode cX4_tryOrders 22 = .ok (.iload 6, 2) := by decide +kernel
theorem dX4_tryOrders_24 : decode cX4_tryOrders 24 = .ok (.invokestatic 27, 3) := by decide +kernel
theorem dX4_tryOrders_27 : decode cX4_tryOrders 27 = .ok (.ifCond .eq 38, 3) := by decide +kernel
theorem dX4_tryOrders_30 : decode cX4_tryOrders 30 = .ok (.aload_n 0, 1) := by decide +kernel
theorem dX4_tryOrders_31 : decode cX4_tryOrders 31 = .ok (.iload_n 1, 1) := by decide +kernel
theorem dX4_tryOrders_32 : decode cX4_tryOrders 32 = .ok (.iload 6, 2) := by decide +kernel
theorem dX4_tryOrders_34 : decode cX4_tryOrders 34 = .ok (.iload_n 3, 1) := by decide +kernel
theorem dX4_tryOrders_35 : decode cX4_tryOrders 35 = .ok (.iload 6, 2) := by decide +kernel
theorem dX4_tryOrders_37 : decode cX4_tryOrders 37 = .ok (.invokestatic 40, 3) := by decide +kernel
theorem dX4_tryOrders_40 : decode cX4_tryOrders 40 = .ok (.iload 4, 2) := by decide +kernel
theorem dX4_tryOrders_42 : decode cX4_tryOrders 42 = .ok (.iconst 1, 1) := by decide +kernel
theorem dX4_tryOrders_43 : decode cX4_tryOrders 43 = .ok (.isub, 1) := by decide +kernel
theorem dX4_tryOrders_44 : decode cX4_tryOrders 44 = .ok (.invokestatic 50, 3) := by decide +kernel
theorem dX4_tryOrders_47 : decode cX4_tryOrders 47 = .ok (.istore 7, 2) := by decide +kernel
theorem dX4_tryOrders_49 : decode cX4_tryOrders 49 = .ok (.iload 5, 2) := by decide +kernel
theorem dX4_tryOrders_51 : decode cX4_tryOrders 51 = .ok (.aload_n 0, 1) := by decide +kernel
theorem dX4_tryOrders_52 : decode cX4_tryOrders 52 = .ok (.iload_n 2, 1) := by decide +kernel
theorem dX4_tryOrders_53 : decode cX4_tryOrders 53 = .ok (.aaload, 1) := by decide +kernel
theorem dX4_tryOrders_54 : decode cX4_tryOrders 54 = .ok (.iload 6, 2) := by decide +kernel
theorem dX4_tryOrders_56 : decode cX4_tryOrders 56 = .ok (.iaload, 1) := by decide +kernel
theorem dX4_tryOrders_57 : decode cX4_tryOrders 57 = .ok (.iload 7, 2) := by decide +kernel
theorem dX4_tryOrders_59 : decode cX4_tryOrders 59 = .ok (.iadd, 1) := by decide +kernel
theorem dX4_tryOrders_60 : decode cX4_tryOrders 60 = .ok (.invokestatic 34, 3) := by decide +kernel
theorem dX4_tryOrders_63 : decode cX4_tryOrders 63 = .ok (.istore 5, 2) := by decide +kernel
theorem dX4_tryOrders_65 : decode cX4_tryOrders 65 = .ok (.iinc 6 1, 3) := by decide +kernel
theorem dX4_tryOrders_68 : decode cX4_tryOrders 68 = .ok (.goto (-53), 3) := by decide +kernel
theorem dX4_tryOrders_71 : decode cX4_tryOrders 71 = .ok (.iload 5, 2) := by decide +kernel
theorem dX4_tryOrders_73 : decode cX4_tryOrders 73 = .ok (.ireturn, 1) := by decide +kernel
theorem dX4_holds_0 : decode cX4_holds 0 = .ok (.iload_n 0, 1) := by decide +kernel
theorem dX4_holds_1 : decode cX4_holds 1 = .ok (.iload_n 1, 1) := by decide +kernel
theorem dX4_holds_2 : decode cX4_holds 2 = .ok (.ishr, 1) := by decide +kernel
theorem dX4_holds_3 : decode cX4_holds 3 = .ok (.iconst 1, 1) := by decide +kernel
theorem dX4_holds_4 : decode cX4_holds 4 = .ok (.iand, 1) := by decide +kernel
theorem dX4_holds_5 : decode cX4_holds 5 = .ok (.iconst 1, 1) := by decide +kernel
theorem dX4_holds_6 : decode cX4_holds 6 = .ok (.if_icmp .ne 7, 3) := by decide +kernel
theorem dX4_holds_9 : decode cX4_holds 9 = .ok (.iconst 1, 1) := by decide +kernel
theorem dX4_holds_10 : decode cX4_holds 10 = .ok (.goto 4, 3) := by decide +kernel
theorem dX4_holds_13 : decode cX4_holds 13 = .ok (.iconst 0, 1) := by decide +kernel
theorem dX4_holds_14 : decode cX4_holds 14 = .ok (.ireturn, 1) := by decide +kernel
theorem dX4_without_0 : decode cX4_without 0 = .ok (.iload_n 0, 1) := by decide +kernel
theorem dX4_without_1 : decode cX4_without 1 = .ok (.iconst 1, 1) := by decide +kernel
theorem dX4_without_2 : decode cX4_without 2 = .ok (.iload_n 1, 1) := by decide +kernel
theorem dX4_without_3 : decode cX4_without 3 = .ok (.ishl, 1) := by decide +kernel
theorem dX4_without_4 : decode cX4_without 4 = .ok (.iconst (-1), 1) := by decide +kernel
theorem dX4_without_5 : decode cX4_without 5 = .ok (.ixor, 1) := by decide +kernel
theorem dX4_without_6 : decode cX4_without 6 = .ok (.iand, 1) := by decide +kernel
theorem dX4_without_7 : decode cX4_without 7 = .ok (.ireturn, 1) := by decide +kernel
theorem dJ9_max_7cf53_0 : decode cJ9_max_7cf53 0 = .ok (.iload_n 0, 1) := by decide +kernel
theorem dJ9_max_7cf53_1 : decode cJ9_max_7cf53 1 = .ok (.iload_n 1, 1) := by decide +kernel
theorem dJ9_max_7cf53_2 : decode cJ9_max_7cf53 2 = .ok (.if_icmp .lt 7, 3) := by decide +kernel
theorem dJ9_max_7cf53_5 : decode cJ9_max_7cf53 5 = .ok (.iload_n 0, 1) := by decide +kernel
theorem dJ9_max_7cf53_6 : decode cJ9_max_7cf53 6 = .ok (.goto 4, 3) := by decide +kernel
theorem dJ9_max_7cf53_9 : decode cJ9_max_7cf53 9 = .ok (.iload_n 1, 1) := by decide +kernel
theorem dJ9_max_7cf53_10 : decode cJ9_max_7cf53 10 = .ok (.ireturn, 1) := by decide +kernel
theorem dJ9_min_7cf53_0 : decode cJ9_min_7cf53 0 = .ok (.iload_n 0, 1) := by decide +kernel
theorem dJ9_min_7cf53_1 : decode cJ9_min_7cf53 1 = .ok (.iload_n 1, 1) := by decide +kernel
theorem dJ9_min_7cf53_2 : decode cJ9_min_7cf53 2 = .ok (.if_icmp .gt 7, 3) := by decide +kernel
theorem dJ9_min_7cf53_5 : decode cJ9_min_7cf53 5 = .ok (.iload_n 0, 1) := by decide +kernel
theorem dJ9_min_7cf53_6 : decode cJ9_min_7cf53 6 = .ok (.goto 4, 3) := by decide +kernel
theorem dJ9_min_7cf53_9 : decode cJ9_min_7cf53 9 = .ok (.iload_n 1, 1) := by decide +kernel
theorem dJ9_min_7cf53_10 : decode cJ9_min_7cf53 10 = .ok (.ireturn, 1) := by decide +kernel
end
section
theorem dX5_init_0 : decode cX5_init 0 = .ok (.aload_n 0, 1) := by decide +kernel
theorem dX5_init_1 : decode cX5_init 1 = .ok (.invokespecial 1, 3) := by decide +kernel
theorem dX5_init_4 : decode cX5_init 4 = .ok (.aload_n 0, 1) := by decide +kernel
theorem dX5_init_5 : decode cX5_init 5 = .ok (.bipush 20, 2) := by decide +kernel
theorem dX5_init_7 : decode cX5_init 7 = .ok (.anewarray 9, 3) := by decide +kernel
theorem dX5_init_10 : decode cX5_init 10 = .ok (.putfield 11, 3) := by decide +kernel
theorem dX5_init_13 : decode cX5_init 13 = .ok (.aload_n 0, 1) := by decide +kernel
theorem dX5_init_14 : decode cX5_init 14 = .ok (.iconst 0, 1) := by decide +kernel
theorem dX5_init_15 : decode cX5_init 15 = .ok (.putfield 15, 3) := by decide +kernel
theorem dX5_init_18 : decode cX5_init 18 = .ok (.aload_n 0, 1) := by decide +kernel
theorem dX5_init_19 : decode cX5_init 19 = .ok (.bipush 12, 2) := by decide +kernel
theorem dX5_init_21 : decode cX5_init 21 = .ok (.anewarray 19, 3) := by decide +kernel
theorem dX5_init_24 : decode cX5_init 24 = .ok (.putfield 21, 3) := by decide +kernel
theorem dX5_init_27 : decode cX5_init 27 = .ok (.aload_n 0, 1) := by decide +kernel
theorem dX5_init_28 : decode cX5_init 28 = .ok (.iconst 0, 1) := by decide +kernel
theorem dX5_init_29 : decode cX5_init 29 = .ok (.putfield 25, 3) := by decide +kernel
theorem dX5_init_32 : decode cX5_init 32 = .ok (.aload_n 0, 1) := by decide +kernel
theorem dX5_init_33 : decode cX5_init 33 = .ok (.bipush 10, 2) := by decide +kernel
theorem dX5_init_35 : decode cX5_init 35 = .ok (.anewarray 28, 3) := by decide +kernel
theorem dX5_init_38 : decode cX5_init 38 = .ok (.putfield 30, 3) := by decide +kernel
theorem dX5_init_41 : decode cX5_init 41 = .ok (.aload_n 0, 1) := by decide +kernel
theorem dX5_init_42 : decode cX5_init 42 = .ok (.iconst 0, 1) := by decide +kernel
theorem dX5_init_43 : decode cX5_init 43 = .ok (.putfield 34, 3) := by decide +kernel
theorem dX5_init_46 : decode cX5_init 46 = .ok (.aload_n 0, 1) := by decide +kernel
theorem dX5_init_47 : decode cX5_init 47 = .ok (.new 28, 3) := by decide +kernel
theorem dX5_init_50 : decode cX5_init 50 = .ok (.dup, 1) := by decide +kernel
theorem dX5_init_51 : decode cX5_init 51 = .ok (.invokespecial 37, 3) := by decide +kernel
theorem dX5_init_54 : decode cX5_init 54 = .ok (.putfield 38, 3) := by decide +kernel
theorem dX5_init_57 : decode cX5_init 57 = .ok (.aload_n 0, 1) := by decide +kernel
theorem dX5_init_58 : decode cX5_init 58 = .ok (.bipush 10, 2) := by decide +kernel
theorem dX5_init_60 : decode cX5_init 60 = .ok (.putfield 42, 3) := by decide +kernel
theorem dX5_init_63 : decode cX5_init 63 = .ok (.aload_n 0, 1) := by decide +kernel
theorem dX5_init_64 : decode cX5_init 64 = .ok (.bipush 20, 2) := by decide +kernel
theorem dX5_init_66 : decode cX5_init 66 = .ok (.putfield 45, 3) := by decide +kernel
theorem dX5_init_69 : decode cX5_init 69 = .ok (.aload_n 0, 1) := by decide +kernel
theorem dX5_init_70 : decode cX5_init 70 = .ok (.bipush 8, 2) := by decide +kernel
theorem dX5_init_72 : decode cX5_init 72 = .ok (.putfield 48, 3) := by decide +kernel
theorem dX5_init_75 : decode cX5_init 75 = .ok (.aload_n 0, 1) := by decide +kernel
theorem dX5_init_76 : decode cX5_init 76 = .ok (.iconst (-1), 1) := by decide +kernel
theorem dX5_init_77 : decode cX5_init 77 = .ok (.putfield 51, 3) := by decide +kernel
theorem dX5_init_80 : decode cX5_init 80 = .ok (.aload_n 0, 1) := by decide +kernel
theorem dX5_init_81 : decode cX5_init 81 = .ok (.iconst 0, 1) := by decide +kernel
theorem dX5_init_82 : decode cX5_init 82 = .ok (.putfield 54, 3) := by decide +kernel
theorem dX5_init_85 : decode cX5_init 85 = .ok (.aload_n 0, 1) := by decide +kernel
theorem dX5_init_86 : decode cX5_init 86 = .ok (.bipush 7, 2) := by decide +kernel
theorem dX5_init_88 : decode cX5_init 88 = .ok (.newarray .int, 2) := by decide +kernel
theorem dX5_init_90 : decode cX5_init 90 = .ok (.putfield 57, 3) := by decide +kernel
theorem dX5_init_93 : decode cX5_init 93 = .ok (.aload_n 0, 1) := by decide +kernel
theorem dX5_init_94 : decode cX5_init 94 = .ok (.bipush 7, 2) := by decide +kernel
theorem dX5_init_96 : decode cX5_init 96 = .ok (.newarray .int, 2) := by decide +kernel
theorem dX5_init_98 : decode cX5_init 98 = .ok (.putfield 61, 3) := by decide +kernel
theorem dX5_init_101 : decode cX5_init 101 = .ok (.aload_n 0, 1) := by decide +kernel
theorem dX5_init_102 : decode cX5_init 102 = .ok (.iconst 0, 1) := by decide +kernel
theorem dX5_init_103 : decode cX5_init 103 = .ok (.putfield 64, 3) := by decide +kernel
theorem dX5_init_106 : decode cX5_init 106 = .ok (.aload_n 0, 1) := by decide +kernel
theorem dX5_init_107 : decode cX5_init 107 = .ok (.new 67, 3) := by decide +kernel
theorem dX5_init_110 : decode cX5_init 110 = .ok (.dup, 1) := by decide +kernel
theorem dX5_init_111 : decode cX5_init 111 = .ok (.invokespecial 69, 3) := by decide +kernel
theorem dX5_init_114 : decode cX5_init 114 = .ok (.putfield 70, 3) := by decide +kernel
theorem dX5_init_117 : decode cX5_init 117 = .ok (.aload_n 0, 1) := by decide +kernel
theorem dX5_init_118 : decode cX5_init 118 = .ok (.new 74, 3) := by decide +kernel
theorem dX5_init_121 : decode cX5_init 121 = .ok (.dup, 1) := by decide +kernel
theorem dX5_init_122 : decode cX5_init 122 = .ok (.invokespecial 76, 3) := by decide +kernel
theorem dX5_init_125 : decode cX5_init 125 = .ok (.putfield 77, 3) := by decide +kernel
theorem dX5_init_128 : decode cX5_init 128 = .ok (.iconst 0, 1) := by decide +kernel
theorem dX5_init_129 : decode cX5_init 129 = .ok (.istore_n 1, 1) := by decide +kernel
theorem dX5_init_130 : decode cX5_init 130 = .ok (.iload_n 1, 1) := by decide +kernel
theorem dX5_init_131 : decode cX5_init 131 = .ok (.aload_n 0, 1) := by decide +kernel
theorem dX5_init_132 : decode cX5_init 132 = .ok (.getfield 11, 3) := by decide +kernel
theorem dX5_init_135 : decode cX5_init 135 = .ok (.arraylength, 1) := by decide +kernel
theorem dX5_init_136 : decode cX5_init 136 = .ok (.if_icmp .ge 22, 3) := by decide +kernel
theorem dX5_init_139 : decode cX5_init 139 = .ok (.aload_n 0, 1) := by decide +kernel
theorem dX5_init_140 : decode cX5_init 140 = .ok (.getfield 11, 3) := by decide +kernel
theorem dX5_init_143 : decode cX5_init 143 = .ok (.iload_n 1, 1) := by decide +kernel
theorem dX5_init_144 : decode cX5_init 144 = .ok (.new 9, 3) := by decide +kernel
theorem dX5_init_147 : decode cX5_init 147 = .ok (.dup, 1) := by decide +kernel
theorem dX5_init_148 : decode cX5_init 148 = .ok (.invokespecial 81, 3) := by decide +kernel
theorem dX5_init_151 : decode cX5_init 151 = .ok (.aastore, 1) := by decide +kernel
theorem dX5_init_152 : decode cX5_init 152 = .ok (.iinc 1 1, 3) := by decide +kernel
theorem dX5_init_155 : decode cX5_init 155 = .ok (.goto (-25), 3) := by decide +kernel
theorem dX5_init_158 : decode cX5_init 158 = .ok (.iconst 0, 1) := by decide +kernel
theorem dX5_init_159 : decode cX5_init 159 = .ok (.istore_n 1, 1) := by decide +kernel
theorem dX5_init_160 : decode cX5_init 160 = .ok (.iload_n 1, 1) := by decide +kernel
theorem dX5_init_161 : decode cX5_init 161 = .ok (.aload_n 0, 1) := by decide +kernel
theorem dX5_init_162 : decode cX5_init 162 = .ok (.getfield 21, 3) := by decide +kernel
theorem dX5_init_165 : decode cX5_init 165 = .ok (.arraylength, 1) := by decide +kernel
theorem dX5_init_166 : decode cX5_init 166 = .ok (.if_icmp .ge 22, 3) := by decide +kernel
theorem dX5_init_169 : decode cX5_init 169 = .ok (.aload_n 0, 1) := by decide +kernel
theorem dX5_init_170 : decode cX5_init 170 = .ok (.getfield 21, 3) := by decide +kernel
theorem dX5_init_173 : decode cX5_init 173 = .ok (.iload_n 1, 1) := by decide +kernel
theorem dX5_init_174 : decode cX5_init 174 = .ok (.new 19, 3) := by decide +kernel
theorem dX5_init_177 : decode cX5_init 177 = .ok (.dup, 1) := by decide +kernel
theorem dX5_init_178 : decode cX5_init 178 = .ok (.invokespecial 82, 3) := by decide +kernel
theorem dX5_init_181 : decode cX5_init 181 = .ok (.aastore, 1) := by decide +kernel
theorem dX5_init_182 : decode cX5_init 182 = .ok (.iinc 1 1, 3) := by decide +kernel
theorem dX5_init_185 : decode cX5_init 185 = .ok (.goto (-25), 3) := by decide +kernel
theorem dX5_init_188 : decode cX5_init 188 = .ok (.iconst 0, 1) := by decide +kernel
theorem dX5_init_189 : decode cX5_init 189 = .ok (.istore_n 1, 1) := by decide +kernel
theorem dX5_init_190 : decode cX5_init 190 = .ok (.iload_n 1, 1) := by decide +kernel
theorem dX5_init_191 : decode cX5_init 191 = .ok (.aload_n 0, 1) := by decide +kernel
theorem dX5_init_192 : decode cX5_init 192 = .ok (.getfield 30, 3) := by decide +kernel
theorem dX5_init_195 : decode cX5_init 195 = .ok (.arraylength, 1) := by decide +kernel
theorem dX5_init_196 : decode cX5_init 196 = .ok (.if_icmp .ge 22, 3) := by decide +kernel
theorem dX5_init_199 : decode cX5_init 199 = .ok (.aload_n 0, 1) := by decide +kernel
theorem dX5_init_200 : decode cX5_init 200 = .ok (.getfield 30, 3) := by decide +kernel
theorem dX5_init_203 : decode cX5_init 203 = .ok (.iload_n 1, 1) := by decide +kernel
theorem dX5_init_204 : decode cX5_init 204 = .ok (.new 28, 3) := by decide +kernel
theorem dX5_init_207 : decode cX5_init 207 = .ok (.dup, 1) := by decide +kernel
theorem dX5_init_208 : decode cX5_init 208 = .ok (.invokespecial 37, 3) := by decide +kernel
theorem dX5_init_211 : decode cX5_init 211 = .ok (.aastore, 1) := by decide +kernel
theorem dX5_init_212 : decode cX5_init 212 = .ok (.iinc 1 1, 3) := by decide +kernel
theorem dX5_init_215 : decode cX5_init 215 = .ok (.goto (-25), 3) := by decide +kernel
theorem dX5_init_218 : decode cX5_init 218 = .ok (.return_, 1) := by decide +kernel
theorem dX5_coil_0 : decode cX5_coil 0 = .ok (.iload_n 1, 1) := by decide +kernel
theorem dX5_coil_1 : decode cX5_coil 1 = .ok (.bipush 100, 2) := by decide +kernel
theorem dX5_coil_3 : decode cX5_coil 3 = .ok (.sipush 2000, 3) := by decide +kernel
theorem dX5_coil_6 : decode cX5_coil 6 = .ok (.invokestatic 83, 3) := by decide +kernel
theorem dX5_coil_9 : decode cX5_coil 9 = .ok (.iload_n 2, 1) := by decide +kernel
theorem dX5_coil_10 : decode cX5_coil 10 = .ok (.iconst 1, 1) := by decide +kernel
theorem dX5_coil_11 : decode cX5_coil 11 = .ok (.sipush 30000, 3) := by decide +kernel
theorem dX5_coil_14 : decode cX5_coil 14 = .ok (.invokestatic 83, 3) := by decide +kernel
theorem dX5_coil_17 : decode cX5_coil 17 = .ok (.iload_n 3, 1) := by decide +kernel
theorem dX5_coil_18 : decode cX5_coil 18 = .ok (.bipush 10, 2) := by decide +kernel
theorem dX5_coil_20 : decode cX5_coil 20 = .ok (.sipush 5000, 3) := by decide +kernel
theorem dX5_coil_23 : decode cX5_coil 23 = .ok (.invokestatic 83, 3) := by decide +kernel
theorem dX5_coil_26 : decode cX5_coil 26 = .ok (.iload 4, 2) := by decide +kernel
theorem dX5_coil_28 : decode cX5_coil 28 = .ok (.iconst 1, 1) := by decide +kernel
theorem dX5_coil_29 : decode cX5_coil 29 = .ok (.bipush 99, 2) := by decide +kernel
theorem dX5_coil_31 : decode cX5_coil 31 = .ok (.invokestatic 83, 3) := by decide +kernel
theorem dX5_coil_34 : decode cX5_coil 34 = .ok (.aload_n 0, 1) := by decide +kernel
theorem dX5_coil_35 : decode cX5_coil 35 = .ok (.getfield 15, 3) := by decide +kernel
theorem dX5_coil_38 : decode cX5_coil 38 = .ok (.aload_n 0, 1) := by decide +kernel
theorem dX5_coil_39 : decode cX5_coil 39 = .ok (.getfield 11, 3) := by decide +kernel
theorem dX5_coil_42 : decode cX5_coil 42 = .ok (.arraylength, 1) := by decide +kernel
theorem dX5_coil_43 : decode cX5_coil 43 = .ok (.if_icmp .lt 13, 3) := by decide +kernel
theorem dX5_coil_46 : decode cX5_coil 46 = .ok (.new 87, 3) := by decide +kernel
theorem dX5_coil_49 : decode cX5_coil 49 = .ok (.dup, 1) := by decide +kernel
theorem dX5_coil_50 : decode cX5_coil 50 = .ok (.ldc 89, 2) := by decide +kernel
theorem dX5_coil_52 : decode cX5_coil 52 = .ok (.invokespecial 91, 3) := by decide +kernel
theorem dX5_coil_55 : decode cX5_coil 55 = .ok (.athrow, 1) := by decide +kernel
theorem dX5_coil_56 : decode cX5_coil 56 = .ok (.aload_n 0, 1) := by decide +kernel
theorem dX5_coil_57 : decode cX5_coil 57 = .ok (.getfield 11, 3) := by decide +kernel
theorem dX5_coil_60 : decode cX5_coil 60 = .ok (.aload_n 0, 1) := by decide +kernel
theorem dX5_coil_61 : decode cX5_coil 61 = .ok (.getfield 15, 3) := by decide +kernel
theorem dX5_coil_64 : decode cX5_coil 64 = .ok (.aaload, 1) := by decide +kernel
theorem dX5_coil_65 : decode cX5_coil 65 = .ok (.iload_n 1, 1) := by decide +kernel
theorem dX5_coil_66 : decode cX5_coil 66 = .ok (.iload_n 2, 1) := by decide +kernel
theorem dX5_coil_67 : decode cX5_coil 67 = .ok (.iload_n 3, 1) := by decide +kernel
theorem dX5_coil_68 : decode cX5_coil 68 = .ok (.iload 4, 2) := by decide +kernel
theorem dX5_coil_70 : decode cX5_coil 70 = .ok (.invokevirtual 94, 3) := by decide +kernel
theorem dX5_coil_73 : decode cX5_coil 73 = .ok (.aload_n 0, 1) := by decide +kernel
theorem dX5_coil_74 : decode cX5_coil 74 = .ok (.dup, 1) := by decide +kernel
theorem dX5_coil_75 : decode cX5_coil 75 = .ok (.getfield 15, 3) := by decide +kernel
theorem dX5_coil_78 : decode cX5_coil 78 = .ok (.iconst 1, 1) := by decide +kernel
theorem dX5_coil_79 : decode cX5_coil 79 = .ok (.iadd, 1) := by decide +kernel
theorem dX5_coil_80 : decode cX5_coil 80 = .ok (.putfield 15, 3) := by decide +kernel
theorem dX5_coil_83 : decode cX5_coil 83 = .ok (.aload_n 0, 1) := by decide +kernel
theorem dX5_coil_84 : decode cX5_coil 84 = .ok (.getfield 15, 3) := by decide +kernel
theorem dX5_coil_87 : decode cX5_coil 87 = .ok (.iconst 1, 1) := by decide +kernel
theorem dX5_coil_88 : decode cX5_coil 88 = .ok (.isub, 1) := by decide +kernel
theorem dX5_coil_89 : decode cX5_coil 89 = .ok (.ireturn, 1) := by decide +kernel
theorem dX5_defect_0 : decode cX5_defect 0 = .ok (.aload_n 0, 1) := by decide +kernel
theorem dX5_defect_1 : decode cX5_defect 1 = .ok (.iload_n 1, 1) := by decide +kernel
theorem dX5_defect_2 : decode cX5_defect 2 = .ok (.invokevirtual 98, 3) := by decide +kernel
theorem dX5_defect_5 : decode cX5_defect 5 = .ok (.aload_n 0, 1) := by decide +kernel
theorem dX5_defect_6 : decode cX5_defect 6 = .ok (.getfield 11, 3) := by decide +kernel
theorem dX5_defect_9 : decode cX5_defect 9 = .ok (.iload_n 1, 1) := by decide +kernel
theorem dX5_defect_10 : decode cX5_defect 10 = .ok (.aaload, 1) := by decide +kernel
theorem dX5_defect_11 : decode cX5_defect 11 = .ok (.astore 4, 2) := by decide +kernel
theorem dX5_defect_13 : decode cX5_defect 13 = .ok (.iload_n 2, 1) := by decide +kernel
theorem dX5_defect_14 : decode cX5_defect 14 = .ok (.iconst 0, 1) := by decide +kernel
theorem dX5_defect_15 : decode cX5_defect 15 = .ok (.aload 4, 2) := by decide +kernel
theorem dX5_defect_17 : decode cX5_defect 17 = .ok (.getfield 102, 3) := by decide +kernel
theorem dX5_defect_20 : decode cX5_defect 20 = .ok (.iconst 1, 1) := by decide +kernel
theorem dX5_defect_21 : decode cX5_defect 21 = .ok (.isub, 1) := by decide +kernel
theorem dX5_defect_22 : decode cX5_defect 22 = .ok (.invokestatic 83, 3) := by decide +kernel
theorem dX5_defect_25 : decode cX5_defect 25 = .ok (.iload_n 3, 1) := by decide +kernel
theorem dX5_defect_26 : decode cX5_defect 26 = .ok (.iload_n 2, 1) := by decide +kernel
theorem dX5_defect_27 : decode cX5_defect 27 = .ok (.iconst 1, 1) := by decide +kernel
theorem dX5_defect_28 : decode cX5_defect 28 = .ok (.iadd, 1) := by decide +kernel
theorem dX5_defect_29 : decode cX5_defect 29 = .ok (.aload 4, 2) := by decide +kernel
theorem dX5_defect_31 : decode cX5_defect 31 = .ok (.getfield 102, 3) := by decide +kernel
theorem dX5_defect_34 : decode cX5_defect 34 = .ok (.invokestatic 83, 3) := by decide +kernel
theorem dX5_defect_37 : decode cX5_defect 37 = .ok (.aload 4, 2) := by decide +kernel
theorem dX5_defect_39 : decode cX5_defect 39 = .ok (.invokevirtual 105, 3) := by decide +kernel
theorem dX5_defect_42 : decode cX5_defect 42 = .ok (.ifCond .ne 11, 3) := by decide +kernel
theorem dX5_defect_45 : decode cX5_defect 45 = .ok (.aload 4, 2) := by decide +kernel
theorem dX5_defect_47 : decode cX5_defect 47 = .ok (.invokevirtual 109, 3) := by decide +kernel
theorem dX5_defect_50 : decode cX5_defect 50 = .ok (.ifCond .eq 13, 3) := by decide +kernel
theorem dX5_defect_53 : decode cX5_defect 53 = .ok (.new 87, 3) := by decide +kernel
theorem dX5_defect_56 : decode cX5_defect 56 = .ok (.dup, 1) := by decide +kernel
theorem dX5_defect_57 : decode cX5_defect 57 = .ok (.ldc 112, 2) := by decide +kernel
theorem dX5_defect_59 : decode cX5_defect 59 = .ok (.invokespecial 91, 3) := by decide +kernel
theorem dX5_defect_62 : decode cX5_defect 62 = .ok (.athrow, 1) := by decide +kernel
theorem dX5_defect_63 : decode cX5_defect 63 = .ok (.aload 4, 2) := by decide +kernel
theorem dX5_defect_65 : decode cX5_defect 65 = .ok (.iload_n 2, 1) := by decide +kernel
theorem dX5_defect_66 : decode cX5_defect 66 = .ok (.iload_n 3, 1) := by decide +kernel
theorem dX5_defect_67 : decode cX5_defect 67 = .ok (.invokevirtual 114, 3) := by decide +kernel
theorem dX5_defect_70 : decode cX5_defect 70 = .ok (.aload 4, 2) := by decide +kernel
theorem dX5_defect_72 : decode cX5_defect 72 = .ok (.invokevirtual 118, 3) := by decide +kernel
theorem dX5_defect_75 : decode cX5_defect 75 = .ok (.ireturn, 1) := by decide +kernel
theorem dX5_setRules_0 : decode cX5_setRules 0 = .ok (.iload_n 1, 1) := by decide +kernel
theorem dX5_setRules_1 : decode cX5_setRules 1 = .ok (.iconst 0, 1) := by decide +kernel
theorem dX5_setRules_2 : decode cX5_setRules 2 = .ok (.bipush 100, 2) := by decide +kernel
theorem dX5_setRules_4 : decode cX5_setRules 4 = .ok (.invokestatic 83, 3) := by decide +kernel
theorem dX5_setRules_7 : decode cX5_setRules 7 = .ok (.iload_n 2, 1) := by decide +kernel
theorem dX5_setRules_8 : decode cX5_setRules 8 = .ok (.iconst 0, 1) := by decide +kernel
theorem dX5_setRules_9 : decode cX5_setRules 9 = .ok (.sipush 500, 3) := by decide +kernel
theorem dX5_setRules_12 : decode cX5_setRules 12 = .ok (.invokestatic 83, 3) := by decide +kernel
theorem dX5_setRules_15 : decode cX5_setRules 15 = .ok (.iload_n 3, 1) := by decide +kernel
theorem dX5_setRules_16 : decode cX5_setRules 16 = .ok (.iconst 2, 1) := by decide +kernel
theorem dX5_setRules_17 : decode cX5_setRules 17 = .ok (.bipush 16, 2) := by decide +kernel
theorem dX5_setRules_19 : decode cX5_setRules 19 = .ok (.invokestatic 83, 3) := by decide +kernel
theorem dX5_setRules_22 : decode cX5_setRules 22 = .ok (.aload_n 0, 1) := by decide +kernel
theorem dX5_setRules_23 : decode cX5_setRules 23 = .ok (.getfield 42, 3) := by decide +kernel
theorem dX5_setRules_26 : decode cX5_setRules 26 = .ok (.istore 4, 2) := by decide +kernel
theorem dX5_setRules_28 : decode cX5_setRules 28 = .ok (.aload_n 0, 1) := by decide +kernel
theorem dX5_setRules_29 : decode cX5_setRules 29 = .ok (.iload_n 1, 1) := by decide +kernel
theorem dX5_setRules_30 : decode cX5_setRules 30 = .ok (.putfield 42, 3) := by decide +kernel
theorem dX5_setRules_33 : decode cX5_setRules 33 = .ok (.aload_n 0, 1) := by decide +kernel
theorem dX5_setRules_34 : decode cX5_setRules 34 = .ok (.iload_n 2, 1) := by decide +kernel
theorem dX5_setRules_35 : decode cX5_setRules 35 = .ok (.putfield 45, 3) := by decide +kernel
theorem dX5_setRules_38 : decode cX5_setRules 38 = .ok (.aload_n 0, 1) := by decide +kernel
theorem dX5_setRules_39 : decode cX5_setRules 39 = .ok (.iload_n 3, 1) := by decide +kernel
theorem dX5_setRules_40 : decode cX5_setRules 40 = .ok (.putfield 48, 3) := by decide +kernel
theorem dX5_setRules_43 : decode cX5_setRules 43 = .ok (.iload 4, 2) := by decide +kernel
theorem dX5_setRules_45 : decode cX5_setRules 45 = .ok (.ireturn, 1) := by decide +kernel
theorem dX5_order_0 : decode cX5_order 0 = .ok (.iload_n 1, 1) := by decide +kernel
theorem dX5_order_1 : decode cX5_order 1 = .ok (.bipush 20, 2) := by decide +kernel
theorem dX5_order_3 : decode cX5_order 3 = .ok (.sipush 1000, 3) := by decide +kernel
theorem dX5_order_6 : decode cX5_order 6 = .ok (.invokestatic 83, 3) := by decide +kernel
theorem dX5_order_9 : decode cX5_order 9 = .ok (.iload_n 2, 1) := by decide +kernel
theorem dX5_order_10 : decode cX5_order 10 = .ok (.iconst 1, 1) := by decide +kernel
theorem dX5_order_11 : decode cX5_order 11 = .ok (.ldc 122, 2) := by decide +kernel
theorem dX5_order_13 : decode cX5_order 13 = .ok (.invokestatic 83, 3) := by decide +kernel
theorem dX5_order_16 : decode cX5_order 16 = .ok (.aload_n 0, 1) := by decide +kernel
theorem dX5_order_17 : decode cX5_order 17 = .ok (.getfield 25, 3) := by decide +kernel
theorem dX5_order_20 : decode cX5_order 20 = .ok (.aload_n 0, 1) := by decide +kernel
theorem dX5_order_21 : decode cX5_order 21 = .ok (.getfield 21, 3) := by decide +kernel
theorem dX5_order_24 : decode cX5_order 24 = .ok (.arraylength, 1) := by decide +kernel
theorem dX5_order_25 : decode cX5_order 25 = .ok (.if_icmp .lt 13, 3) := by decide +kernel
theorem dX5_order_28 : decode cX5_order 28 = .ok (.new 87, 3) := by decide +kernel
theorem dX5_order_31 : decode cX5_order 31 = .ok (.dup, 1) := by decide +kernel
theorem dX5_order_32 : decode cX5_order 32 = .ok (.ldc 123, 2) := by decide +kernel
theorem dX5_order_34 : decode cX5_order 34 = .ok (.invokespecial 91, 3) := by decide +kernel
theorem dX5_order_37 : decode cX5_order 37 = .ok (.athrow, 1) := by decide +kernel
theorem dX5_order_38 : decode cX5_order 38 = .ok (.aload_n 0, 1) := by decide +kernel
theorem dX5_order_39 : decode cX5_order 39 = .ok (.getfield 21, 3) := by decide +kernel
theorem dX5_order_42 : decode cX5_order 42 = .ok (.aload_n 0, 1) := by decide +kernel
theorem dX5_order_43 : decode cX5_order 43 = .ok (.getfield 25, 3) := by decide +kernel
theorem dX5_order_46 : decode cX5_order 46 = .ok (.aaload, 1) := by decide +kernel
theorem dX5_order_47 : decode cX5_order 47 = .ok (.iload_n 1, 1) := by decide +kernel
theorem dX5_order_48 : decode cX5_order 48 = .ok (.iload_n 2, 1) := by decide +kernel
theorem dX5_order_49 : decode cX5_order 49 = .ok (.invokevirtual 125, 3) := by decide +kernel
theorem dX5_order_52 : decode cX5_order 52 = .ok (.aload_n 0, 1) := by decide +kernel
theorem dX5_order_53 : decode cX5_order 53 = .ok (.dup, 1) := by decide +kernel
theorem dX5_order_54 : decode cX5_order 54 = .ok (.getfield 25, 3) := by decide +kernel
theorem dX5_order_57 : decode cX5_order 57 = .ok (.iconst 1, 1) := by decide +kernel
theorem dX5_order_58 : decode cX5_order 58 = .ok (.iadd, 1) := by decide +kernel
theorem dX5_order_59 : decode cX5_order 59 = .ok (.putfield 25, 3) := by decide +kernel
theorem dX5_order_62 : decode cX5_order 62 = .ok (.aload_n 0, 1) := by decide +kernel
theorem dX5_order_63 : decode cX5_order 63 = .ok (.getfield 25, 3) := by decide +kernel
theorem dX5_order_66 : decode cX5_order 66 = .ok (.iconst 1, 1) := by decide +kernel
theorem dX5_order_67 : decode cX5_order 67 = .ok (.isub, 1) := by decide +kernel
theorem dX5_order_68 : decode cX5_order 68 = .ok (.ireturn, 1) := by decide +kernel
theorem dX5_addSlit_0 : decode cX5_addSlit 0 = .ok (.iload_n 1, 1) := by decide +kernel
theorem dX5_addSlit_1 : decode cX5_addSlit 1 = .ok (.bipush 20, 2) := by decide +kernel
theorem dX5_addSlit_3 : decode cX5_addSlit 3 = .ok (.sipush 1000, 3) := by decide +kernel
theorem dX5_addSlit_6 : decode cX5_addSlit 6 = .ok (.invokestatic 83, 3) := by decide +kernel
theorem dX5_addSlit_9 : decode cX5_addSlit 9 = .ok (.aload_n 0, 1) := by decide +kernel
theorem dX5_addSlit_10 : decode cX5_addSlit 10 = .ok (.getfield 38, 3) := by decide +kernel
theorem dX5_addSlit_13 : decode cX5_addSlit 13 = .ok (.invokevirtual 127, 3) := by decide +kernel
theorem dX5_addSlit_16 : decode cX5_addSlit 16 = .ok (.ifCond .eq 13, 3) := by decide +kernel
theorem dX5_addSlit_19 : decode cX5_addSlit 19 = .ok (.new 87, 3) := by decide +kernel
theorem dX5_addSlit_22 : decode cX5_addSlit 22 = .ok (.dup, 1) := by decide +kernel
theorem dX5_addSlit_23 : decode cX5_addSlit 23 = .ok (.ldc 130, 2) := by decide +kernel
theorem dX5_addSlit_25 : decode cX5_addSlit 25 = .ok (.invokespecial 91, 3) := by decide +kernel
theorem dX5_addSlit_28 : decode cX5_addSlit 28 = .ok (.athrow, 1) := by decide +kernel
theorem dX5_addSlit_29 : decode cX5_addSlit 29 = .ok (.aload_n 0, 1) := by decide +kernel
theorem dX5_addSlit_30 : decode cX5_addSlit 30 = .ok (.getfield 38, 3) := by decide +kernel
theorem dX5_addSlit_33 : decode cX5_addSlit 33 = .ok (.iload_n 1, 1) := by decide +kernel
theorem dX5_addSlit_34 : decode cX5_addSlit 34 = .ok (.invokevirtual 132, 3) := by decide +kernel
theorem dX5_addSlit_37 : decode cX5_addSlit 37 = .ok (.aload_n 0, 1) := by decide +kernel
theorem dX5_addSlit_38 : decode cX5_addSlit 38 = .ok (.getfield 38, 3) := by decide +kernel
theorem dX5_addSlit_41 : decode cX5_addSlit 41 = .ok (.getfield 135, 3) := by decide +kernel
theorem dX5_addSlit_44 : decode cX5_addSlit 44 = .ok (.ireturn, 1) := by decide +kernel
theorem dX5_clearDraft_0 : decode cX5_clearDraft 0 = .ok (.aload_n 0, 1) := by decide +kernel
theorem dX5_clearDraft_1 : decode cX5_clearDraft 1 = .ok (.getfield 38, 3) := by decide +kernel
theorem dX5_clearDraft_4 : decode cX5_clearDraft 4 = .ok (.getfield 135, 3) := by decide +kernel
theorem dX5_clearDraft_7 : decode cX5_clearDraft 7 = .ok (.istore_n 1, 1) := by decide +kernel
theorem dX5_clearDraft_8 : decode cX5_clearDraft 8 = .ok (.aload_n 0, 1) := by decide +kernel
theorem dX5_clearDraft_9 : decode cX5_clearDraft 9 = .ok (.getfield 38, 3) := by decide +kernel
theorem dX5_clearDraft_12 : decode cX5_clearDraft 12 = .ok (.invokevirtual 138, 3) := by decide +kernel
theorem dX5_clearDraft_15 : decode cX5_clearDraft 15 = .ok (.iload_n 1, 1) := by decide +kernel
theorem dX5_clearDraft_16 : decode cX5_clearDraft 16 = .ok (.ireturn, 1) := by decide +kernel
theorem dX5_draftSlits_0 : decode cX5_draftSlits 0 = .ok (.aload_n 0, 1) := by decide +kernel
theorem dX5_draftSlits_1 : decode cX5_draftSlits 1 = .ok (.getfield 38, 3) := by decide +kernel
theorem dX5_draftSlits_4 : decode cX5_draftSlits 4 = .ok (.getfield 135, 3) := by decide +kernel
theorem dX5_draftSlits_7 : decode cX5_draftSlits 7 = .ok (.ireturn, 1) := by decide +kernel
theorem dX5_draftWidth_0 : decode cX5_draftWidth 0 = .ok (.aload_n 0, 1) := by decide +kernel
theorem dX5_draftWidth_1 : decode cX5_draftWidth 1 = .ok (.getfield 38, 3) := by decide +kernel
theorem dX5_draftWidth_4 : decode cX5_draftWidth 4 = .ok (.iload_n 1, 1) := by decide +kernel
theorem dX5_draftWidth_5 : decode cX5_draftWidth 5 = .ok (.invokevirtual 141, 3) := by decide +kernel
theorem dX5_draftWidth_8 : decode cX5_draftWidth 8 = .ok (.ifCond .ne 13, 3) := by decide +kernel
theorem dX5_draftWidth_11 : decode cX5_draftWidth 11 = .ok (.new 145, 3) := by decide +kernel
theorem dX5_draftWidth_14 : decode cX5_draftWidth 14 = .ok (.dup, 1) := by decide +kernel
theorem dX5_draftWidth_15 : decode cX5_draftWidth 15 = .ok (.ldc 147, 2) := by decide +kernel
theorem dX5_draftWidth_17 : decode cX5_draftWidth 17 = .ok (.invokespecial 149, 3) := by decide +kernel
theorem dX5_draftWidth_20 : decode cX5_draftWidth 20 = .ok (.athrow, 1) := by decide +kernel
theorem dX5_draftWidth_21 : decode cX5_draftWidth 21 = .ok (.aload_n 0, 1) := by decide +kernel
theorem dX5_draftWidth_22 : decode cX5_draftWidth 22 = .ok (.getfield 38, 3) := by decide +kernel
theorem dX5_draftWidth_25 : decode cX5_draftWidth 25 = .ok (.getfield 150, 3) := by decide +kernel
theorem dX5_draftWidth_28 : decode cX5_draftWidth 28 = .ok (.iload_n 1, 1) := by decide +kernel
theorem dX5_draftWidth_29 : decode cX5_draftWidth 29 = .ok (.iaload, 1) := by decide +kernel
theorem dX5_draftWidth_30 : decode cX5_draftWidth 30 = .ok (.ireturn, 1) := by decide +kernel
theorem dX5_keep_0 : decode cX5_keep 0 = .ok (.aload_n 0, 1) := by decide +kernel
theorem dX5_keep_1 : decode cX5_keep 1 = .ok (.getfield 38, 3) := by decide +kernel
theorem dX5_keep_4 : decode cX5_keep 4 = .ok (.getfield 135, 3) := by decide +kernel
theorem dX5_keep_7 : decode cX5_keep 7 = .ok (.ifCond .eq 15, 3) := by decide +kernel
theorem dX5_keep_10 : decode cX5_keep 10 = .ok (.aload_n 0, 1) := by decide +kernel
theorem dX5_keep_11 : decode cX5_keep 11 = .ok (.getfield 34, 3) := by decide +kernel
theorem dX5_keep_14 : decode cX5_keep 14 = .ok (.aload_n 0, 1) := by decide +kernel
theorem dX5_keep_15 : decode cX5_keep 15 = .ok (.getfield 30, 3) := by decide +kernel
theorem dX5_keep_18 : decode cX5_keep 18 = .ok (.arraylength, 1) := by decide +kernel
theorem dX5_keep_19 : decode cX5_keep 19 = .ok (.if_icmp .lt 13, 3) := by decide +kernel
theorem dX5_keep_22 : decode cX5_keep 22 = .ok (.new 87, 3) := by decide +kernel
theorem dX5_keep_25 : decode cX5_keep 25 = .ok (.dup, 1) := by decide +kernel
theorem dX5_keep_26 : decode cX5_keep 26 = .ok (.ldc 153, 2) := by decide +kernel
theorem dX5_keep_28 : decode cX5_keep 28 = .ok (.invokespecial 91, 3) := by decide +kernel
theorem dX5_keep_31 : decode cX5_keep 31 = .ok (.athrow, 1) := by decide +kernel
theorem dX5_keep_32 : decode cX5_keep 32 = .ok (.aload_n 0, 1) := by decide +kernel
theorem dX5_keep_33 : decode cX5_keep 33 = .ok (.getfield 30, 3) := by decide +kernel
theorem dX5_keep_36 : decode cX5_keep 36 = .ok (.aload_n 0, 1) := by decide +kernel
theorem dX5_keep_37 : decode cX5_keep 37 = .ok (.getfield 34, 3) := by decide +kernel
theorem dX5_keep_40 : decode cX5_keep 40 = .ok (.aaload, 1) := by decide +kernel
theorem dX5_keep_41 : decode cX5_keep 41 = .ok (.aload_n 0, 1) := by decide +kernel
theorem dX5_keep_42 : decode cX5_keep 42 = .ok (.getfield 38, 3) := by decide +kernel
theorem dX5_keep_45 : decode cX5_keep 45 = .ok (.invokevirtual 155, 3) := by decide +kernel
theorem dX5_keep_48 : decode cX5_keep 48 = .ok (.aload_n 0, 1) := by decide +kernel
theorem dX5_keep_49 : decode cX5_keep 49 = .ok (.getfield 38, 3) := by decide +kernel
theorem dX5_keep_52 : decode cX5_keep 52 = .ok (.invokevirtual 138, 3) := by decide +kernel
theorem dX5_keep_55 : decode cX5_keep 55 = .ok (.aload_n 0, 1) := by decide +kernel
theorem dX5_keep_56 : decode cX5_keep 56 = .ok (.dup, 1) := by decide +kernel
theorem dX5_keep_57 : decode cX5_keep 57 = .ok (.getfield 34, 3) := by decide +kernel
theorem dX5_keep_60 : decode cX5_keep 60 = .ok (.iconst 1, 1) := by decide +kernel
theorem dX5_keep_61 : decode cX5_keep 61 = .ok (.iadd, 1) := by decide +kernel
theorem dX5_keep_62 : decode cX5_keep 62 = .ok (.putfield 34, 3) := by decide +kernel
theorem dX5_keep_65 : decode cX5_keep 65 = .ok (.aload_n 0, 1) := by decide +kernel
theorem dX5_keep_66 : decode cX5_keep 66 = .ok (.getfield 34, 3) := by decide +kernel
theorem dX5_keep_69 : decode cX5_keep 69 = .ok (.iconst 1, 1) := by decide +kernel
theorem dX5_keep_70 : decode cX5_keep 70 = .ok (.isub, 1) := by decide +kernel
theorem dX5_keep_71 : decode cX5_keep 71 = .ok (.ireturn, 1) := by decide +kernel
theorem dX5_fits_0 : decode cX5_fits 0 = .ok (.aload_n 0, 1) := by decide +kernel
theorem dX5_fits_1 : decode cX5_fits 1 = .ok (.iload_n 1, 1) := by decide +kernel
theorem dX5_fits_2 : decode cX5_fits 2 = .ok (.invokevirtual 159, 3) := by decide +kernel
theorem dX5_fits_5 : decode cX5_fits 5 = .ok (.aload_n 0, 1) := by decide +kernel
theorem dX5_fits_6 : decode cX5_fits 6 = .ok (.iload_n 2, 1) := by decide +kernel
theorem dX5_fits_7 : decode cX5_fits 7 = .ok (.invokevirtual 98, 3) := by decide +kernel
theorem dX5_fits_10 : decode cX5_fits 10 = .ok (.aload_n 0, 1) := by decide +kernel
theorem dX5_fits_11 : decode cX5_fits 11 = .ok (.aload_n 0, 1) := by decide +kernel
theorem dX5_fits_12 : decode cX5_fits 12 = .ok (.getfield 30, 3) := by decide +kernel
theorem dX5_fits_15 : decode cX5_fits 15 = .ok (.iload_n 1, 1) := by decide +kernel
theorem dX5_fits_16 : decode cX5_fits 16 = .ok (.aaload, 1) := by decide +kernel
theorem dX5_fits_17 : decode cX5_fits 17 = .ok (.aload_n 0, 1) := by decide +kernel
theorem dX5_fits_18 : decode cX5_fits 18 = .ok (.getfield 11, 3) := by decide +kernel
theorem dX5_fits_21 : decode cX5_fits 21 = .ok (.iload_n 2, 1) := by decide +kernel
theorem dX5_fits_22 : decode cX5_fits 22 = .ok (.aaload, 1) := by decide +kernel
theorem dX5_fits_23 : decode cX5_fits 23 = .ok (.invokevirtual 162, 3) := by decide +kernel
theorem dX5_fits_26 : decode cX5_fits 26 = .ok (.ireturn, 1) := by decide +kernel
theorem dX5_fill_0 : decode cX5_fill 0 = .ok (.aload_n 0, 1) := by decide +kernel
theorem dX5_fill_1 : decode cX5_fill 1 = .ok (.iload_n 1, 1) := by decide +kernel
theorem dX5_fill_2 : decode cX5_fill 2 = .ok (.invokevirtual 98, 3) := by decide +kernel
theorem dX5_fill_5 : decode cX5_fill 5 = .ok (.aload_n 0, 1) := by decide +kernel
theorem dX5_fill_6 : decode cX5_fill 6 = .ok (.aload_n 0, 1) := by decide +kernel
theorem dX5_fill_7 : decode cX5_fill 7 = .ok (.getfield 11, 3) := by decide +kernel
theorem dX5_fill_10 : decode cX5_fill 10 = .ok (.iload_n 1, 1) := by decide +kernel
theorem dX5_fill_11 : decode cX5_fill 11 = .ok (.aaload, 1) := by decide +kernel
theorem dX5_fill_12 : decode cX5_fill 12 = .ok (.invokevirtual 166, 3) := by decide +kernel
theorem dX5_fill_15 : decode cX5_fill 15 = .ok (.aload_n 0, 1) := by decide +kernel
theorem dX5_fill_16 : decode cX5_fill 16 = .ok (.getfield 70, 3) := by decide +kernel
theorem dX5_fill_19 : decode cX5_fill 19 = .ok (.aload_n 0, 1) := by decide +kernel
theorem dX5_fill_20 : decode cX5_fill 20 = .ok (.aload_n 0, 1) := by decide +kernel
theorem dX5_fill_21 : decode cX5_fill 21 = .ok (.getfield 11, 3) := by decide +kernel
theorem dX5_fill_24 : decode cX5_fill 24 = .ok (.iload_n 1, 1) := by decide +kernel
theorem dX5_fill_25 : decode cX5_fill 25 = .ok (.aaload, 1) := by decide +kernel
theorem dX5_fill_26 : decode cX5_fill 26 = .ok (.invokevirtual 170, 3) := by decide +kernel
theorem dX5_fill_29 : decode cX5_fill 29 = .ok (.aload_n 0, 1) := by decide +kernel
theorem dX5_fill_30 : decode cX5_fill 30 = .ok (.getfield 48, 3) := by decide +kernel
theorem dX5_fill_33 : decode cX5_fill 33 = .ok (.iconst 1, 1) := by decide +kernel
theorem dX5_fill_34 : decode cX5_fill 34 = .ok (.isub, 1) := by decide +kernel
theorem dX5_fill_35 : decode cX5_fill 35 = .ok (.invokevirtual 174, 3) := by decide +kernel
theorem dX5_fill_38 : decode cX5_fill 38 = .ok (.istore_n 2, 1) := by decide +kernel
theorem dX5_fill_39 : decode cX5_fill 39 = .ok (.aload_n 0, 1) := by decide +kernel
theorem dX5_fill_40 : decode cX5_fill 40 = .ok (.getfield 70, 3) := by decide +kernel
theorem dX5_fill_43 : decode cX5_fill 43 = .ok (.iload_n 2, 1) := by decide +kernel
theorem dX5_fill_44 : decode cX5_fill 44 = .ok (.aload_n 0, 1) := by decide +kernel
theorem dX5_fill_45 : decode cX5_fill 45 = .ok (.getfield 38, 3) := by decide +kernel
theorem dX5_fill_48 : decode cX5_fill 48 = .ok (.invokevirtual 178, 3) := by decide +kernel
theorem dX5_fill_51 : decode cX5_fill 51 = .ok (.iload_n 2, 1) := by decide +kernel
theorem dX5_fill_52 : decode cX5_fill 52 = .ok (.ireturn, 1) := by decide +kernel
theorem dX5_fullestByTrying_0 : decode cX5_fullestByTrying 0 = .ok (.aload_n 0, 1) := by decide +kernel
theorem dX5_fullestByTrying_1 : decode cX5_fullestByTrying 1 = .ok (.iload_n 1, 1) := by decide +kernel
theorem dX5_fullestByTrying_2 : decode cX5_fullestByTrying 2 = .ok (.invokevirtual 98, 3) := by decide +kernel
theorem dX5_fullestByTrying_5 : decode cX5_fullestByTrying 5 = .ok (.aload_n 0, 1) := by decide +kernel
theorem dX5_fullestByTrying_6 : decode cX5_fullestByTrying 6 = .ok (.getfield 48, 3) := by decide +kernel
theorem dX5_fullestByTrying_9 : decode cX5_fullestByTrying 9 = .ok (.bipush 8, 2) := by decide +kernel
theorem dX5_fullestByTrying_11 : decode cX5_fullestByTrying 11 = .ok (.if_icmp .le 13, 3) := by decide +kernel
theorem dX5_fullestByTrying_14 : decode cX5_fullestByTrying 14 = .ok (.new 87, 3) := by decide +kernel
theorem dX5_fullestByTrying_17 : decode cX5_fullestByTrying 17 = .ok (.dup, 1) := by decide +kernel
theorem dX5_fullestByTrying_18 : decode cX5_fullestByTrying 18 = .ok (.ldc 182, 2) := by decide +kernel
theorem dX5_fullestByTrying_20 : decode cX5_fullestByTrying 20 = .ok (.invokespecial 91, 3) := by decide +kernel
theorem dX5_fullestByTrying_23 : decode cX5_fullestByTrying 23 = .ok (.athrow, 1) := by decide +kernel
theorem dX5_fullestByTrying_24 : decode cX5_fullestByTrying 24 = .ok (.aload_n 0, 1) := by decide +kernel
theorem dX5_fullestByTrying_25 : decode cX5_fullestByTrying 25 = .ok (.aload_n 0, 1) := by decide +kernel
theorem dX5_fullestByTrying_26 : decode cX5_fullestByTrying 26 = .ok (.getfield 11, 3) := by decide +kernel
theorem dX5_fullestByTrying_29 : decode cX5_fullestByTrying 29 = .ok (.iload_n 1, 1) := by decide +kernel
theorem dX5_fullestByTrying_30 : decode cX5_fullestByTrying 30 = .ok (.aaload, 1) := by decide +kernel
theorem dX5_fullestByTrying_31 : decode cX5_fullestByTrying 31 = .ok (.invokevirtual 166, 3) := by decide +kernel
theorem dX5_fullestByTrying_34 : decode cX5_fullestByTrying 34 = .ok (.aload_n 0, 1) := by decide +kernel
theorem dX5_fullestByTrying_35 : decode cX5_fullestByTrying 35 = .ok (.getfield 70, 3) := by decide +kernel
theorem dX5_fullestByTrying_38 : decode cX5_fullestByTrying 38 = .ok (.aload_n 0, 1) := by decide +kernel
theorem dX5_fullestByTrying_39 : decode cX5_fullestByTrying 39 = .ok (.aload_n 0, 1) := by decide +kernel
theorem dX5_fullestByTrying_40 : decode cX5_fullestByTrying 40 = .ok (.getfield 11, 3) := by decide +kernel
theorem dX5_fullestByTrying_43 : decode cX5_fullestByTrying 43 = .ok (.iload_n 1, 1) := by decide +kernel
theorem dX5_fullestByTrying_44 : decode cX5_fullestByTrying 44 = .ok (.aaload, 1) := by decide +kernel
theorem dX5_fullestByTrying_45 : decode cX5_fullestByTrying 45 = .ok (.invokevirtual 170, 3) := by decide +kernel
theorem dX5_fullestByTrying_48 : decode cX5_fullestByTrying 48 = .ok (.aload_n 0, 1) := by decide +kernel
theorem dX5_fullestByTrying_49 : decode cX5_fullestByTrying 49 = .ok (.getfield 48, 3) := by decide +kernel
theorem dX5_fullestByTrying_52 : decode cX5_fullestByTrying 52 = .ok (.iconst 1, 1) := by decide +kernel
theorem dX5_fullestByTrying_53 : decode cX5_fullestByTrying 53 = .ok (.isub, 1) := by decide +kernel
theorem dX5_fullestByTrying_54 : decode cX5_fullestByTrying 54 = .ok (.invokevirtual 184, 3) := by decide +kernel
theorem dX5_fullestByTrying_57 : decode cX5_fullestByTrying 57 = .ok (.ireturn, 1) := by decide +kernel
theorem dX5_run_0 : decode cX5_run 0 = .ok (.aload_n 0, 1) := by decide +kernel
theorem dX5_run_1 : decode cX5_run 1 = .ok (.iload_n 1, 1) := by decide +kernel
theorem dX5_run_2 : decode cX5_run 2 = .ok (.invokevirtual 98, 3) := by decide +kernel
theorem dX5_run_5 : decode cX5_run 5 = .ok (.aload_n 0, 1) := by decide +kernel
theorem dX5_run_6 : decode cX5_run 6 = .ok (.iload_n 2, 1) := by decide +kernel
theorem dX5_run_7 : decode cX5_run 7 = .ok (.invokevirtual 159, 3) := by decide +kernel
theorem dX5_run_10 : decode cX5_run 10 = .ok (.aload_n 0, 1) := by decide +kernel
theorem dX5_run_11 : decode cX5_run 11 = .ok (.iload_n 1, 1) := by decide +kernel
theorem dX5_run_12 : decode cX5_run 12 = .ok (.iload_n 2, 1) := by decide +kernel
theorem dX5_run_13 : decode cX5_run 13 = .ok (.invokevirtual 187, 3) := by decide +kernel
theorem dX5_run_16 : decode cX5_run 16 = .ok (.ifCond .ne 13, 3) := by decide +kernel
theorem dX5_run_19 : decode cX5_run 19 = .ok (.new 87, 3) := by decide +kernel
theorem dX5_run_22 : decode cX5_run 22 = .ok (.dup, 1) := by decide +kernel
theorem dX5_run_23 : decode cX5_run 23 = .ok (.ldc 191, 2) := by decide +kernel
theorem dX5_run_25 : decode cX5_run 25 = .ok (.invokespecial 91, 3) := by decide +kernel
theorem dX5_run_28 : decode cX5_run 28 = .ok (.athrow, 1) := by decide +kernel
theorem dX5_run_29 : decode cX5_run 29 = .ok (.aload_n 0, 1) := by decide +kernel
theorem dX5_run_30 : decode cX5_run 30 = .ok (.iload_n 1, 1) := by decide +kernel
theorem dX5_run_31 : decode cX5_run 31 = .ok (.iload_n 2, 1) := by decide +kernel
theorem dX5_run_32 : decode cX5_run 32 = .ok (.invokevirtual 193, 3) := by decide +kernel
theorem dX5_run_35 : decode cX5_run 35 = .ok (.ireturn, 1) := by decide +kernel
theorem dX5_moves_0 : decode cX5_moves 0 = .ok (.aload_n 0, 1) := by decide +kernel
theorem dX5_moves_1 : decode cX5_moves 1 = .ok (.iload_n 1, 1) := by decide +kernel
theorem dX5_moves_2 : decode cX5_moves 2 = .ok (.invokevirtual 159, 3) := by decide +kernel
theorem dX5_moves_5 : decode cX5_moves 5 = .ok (.aload_n 0, 1) := by decide +kernel
theorem dX5_moves_6 : decode cX5_moves 6 = .ok (.aload_n 0, 1) := by decide +kernel
theorem dX5_moves_7 : decode cX5_moves 7 = .ok (.getfield 51, 3) := by decide +kernel
theorem dX5_moves_10 : decode cX5_moves 10 = .ok (.iload_n 1, 1) := by decide +kernel
theorem dX5_moves_11 : decode cX5_moves 11 = .ok (.invokevirtual 196, 3) := by decide +kernel
theorem dX5_moves_14 : decode cX5_moves 14 = .ok (.ireturn, 1) := by decide +kernel
theorem dX5_moved_0 : decode cX5_moved 0 = .ok (.aload_n 0, 1) := by decide +kernel
theorem dX5_moved_1 : decode cX5_moved 1 = .ok (.getfield 54, 3) := by decide +kernel
theorem dX5_moved_4 : decode cX5_moved 4 = .ok (.ireturn, 1) := by decide +kernel
theorem dX5_plan_0 : decode cX5_plan 0 = .ok (.aload_n 0, 1) := by decide +kernel
theorem dX5_plan_1 : decode cX5_plan 1 = .ok (.iload_n 1, 1) := by decide +kernel
theorem dX5_plan_2 : decode cX5_plan 2 = .ok (.invokevirtual 98, 3) := by decide +kernel
theorem dX5_plan_5 : decode cX5_plan 5 = .ok (.aload_n 0, 1) := by decide +kernel
theorem dX5_plan_6 : decode cX5_plan 6 = .ok (.iload_n 2, 1) := by decide +kernel
theorem dX5_plan_7 : decode cX5_plan 7 = .ok (.invokevirtual 159, 3) := by decide +kernel
theorem dX5_plan_10 : decode cX5_plan 10 = .ok (.aload_n 0, 1) := by decide +kernel
theorem dX5_plan_11 : decode cX5_plan 11 = .ok (.iload_n 1, 1) := by decide +kernel
theorem dX5_plan_12 : decode cX5_plan 12 = .ok (.iload_n 2, 1) := by decide +kernel
theorem dX5_plan_13 : decode cX5_plan 13 = .ok (.invokevirtual 187, 3) := by decide +kernel
theorem dX5_plan_16 : decode cX5_plan 16 = .ok (.ifCond .eq 20, 3) := by decide +kernel
theorem dX5_plan_19 : decode cX5_plan 19 = .ok (.aload_n 0, 1) := by decide +kernel
theorem dX5_plan_20 : decode cX5_plan 20 = .ok (.iload_n 1, 1) := by decide +kernel
theorem dX5_plan_21 : decode cX5_plan 21 = .ok (.invokevirtual 199, 3) := by decide +kernel
theorem dX5_plan_24 : decode cX5_plan 24 = .ok (.ifCond .ne 12, 3) := by decide +kernel
theorem dX5_plan_27 : decode cX5_plan 27 = .ok (.aload_n 0, 1) := by decide +kernel
theorem dX5_plan_28 : decode cX5_plan 28 = .ok (.getfield 64, 3) := by decide +kernel
theorem dX5_plan_31 : decode cX5_plan 31 = .ok (.bipush 7, 2) := by decide +kernel
theorem dX5_plan_33 : decode cX5_plan 33 = .ok (.if_icmp .lt 13, 3) := by decide +kernel
theorem dX5_plan_36 : decode cX5_plan 36 = .ok (.new 87, 3) := by decide +kernel
theorem dX5_plan_39 : decode cX5_plan 39 = .ok (.dup, 1) := by decide +kernel
theorem dX5_plan_40 : decode cX5_plan 40 = .ok (.ldc 202, 2) := by decide +kernel
theorem dX5_plan_42 : decode cX5_plan 42 = .ok (.invokespecial 91, 3) := by decide +kernel
theorem dX5_plan_45 : decode cX5_plan 45 = .ok (.athrow, 1) := by decide +kernel
theorem dX5_plan_46 : decode cX5_plan 46 = .ok (.aload_n 0, 1) := by decide +kernel
theorem dX5_plan_47 : decode cX5_plan 47 = .ok (.getfield 57, 3) := by decide +kernel
theorem dX5_plan_50 : decode cX5_plan 50 = .ok (.aload_n 0, 1) := by decide +kernel
theorem dX5_plan_51 : decode cX5_plan 51 = .ok (.getfield 64, 3) := by decide +kernel
theorem dX5_plan_54 : decode cX5_plan 54 = .ok (.iload_n 1, 1) := by decide +kernel
theorem dX5_plan_55 : decode cX5_plan 55 = .ok (.iastore, 1) := by decide +kernel
theorem dX5_plan_56 : decode cX5_plan 56 = .ok (.aload_n 0, 1) := by decide +kernel
theorem dX5_plan_57 : decode cX5_plan 57 = .ok (.getfield 61, 3) := by decide +kernel
theorem dX5_plan_60 : decode cX5_plan 60 = .ok (.aload_n 0, 1) := by decide +kernel
theorem dX5_plan_61 : decode cX5_plan 61 = .ok (.getfield 64, 3) := by decide +kernel
theorem dX5_plan_64 : decode cX5_plan 64 = .ok (.iload_n 2, 1) := by decide +kernel
theorem dX5_plan_65 : decode cX5_plan 65 = .ok (.iastore, 1) := by decide +kernel
theorem dX5_plan_66 : decode cX5_plan 66 = .ok (.aload_n 0, 1) := by decide +kernel
theorem dX5_plan_67 : decode cX5_plan 67 = .ok (.dup, 1) := by decide +kernel
theorem dX5_plan_68 : decode cX5_plan 68 = .ok (.getfield 64, 3) := by decide +kernel
theorem dX5_plan_71 : decode cX5_plan 71 = .ok (.iconst 1, 1) := by decide +kernel
theorem dX5_plan_72 : decode cX5_plan 72 = .ok (.iadd, 1) := by decide +kernel
theorem dX5_plan_73 : decode cX5_plan 73 = .ok (.putfield 64, 3) := by decide +kernel
theorem dX5_plan_76 : decode cX5_plan 76 = .ok (.aload_n 0, 1) := by decide +kernel
theorem dX5_plan_77 : decode cX5_plan 77 = .ok (.getfield 64, 3) := by decide +kernel
theorem dX5_plan_80 : decode cX5_plan 80 = .ok (.iconst 1, 1) := by decide +kernel
theorem dX5_plan_81 : decode cX5_plan 81 = .ok (.isub, 1) := by decide +kernel
theorem dX5_plan_82 : decode cX5_plan 82 = .ok (.ireturn, 1) := by decide +kernel
theorem dX5_waiting_0 : decode cX5_waiting 0 = .ok (.aload_n 0, 1) := by decide +kernel
theorem dX5_waiting_1 : decode cX5_waiting 1 = .ok (.getfield 64, 3) := by decide +kernel
theorem dX5_waiting_4 : decode cX5_waiting 4 = .ok (.ireturn, 1) := by decide +kernel
theorem dX5_fewestMoves_0 : decode cX5_fewestMoves 0 = .ok (.aload_n 0, 1) := by decide +kernel
theorem dX5_fewestMoves_1 : decode cX5_fewestMoves 1 = .ok (.invokevirtual 204, 3) := by decide +kernel
theorem dX5_fewestMoves_4 : decode cX5_fewestMoves 4 = .ok (.aload_n 0, 1) := by decide +kernel
theorem dX5_fewestMoves_5 : decode cX5_fewestMoves 5 = .ok (.getfield 77, 3) := by decide +kernel
theorem dX5_fewestMoves_8 : decode cX5_fewestMoves 8 = .ok (.aload_n 0, 1) := by decide +kernel
theorem dX5_fewestMoves_9 : decode cX5_fewestMoves 9 = .ok (.getfield 64, 3) := by decide +kernel
theorem dX5_fewestMoves_12 : decode cX5_fewestMoves 12 = .ok (.invokevirtual 207, 3) := by decide +kernel
theorem dX5_fewestMoves_15 : decode cX5_fewestMoves 15 = .ok (.ireturn, 1) := by decide +kernel
theorem dX5_fewestByTrying_0 : decode cX5_fewestByTrying 0 = .ok (.aload_n 0, 1) := by decide +kernel
theorem dX5_fewestByTrying_1 : decode cX5_fewestByTrying 1 = .ok (.invokevirtual 204, 3) := by decide +kernel
theorem dX5_fewestByTrying_4 : decode cX5_fewestByTrying 4 = .ok (.aload_n 0, 1) := by decide +kernel
theorem dX5_fewestByTrying_5 : decode cX5_fewestByTrying 5 = .ok (.getfield 77, 3) := by decide +kernel
theorem dX5_fewestByTrying_8 : decode cX5_fewestByTrying 8 = .ok (.aload_n 0, 1) := by decide +kernel
theorem dX5_fewestByTrying_9 : decode cX5_fewestByTrying 9 = .ok (.getfield 64, 3) := by decide +kernel
theorem dX5_fewestByTrying_12 : decode cX5_fewestByTrying 12 = .ok (.invokevirtual 211, 3) := by decide +kernel
theorem dX5_fewestByTrying_15 : decode cX5_fewestByTrying 15 = .ok (.ireturn, 1) := by decide +kernel
theorem dX5_nextAt_0 : decode cX5_nextAt 0 = .ok (.iload_n 1, 1) := by decide +kernel
theorem dX5_nextAt_1 : decode cX5_nextAt 1 = .ok (.ifCond .lt 11, 3) := by decide +kernel
theorem dX5_nextAt_4 : decode cX5_nextAt 4 = .ok (.iload_n 1, 1) := by decide +kernel
theorem dX5_nextAt_5 : decode cX5_nextAt 5 = .ok (.aload_n 0, 1) := by decide +kernel
theorem dX5_nextAt_6 : decode cX5_nextAt 6 = .ok (.getfield 64, 3) := by decide +kernel
theorem dX5_nextAt_9 : decode cX5_nextAt 9 = .ok (.if_icmp .lt 13, 3) := by decide +kernel
theorem dX5_nextAt_12 : decode cX5_nextAt 12 = .ok (.new 145, 3) := by decide +kernel
theorem dX5_nextAt_15 : decode cX5_nextAt 15 = .ok (.dup, 1) := by decide +kernel
theorem dX5_nextAt_16 : decode cX5_nextAt 16 = .ok (.ldc 214, 2) := by decide +kernel
theorem dX5_nextAt_18 : decode cX5_nextAt 18 = .ok (.invokespecial 149, 3) := by decide +kernel
theorem dX5_nextAt_21 : decode cX5_nextAt 21 = .ok (.athrow, 1) := by decide +kernel
theorem dX5_nextAt_22 : decode cX5_nextAt 22 = .ok (.aload_n 0, 1) := by decide +kernel
theorem dX5_nextAt_23 : decode cX5_nextAt 23 = .ok (.invokevirtual 204, 3) := by decide +kernel
theorem dX5_nextAt_26 : decode cX5_nextAt 26 = .ok (.aload_n 0, 1) := by decide +kernel
theorem dX5_nextAt_27 : decode cX5_nextAt 27 = .ok (.getfield 77, 3) := by decide +kernel
theorem dX5_nextAt_30 : decode cX5_nextAt 30 = .ok (.aload_n 0, 1) := by decide +kernel
theorem dX5_nextAt_31 : decode cX5_nextAt 31 = .ok (.getfield 64, 3) := by decide +kernel
theorem dX5_nextAt_34 : decode cX5_nextAt 34 = .ok (.invokevirtual 216, 3) := by decide +kernel
theorem dX5_nextAt_37 : decode cX5_nextAt 37 = .ok (.aload_n 0, 1) := by decide +kernel
end
section
theorem dX5_nextAt_38 : decode cX5_nextAt 38 = .ok (.getfield 77, 3) := by decide +kernel
theorem dX5_nextAt_41 : decode cX5_nextAt 41 = .ok (.getfield 219, 3) := by decide +kernel
theorem dX5_nextAt_44 : decode cX5_nextAt 44 = .ok (.iload_n 1, 1) := by decide +kernel
theorem dX5_nextAt_45 : decode cX5_nextAt 45 = .ok (.iaload, 1) := by decide +kernel
theorem dX5_nextAt_46 : decode cX5_nextAt 46 = .ok (.ireturn, 1) := by decide +kernel
theorem dX5_runAll_0 : decode cX5_runAll 0 = .ok (.aload_n 0, 1) := by decide +kernel
theorem dX5_runAll_1 : decode cX5_runAll 1 = .ok (.invokevirtual 204, 3) := by decide +kernel
theorem dX5_runAll_4 : decode cX5_runAll 4 = .ok (.aload_n 0, 1) := by decide +kernel
theorem dX5_runAll_5 : decode cX5_runAll 5 = .ok (.getfield 77, 3) := by decide +kernel
theorem dX5_runAll_8 : decode cX5_runAll 8 = .ok (.aload_n 0, 1) := by decide +kernel
theorem dX5_runAll_9 : decode cX5_runAll 9 = .ok (.getfield 64, 3) := by decide +kernel
theorem dX5_runAll_12 : decode cX5_runAll 12 = .ok (.invokevirtual 216, 3) := by decide +kernel
theorem dX5_runAll_15 : decode cX5_runAll 15 = .ok (.iconst 0, 1) := by decide +kernel
theorem dX5_runAll_16 : decode cX5_runAll 16 = .ok (.istore_n 1, 1) := by decide +kernel
theorem dX5_runAll_17 : decode cX5_runAll 17 = .ok (.iconst 0, 1) := by decide +kernel
theorem dX5_runAll_18 : decode cX5_runAll 18 = .ok (.istore_n 2, 1) := by decide +kernel
theorem dX5_runAll_19 : decode cX5_runAll 19 = .ok (.iload_n 2, 1) := by decide +kernel
theorem dX5_runAll_20 : decode cX5_runAll 20 = .ok (.aload_n 0, 1) := by decide +kernel
theorem dX5_runAll_21 : decode cX5_runAll 21 = .ok (.getfield 64, 3) := by decide +kernel
theorem dX5_runAll_24 : decode cX5_runAll 24 = .ok (.if_icmp .ge 58, 3) := by decide +kernel
theorem dX5_runAll_27 : decode cX5_runAll 27 = .ok (.aload_n 0, 1) := by decide +kernel
theorem dX5_runAll_28 : decode cX5_runAll 28 = .ok (.getfield 77, 3) := by decide +kernel
theorem dX5_runAll_31 : decode cX5_runAll 31 = .ok (.getfield 219, 3) := by decide +kernel
theorem dX5_runAll_34 : decode cX5_runAll 34 = .ok (.iload_n 2, 1) := by decide +kernel
theorem dX5_runAll_35 : decode cX5_runAll 35 = .ok (.iaload, 1) := by decide +kernel
theorem dX5_runAll_36 : decode cX5_runAll 36 = .ok (.istore_n 3, 1) := by decide +kernel
theorem dX5_runAll_37 : decode cX5_runAll 37 = .ok (.aload_n 0, 1) := by decide +kernel
theorem dX5_runAll_38 : decode cX5_runAll 38 = .ok (.aload_n 0, 1) := by decide +kernel
theorem dX5_runAll_39 : decode cX5_runAll 39 = .ok (.getfield 57, 3) := by decide +kernel
theorem dX5_runAll_42 : decode cX5_runAll 42 = .ok (.iload_n 3, 1) := by decide +kernel
theorem dX5_runAll_43 : decode cX5_runAll 43 = .ok (.iaload, 1) := by decide +kernel
theorem dX5_runAll_44 : decode cX5_runAll 44 = .ok (.aload_n 0, 1) := by decide +kernel
theorem dX5_runAll_45 : decode cX5_runAll 45 = .ok (.getfield 61, 3) := by decide +kernel
theorem dX5_runAll_48 : decode cX5_runAll 48 = .ok (.iload_n 3, 1) := by decide +kernel
theorem dX5_runAll_49 : decode cX5_runAll 49 = .ok (.iaload, 1) := by decide +kernel
theorem dX5_runAll_50 : decode cX5_runAll 50 = .ok (.invokevirtual 187, 3) := by decide +kernel
theorem dX5_runAll_53 : decode cX5_runAll 53 = .ok (.ifCond .eq 23, 3) := by decide +kernel
theorem dX5_runAll_56 : decode cX5_runAll 56 = .ok (.aload_n 0, 1) := by decide +kernel
theorem dX5_runAll_57 : decode cX5_runAll 57 = .ok (.aload_n 0, 1) := by decide +kernel
theorem dX5_runAll_58 : decode cX5_runAll 58 = .ok (.getfield 57, 3) := by decide +kernel
theorem dX5_runAll_61 : decode cX5_runAll 61 = .ok (.iload_n 3, 1) := by decide +kernel
theorem dX5_runAll_62 : decode cX5_runAll 62 = .ok (.iaload, 1) := by decide +kernel
theorem dX5_runAll_63 : decode cX5_runAll 63 = .ok (.aload_n 0, 1) := by decide +kernel
theorem dX5_runAll_64 : decode cX5_runAll 64 = .ok (.getfield 61, 3) := by decide +kernel
theorem dX5_runAll_67 : decode cX5_runAll 67 = .ok (.iload_n 3, 1) := by decide +kernel
theorem dX5_runAll_68 : decode cX5_runAll 68 = .ok (.iaload, 1) := by decide +kernel
theorem dX5_runAll_69 : decode cX5_runAll 69 = .ok (.invokevirtual 193, 3) := by decide +kernel
theorem dX5_runAll_72 : decode cX5_runAll 72 = .ok (.pop, 1) := by decide +kernel
theorem dX5_runAll_73 : decode cX5_runAll 73 = .ok (.iinc 1 1, 3) := by decide +kernel
theorem dX5_runAll_76 : decode cX5_runAll 76 = .ok (.iinc 2 1, 3) := by decide +kernel
theorem dX5_runAll_79 : decode cX5_runAll 79 = .ok (.goto (-60), 3) := by decide +kernel
theorem dX5_runAll_82 : decode cX5_runAll 82 = .ok (.aload_n 0, 1) := by decide +kernel
theorem dX5_runAll_83 : decode cX5_runAll 83 = .ok (.iconst 0, 1) := by decide +kernel
theorem dX5_runAll_84 : decode cX5_runAll 84 = .ok (.putfield 64, 3) := by decide +kernel
theorem dX5_runAll_87 : decode cX5_runAll 87 = .ok (.iload_n 1, 1) := by decide +kernel
theorem dX5_runAll_88 : decode cX5_runAll 88 = .ok (.ireturn, 1) := by decide +kernel
theorem dX5_slits_0 : decode cX5_slits 0 = .ok (.aload_n 0, 1) := by decide +kernel
theorem dX5_slits_1 : decode cX5_slits 1 = .ok (.iload_n 1, 1) := by decide +kernel
theorem dX5_slits_2 : decode cX5_slits 2 = .ok (.invokevirtual 98, 3) := by decide +kernel
theorem dX5_slits_5 : decode cX5_slits 5 = .ok (.aload_n 0, 1) := by decide +kernel
theorem dX5_slits_6 : decode cX5_slits 6 = .ok (.getfield 11, 3) := by decide +kernel
theorem dX5_slits_9 : decode cX5_slits 9 = .ok (.iload_n 1, 1) := by decide +kernel
theorem dX5_slits_10 : decode cX5_slits 10 = .ok (.aaload, 1) := by decide +kernel
theorem dX5_slits_11 : decode cX5_slits 11 = .ok (.getfield 222, 3) := by decide +kernel
theorem dX5_slits_14 : decode cX5_slits 14 = .ok (.ireturn, 1) := by decide +kernel
theorem dX5_slitWeight_0 : decode cX5_slitWeight 0 = .ok (.aload_n 0, 1) := by decide +kernel
theorem dX5_slitWeight_1 : decode cX5_slitWeight 1 = .ok (.iload_n 1, 1) := by decide +kernel
theorem dX5_slitWeight_2 : decode cX5_slitWeight 2 = .ok (.iload_n 2, 1) := by decide +kernel
theorem dX5_slitWeight_3 : decode cX5_slitWeight 3 = .ok (.invokevirtual 225, 3) := by decide +kernel
theorem dX5_slitWeight_6 : decode cX5_slitWeight 6 = .ok (.aload_n 0, 1) := by decide +kernel
theorem dX5_slitWeight_7 : decode cX5_slitWeight 7 = .ok (.getfield 11, 3) := by decide +kernel
theorem dX5_slitWeight_10 : decode cX5_slitWeight 10 = .ok (.iload_n 1, 1) := by decide +kernel
theorem dX5_slitWeight_11 : decode cX5_slitWeight 11 = .ok (.aaload, 1) := by decide +kernel
theorem dX5_slitWeight_12 : decode cX5_slitWeight 12 = .ok (.getfield 228, 3) := by decide +kernel
theorem dX5_slitWeight_15 : decode cX5_slitWeight 15 = .ok (.iload_n 2, 1) := by decide +kernel
theorem dX5_slitWeight_16 : decode cX5_slitWeight 16 = .ok (.iaload, 1) := by decide +kernel
theorem dX5_slitWeight_17 : decode cX5_slitWeight 17 = .ok (.ireturn, 1) := by decide +kernel
theorem dX5_slitOrder_0 : decode cX5_slitOrder 0 = .ok (.aload_n 0, 1) := by decide +kernel
theorem dX5_slitOrder_1 : decode cX5_slitOrder 1 = .ok (.iload_n 1, 1) := by decide +kernel
theorem dX5_slitOrder_2 : decode cX5_slitOrder 2 = .ok (.iload_n 2, 1) := by decide +kernel
theorem dX5_slitOrder_3 : decode cX5_slitOrder 3 = .ok (.invokevirtual 225, 3) := by decide +kernel
theorem dX5_slitOrder_6 : decode cX5_slitOrder 6 = .ok (.aload_n 0, 1) := by decide +kernel
theorem dX5_slitOrder_7 : decode cX5_slitOrder 7 = .ok (.getfield 11, 3) := by decide +kernel
theorem dX5_slitOrder_10 : decode cX5_slitOrder 10 = .ok (.iload_n 1, 1) := by decide +kernel
theorem dX5_slitOrder_11 : decode cX5_slitOrder 11 = .ok (.aaload, 1) := by decide +kernel
theorem dX5_slitOrder_12 : decode cX5_slitOrder 12 = .ok (.getfield 231, 3) := by decide +kernel
theorem dX5_slitOrder_15 : decode cX5_slitOrder 15 = .ok (.iload_n 2, 1) := by decide +kernel
theorem dX5_slitOrder_16 : decode cX5_slitOrder 16 = .ok (.iaload, 1) := by decide +kernel
theorem dX5_slitOrder_17 : decode cX5_slitOrder 17 = .ok (.ireturn, 1) := by decide +kernel
theorem dX5_lost_0 : decode cX5_lost 0 = .ok (.aload_n 0, 1) := by decide +kernel
theorem dX5_lost_1 : decode cX5_lost 1 = .ok (.iload_n 1, 1) := by decide +kernel
theorem dX5_lost_2 : decode cX5_lost 2 = .ok (.invokevirtual 98, 3) := by decide +kernel
theorem dX5_lost_5 : decode cX5_lost 5 = .ok (.iload_n 2, 1) := by decide +kernel
theorem dX5_lost_6 : decode cX5_lost 6 = .ok (.iconst 0, 1) := by decide +kernel
theorem dX5_lost_7 : decode cX5_lost 7 = .ok (.iconst 2, 1) := by decide +kernel
theorem dX5_lost_8 : decode cX5_lost 8 = .ok (.invokestatic 83, 3) := by decide +kernel
theorem dX5_lost_11 : decode cX5_lost 11 = .ok (.iload_n 2, 1) := by decide +kernel
theorem dX5_lost_12 : decode cX5_lost 12 = .ok (.ifCond .ne 13, 3) := by decide +kernel
theorem dX5_lost_15 : decode cX5_lost 15 = .ok (.aload_n 0, 1) := by decide +kernel
theorem dX5_lost_16 : decode cX5_lost 16 = .ok (.getfield 11, 3) := by decide +kernel
theorem dX5_lost_19 : decode cX5_lost 19 = .ok (.iload_n 1, 1) := by decide +kernel
theorem dX5_lost_20 : decode cX5_lost 20 = .ok (.aaload, 1) := by decide +kernel
theorem dX5_lost_21 : decode cX5_lost 21 = .ok (.getfield 234, 3) := by decide +kernel
theorem dX5_lost_24 : decode cX5_lost 24 = .ok (.ireturn, 1) := by decide +kernel
theorem dX5_lost_25 : decode cX5_lost 25 = .ok (.iload_n 2, 1) := by decide +kernel
theorem dX5_lost_26 : decode cX5_lost 26 = .ok (.iconst 1, 1) := by decide +kernel
theorem dX5_lost_27 : decode cX5_lost 27 = .ok (.if_icmp .ne 15, 3) := by decide +kernel
theorem dX5_lost_30 : decode cX5_lost 30 = .ok (.aload_n 0, 1) := by decide +kernel
theorem dX5_lost_31 : decode cX5_lost 31 = .ok (.getfield 11, 3) := by decide +kernel
theorem dX5_lost_34 : decode cX5_lost 34 = .ok (.iload_n 1, 1) := by decide +kernel
theorem dX5_lost_35 : decode cX5_lost 35 = .ok (.aaload, 1) := by decide +kernel
theorem dX5_lost_36 : decode cX5_lost 36 = .ok (.getfield 237, 3) := by decide +kernel
theorem dX5_lost_39 : decode cX5_lost 39 = .ok (.goto 12, 3) := by decide +kernel
theorem dX5_lost_42 : decode cX5_lost 42 = .ok (.aload_n 0, 1) := by decide +kernel
theorem dX5_lost_43 : decode cX5_lost 43 = .ok (.getfield 11, 3) := by decide +kernel
theorem dX5_lost_46 : decode cX5_lost 46 = .ok (.iload_n 1, 1) := by decide +kernel
theorem dX5_lost_47 : decode cX5_lost 47 = .ok (.aaload, 1) := by decide +kernel
theorem dX5_lost_48 : decode cX5_lost 48 = .ok (.getfield 240, 3) := by decide +kernel
theorem dX5_lost_51 : decode cX5_lost 51 = .ok (.ireturn, 1) := by decide +kernel
theorem dX5_delivered_0 : decode cX5_delivered 0 = .ok (.aload_n 0, 1) := by decide +kernel
theorem dX5_delivered_1 : decode cX5_delivered 1 = .ok (.iload_n 1, 1) := by decide +kernel
theorem dX5_delivered_2 : decode cX5_delivered 2 = .ok (.invokevirtual 243, 3) := by decide +kernel
theorem dX5_delivered_5 : decode cX5_delivered 5 = .ok (.aload_n 0, 1) := by decide +kernel
theorem dX5_delivered_6 : decode cX5_delivered 6 = .ok (.getfield 21, 3) := by decide +kernel
theorem dX5_delivered_9 : decode cX5_delivered 9 = .ok (.iload_n 1, 1) := by decide +kernel
theorem dX5_delivered_10 : decode cX5_delivered 10 = .ok (.aaload, 1) := by decide +kernel
theorem dX5_delivered_11 : decode cX5_delivered 11 = .ok (.getfield 246, 3) := by decide +kernel
theorem dX5_delivered_14 : decode cX5_delivered 14 = .ok (.ireturn, 1) := by decide +kernel
theorem dX5_heatOf_0 : decode cX5_heatOf 0 = .ok (.aload_n 0, 1) := by decide +kernel
theorem dX5_heatOf_1 : decode cX5_heatOf 1 = .ok (.iload_n 1, 1) := by decide +kernel
theorem dX5_heatOf_2 : decode cX5_heatOf 2 = .ok (.invokevirtual 243, 3) := by decide +kernel
theorem dX5_heatOf_5 : decode cX5_heatOf 5 = .ok (.aload_n 0, 1) := by decide +kernel
theorem dX5_heatOf_6 : decode cX5_heatOf 6 = .ok (.getfield 21, 3) := by decide +kernel
theorem dX5_heatOf_9 : decode cX5_heatOf 9 = .ok (.iload_n 1, 1) := by decide +kernel
theorem dX5_heatOf_10 : decode cX5_heatOf 10 = .ok (.aaload, 1) := by decide +kernel
theorem dX5_heatOf_11 : decode cX5_heatOf 11 = .ok (.getfield 249, 3) := by decide +kernel
theorem dX5_heatOf_14 : decode cX5_heatOf 14 = .ok (.ireturn, 1) := by decide +kernel
theorem dX5_stock_0 : decode cX5_stock 0 = .ok (.iconst 0, 1) := by decide +kernel
theorem dX5_stock_1 : decode cX5_stock 1 = .ok (.istore_n 2, 1) := by decide +kernel
theorem dX5_stock_2 : decode cX5_stock 2 = .ok (.iconst 0, 1) := by decide +kernel
theorem dX5_stock_3 : decode cX5_stock 3 = .ok (.istore_n 3, 1) := by decide +kernel
theorem dX5_stock_4 : decode cX5_stock 4 = .ok (.iload_n 3, 1) := by decide +kernel
theorem dX5_stock_5 : decode cX5_stock 5 = .ok (.aload_n 0, 1) := by decide +kernel
theorem dX5_stock_6 : decode cX5_stock 6 = .ok (.getfield 15, 3) := by decide +kernel
theorem dX5_stock_9 : decode cX5_stock 9 = .ok (.if_icmp .ge 22, 3) := by decide +kernel
theorem dX5_stock_12 : decode cX5_stock 12 = .ok (.iload_n 2, 1) := by decide +kernel
theorem dX5_stock_13 : decode cX5_stock 13 = .ok (.aload_n 0, 1) := by decide +kernel
theorem dX5_stock_14 : decode cX5_stock 14 = .ok (.getfield 11, 3) := by decide +kernel
theorem dX5_stock_17 : decode cX5_stock 17 = .ok (.iload_n 3, 1) := by decide +kernel
theorem dX5_stock_18 : decode cX5_stock 18 = .ok (.aaload, 1) := by decide +kernel
theorem dX5_stock_19 : decode cX5_stock 19 = .ok (.iload_n 1, 1) := by decide +kernel
theorem dX5_stock_20 : decode cX5_stock 20 = .ok (.invokevirtual 252, 3) := by decide +kernel
theorem dX5_stock_23 : decode cX5_stock 23 = .ok (.iadd, 1) := by decide +kernel
theorem dX5_stock_24 : decode cX5_stock 24 = .ok (.istore_n 2, 1) := by decide +kernel
theorem dX5_stock_25 : decode cX5_stock 25 = .ok (.iinc 3 1, 3) := by decide +kernel
theorem dX5_stock_28 : decode cX5_stock 28 = .ok (.goto (-24), 3) := by decide +kernel
theorem dX5_stock_31 : decode cX5_stock 31 = .ok (.iload_n 2, 1) := by decide +kernel
theorem dX5_stock_32 : decode cX5_stock 32 = .ok (.ireturn, 1) := by decide +kernel
theorem dX5_requireRange_0 : decode cX5_requireRange 0 = .ok (.iload_n 0, 1) := by decide +kernel
theorem dX5_requireRange_1 : decode cX5_requireRange 1 = .ok (.iload_n 1, 1) := by decide +kernel
theorem dX5_requireRange_2 : decode cX5_requireRange 2 = .ok (.if_icmp .lt 8, 3) := by decide +kernel
theorem dX5_requireRange_5 : decode cX5_requireRange 5 = .ok (.iload_n 0, 1) := by decide +kernel
theorem dX5_requireRange_6 : decode cX5_requireRange 6 = .ok (.iload_n 2, 1) := by decide +kernel
theorem dX5_requireRange_7 : decode cX5_requireRange 7 = .ok (.if_icmp .le 14, 3) := by decide +kernel
theorem dX5_requireRange_10 : decode cX5_requireRange 10 = .ok (.new 255, 3) := by decide +kernel
theorem dX5_requireRange_13 : decode cX5_requireRange 13 = .ok (.dup, 1) := by decide +kernel
theorem dX5_requireRange_14 : decode cX5_requireRange 14 = .ok (.ldc_w 257, 3) := by decide +kernel
theorem dX5_requireRange_17 : decode cX5_requireRange 17 = .ok (.invokespecial 259, 3) := by decide +kernel
theorem dX5_requireRange_20 : decode cX5_requireRange 20 = .ok (.athrow, 1) := by decide +kernel
theorem dX5_requireRange_21 : decode cX5_requireRange 21 = .ok (.return_, 1) := by decide +kernel
theorem dX5_hasCoil_0 : decode cX5_hasCoil 0 = .ok (.iload_n 1, 1) := by decide +kernel
theorem dX5_hasCoil_1 : decode cX5_hasCoil 1 = .ok (.ifCond .lt 15, 3) := by decide +kernel
theorem dX5_hasCoil_4 : decode cX5_hasCoil 4 = .ok (.iload_n 1, 1) := by decide +kernel
theorem dX5_hasCoil_5 : decode cX5_hasCoil 5 = .ok (.aload_n 0, 1) := by decide +kernel
theorem dX5_hasCoil_6 : decode cX5_hasCoil 6 = .ok (.getfield 15, 3) := by decide +kernel
theorem dX5_hasCoil_9 : decode cX5_hasCoil 9 = .ok (.if_icmp .ge 7, 3) := by decide +kernel
theorem dX5_hasCoil_12 : decode cX5_hasCoil 12 = .ok (.iconst 1, 1) := by decide +kernel
theorem dX5_hasCoil_13 : decode cX5_hasCoil 13 = .ok (.goto 4, 3) := by decide +kernel
theorem dX5_hasCoil_16 : decode cX5_hasCoil 16 = .ok (.iconst 0, 1) := by decide +kernel
theorem dX5_hasCoil_17 : decode cX5_hasCoil 17 = .ok (.ireturn, 1) := by decide +kernel
theorem dX5_hasPattern_0 : decode cX5_hasPattern 0 = .ok (.iload_n 1, 1) := by decide +kernel
theorem dX5_hasPattern_1 : decode cX5_hasPattern 1 = .ok (.ifCond .lt 15, 3) := by decide +kernel
theorem dX5_hasPattern_4 : decode cX5_hasPattern 4 = .ok (.iload_n 1, 1) := by decide +kernel
theorem dX5_hasPattern_5 : decode cX5_hasPattern 5 = .ok (.aload_n 0, 1) := by decide +kernel
theorem dX5_hasPattern_6 : decode cX5_hasPattern 6 = .ok (.getfield 34, 3) := by decide +kernel
theorem dX5_hasPattern_9 : decode cX5_hasPattern 9 = .ok (.if_icmp .ge 7, 3) := by decide +kernel
theorem dX5_hasPattern_12 : decode cX5_hasPattern 12 = .ok (.iconst 1, 1) := by decide +kernel
theorem dX5_hasPattern_13 : decode cX5_hasPattern 13 = .ok (.goto 4, 3) := by decide +kernel
theorem dX5_hasPattern_16 : decode cX5_hasPattern 16 = .ok (.iconst 0, 1) := by decide +kernel
theorem dX5_hasPattern_17 : decode cX5_hasPattern 17 = .ok (.ireturn, 1) := by decide +kernel
theorem dX5_requireCoil_0 : decode cX5_requireCoil 0 = .ok (.aload_n 0, 1) := by decide +kernel
theorem dX5_requireCoil_1 : decode cX5_requireCoil 1 = .ok (.iload_n 1, 1) := by decide +kernel
theorem dX5_requireCoil_2 : decode cX5_requireCoil 2 = .ok (.invokevirtual 260, 3) := by decide +kernel
theorem dX5_requireCoil_5 : decode cX5_requireCoil 5 = .ok (.ifCond .ne 14, 3) := by decide +kernel
theorem dX5_requireCoil_8 : decode cX5_requireCoil 8 = .ok (.new 145, 3) := by decide +kernel
theorem dX5_requireCoil_11 : decode cX5_requireCoil 11 = .ok (.dup, 1) := by decide +kernel
theorem dX5_requireCoil_12 : decode cX5_requireCoil 12 = .ok (.ldc_w 263, 3) := by decide +kernel
theorem dX5_requireCoil_15 : decode cX5_requireCoil 15 = .ok (.invokespecial 149, 3) := by decide +kernel
theorem dX5_requireCoil_18 : decode cX5_requireCoil 18 = .ok (.athrow, 1) := by decide +kernel
theorem dX5_requireCoil_19 : decode cX5_requireCoil 19 = .ok (.return_, 1) := by decide +kernel
theorem dX5_requirePattern_0 : decode cX5_requirePattern 0 = .ok (.aload_n 0, 1) := by decide +kernel
theorem dX5_requirePattern_1 : decode cX5_requirePattern 1 = .ok (.iload_n 1, 1) := by decide +kernel
theorem dX5_requirePattern_2 : decode cX5_requirePattern 2 = .ok (.invokevirtual 265, 3) := by decide +kernel
theorem dX5_requirePattern_5 : decode cX5_requirePattern 5 = .ok (.ifCond .ne 14, 3) := by decide +kernel
theorem dX5_requirePattern_8 : decode cX5_requirePattern 8 = .ok (.new 145, 3) := by decide +kernel
theorem dX5_requirePattern_11 : decode cX5_requirePattern 11 = .ok (.dup, 1) := by decide +kernel
theorem dX5_requirePattern_12 : decode cX5_requirePattern 12 = .ok (.ldc_w 268, 3) := by decide +kernel
theorem dX5_requirePattern_15 : decode cX5_requirePattern 15 = .ok (.invokespecial 149, 3) := by decide +kernel
theorem dX5_requirePattern_18 : decode cX5_requirePattern 18 = .ok (.athrow, 1) := by decide +kernel
theorem dX5_requirePattern_19 : decode cX5_requirePattern 19 = .ok (.return_, 1) := by decide +kernel
theorem dX5_requireOrder_0 : decode cX5_requireOrder 0 = .ok (.iload_n 1, 1) := by decide +kernel
theorem dX5_requireOrder_1 : decode cX5_requireOrder 1 = .ok (.ifCond .lt 11, 3) := by decide +kernel
theorem dX5_requireOrder_4 : decode cX5_requireOrder 4 = .ok (.iload_n 1, 1) := by decide +kernel
theorem dX5_requireOrder_5 : decode cX5_requireOrder 5 = .ok (.aload_n 0, 1) := by decide +kernel
theorem dX5_requireOrder_6 : decode cX5_requireOrder 6 = .ok (.getfield 25, 3) := by decide +kernel
theorem dX5_requireOrder_9 : decode cX5_requireOrder 9 = .ok (.if_icmp .lt 14, 3) := by decide +kernel
theorem dX5_requireOrder_12 : decode cX5_requireOrder 12 = .ok (.new 145, 3) := by decide +kernel
theorem dX5_requireOrder_15 : decode cX5_requireOrder 15 = .ok (.dup, 1) := by decide +kernel
theorem dX5_requireOrder_16 : decode cX5_requireOrder 16 = .ok (.ldc_w 270, 3) := by decide +kernel
theorem dX5_requireOrder_19 : decode cX5_requireOrder 19 = .ok (.invokespecial 149, 3) := by decide +kernel
theorem dX5_requireOrder_22 : decode cX5_requireOrder 22 = .ok (.athrow, 1) := by decide +kernel
theorem dX5_requireOrder_23 : decode cX5_requireOrder 23 = .ok (.return_, 1) := by decide +kernel
theorem dX5_requireSlit_0 : decode cX5_requireSlit 0 = .ok (.aload_n 0, 1) := by decide +kernel
theorem dX5_requireSlit_1 : decode cX5_requireSlit 1 = .ok (.iload_n 1, 1) := by decide +kernel
theorem dX5_requireSlit_2 : decode cX5_requireSlit 2 = .ok (.invokevirtual 98, 3) := by decide +kernel
theorem dX5_requireSlit_5 : decode cX5_requireSlit 5 = .ok (.aload_n 0, 1) := by decide +kernel
theorem dX5_requireSlit_6 : decode cX5_requireSlit 6 = .ok (.getfield 11, 3) := by decide +kernel
theorem dX5_requireSlit_9 : decode cX5_requireSlit 9 = .ok (.iload_n 1, 1) := by decide +kernel
theorem dX5_requireSlit_10 : decode cX5_requireSlit 10 = .ok (.aaload, 1) := by decide +kernel
theorem dX5_requireSlit_11 : decode cX5_requireSlit 11 = .ok (.iload_n 2, 1) := by decide +kernel
theorem dX5_requireSlit_12 : decode cX5_requireSlit 12 = .ok (.invokevirtual 272, 3) := by decide +kernel
theorem dX5_requireSlit_15 : decode cX5_requireSlit 15 = .ok (.ifCond .ne 14, 3) := by decide +kernel
theorem dX5_requireSlit_18 : decode cX5_requireSlit 18 = .ok (.new 145, 3) := by decide +kernel
theorem dX5_requireSlit_21 : decode cX5_requireSlit 21 = .ok (.dup, 1) := by decide +kernel
theorem dX5_requireSlit_22 : decode cX5_requireSlit 22 = .ok (.ldc_w 273, 3) := by decide +kernel
theorem dX5_requireSlit_25 : decode cX5_requireSlit 25 = .ok (.invokespecial 149, 3) := by decide +kernel
theorem dX5_requireSlit_28 : decode cX5_requireSlit 28 = .ok (.athrow, 1) := by decide +kernel
theorem dX5_requireSlit_29 : decode cX5_requireSlit 29 = .ok (.return_, 1) := by decide +kernel
theorem dX5_roomOf_0 : decode cX5_roomOf 0 = .ok (.aload_n 1, 1) := by decide +kernel
theorem dX5_roomOf_1 : decode cX5_roomOf 1 = .ok (.getfield 275, 3) := by decide +kernel
theorem dX5_roomOf_4 : decode cX5_roomOf 4 = .ok (.iconst 2, 1) := by decide +kernel
theorem dX5_roomOf_5 : decode cX5_roomOf 5 = .ok (.aload_n 0, 1) := by decide +kernel
theorem dX5_roomOf_6 : decode cX5_roomOf 6 = .ok (.getfield 42, 3) := by decide +kernel
theorem dX5_roomOf_9 : decode cX5_roomOf 9 = .ok (.imul, 1) := by decide +kernel
theorem dX5_roomOf_10 : decode cX5_roomOf 10 = .ok (.isub, 1) := by decide +kernel
theorem dX5_roomOf_11 : decode cX5_roomOf 11 = .ok (.ireturn, 1) := by decide +kernel
theorem dX5_canBeCutFrom_0 : decode cX5_canBeCutFrom 0 = .ok (.aload_n 1, 1) := by decide +kernel
theorem dX5_canBeCutFrom_1 : decode cX5_canBeCutFrom 1 = .ok (.invokevirtual 278, 3) := by decide +kernel
theorem dX5_canBeCutFrom_4 : decode cX5_canBeCutFrom 4 = .ok (.aload_n 0, 1) := by decide +kernel
theorem dX5_canBeCutFrom_5 : decode cX5_canBeCutFrom 5 = .ok (.aload_n 2, 1) := by decide +kernel
theorem dX5_canBeCutFrom_6 : decode cX5_canBeCutFrom 6 = .ok (.invokevirtual 170, 3) := by decide +kernel
theorem dX5_canBeCutFrom_9 : decode cX5_canBeCutFrom 9 = .ok (.if_icmp .gt 18, 3) := by decide +kernel
theorem dX5_canBeCutFrom_12 : decode cX5_canBeCutFrom 12 = .ok (.aload_n 1, 1) := by decide +kernel
theorem dX5_canBeCutFrom_13 : decode cX5_canBeCutFrom 13 = .ok (.invokevirtual 281, 3) := by decide +kernel
theorem dX5_canBeCutFrom_16 : decode cX5_canBeCutFrom 16 = .ok (.aload_n 0, 1) := by decide +kernel
theorem dX5_canBeCutFrom_17 : decode cX5_canBeCutFrom 17 = .ok (.getfield 48, 3) := by decide +kernel
theorem dX5_canBeCutFrom_20 : decode cX5_canBeCutFrom 20 = .ok (.if_icmp .gt 7, 3) := by decide +kernel
theorem dX5_canBeCutFrom_23 : decode cX5_canBeCutFrom 23 = .ok (.iconst 1, 1) := by decide +kernel
theorem dX5_canBeCutFrom_24 : decode cX5_canBeCutFrom 24 = .ok (.goto 4, 3) := by decide +kernel
theorem dX5_canBeCutFrom_27 : decode cX5_canBeCutFrom 27 = .ok (.iconst 0, 1) := by decide +kernel
theorem dX5_canBeCutFrom_28 : decode cX5_canBeCutFrom 28 = .ok (.ireturn, 1) := by decide +kernel
theorem dX5_offerWidthsFor_0 : decode cX5_offerWidthsFor 0 = .ok (.aload_n 0, 1) := by decide +kernel
theorem dX5_offerWidthsFor_1 : decode cX5_offerWidthsFor 1 = .ok (.getfield 70, 3) := by decide +kernel
theorem dX5_offerWidthsFor_4 : decode cX5_offerWidthsFor 4 = .ok (.invokevirtual 284, 3) := by decide +kernel
theorem dX5_offerWidthsFor_7 : decode cX5_offerWidthsFor 7 = .ok (.iconst 0, 1) := by decide +kernel
theorem dX5_offerWidthsFor_8 : decode cX5_offerWidthsFor 8 = .ok (.istore_n 2, 1) := by decide +kernel
theorem dX5_offerWidthsFor_9 : decode cX5_offerWidthsFor 9 = .ok (.iload_n 2, 1) := by decide +kernel
theorem dX5_offerWidthsFor_10 : decode cX5_offerWidthsFor 10 = .ok (.aload_n 0, 1) := by decide +kernel
theorem dX5_offerWidthsFor_11 : decode cX5_offerWidthsFor 11 = .ok (.getfield 25, 3) := by decide +kernel
theorem dX5_offerWidthsFor_14 : decode cX5_offerWidthsFor 14 = .ok (.if_icmp .ge 41, 3) := by decide +kernel
theorem dX5_offerWidthsFor_17 : decode cX5_offerWidthsFor 17 = .ok (.aload_n 0, 1) := by decide +kernel
theorem dX5_offerWidthsFor_18 : decode cX5_offerWidthsFor 18 = .ok (.getfield 21, 3) := by decide +kernel
theorem dX5_offerWidthsFor_21 : decode cX5_offerWidthsFor 21 = .ok (.iload_n 2, 1) := by decide +kernel
theorem dX5_offerWidthsFor_22 : decode cX5_offerWidthsFor 22 = .ok (.aaload, 1) := by decide +kernel
theorem dX5_offerWidthsFor_23 : decode cX5_offerWidthsFor 23 = .ok (.aload_n 1, 1) := by decide +kernel
theorem dX5_offerWidthsFor_24 : decode cX5_offerWidthsFor 24 = .ok (.getfield 287, 3) := by decide +kernel
theorem dX5_offerWidthsFor_27 : decode cX5_offerWidthsFor 27 = .ok (.invokevirtual 288, 3) := by decide +kernel
theorem dX5_offerWidthsFor_30 : decode cX5_offerWidthsFor 30 = .ok (.ifCond .eq 19, 3) := by decide +kernel
theorem dX5_offerWidthsFor_33 : decode cX5_offerWidthsFor 33 = .ok (.aload_n 0, 1) := by decide +kernel
theorem dX5_offerWidthsFor_34 : decode cX5_offerWidthsFor 34 = .ok (.getfield 70, 3) := by decide +kernel
theorem dX5_offerWidthsFor_37 : decode cX5_offerWidthsFor 37 = .ok (.aload_n 0, 1) := by decide +kernel
theorem dX5_offerWidthsFor_38 : decode cX5_offerWidthsFor 38 = .ok (.getfield 21, 3) := by decide +kernel
theorem dX5_offerWidthsFor_41 : decode cX5_offerWidthsFor 41 = .ok (.iload_n 2, 1) := by decide +kernel
theorem dX5_offerWidthsFor_42 : decode cX5_offerWidthsFor 42 = .ok (.aaload, 1) := by decide +kernel
theorem dX5_offerWidthsFor_43 : decode cX5_offerWidthsFor 43 = .ok (.getfield 291, 3) := by decide +kernel
theorem dX5_offerWidthsFor_46 : decode cX5_offerWidthsFor 46 = .ok (.invokevirtual 292, 3) := by decide +kernel
theorem dX5_offerWidthsFor_49 : decode cX5_offerWidthsFor 49 = .ok (.iinc 2 1, 3) := by decide +kernel
theorem dX5_offerWidthsFor_52 : decode cX5_offerWidthsFor 52 = .ok (.goto (-43), 3) := by decide +kernel
theorem dX5_offerWidthsFor_55 : decode cX5_offerWidthsFor 55 = .ok (.return_, 1) := by decide +kernel
theorem dX5_canBeRun_0 : decode cX5_canBeRun 0 = .ok (.aload_n 0, 1) := by decide +kernel
theorem dX5_canBeRun_1 : decode cX5_canBeRun 1 = .ok (.iload_n 1, 1) := by decide +kernel
theorem dX5_canBeRun_2 : decode cX5_canBeRun 2 = .ok (.invokevirtual 260, 3) := by decide +kernel
theorem dX5_canBeRun_5 : decode cX5_canBeRun 5 = .ok (.ifCond .eq 46, 3) := by decide +kernel
theorem dX5_canBeRun_8 : decode cX5_canBeRun 8 = .ok (.aload_n 0, 1) := by decide +kernel
theorem dX5_canBeRun_9 : decode cX5_canBeRun 9 = .ok (.iload_n 2, 1) := by decide +kernel
theorem dX5_canBeRun_10 : decode cX5_canBeRun 10 = .ok (.invokevirtual 265, 3) := by decide +kernel
theorem dX5_canBeRun_13 : decode cX5_canBeRun 13 = .ok (.ifCond .eq 38, 3) := by decide +kernel
theorem dX5_canBeRun_16 : decode cX5_canBeRun 16 = .ok (.aload_n 0, 1) := by decide +kernel
theorem dX5_canBeRun_17 : decode cX5_canBeRun 17 = .ok (.getfield 11, 3) := by decide +kernel
theorem dX5_canBeRun_20 : decode cX5_canBeRun 20 = .ok (.iload_n 1, 1) := by decide +kernel
theorem dX5_canBeRun_21 : decode cX5_canBeRun 21 = .ok (.aaload, 1) := by decide +kernel
theorem dX5_canBeRun_22 : decode cX5_canBeRun 22 = .ok (.invokevirtual 105, 3) := by decide +kernel
theorem dX5_canBeRun_25 : decode cX5_canBeRun 25 = .ok (.ifCond .ne 26, 3) := by decide +kernel
theorem dX5_canBeRun_28 : decode cX5_canBeRun 28 = .ok (.aload_n 0, 1) := by decide +kernel
theorem dX5_canBeRun_29 : decode cX5_canBeRun 29 = .ok (.aload_n 0, 1) := by decide +kernel
theorem dX5_canBeRun_30 : decode cX5_canBeRun 30 = .ok (.getfield 30, 3) := by decide +kernel
theorem dX5_canBeRun_33 : decode cX5_canBeRun 33 = .ok (.iload_n 2, 1) := by decide +kernel
theorem dX5_canBeRun_34 : decode cX5_canBeRun 34 = .ok (.aaload, 1) := by decide +kernel
theorem dX5_canBeRun_35 : decode cX5_canBeRun 35 = .ok (.aload_n 0, 1) := by decide +kernel
theorem dX5_canBeRun_36 : decode cX5_canBeRun 36 = .ok (.getfield 11, 3) := by decide +kernel
theorem dX5_canBeRun_39 : decode cX5_canBeRun 39 = .ok (.iload_n 1, 1) := by decide +kernel
theorem dX5_canBeRun_40 : decode cX5_canBeRun 40 = .ok (.aaload, 1) := by decide +kernel
theorem dX5_canBeRun_41 : decode cX5_canBeRun 41 = .ok (.invokevirtual 162, 3) := by decide +kernel
theorem dX5_canBeRun_44 : decode cX5_canBeRun 44 = .ok (.ifCond .eq 7, 3) := by decide +kernel
theorem dX5_canBeRun_47 : decode cX5_canBeRun 47 = .ok (.iconst 1, 1) := by decide +kernel
theorem dX5_canBeRun_48 : decode cX5_canBeRun 48 = .ok (.goto 4, 3) := by decide +kernel
theorem dX5_canBeRun_51 : decode cX5_canBeRun 51 = .ok (.iconst 0, 1) := by decide +kernel
theorem dX5_canBeRun_52 : decode cX5_canBeRun 52 = .ok (.ireturn, 1) := by decide +kernel
theorem dX5_slitCoil_0 : decode cX5_slitCoil 0 = .ok (.aload_n 0, 1) := by decide +kernel
theorem dX5_slitCoil_1 : decode cX5_slitCoil 1 = .ok (.dup, 1) := by decide +kernel
theorem dX5_slitCoil_2 : decode cX5_slitCoil 2 = .ok (.getfield 54, 3) := by decide +kernel
theorem dX5_slitCoil_5 : decode cX5_slitCoil 5 = .ok (.aload_n 0, 1) := by decide +kernel
theorem dX5_slitCoil_6 : decode cX5_slitCoil 6 = .ok (.aload_n 0, 1) := by decide +kernel
theorem dX5_slitCoil_7 : decode cX5_slitCoil 7 = .ok (.getfield 51, 3) := by decide +kernel
theorem dX5_slitCoil_10 : decode cX5_slitCoil 10 = .ok (.iload_n 2, 1) := by decide +kernel
theorem dX5_slitCoil_11 : decode cX5_slitCoil 11 = .ok (.invokevirtual 196, 3) := by decide +kernel
theorem dX5_slitCoil_14 : decode cX5_slitCoil 14 = .ok (.iadd, 1) := by decide +kernel
theorem dX5_slitCoil_15 : decode cX5_slitCoil 15 = .ok (.putfield 54, 3) := by decide +kernel
theorem dX5_slitCoil_18 : decode cX5_slitCoil 18 = .ok (.aload_n 0, 1) := by decide +kernel
theorem dX5_slitCoil_19 : decode cX5_slitCoil 19 = .ok (.iload_n 2, 1) := by decide +kernel
theorem dX5_slitCoil_20 : decode cX5_slitCoil 20 = .ok (.putfield 51, 3) := by decide +kernel
theorem dX5_slitCoil_23 : decode cX5_slitCoil 23 = .ok (.aload_n 0, 1) := by decide +kernel
theorem dX5_slitCoil_24 : decode cX5_slitCoil 24 = .ok (.getfield 11, 3) := by decide +kernel
theorem dX5_slitCoil_27 : decode cX5_slitCoil 27 = .ok (.iload_n 1, 1) := by decide +kernel
theorem dX5_slitCoil_28 : decode cX5_slitCoil 28 = .ok (.aaload, 1) := by decide +kernel
theorem dX5_slitCoil_29 : decode cX5_slitCoil 29 = .ok (.aload_n 0, 1) := by decide +kernel
theorem dX5_slitCoil_30 : decode cX5_slitCoil 30 = .ok (.getfield 30, 3) := by decide +kernel
theorem dX5_slitCoil_33 : decode cX5_slitCoil 33 = .ok (.iload_n 2, 1) := by decide +kernel
theorem dX5_slitCoil_34 : decode cX5_slitCoil 34 = .ok (.aaload, 1) := by decide +kernel
theorem dX5_slitCoil_35 : decode cX5_slitCoil 35 = .ok (.aload_n 0, 1) := by decide +kernel
theorem dX5_slitCoil_36 : decode cX5_slitCoil 36 = .ok (.getfield 45, 3) := by decide +kernel
theorem dX5_slitCoil_39 : decode cX5_slitCoil 39 = .ok (.invokevirtual 295, 3) := by decide +kernel
theorem dX5_slitCoil_42 : decode cX5_slitCoil 42 = .ok (.aload_n 0, 1) := by decide +kernel
theorem dX5_slitCoil_43 : decode cX5_slitCoil 43 = .ok (.aload_n 0, 1) := by decide +kernel
theorem dX5_slitCoil_44 : decode cX5_slitCoil 44 = .ok (.getfield 11, 3) := by decide +kernel
theorem dX5_slitCoil_47 : decode cX5_slitCoil 47 = .ok (.iload_n 1, 1) := by decide +kernel
theorem dX5_slitCoil_48 : decode cX5_slitCoil 48 = .ok (.aaload, 1) := by decide +kernel
theorem dX5_slitCoil_49 : decode cX5_slitCoil 49 = .ok (.invokevirtual 299, 3) := by decide +kernel
theorem dX5_slitCoil_52 : decode cX5_slitCoil 52 = .ok (.ireturn, 1) := by decide +kernel
theorem dX5_deliverSlits_0 : decode cX5_deliverSlits 0 = .ok (.iconst 0, 1) := by decide +kernel
theorem dX5_deliverSlits_1 : decode cX5_deliverSlits 1 = .ok (.istore_n 2, 1) := by decide +kernel
theorem dX5_deliverSlits_2 : decode cX5_deliverSlits 2 = .ok (.iconst 0, 1) := by decide +kernel
theorem dX5_deliverSlits_3 : decode cX5_deliverSlits 3 = .ok (.istore_n 3, 1) := by decide +kernel
theorem dX5_deliverSlits_4 : decode cX5_deliverSlits 4 = .ok (.iload_n 3, 1) := by decide +kernel
theorem dX5_deliverSlits_5 : decode cX5_deliverSlits 5 = .ok (.aload_n 1, 1) := by decide +kernel
theorem dX5_deliverSlits_6 : decode cX5_deliverSlits 6 = .ok (.getfield 222, 3) := by decide +kernel
theorem dX5_deliverSlits_9 : decode cX5_deliverSlits 9 = .ok (.if_icmp .ge 62, 3) := by decide +kernel
theorem dX5_deliverSlits_12 : decode cX5_deliverSlits 12 = .ok (.aload_n 0, 1) := by decide +kernel
theorem dX5_deliverSlits_13 : decode cX5_deliverSlits 13 = .ok (.aload_n 1, 1) := by decide +kernel
theorem dX5_deliverSlits_14 : decode cX5_deliverSlits 14 = .ok (.getfield 302, 3) := by decide +kernel
theorem dX5_deliverSlits_17 : decode cX5_deliverSlits 17 = .ok (.iload_n 3, 1) := by decide +kernel
theorem dX5_deliverSlits_18 : decode cX5_deliverSlits 18 = .ok (.iaload, 1) := by decide +kernel
theorem dX5_deliverSlits_19 : decode cX5_deliverSlits 19 = .ok (.aload_n 1, 1) := by decide +kernel
theorem dX5_deliverSlits_20 : decode cX5_deliverSlits 20 = .ok (.getfield 287, 3) := by decide +kernel
theorem dX5_deliverSlits_23 : decode cX5_deliverSlits 23 = .ok (.invokevirtual 305, 3) := by decide +kernel
theorem dX5_deliverSlits_26 : decode cX5_deliverSlits 26 = .ok (.istore 4, 2) := by decide +kernel
theorem dX5_deliverSlits_28 : decode cX5_deliverSlits 28 = .ok (.aload_n 1, 1) := by decide +kernel
theorem dX5_deliverSlits_29 : decode cX5_deliverSlits 29 = .ok (.getfield 231, 3) := by decide +kernel
theorem dX5_deliverSlits_32 : decode cX5_deliverSlits 32 = .ok (.iload_n 3, 1) := by decide +kernel
theorem dX5_deliverSlits_33 : decode cX5_deliverSlits 33 = .ok (.iload 4, 2) := by decide +kernel
theorem dX5_deliverSlits_35 : decode cX5_deliverSlits 35 = .ok (.iastore, 1) := by decide +kernel
theorem dX5_deliverSlits_36 : decode cX5_deliverSlits 36 = .ok (.iload 4, 2) := by decide +kernel
theorem dX5_deliverSlits_38 : decode cX5_deliverSlits 38 = .ok (.iconst (-1), 1) := by decide +kernel
theorem dX5_deliverSlits_39 : decode cX5_deliverSlits 39 = .ok (.if_icmp .eq 26, 3) := by decide +kernel
theorem dX5_deliverSlits_42 : decode cX5_deliverSlits 42 = .ok (.aload_n 0, 1) := by decide +kernel
theorem dX5_deliverSlits_43 : decode cX5_deliverSlits 43 = .ok (.getfield 21, 3) := by decide +kernel
theorem dX5_deliverSlits_46 : decode cX5_deliverSlits 46 = .ok (.iload 4, 2) := by decide +kernel
theorem dX5_deliverSlits_48 : decode cX5_deliverSlits 48 = .ok (.aaload, 1) := by decide +kernel
theorem dX5_deliverSlits_49 : decode cX5_deliverSlits 49 = .ok (.aload_n 1, 1) := by decide +kernel
theorem dX5_deliverSlits_50 : decode cX5_deliverSlits 50 = .ok (.getfield 228, 3) := by decide +kernel
theorem dX5_deliverSlits_53 : decode cX5_deliverSlits 53 = .ok (.iload_n 3, 1) := by decide +kernel
theorem dX5_deliverSlits_54 : decode cX5_deliverSlits 54 = .ok (.iaload, 1) := by decide +kernel
theorem dX5_deliverSlits_55 : decode cX5_deliverSlits 55 = .ok (.aload_n 1, 1) := by decide +kernel
theorem dX5_deliverSlits_56 : decode cX5_deliverSlits 56 = .ok (.getfield 287, 3) := by decide +kernel
theorem dX5_deliverSlits_59 : decode cX5_deliverSlits 59 = .ok (.invokevirtual 308, 3) := by decide +kernel
theorem dX5_deliverSlits_62 : decode cX5_deliverSlits 62 = .ok (.iinc 2 1, 3) := by decide +kernel
theorem dX5_deliverSlits_65 : decode cX5_deliverSlits 65 = .ok (.iinc 3 1, 3) := by decide +kernel
theorem dX5_deliverSlits_68 : decode cX5_deliverSlits 68 = .ok (.goto (-64), 3) := by decide +kernel
theorem dX5_deliverSlits_71 : decode cX5_deliverSlits 71 = .ok (.iload_n 2, 1) := by decide +kernel
theorem dX5_deliverSlits_72 : decode cX5_deliverSlits 72 = .ok (.ireturn, 1) := by decide +kernel
theorem dX5_takerOf_0 : decode cX5_takerOf 0 = .ok (.iconst 0, 1) := by decide +kernel
theorem dX5_takerOf_1 : decode cX5_takerOf 1 = .ok (.istore_n 3, 1) := by decide +kernel
theorem dX5_takerOf_2 : decode cX5_takerOf 2 = .ok (.iload_n 3, 1) := by decide +kernel
theorem dX5_takerOf_3 : decode cX5_takerOf 3 = .ok (.aload_n 0, 1) := by decide +kernel
theorem dX5_takerOf_4 : decode cX5_takerOf 4 = .ok (.getfield 25, 3) := by decide +kernel
theorem dX5_takerOf_7 : decode cX5_takerOf 7 = .ok (.if_icmp .ge 37, 3) := by decide +kernel
theorem dX5_takerOf_10 : decode cX5_takerOf 10 = .ok (.aload_n 0, 1) := by decide +kernel
theorem dX5_takerOf_11 : decode cX5_takerOf 11 = .ok (.getfield 21, 3) := by decide +kernel
theorem dX5_takerOf_14 : decode cX5_takerOf 14 = .ok (.iload_n 3, 1) := by decide +kernel
theorem dX5_takerOf_15 : decode cX5_takerOf 15 = .ok (.aaload, 1) := by decide +kernel
theorem dX5_takerOf_16 : decode cX5_takerOf 16 = .ok (.getfield 291, 3) := by decide +kernel
theorem dX5_takerOf_19 : decode cX5_takerOf 19 = .ok (.iload_n 1, 1) := by decide +kernel
theorem dX5_takerOf_20 : decode cX5_takerOf 20 = .ok (.if_icmp .ne 18, 3) := by decide +kernel
theorem dX5_takerOf_23 : decode cX5_takerOf 23 = .ok (.aload_n 0, 1) := by decide +kernel
theorem dX5_takerOf_24 : decode cX5_takerOf 24 = .ok (.getfield 21, 3) := by decide +kernel
theorem dX5_takerOf_27 : decode cX5_takerOf 27 = .ok (.iload_n 3, 1) := by decide +kernel
theorem dX5_takerOf_28 : decode cX5_takerOf 28 = .ok (.aaload, 1) := by decide +kernel
theorem dX5_takerOf_29 : decode cX5_takerOf 29 = .ok (.iload_n 2, 1) := by decide +kernel
theorem dX5_takerOf_30 : decode cX5_takerOf 30 = .ok (.invokevirtual 288, 3) := by decide +kernel
theorem dX5_takerOf_33 : decode cX5_takerOf 33 = .ok (.ifCond .eq 5, 3) := by decide +kernel
theorem dX5_takerOf_36 : decode cX5_takerOf 36 = .ok (.iload_n 3, 1) := by decide +kernel
theorem dX5_takerOf_37 : decode cX5_takerOf 37 = .ok (.ireturn, 1) := by decide +kernel
theorem dX5_takerOf_38 : decode cX5_takerOf 38 = .ok (.iinc 3 1, 3) := by decide +kernel
theorem dX5_takerOf_41 : decode cX5_takerOf 41 = .ok (.goto (-39), 3) := by decide +kernel
theorem dX5_takerOf_44 : decode cX5_takerOf 44 = .ok (.iconst (-1), 1) := by decide +kernel
theorem dX5_takerOf_45 : decode cX5_takerOf 45 = .ok (.ireturn, 1) := by decide +kernel
theorem dX5_movesBetween_0 : decode cX5_movesBetween 0 = .ok (.aload_n 0, 1) := by decide +kernel
theorem dX5_movesBetween_1 : decode cX5_movesBetween 1 = .ok (.iload_n 2, 1) := by decide +kernel
theorem dX5_movesBetween_2 : decode cX5_movesBetween 2 = .ok (.invokevirtual 265, 3) := by decide +kernel
theorem dX5_movesBetween_5 : decode cX5_movesBetween 5 = .ok (.ifCond .ne 5, 3) := by decide +kernel
theorem dX5_movesBetween_8 : decode cX5_movesBetween 8 = .ok (.iconst 0, 1) := by decide +kernel
theorem dX5_movesBetween_9 : decode cX5_movesBetween 9 = .ok (.ireturn, 1) := by decide +kernel
theorem dX5_movesBetween_10 : decode cX5_movesBetween 10 = .ok (.aload_n 0, 1) := by decide +kernel
theorem dX5_movesBetween_11 : decode cX5_movesBetween 11 = .ok (.iload_n 1, 1) := by decide +kernel
theorem dX5_movesBetween_12 : decode cX5_movesBetween 12 = .ok (.invokevirtual 265, 3) := by decide +kernel
theorem dX5_movesBetween_15 : decode cX5_movesBetween 15 = .ok (.ifCond .ne 13, 3) := by decide +kernel
theorem dX5_movesBetween_18 : decode cX5_movesBetween 18 = .ok (.aload_n 0, 1) := by decide +kernel
theorem dX5_movesBetween_19 : decode cX5_movesBetween 19 = .ok (.getfield 30, 3) := by decide +kernel
theorem dX5_movesBetween_22 : decode cX5_movesBetween 22 = .ok (.iload_n 2, 1) := by decide +kernel
theorem dX5_movesBetween_23 : decode cX5_movesBetween 23 = .ok (.aaload, 1) := by decide +kernel
theorem dX5_movesBetween_24 : decode cX5_movesBetween 24 = .ok (.invokevirtual 281, 3) := by decide +kernel
theorem dX5_movesBetween_27 : decode cX5_movesBetween 27 = .ok (.ireturn, 1) := by decide +kernel
theorem dX5_movesBetween_28 : decode cX5_movesBetween 28 = .ok (.aload_n 0, 1) := by decide +kernel
theorem dX5_movesBetween_29 : decode cX5_movesBetween 29 = .ok (.getfield 30, 3) := by decide +kernel
theorem dX5_movesBetween_32 : decode cX5_movesBetween 32 = .ok (.iload_n 2, 1) := by decide +kernel
theorem dX5_movesBetween_33 : decode cX5_movesBetween 33 = .ok (.aaload, 1) := by decide +kernel
theorem dX5_movesBetween_34 : decode cX5_movesBetween 34 = .ok (.aload_n 0, 1) := by decide +kernel
theorem dX5_movesBetween_35 : decode cX5_movesBetween 35 = .ok (.getfield 30, 3) := by decide +kernel
theorem dX5_movesBetween_38 : decode cX5_movesBetween 38 = .ok (.iload_n 1, 1) := by decide +kernel
theorem dX5_movesBetween_39 : decode cX5_movesBetween 39 = .ok (.aaload, 1) := by decide +kernel
theorem dX5_movesBetween_40 : decode cX5_movesBetween 40 = .ok (.invokevirtual 311, 3) := by decide +kernel
theorem dX5_movesBetween_43 : decode cX5_movesBetween 43 = .ok (.ireturn, 1) := by decide +kernel
theorem dX5_coilWaits_0 : decode cX5_coilWaits 0 = .ok (.iconst 0, 1) := by decide +kernel
theorem dX5_coilWaits_1 : decode cX5_coilWaits 1 = .ok (.istore_n 2, 1) := by decide +kernel
theorem dX5_coilWaits_2 : decode cX5_coilWaits 2 = .ok (.iload_n 2, 1) := by decide +kernel
theorem dX5_coilWaits_3 : decode cX5_coilWaits 3 = .ok (.aload_n 0, 1) := by decide +kernel
theorem dX5_coilWaits_4 : decode cX5_coilWaits 4 = .ok (.getfield 64, 3) := by decide +kernel
theorem dX5_coilWaits_7 : decode cX5_coilWaits 7 = .ok (.if_icmp .ge 21, 3) := by decide +kernel
theorem dX5_coilWaits_10 : decode cX5_coilWaits 10 = .ok (.aload_n 0, 1) := by decide +kernel
theorem dX5_coilWaits_11 : decode cX5_coilWaits 11 = .ok (.getfield 57, 3) := by decide +kernel
theorem dX5_coilWaits_14 : decode cX5_coilWaits 14 = .ok (.iload_n 2, 1) := by decide +kernel
theorem dX5_coilWaits_15 : decode cX5_coilWaits 15 = .ok (.iaload, 1) := by decide +kernel
theorem dX5_coilWaits_16 : decode cX5_coilWaits 16 = .ok (.iload_n 1, 1) := by decide +kernel
theorem dX5_coilWaits_17 : decode cX5_coilWaits 17 = .ok (.if_icmp .ne 5, 3) := by decide +kernel
theorem dX5_coilWaits_20 : decode cX5_coilWaits 20 = .ok (.iconst 1, 1) := by decide +kernel
theorem dX5_coilWaits_21 : decode cX5_coilWaits 21 = .ok (.ireturn, 1) := by decide +kernel
theorem dX5_coilWaits_22 : decode cX5_coilWaits 22 = .ok (.iinc 2 1, 3) := by decide +kernel
theorem dX5_coilWaits_25 : decode cX5_coilWaits 25 = .ok (.goto (-23), 3) := by decide +kernel
theorem dX5_coilWaits_28 : decode cX5_coilWaits 28 = .ok (.iconst 0, 1) := by decide +kernel
theorem dX5_coilWaits_29 : decode cX5_coilWaits 29 = .ok (.ireturn, 1) := by decide +kernel
theorem dX5_readMoves_0 : decode cX5_readMoves 0 = .ok (.iconst 0, 1) := by decide +kernel
theorem dX5_readMoves_1 : decode cX5_readMoves 1 = .ok (.istore_n 1, 1) := by decide +kernel
theorem dX5_readMoves_2 : decode cX5_readMoves 2 = .ok (.iload_n 1, 1) := by decide +kernel
theorem dX5_readMoves_3 : decode cX5_readMoves 3 = .ok (.aload_n 0, 1) := by decide +kernel
theorem dX5_readMoves_4 : decode cX5_readMoves 4 = .ok (.getfield 64, 3) := by decide +kernel
theorem dX5_readMoves_7 : decode cX5_readMoves 7 = .ok (.if_icmp .ge 78, 3) := by decide +kernel
theorem dX5_readMoves_10 : decode cX5_readMoves 10 = .ok (.aload_n 0, 1) := by decide +kernel
theorem dX5_readMoves_11 : decode cX5_readMoves 11 = .ok (.getfield 77, 3) := by decide +kernel
theorem dX5_readMoves_14 : decode cX5_readMoves 14 = .ok (.getfield 315, 3) := by decide +kernel
theorem dX5_readMoves_17 : decode cX5_readMoves 17 = .ok (.bipush 7, 2) := by decide +kernel
theorem dX5_readMoves_19 : decode cX5_readMoves 19 = .ok (.aaload, 1) := by decide +kernel
theorem dX5_readMoves_20 : decode cX5_readMoves 20 = .ok (.iload_n 1, 1) := by decide +kernel
theorem dX5_readMoves_21 : decode cX5_readMoves 21 = .ok (.aload_n 0, 1) := by decide +kernel
theorem dX5_readMoves_22 : decode cX5_readMoves 22 = .ok (.aload_n 0, 1) := by decide +kernel
theorem dX5_readMoves_23 : decode cX5_readMoves 23 = .ok (.getfield 51, 3) := by decide +kernel
theorem dX5_readMoves_26 : decode cX5_readMoves 26 = .ok (.aload_n 0, 1) := by decide +kernel
theorem dX5_readMoves_27 : decode cX5_readMoves 27 = .ok (.getfield 61, 3) := by decide +kernel
theorem dX5_readMoves_30 : decode cX5_readMoves 30 = .ok (.iload_n 1, 1) := by decide +kernel
theorem dX5_readMoves_31 : decode cX5_readMoves 31 = .ok (.iaload, 1) := by decide +kernel
theorem dX5_readMoves_32 : decode cX5_readMoves 32 = .ok (.invokevirtual 196, 3) := by decide +kernel
theorem dX5_readMoves_35 : decode cX5_readMoves 35 = .ok (.iastore, 1) := by decide +kernel
theorem dX5_readMoves_36 : decode cX5_readMoves 36 = .ok (.iconst 0, 1) := by decide +kernel
theorem dX5_readMoves_37 : decode cX5_readMoves 37 = .ok (.istore_n 2, 1) := by decide +kernel
theorem dX5_readMoves_38 : decode cX5_readMoves 38 = .ok (.iload_n 2, 1) := by decide +kernel
theorem dX5_readMoves_39 : decode cX5_readMoves 39 = .ok (.aload_n 0, 1) := by decide +kernel
theorem dX5_readMoves_40 : decode cX5_readMoves 40 = .ok (.getfield 64, 3) := by decide +kernel
theorem dX5_readMoves_43 : decode cX5_readMoves 43 = .ok (.if_icmp .ge 36, 3) := by decide +kernel
theorem dX5_readMoves_46 : decode cX5_readMoves 46 = .ok (.aload_n 0, 1) := by decide +kernel
theorem dX5_readMoves_47 : decode cX5_readMoves 47 = .ok (.getfield 77, 3) := by decide +kernel
theorem dX5_readMoves_50 : decode cX5_readMoves 50 = .ok (.getfield 315, 3) := by decide +kernel
theorem dX5_readMoves_53 : decode cX5_readMoves 53 = .ok (.iload_n 2, 1) := by decide +kernel
theorem dX5_readMoves_54 : decode cX5_readMoves 54 = .ok (.aaload, 1) := by decide +kernel
theorem dX5_readMoves_55 : decode cX5_readMoves 55 = .ok (.iload_n 1, 1) := by decide +kernel
theorem dX5_readMoves_56 : decode cX5_readMoves 56 = .ok (.aload_n 0, 1) := by decide +kernel
theorem dX5_readMoves_57 : decode cX5_readMoves 57 = .ok (.aload_n 0, 1) := by decide +kernel
theorem dX5_readMoves_58 : decode cX5_readMoves 58 = .ok (.getfield 61, 3) := by decide +kernel
theorem dX5_readMoves_61 : decode cX5_readMoves 61 = .ok (.iload_n 2, 1) := by decide +kernel
theorem dX5_readMoves_62 : decode cX5_readMoves 62 = .ok (.iaload, 1) := by decide +kernel
theorem dX5_readMoves_63 : decode cX5_readMoves 63 = .ok (.aload_n 0, 1) := by decide +kernel
theorem dX5_readMoves_64 : decode cX5_readMoves 64 = .ok (.getfield 61, 3) := by decide +kernel
theorem dX5_readMoves_67 : decode cX5_readMoves 67 = .ok (.iload_n 1, 1) := by decide +kernel
theorem dX5_readMoves_68 : decode cX5_readMoves 68 = .ok (.iaload, 1) := by decide +kernel
theorem dX5_readMoves_69 : decode cX5_readMoves 69 = .ok (.invokevirtual 196, 3) := by decide +kernel
theorem dX5_readMoves_72 : decode cX5_readMoves 72 = .ok (.iastore, 1) := by decide +kernel
theorem dX5_readMoves_73 : decode cX5_readMoves 73 = .ok (.iinc 2 1, 3) := by decide +kernel
theorem dX5_readMoves_76 : decode cX5_readMoves 76 = .ok (.goto (-38), 3) := by decide +kernel
theorem dX5_readMoves_79 : decode cX5_readMoves 79 = .ok (.iinc 1 1, 3) := by decide +kernel
theorem dX5_readMoves_82 : decode cX5_readMoves 82 = .ok (.goto (-80), 3) := by decide +kernel
theorem dX5_readMoves_85 : decode cX5_readMoves 85 = .ok (.return_, 1) := by decide +kernel
end
section
theorem dX6_init_0 : decode cX6_init 0 = .ok (.aload_n 0, 1) := by decide +kernel
theorem dX6_init_1 : decode cX6_init 1 = .ok (.invokespecial 1, 3) := by decide +kernel
theorem dX6_init_4 : decode cX6_init 4 = .ok (.aload_n 0, 1) := by decide +kernel
theorem dX6_init_5 : decode cX6_init 5 = .ok (.bipush 20, 2) := by decide +kernel
theorem dX6_init_7 : decode cX6_init 7 = .ok (.newarray .int, 2) := by decide +kernel
theorem dX6_init_9 : decode cX6_init 9 = .ok (.putfield 7, 3) := by decide +kernel
theorem dX6_init_12 : decode cX6_init 12 = .ok (.aload_n 0, 1) := by decide +kernel
theorem dX6_init_13 : decode cX6_init 13 = .ok (.bipush 20, 2) := by decide +kernel
theorem dX6_init_15 : decode cX6_init 15 = .ok (.newarray .int, 2) := by decide +kernel
theorem dX6_init_17 : decode cX6_init 17 = .ok (.putfield 13, 3) := by decide +kernel
theorem dX6_init_20 : decode cX6_init 20 = .ok (.aload_n 0, 1) := by decide +kernel
theorem dX6_init_21 : decode cX6_init 21 = .ok (.bipush 20, 2) := by decide +kernel
theorem dX6_init_23 : decode cX6_init 23 = .ok (.newarray .int, 2) := by decide +kernel
theorem dX6_init_25 : decode cX6_init 25 = .ok (.putfield 16, 3) := by decide +kernel
theorem dX6_init_28 : decode cX6_init 28 = .ok (.aload_n 0, 1) := by decide +kernel
theorem dX6_init_29 : decode cX6_init 29 = .ok (.bipush 20, 2) := by decide +kernel
theorem dX6_init_31 : decode cX6_init 31 = .ok (.newarray .int, 2) := by decide +kernel
theorem dX6_init_33 : decode cX6_init 33 = .ok (.putfield 19, 3) := by decide +kernel
theorem dX6_init_36 : decode cX6_init 36 = .ok (.aload_n 0, 1) := by decide +kernel
theorem dX6_init_37 : decode cX6_init 37 = .ok (.sipush 160, 3) := by decide +kernel
theorem dX6_init_40 : decode cX6_init 40 = .ok (.newarray .int, 2) := by decide +kernel
theorem dX6_init_42 : decode cX6_init 42 = .ok (.putfield 22, 3) := by decide +kernel
theorem dX6_init_45 : decode cX6_init 45 = .ok (.aload_n 0, 1) := by decide +kernel
theorem dX6_init_46 : decode cX6_init 46 = .ok (.sipush 160, 3) := by decide +kernel
theorem dX6_init_49 : decode cX6_init 49 = .ok (.newarray .int, 2) := by decide +kernel
theorem dX6_init_51 : decode cX6_init 51 = .ok (.putfield 25, 3) := by decide +kernel
theorem dX6_init_54 : decode cX6_init 54 = .ok (.aload_n 0, 1) := by decide +kernel
theorem dX6_init_55 : decode cX6_init 55 = .ok (.bipush 20, 2) := by decide +kernel
theorem dX6_init_57 : decode cX6_init 57 = .ok (.newarray .int, 2) := by decide +kernel
theorem dX6_init_59 : decode cX6_init 59 = .ok (.putfield 28, 3) := by decide +kernel
theorem dX6_init_62 : decode cX6_init 62 = .ok (.aload_n 0, 1) := by decide +kernel
theorem dX6_init_63 : decode cX6_init 63 = .ok (.bipush 10, 2) := by decide +kernel
theorem dX6_init_65 : decode cX6_init 65 = .ok (.putfield 31, 3) := by decide +kernel
theorem dX6_init_68 : decode cX6_init 68 = .ok (.aload_n 0, 1) := by decide +kernel
theorem dX6_init_69 : decode cX6_init 69 = .ok (.bipush 20, 2) := by decide +kernel
theorem dX6_init_71 : decode cX6_init 71 = .ok (.putfield 35, 3) := by decide +kernel
theorem dX6_init_74 : decode cX6_init 74 = .ok (.aload_n 0, 1) := by decide +kernel
theorem dX6_init_75 : decode cX6_init 75 = .ok (.bipush 8, 2) := by decide +kernel
theorem dX6_init_77 : decode cX6_init 77 = .ok (.putfield 38, 3) := by decide +kernel
theorem dX6_init_80 : decode cX6_init 80 = .ok (.aload_n 0, 1) := by decide +kernel
theorem dX6_init_81 : decode cX6_init 81 = .ok (.bipush 12, 2) := by decide +kernel
theorem dX6_init_83 : decode cX6_init 83 = .ok (.newarray .int, 2) := by decide +kernel
theorem dX6_init_85 : decode cX6_init 85 = .ok (.putfield 41, 3) := by decide +kernel
theorem dX6_init_88 : decode cX6_init 88 = .ok (.aload_n 0, 1) := by decide +kernel
theorem dX6_init_89 : decode cX6_init 89 = .ok (.bipush 12, 2) := by decide +kernel
theorem dX6_init_91 : decode cX6_init 91 = .ok (.newarray .int, 2) := by decide +kernel
theorem dX6_init_93 : decode cX6_init 93 = .ok (.putfield 44, 3) := by decide +kernel
theorem dX6_init_96 : decode cX6_init 96 = .ok (.aload_n 0, 1) := by decide +kernel
theorem dX6_init_97 : decode cX6_init 97 = .ok (.bipush 12, 2) := by decide +kernel
theorem dX6_init_99 : decode cX6_init 99 = .ok (.newarray .int, 2) := by decide +kernel
theorem dX6_init_101 : decode cX6_init 101 = .ok (.putfield 47, 3) := by decide +kernel
theorem dX6_init_104 : decode cX6_init 104 = .ok (.aload_n 0, 1) := by decide +kernel
theorem dX6_init_105 : decode cX6_init 105 = .ok (.bipush 12, 2) := by decide +kernel
theorem dX6_init_107 : decode cX6_init 107 = .ok (.newarray .int, 2) := by decide +kernel
theorem dX6_init_109 : decode cX6_init 109 = .ok (.putfield 50, 3) := by decide +kernel
theorem dX6_init_112 : decode cX6_init 112 = .ok (.aload_n 0, 1) := by decide +kernel
theorem dX6_init_113 : decode cX6_init 113 = .ok (.sipush 165, 3) := by decide +kernel
theorem dX6_init_116 : decode cX6_init 116 = .ok (.newarray .int, 2) := by decide +kernel
theorem dX6_init_118 : decode cX6_init 118 = .ok (.putfield 53, 3) := by decide +kernel
theorem dX6_init_121 : decode cX6_init 121 = .ok (.aload_n 0, 1) := by decide +kernel
theorem dX6_init_122 : decode cX6_init 122 = .ok (.bipush 11, 2) := by decide +kernel
theorem dX6_init_124 : decode cX6_init 124 = .ok (.newarray .int, 2) := by decide +kernel
theorem dX6_init_126 : decode cX6_init 126 = .ok (.putfield 56, 3) := by decide +kernel
theorem dX6_init_129 : decode cX6_init 129 = .ok (.aload_n 0, 1) := by decide +kernel
theorem dX6_init_130 : decode cX6_init 130 = .ok (.bipush 20, 2) := by decide +kernel
theorem dX6_init_132 : decode cX6_init 132 = .ok (.newarray .int, 2) := by decide +kernel
theorem dX6_init_134 : decode cX6_init 134 = .ok (.putfield 59, 3) := by decide +kernel
theorem dX6_init_137 : decode cX6_init 137 = .ok (.aload_n 0, 1) := by decide +kernel
theorem dX6_init_138 : decode cX6_init 138 = .ok (.sipush 300, 3) := by decide +kernel
theorem dX6_init_141 : decode cX6_init 141 = .ok (.newarray .int, 2) := by decide +kernel
theorem dX6_init_143 : decode cX6_init 143 = .ok (.putfield 62, 3) := by decide +kernel
theorem dX6_init_146 : decode cX6_init 146 = .ok (.aload_n 0, 1) := by decide +kernel
theorem dX6_init_147 : decode cX6_init 147 = .ok (.sipush 300, 3) := by decide +kernel
theorem dX6_init_150 : decode cX6_init 150 = .ok (.newarray .int, 2) := by decide +kernel
theorem dX6_init_152 : decode cX6_init 152 = .ok (.putfield 65, 3) := by decide +kernel
theorem dX6_init_155 : decode cX6_init 155 = .ok (.aload_n 0, 1) := by decide +kernel
theorem dX6_init_156 : decode cX6_init 156 = .ok (.bipush 60, 2) := by decide +kernel
theorem dX6_init_158 : decode cX6_init 158 = .ok (.newarray .int, 2) := by decide +kernel
theorem dX6_init_160 : decode cX6_init 160 = .ok (.putfield 68, 3) := by decide +kernel
theorem dX6_init_163 : decode cX6_init 163 = .ok (.aload_n 0, 1) := by decide +kernel
theorem dX6_init_164 : decode cX6_init 164 = .ok (.iconst (-1), 1) := by decide +kernel
theorem dX6_init_165 : decode cX6_init 165 = .ok (.putfield 71, 3) := by decide +kernel
theorem dX6_init_168 : decode cX6_init 168 = .ok (.aload_n 0, 1) := by decide +kernel
theorem dX6_init_169 : decode cX6_init 169 = .ok (.bipush 7, 2) := by decide +kernel
theorem dX6_init_171 : decode cX6_init 171 = .ok (.newarray .int, 2) := by decide +kernel
theorem dX6_init_173 : decode cX6_init 173 = .ok (.putfield 74, 3) := by decide +kernel
theorem dX6_init_176 : decode cX6_init 176 = .ok (.aload_n 0, 1) := by decide +kernel
theorem dX6_init_177 : decode cX6_init 177 = .ok (.bipush 7, 2) := by decide +kernel
theorem dX6_init_179 : decode cX6_init 179 = .ok (.newarray .int, 2) := by decide +kernel
theorem dX6_init_181 : decode cX6_init 181 = .ok (.putfield 77, 3) := by decide +kernel
theorem dX6_init_184 : decode cX6_init 184 = .ok (.aload_n 0, 1) := by decide +kernel
theorem dX6_init_185 : decode cX6_init 185 = .ok (.sipush 2001, 3) := by decide +kernel
theorem dX6_init_188 : decode cX6_init 188 = .ok (.newarray .int, 2) := by decide +kernel
theorem dX6_init_190 : decode cX6_init 190 = .ok (.putfield 80, 3) := by decide +kernel
theorem dX6_init_193 : decode cX6_init 193 = .ok (.aload_n 0, 1) := by decide +kernel
theorem dX6_init_194 : decode cX6_init 194 = .ok (.sipush 1024, 3) := by decide +kernel
theorem dX6_init_197 : decode cX6_init 197 = .ok (.newarray .int, 2) := by decide +kernel
theorem dX6_init_199 : decode cX6_init 199 = .ok (.putfield 83, 3) := by decide +kernel
theorem dX6_init_202 : decode cX6_init 202 = .ok (.aload_n 0, 1) := by decide +kernel
theorem dX6_init_203 : decode cX6_init 203 = .ok (.bipush 7, 2) := by decide +kernel
theorem dX6_init_205 : decode cX6_init 205 = .ok (.newarray .int, 2) := by decide +kernel
theorem dX6_init_207 : decode cX6_init 207 = .ok (.putfield 86, 3) := by decide +kernel
theorem dX6_init_210 : decode cX6_init 210 = .ok (.return_, 1) := by decide +kernel
theorem dX6_thrown_0 : decode cX6_thrown 0 = .ok (.aload_n 0, 1) := by decide +kernel
theorem dX6_thrown_1 : decode cX6_thrown 1 = .ok (.getfield 89, 3) := by decide +kernel
theorem dX6_thrown_4 : decode cX6_thrown 4 = .ok (.ireturn, 1) := by decide +kernel
theorem dX6_in_0 : decode cX6_in 0 = .ok (.iload_n 0, 1) := by decide +kernel
theorem dX6_in_1 : decode cX6_in 1 = .ok (.iload_n 1, 1) := by decide +kernel
theorem dX6_in_2 : decode cX6_in 2 = .ok (.if_icmp .lt 12, 3) := by decide +kernel
theorem dX6_in_5 : decode cX6_in 5 = .ok (.iload_n 0, 1) := by decide +kernel
theorem dX6_in_6 : decode cX6_in 6 = .ok (.iload_n 2, 1) := by decide +kernel
theorem dX6_in_7 : decode cX6_in 7 = .ok (.if_icmp .gt 7, 3) := by decide +kernel
theorem dX6_in_10 : decode cX6_in 10 = .ok (.iconst 1, 1) := by decide +kernel
theorem dX6_in_11 : decode cX6_in 11 = .ok (.goto 4, 3) := by decide +kernel
theorem dX6_in_14 : decode cX6_in 14 = .ok (.iconst 0, 1) := by decide +kernel
theorem dX6_in_15 : decode cX6_in 15 = .ok (.ireturn, 1) := by decide +kernel
theorem dX6_asked_0 : decode cX6_asked 0 = .ok (.aload_n 0, 1) := by decide +kernel
theorem dX6_asked_1 : decode cX6_asked 1 = .ok (.iload_n 1, 1) := by decide +kernel
theorem dX6_asked_2 : decode cX6_asked 2 = .ok (.ifCond .eq 7, 3) := by decide +kernel
theorem dX6_asked_5 : decode cX6_asked 5 = .ok (.iconst 0, 1) := by decide +kernel
theorem dX6_asked_6 : decode cX6_asked 6 = .ok (.goto 4, 3) := by decide +kernel
theorem dX6_asked_9 : decode cX6_asked 9 = .ok (.iconst 1, 1) := by decide +kernel
theorem dX6_asked_10 : decode cX6_asked 10 = .ok (.putfield 89, 3) := by decide +kernel
theorem dX6_asked_13 : decode cX6_asked 13 = .ok (.iload_n 1, 1) := by decide +kernel
theorem dX6_asked_14 : decode cX6_asked 14 = .ok (.ireturn, 1) := by decide +kernel
theorem dX6_asked__0 : decode cX6_asked_ 0 = .ok (.aload_n 0, 1) := by decide +kernel
theorem dX6_asked__1 : decode cX6_asked_ 1 = .ok (.iload_n 1, 1) := by decide +kernel
theorem dX6_asked__2 : decode cX6_asked_ 2 = .ok (.ifCond .ne 7, 3) := by decide +kernel
theorem dX6_asked__5 : decode cX6_asked_ 5 = .ok (.iconst 1, 1) := by decide +kernel
theorem dX6_asked__6 : decode cX6_asked_ 6 = .ok (.goto 12, 3) := by decide +kernel
theorem dX6_asked__9 : decode cX6_asked_ 9 = .ok (.iload_n 2, 1) := by decide +kernel
theorem dX6_asked__10 : decode cX6_asked_ 10 = .ok (.ifCond .eq 7, 3) := by decide +kernel
theorem dX6_asked__13 : decode cX6_asked_ 13 = .ok (.iconst 0, 1) := by decide +kernel
theorem dX6_asked__14 : decode cX6_asked_ 14 = .ok (.goto 4, 3) := by decide +kernel
theorem dX6_asked__17 : decode cX6_asked_ 17 = .ok (.iconst 2, 1) := by decide +kernel
theorem dX6_asked__18 : decode cX6_asked_ 18 = .ok (.putfield 89, 3) := by decide +kernel
theorem dX6_asked__21 : decode cX6_asked_ 21 = .ok (.aload_n 0, 1) := by decide +kernel
theorem dX6_asked__22 : decode cX6_asked_ 22 = .ok (.getfield 89, 3) := by decide +kernel
theorem dX6_asked__25 : decode cX6_asked_ 25 = .ok (.ifCond .ne 7, 3) := by decide +kernel
theorem dX6_asked__28 : decode cX6_asked_ 28 = .ok (.iconst 1, 1) := by decide +kernel
theorem dX6_asked__29 : decode cX6_asked_ 29 = .ok (.goto 4, 3) := by decide +kernel
theorem dX6_asked__32 : decode cX6_asked_ 32 = .ok (.iconst 0, 1) := by decide +kernel
theorem dX6_asked__33 : decode cX6_asked_ 33 = .ok (.ireturn, 1) := by decide +kernel
theorem dX6_asked___0 : decode cX6_asked__ 0 = .ok (.aload_n 0, 1) := by decide +kernel
theorem dX6_asked___1 : decode cX6_asked__ 1 = .ok (.iload_n 1, 1) := by decide +kernel
theorem dX6_asked___2 : decode cX6_asked__ 2 = .ok (.ifCond .ne 7, 3) := by decide +kernel
theorem dX6_asked___5 : decode cX6_asked__ 5 = .ok (.iconst 1, 1) := by decide +kernel
theorem dX6_asked___6 : decode cX6_asked__ 6 = .ok (.goto 20, 3) := by decide +kernel
theorem dX6_asked___9 : decode cX6_asked__ 9 = .ok (.iload_n 2, 1) := by decide +kernel
theorem dX6_asked___10 : decode cX6_asked__ 10 = .ok (.ifCond .ne 7, 3) := by decide +kernel
theorem dX6_asked___13 : decode cX6_asked__ 13 = .ok (.iconst 2, 1) := by decide +kernel
theorem dX6_asked___14 : decode cX6_asked__ 14 = .ok (.goto 12, 3) := by decide +kernel
theorem dX6_asked___17 : decode cX6_asked__ 17 = .ok (.iload_n 3, 1) := by decide +kernel
theorem dX6_asked___18 : decode cX6_asked__ 18 = .ok (.ifCond .eq 7, 3) := by decide +kernel
theorem dX6_asked___21 : decode cX6_asked__ 21 = .ok (.iconst 0, 1) := by decide +kernel
theorem dX6_asked___22 : decode cX6_asked__ 22 = .ok (.goto 4, 3) := by decide +kernel
theorem dX6_asked___25 : decode cX6_asked__ 25 = .ok (.iconst 3, 1) := by decide +kernel
theorem dX6_asked___26 : decode cX6_asked__ 26 = .ok (.putfield 89, 3) := by decide +kernel
theorem dX6_asked___29 : decode cX6_asked__ 29 = .ok (.aload_n 0, 1) := by decide +kernel
theorem dX6_asked___30 : decode cX6_asked__ 30 = .ok (.getfield 89, 3) := by decide +kernel
theorem dX6_asked___33 : decode cX6_asked__ 33 = .ok (.ifCond .ne 7, 3) := by decide +kernel
theorem dX6_asked___36 : decode cX6_asked__ 36 = .ok (.iconst 1, 1) := by decide +kernel
theorem dX6_asked___37 : decode cX6_asked__ 37 = .ok (.goto 4, 3) := by decide +kernel
theorem dX6_asked___40 : decode cX6_asked__ 40 = .ok (.iconst 0, 1) := by decide +kernel
theorem dX6_asked___41 : decode cX6_asked__ 41 = .ok (.ireturn, 1) := by decide +kernel
theorem dX6_told_0 : decode cX6_told 0 = .ok (.aload_n 0, 1) := by decide +kernel
theorem dX6_told_1 : decode cX6_told 1 = .ok (.iconst 0, 1) := by decide +kernel
theorem dX6_told_2 : decode cX6_told 2 = .ok (.putfield 89, 3) := by decide +kernel
theorem dX6_told_5 : decode cX6_told 5 = .ok (.iload_n 1, 1) := by decide +kernel
theorem dX6_told_6 : decode cX6_told 6 = .ok (.ireturn, 1) := by decide +kernel
theorem dX6_isCoil_0 : decode cX6_isCoil 0 = .ok (.iload_n 1, 1) := by decide +kernel
theorem dX6_isCoil_1 : decode cX6_isCoil 1 = .ok (.iconst 0, 1) := by decide +kernel
theorem dX6_isCoil_2 : decode cX6_isCoil 2 = .ok (.aload_n 0, 1) := by decide +kernel
theorem dX6_isCoil_3 : decode cX6_isCoil 3 = .ok (.getfield 92, 3) := by decide +kernel
theorem dX6_isCoil_6 : decode cX6_isCoil 6 = .ok (.iconst 1, 1) := by decide +kernel
theorem dX6_isCoil_7 : decode cX6_isCoil 7 = .ok (.isub, 1) := by decide +kernel
theorem dX6_isCoil_8 : decode cX6_isCoil 8 = .ok (.invokestatic 95, 3) := by decide +kernel
theorem dX6_isCoil_11 : decode cX6_isCoil 11 = .ok (.ireturn, 1) := by decide +kernel
theorem dX6_isPattern_0 : decode cX6_isPattern 0 = .ok (.iload_n 1, 1) := by decide +kernel
theorem dX6_isPattern_1 : decode cX6_isPattern 1 = .ok (.iconst 0, 1) := by decide +kernel
theorem dX6_isPattern_2 : decode cX6_isPattern 2 = .ok (.aload_n 0, 1) := by decide +kernel
theorem dX6_isPattern_3 : decode cX6_isPattern 3 = .ok (.getfield 99, 3) := by decide +kernel
theorem dX6_isPattern_6 : decode cX6_isPattern 6 = .ok (.iconst 1, 1) := by decide +kernel
theorem dX6_isPattern_7 : decode cX6_isPattern 7 = .ok (.isub, 1) := by decide +kernel
theorem dX6_isPattern_8 : decode cX6_isPattern 8 = .ok (.invokestatic 95, 3) := by decide +kernel
theorem dX6_isPattern_11 : decode cX6_isPattern 11 = .ok (.ireturn, 1) := by decide +kernel
theorem dX6_coil_0 : decode cX6_coil 0 = .ok (.iload_n 1, 1) := by decide +kernel
theorem dX6_coil_1 : decode cX6_coil 1 = .ok (.bipush 100, 2) := by decide +kernel
theorem dX6_coil_3 : decode cX6_coil 3 = .ok (.sipush 2000, 3) := by decide +kernel
theorem dX6_coil_6 : decode cX6_coil 6 = .ok (.invokestatic 95, 3) := by decide +kernel
theorem dX6_coil_9 : decode cX6_coil 9 = .ok (.ifCond .eq 41, 3) := by decide +kernel
theorem dX6_coil_12 : decode cX6_coil 12 = .ok (.iload_n 2, 1) := by decide +kernel
theorem dX6_coil_13 : decode cX6_coil 13 = .ok (.iconst 1, 1) := by decide +kernel
theorem dX6_coil_14 : decode cX6_coil 14 = .ok (.sipush 30000, 3) := by decide +kernel
theorem dX6_coil_17 : decode cX6_coil 17 = .ok (.invokestatic 95, 3) := by decide +kernel
theorem dX6_coil_20 : decode cX6_coil 20 = .ok (.ifCond .eq 30, 3) := by decide +kernel
theorem dX6_coil_23 : decode cX6_coil 23 = .ok (.iload_n 3, 1) := by decide +kernel
theorem dX6_coil_24 : decode cX6_coil 24 = .ok (.bipush 10, 2) := by decide +kernel
theorem dX6_coil_26 : decode cX6_coil 26 = .ok (.sipush 5000, 3) := by decide +kernel
theorem dX6_coil_29 : decode cX6_coil 29 = .ok (.invokestatic 95, 3) := by decide +kernel
theorem dX6_coil_32 : decode cX6_coil 32 = .ok (.ifCond .eq 18, 3) := by decide +kernel
theorem dX6_coil_35 : decode cX6_coil 35 = .ok (.iload 4, 2) := by decide +kernel
theorem dX6_coil_37 : decode cX6_coil 37 = .ok (.iconst 1, 1) := by decide +kernel
theorem dX6_coil_38 : decode cX6_coil 38 = .ok (.bipush 99, 2) := by decide +kernel
theorem dX6_coil_40 : decode cX6_coil 40 = .ok (.invokestatic 95, 3) := by decide +kernel
theorem dX6_coil_43 : decode cX6_coil 43 = .ok (.ifCond .eq 7, 3) := by decide +kernel
theorem dX6_coil_46 : decode cX6_coil 46 = .ok (.iconst 1, 1) := by decide +kernel
theorem dX6_coil_47 : decode cX6_coil 47 = .ok (.goto 4, 3) := by decide +kernel
theorem dX6_coil_50 : decode cX6_coil 50 = .ok (.iconst 0, 1) := by decide +kernel
theorem dX6_coil_51 : decode cX6_coil 51 = .ok (.istore 5, 2) := by decide +kernel
theorem dX6_coil_53 : decode cX6_coil 53 = .ok (.aload_n 0, 1) := by decide +kernel
theorem dX6_coil_54 : decode cX6_coil 54 = .ok (.iload 5, 2) := by decide +kernel
theorem dX6_coil_56 : decode cX6_coil 56 = .ok (.aload_n 0, 1) := by decide +kernel
theorem dX6_coil_57 : decode cX6_coil 57 = .ok (.getfield 92, 3) := by decide +kernel
theorem dX6_coil_60 : decode cX6_coil 60 = .ok (.bipush 20, 2) := by decide +kernel
theorem dX6_coil_62 : decode cX6_coil 62 = .ok (.if_icmp .ge 7, 3) := by decide +kernel
theorem dX6_coil_65 : decode cX6_coil 65 = .ok (.iconst 1, 1) := by decide +kernel
theorem dX6_coil_66 : decode cX6_coil 66 = .ok (.goto 4, 3) := by decide +kernel
theorem dX6_coil_69 : decode cX6_coil 69 = .ok (.iconst 0, 1) := by decide +kernel
theorem dX6_coil_70 : decode cX6_coil 70 = .ok (.invokevirtual 102, 3) := by decide +kernel
theorem dX6_coil_73 : decode cX6_coil 73 = .ok (.ifCond .ne 5, 3) := by decide +kernel
theorem dX6_coil_76 : decode cX6_coil 76 = .ok (.iconst 0, 1) := by decide +kernel
theorem dX6_coil_77 : decode cX6_coil 77 = .ok (.ireturn, 1) := by decide +kernel
theorem dX6_coil_78 : decode cX6_coil 78 = .ok (.aload_n 0, 1) := by decide +kernel
theorem dX6_coil_79 : decode cX6_coil 79 = .ok (.getfield 7, 3) := by decide +kernel
theorem dX6_coil_82 : decode cX6_coil 82 = .ok (.aload_n 0, 1) := by decide +kernel
theorem dX6_coil_83 : decode cX6_coil 83 = .ok (.getfield 92, 3) := by decide +kernel
theorem dX6_coil_86 : decode cX6_coil 86 = .ok (.iload_n 1, 1) := by decide +kernel
theorem dX6_coil_87 : decode cX6_coil 87 = .ok (.iastore, 1) := by decide +kernel
theorem dX6_coil_88 : decode cX6_coil 88 = .ok (.aload_n 0, 1) := by decide +kernel
theorem dX6_coil_89 : decode cX6_coil 89 = .ok (.getfield 13, 3) := by decide +kernel
theorem dX6_coil_92 : decode cX6_coil 92 = .ok (.aload_n 0, 1) := by decide +kernel
theorem dX6_coil_93 : decode cX6_coil 93 = .ok (.getfield 92, 3) := by decide +kernel
theorem dX6_coil_96 : decode cX6_coil 96 = .ok (.iload_n 2, 1) := by decide +kernel
theorem dX6_coil_97 : decode cX6_coil 97 = .ok (.iastore, 1) := by decide +kernel
theorem dX6_coil_98 : decode cX6_coil 98 = .ok (.aload_n 0, 1) := by decide +kernel
theorem dX6_coil_99 : decode cX6_coil 99 = .ok (.getfield 16, 3) := by decide +kernel
theorem dX6_coil_102 : decode cX6_coil 102 = .ok (.aload_n 0, 1) := by decide +kernel
theorem dX6_coil_103 : decode cX6_coil 103 = .ok (.getfield 92, 3) := by decide +kernel
theorem dX6_coil_106 : decode cX6_coil 106 = .ok (.iload_n 3, 1) := by decide +kernel
theorem dX6_coil_107 : decode cX6_coil 107 = .ok (.iastore, 1) := by decide +kernel
theorem dX6_coil_108 : decode cX6_coil 108 = .ok (.aload_n 0, 1) := by decide +kernel
theorem dX6_coil_109 : decode cX6_coil 109 = .ok (.getfield 19, 3) := by decide +kernel
theorem dX6_coil_112 : decode cX6_coil 112 = .ok (.aload_n 0, 1) := by decide +kernel
theorem dX6_coil_113 : decode cX6_coil 113 = .ok (.getfield 92, 3) := by decide +kernel
theorem dX6_coil_116 : decode cX6_coil 116 = .ok (.iload 4, 2) := by decide +kernel
theorem dX6_coil_118 : decode cX6_coil 118 = .ok (.iastore, 1) := by decide +kernel
theorem dX6_coil_119 : decode cX6_coil 119 = .ok (.aload_n 0, 1) := by decide +kernel
theorem dX6_coil_120 : decode cX6_coil 120 = .ok (.getfield 59, 3) := by decide +kernel
theorem dX6_coil_123 : decode cX6_coil 123 = .ok (.aload_n 0, 1) := by decide +kernel
theorem dX6_coil_124 : decode cX6_coil 124 = .ok (.getfield 92, 3) := by decide +kernel
theorem dX6_coil_127 : decode cX6_coil 127 = .ok (.iconst (-1), 1) := by decide +kernel
theorem dX6_coil_128 : decode cX6_coil 128 = .ok (.iastore, 1) := by decide +kernel
theorem dX6_coil_129 : decode cX6_coil 129 = .ok (.aload_n 0, 1) := by decide +kernel
theorem dX6_coil_130 : decode cX6_coil 130 = .ok (.dup, 1) := by decide +kernel
theorem dX6_coil_131 : decode cX6_coil 131 = .ok (.getfield 92, 3) := by decide +kernel
theorem dX6_coil_134 : decode cX6_coil 134 = .ok (.iconst 1, 1) := by decide +kernel
theorem dX6_coil_135 : decode cX6_coil 135 = .ok (.iadd, 1) := by decide +kernel
theorem dX6_coil_136 : decode cX6_coil 136 = .ok (.putfield 92, 3) := by decide +kernel
theorem dX6_coil_139 : decode cX6_coil 139 = .ok (.aload_n 0, 1) := by decide +kernel
theorem dX6_coil_140 : decode cX6_coil 140 = .ok (.getfield 92, 3) := by decide +kernel
theorem dX6_coil_143 : decode cX6_coil 143 = .ok (.iconst 1, 1) := by decide +kernel
theorem dX6_coil_144 : decode cX6_coil 144 = .ok (.isub, 1) := by decide +kernel
theorem dX6_coil_145 : decode cX6_coil 145 = .ok (.ireturn, 1) := by decide +kernel
theorem dX6_cutOut_0 : decode cX6_cutOut 0 = .ok (.iconst 0, 1) := by decide +kernel
theorem dX6_cutOut_1 : decode cX6_cutOut 1 = .ok (.istore_n 2, 1) := by decide +kernel
theorem dX6_cutOut_2 : decode cX6_cutOut 2 = .ok (.iconst 0, 1) := by decide +kernel
theorem dX6_cutOut_3 : decode cX6_cutOut 3 = .ok (.istore_n 3, 1) := by decide +kernel
theorem dX6_cutOut_4 : decode cX6_cutOut 4 = .ok (.iload_n 3, 1) := by decide +kernel
theorem dX6_cutOut_5 : decode cX6_cutOut 5 = .ok (.aload_n 0, 1) := by decide +kernel
theorem dX6_cutOut_6 : decode cX6_cutOut 6 = .ok (.getfield 16, 3) := by decide +kernel
theorem dX6_cutOut_9 : decode cX6_cutOut 9 = .ok (.iload_n 1, 1) := by decide +kernel
theorem dX6_cutOut_10 : decode cX6_cutOut 10 = .ok (.iaload, 1) := by decide +kernel
theorem dX6_cutOut_11 : decode cX6_cutOut 11 = .ok (.if_icmp .ge 87, 3) := by decide +kernel
theorem dX6_cutOut_14 : decode cX6_cutOut 14 = .ok (.iconst 0, 1) := by decide +kernel
theorem dX6_cutOut_15 : decode cX6_cutOut 15 = .ok (.istore 4, 2) := by decide +kernel
theorem dX6_cutOut_17 : decode cX6_cutOut 17 = .ok (.bipush 8, 2) := by decide +kernel
theorem dX6_cutOut_19 : decode cX6_cutOut 19 = .ok (.iload_n 1, 1) := by decide +kernel
theorem dX6_cutOut_20 : decode cX6_cutOut 20 = .ok (.imul, 1) := by decide +kernel
theorem dX6_cutOut_21 : decode cX6_cutOut 21 = .ok (.istore 5, 2) := by decide +kernel
theorem dX6_cutOut_23 : decode cX6_cutOut 23 = .ok (.iload 5, 2) := by decide +kernel
theorem dX6_cutOut_25 : decode cX6_cutOut 25 = .ok (.bipush 8, 2) := by decide +kernel
theorem dX6_cutOut_27 : decode cX6_cutOut 27 = .ok (.iload_n 1, 1) := by decide +kernel
theorem dX6_cutOut_28 : decode cX6_cutOut 28 = .ok (.imul, 1) := by decide +kernel
theorem dX6_cutOut_29 : decode cX6_cutOut 29 = .ok (.aload_n 0, 1) := by decide +kernel
theorem dX6_cutOut_30 : decode cX6_cutOut 30 = .ok (.getfield 28, 3) := by decide +kernel
theorem dX6_cutOut_33 : decode cX6_cutOut 33 = .ok (.iload_n 1, 1) := by decide +kernel
theorem dX6_cutOut_34 : decode cX6_cutOut 34 = .ok (.iaload, 1) := by decide +kernel
theorem dX6_cutOut_35 : decode cX6_cutOut 35 = .ok (.iadd, 1) := by decide +kernel
theorem dX6_cutOut_36 : decode cX6_cutOut 36 = .ok (.if_icmp .ge 43, 3) := by decide +kernel
theorem dX6_cutOut_39 : decode cX6_cutOut 39 = .ok (.iload 4, 2) := by decide +kernel
theorem dX6_cutOut_41 : decode cX6_cutOut 41 = .ok (.ifCond .ne 25, 3) := by decide +kernel
theorem dX6_cutOut_44 : decode cX6_cutOut 44 = .ok (.iload_n 3, 1) := by decide +kernel
theorem dX6_cutOut_45 : decode cX6_cutOut 45 = .ok (.aload_n 0, 1) := by decide +kernel
theorem dX6_cutOut_46 : decode cX6_cutOut 46 = .ok (.getfield 22, 3) := by decide +kernel
theorem dX6_cutOut_49 : decode cX6_cutOut 49 = .ok (.iload 5, 2) := by decide +kernel
theorem dX6_cutOut_51 : decode cX6_cutOut 51 = .ok (.iaload, 1) := by decide +kernel
theorem dX6_cutOut_52 : decode cX6_cutOut 52 = .ok (.if_icmp .lt 18, 3) := by decide +kernel
theorem dX6_cutOut_55 : decode cX6_cutOut 55 = .ok (.iload_n 3, 1) := by decide +kernel
theorem dX6_cutOut_56 : decode cX6_cutOut 56 = .ok (.aload_n 0, 1) := by decide +kernel
theorem dX6_cutOut_57 : decode cX6_cutOut 57 = .ok (.getfield 25, 3) := by decide +kernel
theorem dX6_cutOut_60 : decode cX6_cutOut 60 = .ok (.iload 5, 2) := by decide +kernel
theorem dX6_cutOut_62 : decode cX6_cutOut 62 = .ok (.iaload, 1) := by decide +kernel
theorem dX6_cutOut_63 : decode cX6_cutOut 63 = .ok (.if_icmp .ge 7, 3) := by decide +kernel
theorem dX6_cutOut_66 : decode cX6_cutOut 66 = .ok (.iconst 1, 1) := by decide +kernel
theorem dX6_cutOut_67 : decode cX6_cutOut 67 = .ok (.goto 4, 3) := by decide +kernel
theorem dX6_cutOut_70 : decode cX6_cutOut 70 = .ok (.iconst 0, 1) := by decide +kernel
theorem dX6_cutOut_71 : decode cX6_cutOut 71 = .ok (.istore 4, 2) := by decide +kernel
theorem dX6_cutOut_73 : decode cX6_cutOut 73 = .ok (.iinc 5 1, 3) := by decide +kernel
theorem dX6_cutOut_76 : decode cX6_cutOut 76 = .ok (.goto (-53), 3) := by decide +kernel
theorem dX6_cutOut_79 : decode cX6_cutOut 79 = .ok (.iload_n 2, 1) := by decide +kernel
theorem dX6_cutOut_80 : decode cX6_cutOut 80 = .ok (.iload 4, 2) := by decide +kernel
theorem dX6_cutOut_82 : decode cX6_cutOut 82 = .ok (.ifCond .eq 7, 3) := by decide +kernel
theorem dX6_cutOut_85 : decode cX6_cutOut 85 = .ok (.iconst 1, 1) := by decide +kernel
theorem dX6_cutOut_86 : decode cX6_cutOut 86 = .ok (.goto 4, 3) := by decide +kernel
theorem dX6_cutOut_89 : decode cX6_cutOut 89 = .ok (.iconst 0, 1) := by decide +kernel
theorem dX6_cutOut_90 : decode cX6_cutOut 90 = .ok (.iadd, 1) := by decide +kernel
theorem dX6_cutOut_91 : decode cX6_cutOut 91 = .ok (.istore_n 2, 1) := by decide +kernel
theorem dX6_cutOut_92 : decode cX6_cutOut 92 = .ok (.iinc 3 1, 3) := by decide +kernel
theorem dX6_cutOut_95 : decode cX6_cutOut 95 = .ok (.goto (-91), 3) := by decide +kernel
theorem dX6_cutOut_98 : decode cX6_cutOut 98 = .ok (.iload_n 2, 1) := by decide +kernel
theorem dX6_cutOut_99 : decode cX6_cutOut 99 = .ok (.ireturn, 1) := by decide +kernel
theorem dX6_defect_0 : decode cX6_defect 0 = .ok (.aload_n 0, 1) := by decide +kernel
theorem dX6_defect_1 : decode cX6_defect 1 = .ok (.iload_n 1, 1) := by decide +kernel
theorem dX6_defect_2 : decode cX6_defect 2 = .ok (.invokevirtual 106, 3) := by decide +kernel
theorem dX6_defect_5 : decode cX6_defect 5 = .ok (.istore 4, 2) := by decide +kernel
theorem dX6_defect_7 : decode cX6_defect 7 = .ok (.iload 4, 2) := by decide +kernel
theorem dX6_defect_9 : decode cX6_defect 9 = .ok (.ifCond .eq 39, 3) := by decide +kernel
theorem dX6_defect_12 : decode cX6_defect 12 = .ok (.iload_n 2, 1) := by decide +kernel
theorem dX6_defect_13 : decode cX6_defect 13 = .ok (.iconst 0, 1) := by decide +kernel
theorem dX6_defect_14 : decode cX6_defect 14 = .ok (.aload_n 0, 1) := by decide +kernel
theorem dX6_defect_15 : decode cX6_defect 15 = .ok (.getfield 16, 3) := by decide +kernel
theorem dX6_defect_18 : decode cX6_defect 18 = .ok (.iload_n 1, 1) := by decide +kernel
theorem dX6_defect_19 : decode cX6_defect 19 = .ok (.iaload, 1) := by decide +kernel
theorem dX6_defect_20 : decode cX6_defect 20 = .ok (.iconst 1, 1) := by decide +kernel
theorem dX6_defect_21 : decode cX6_defect 21 = .ok (.isub, 1) := by decide +kernel
theorem dX6_defect_22 : decode cX6_defect 22 = .ok (.invokestatic 95, 3) := by decide +kernel
theorem dX6_defect_25 : decode cX6_defect 25 = .ok (.ifCond .eq 23, 3) := by decide +kernel
theorem dX6_defect_28 : decode cX6_defect 28 = .ok (.iload_n 3, 1) := by decide +kernel
theorem dX6_defect_29 : decode cX6_defect 29 = .ok (.iload_n 2, 1) := by decide +kernel
theorem dX6_defect_30 : decode cX6_defect 30 = .ok (.iconst 1, 1) := by decide +kernel
theorem dX6_defect_31 : decode cX6_defect 31 = .ok (.iadd, 1) := by decide +kernel
theorem dX6_defect_32 : decode cX6_defect 32 = .ok (.aload_n 0, 1) := by decide +kernel
theorem dX6_defect_33 : decode cX6_defect 33 = .ok (.getfield 16, 3) := by decide +kernel
theorem dX6_defect_36 : decode cX6_defect 36 = .ok (.iload_n 1, 1) := by decide +kernel
theorem dX6_defect_37 : decode cX6_defect 37 = .ok (.iaload, 1) := by decide +kernel
theorem dX6_defect_38 : decode cX6_defect 38 = .ok (.invokestatic 95, 3) := by decide +kernel
theorem dX6_defect_41 : decode cX6_defect 41 = .ok (.ifCond .eq 7, 3) := by decide +kernel
theorem dX6_defect_44 : decode cX6_defect 44 = .ok (.iconst 1, 1) := by decide +kernel
theorem dX6_defect_45 : decode cX6_defect 45 = .ok (.goto 4, 3) := by decide +kernel
theorem dX6_defect_48 : decode cX6_defect 48 = .ok (.iconst 0, 1) := by decide +kernel
theorem dX6_defect_49 : decode cX6_defect 49 = .ok (.istore 5, 2) := by decide +kernel
theorem dX6_defect_51 : decode cX6_defect 51 = .ok (.aload_n 0, 1) := by decide +kernel
theorem dX6_defect_52 : decode cX6_defect 52 = .ok (.iload 4, 2) := by decide +kernel
theorem dX6_defect_54 : decode cX6_defect 54 = .ok (.iload 5, 2) := by decide +kernel
theorem dX6_defect_56 : decode cX6_defect 56 = .ok (.iload 4, 2) := by decide +kernel
theorem dX6_defect_58 : decode cX6_defect 58 = .ok (.ifCond .eq 28, 3) := by decide +kernel
theorem dX6_defect_61 : decode cX6_defect 61 = .ok (.aload_n 0, 1) := by decide +kernel
theorem dX6_defect_62 : decode cX6_defect 62 = .ok (.getfield 59, 3) := by decide +kernel
theorem dX6_defect_65 : decode cX6_defect 65 = .ok (.iload_n 1, 1) := by decide +kernel
theorem dX6_defect_66 : decode cX6_defect 66 = .ok (.iaload, 1) := by decide +kernel
theorem dX6_defect_67 : decode cX6_defect 67 = .ok (.iconst (-1), 1) := by decide +kernel
theorem dX6_defect_68 : decode cX6_defect 68 = .ok (.if_icmp .ne 18, 3) := by decide +kernel
theorem dX6_defect_71 : decode cX6_defect 71 = .ok (.aload_n 0, 1) := by decide +kernel
theorem dX6_defect_72 : decode cX6_defect 72 = .ok (.getfield 28, 3) := by decide +kernel
theorem dX6_defect_75 : decode cX6_defect 75 = .ok (.iload_n 1, 1) := by decide +kernel
theorem dX6_defect_76 : decode cX6_defect 76 = .ok (.iaload, 1) := by decide +kernel
theorem dX6_defect_77 : decode cX6_defect 77 = .ok (.bipush 8, 2) := by decide +kernel
theorem dX6_defect_79 : decode cX6_defect 79 = .ok (.if_icmp .ge 7, 3) := by decide +kernel
theorem dX6_defect_82 : decode cX6_defect 82 = .ok (.iconst 1, 1) := by decide +kernel
theorem dX6_defect_83 : decode cX6_defect 83 = .ok (.goto 4, 3) := by decide +kernel
theorem dX6_defect_86 : decode cX6_defect 86 = .ok (.iconst 0, 1) := by decide +kernel
theorem dX6_defect_87 : decode cX6_defect 87 = .ok (.invokevirtual 110, 3) := by decide +kernel
theorem dX6_defect_90 : decode cX6_defect 90 = .ok (.ifCond .ne 5, 3) := by decide +kernel
theorem dX6_defect_93 : decode cX6_defect 93 = .ok (.iconst 0, 1) := by decide +kernel
theorem dX6_defect_94 : decode cX6_defect 94 = .ok (.ireturn, 1) := by decide +kernel
theorem dX6_defect_95 : decode cX6_defect 95 = .ok (.aload_n 0, 1) := by decide +kernel
theorem dX6_defect_96 : decode cX6_defect 96 = .ok (.getfield 22, 3) := by decide +kernel
theorem dX6_defect_99 : decode cX6_defect 99 = .ok (.bipush 8, 2) := by decide +kernel
theorem dX6_defect_101 : decode cX6_defect 101 = .ok (.iload_n 1, 1) := by decide +kernel
theorem dX6_defect_102 : decode cX6_defect 102 = .ok (.imul, 1) := by decide +kernel
theorem dX6_defect_103 : decode cX6_defect 103 = .ok (.aload_n 0, 1) := by decide +kernel
theorem dX6_defect_104 : decode cX6_defect 104 = .ok (.getfield 28, 3) := by decide +kernel
theorem dX6_defect_107 : decode cX6_defect 107 = .ok (.iload_n 1, 1) := by decide +kernel
theorem dX6_defect_108 : decode cX6_defect 108 = .ok (.iaload, 1) := by decide +kernel
theorem dX6_defect_109 : decode cX6_defect 109 = .ok (.iadd, 1) := by decide +kernel
theorem dX6_defect_110 : decode cX6_defect 110 = .ok (.iload_n 2, 1) := by decide +kernel
theorem dX6_defect_111 : decode cX6_defect 111 = .ok (.iastore, 1) := by decide +kernel
theorem dX6_defect_112 : decode cX6_defect 112 = .ok (.aload_n 0, 1) := by decide +kernel
theorem dX6_defect_113 : decode cX6_defect 113 = .ok (.getfield 25, 3) := by decide +kernel
theorem dX6_defect_116 : decode cX6_defect 116 = .ok (.bipush 8, 2) := by decide +kernel
theorem dX6_defect_118 : decode cX6_defect 118 = .ok (.iload_n 1, 1) := by decide +kernel
theorem dX6_defect_119 : decode cX6_defect 119 = .ok (.imul, 1) := by decide +kernel
theorem dX6_defect_120 : decode cX6_defect 120 = .ok (.aload_n 0, 1) := by decide +kernel
theorem dX6_defect_121 : decode cX6_defect 121 = .ok (.getfield 28, 3) := by decide +kernel
theorem dX6_defect_124 : decode cX6_defect 124 = .ok (.iload_n 1, 1) := by decide +kernel
theorem dX6_defect_125 : decode cX6_defect 125 = .ok (.iaload, 1) := by decide +kernel
theorem dX6_defect_126 : decode cX6_defect 126 = .ok (.iadd, 1) := by decide +kernel
theorem dX6_defect_127 : decode cX6_defect 127 = .ok (.iload_n 3, 1) := by decide +kernel
theorem dX6_defect_128 : decode cX6_defect 128 = .ok (.iastore, 1) := by decide +kernel
theorem dX6_defect_129 : decode cX6_defect 129 = .ok (.aload_n 0, 1) := by decide +kernel
theorem dX6_defect_130 : decode cX6_defect 130 = .ok (.getfield 28, 3) := by decide +kernel
theorem dX6_defect_133 : decode cX6_defect 133 = .ok (.iload_n 1, 1) := by decide +kernel
theorem dX6_defect_134 : decode cX6_defect 134 = .ok (.dup2, 1) := by decide +kernel
theorem dX6_defect_135 : decode cX6_defect 135 = .ok (.iaload, 1) := by decide +kernel
theorem dX6_defect_136 : decode cX6_defect 136 = .ok (.iconst 1, 1) := by decide +kernel
theorem dX6_defect_137 : decode cX6_defect 137 = .ok (.iadd, 1) := by decide +kernel
theorem dX6_defect_138 : decode cX6_defect 138 = .ok (.iastore, 1) := by decide +kernel
theorem dX6_defect_139 : decode cX6_defect 139 = .ok (.aload_n 0, 1) := by decide +kernel
theorem dX6_defect_140 : decode cX6_defect 140 = .ok (.iload_n 1, 1) := by decide +kernel
theorem dX6_defect_141 : decode cX6_defect 141 = .ok (.invokevirtual 113, 3) := by decide +kernel
theorem dX6_defect_144 : decode cX6_defect 144 = .ok (.ireturn, 1) := by decide +kernel
theorem dX6_setRules_0 : decode cX6_setRules 0 = .ok (.aload_n 0, 1) := by decide +kernel
theorem dX6_setRules_1 : decode cX6_setRules 1 = .ok (.iload_n 1, 1) := by decide +kernel
theorem dX6_setRules_2 : decode cX6_setRules 2 = .ok (.iconst 0, 1) := by decide +kernel
theorem dX6_setRules_3 : decode cX6_setRules 3 = .ok (.bipush 100, 2) := by decide +kernel
theorem dX6_setRules_5 : decode cX6_setRules 5 = .ok (.invokestatic 95, 3) := by decide +kernel
theorem dX6_setRules_8 : decode cX6_setRules 8 = .ok (.ifCond .eq 28, 3) := by decide +kernel
theorem dX6_setRules_11 : decode cX6_setRules 11 = .ok (.iload_n 2, 1) := by decide +kernel
theorem dX6_setRules_12 : decode cX6_setRules 12 = .ok (.iconst 0, 1) := by decide +kernel
theorem dX6_setRules_13 : decode cX6_setRules 13 = .ok (.sipush 500, 3) := by decide +kernel
theorem dX6_setRules_16 : decode cX6_setRules 16 = .ok (.invokestatic 95, 3) := by decide +kernel
theorem dX6_setRules_19 : decode cX6_setRules 19 = .ok (.ifCond .eq 17, 3) := by decide +kernel
theorem dX6_setRules_22 : decode cX6_setRules 22 = .ok (.iload_n 3, 1) := by decide +kernel
theorem dX6_setRules_23 : decode cX6_setRules 23 = .ok (.iconst 2, 1) := by decide +kernel
theorem dX6_setRules_24 : decode cX6_setRules 24 = .ok (.bipush 16, 2) := by decide +kernel
theorem dX6_setRules_26 : decode cX6_setRules 26 = .ok (.invokestatic 95, 3) := by decide +kernel
theorem dX6_setRules_29 : decode cX6_setRules 29 = .ok (.ifCond .eq 7, 3) := by decide +kernel
theorem dX6_setRules_32 : decode cX6_setRules 32 = .ok (.iconst 1, 1) := by decide +kernel
theorem dX6_setRules_33 : decode cX6_setRules 33 = .ok (.goto 4, 3) := by decide +kernel
theorem dX6_setRules_36 : decode cX6_setRules 36 = .ok (.iconst 0, 1) := by decide +kernel
theorem dX6_setRules_37 : decode cX6_setRules 37 = .ok (.invokevirtual 117, 3) := by decide +kernel
theorem dX6_setRules_40 : decode cX6_setRules 40 = .ok (.ifCond .ne 5, 3) := by decide +kernel
theorem dX6_setRules_43 : decode cX6_setRules 43 = .ok (.iconst 0, 1) := by decide +kernel
theorem dX6_setRules_44 : decode cX6_setRules 44 = .ok (.ireturn, 1) := by decide +kernel
theorem dX6_setRules_45 : decode cX6_setRules 45 = .ok (.aload_n 0, 1) := by decide +kernel
theorem dX6_setRules_46 : decode cX6_setRules 46 = .ok (.getfield 31, 3) := by decide +kernel
theorem dX6_setRules_49 : decode cX6_setRules 49 = .ok (.istore 4, 2) := by decide +kernel
theorem dX6_setRules_51 : decode cX6_setRules 51 = .ok (.aload_n 0, 1) := by decide +kernel
theorem dX6_setRules_52 : decode cX6_setRules 52 = .ok (.iload_n 1, 1) := by decide +kernel
theorem dX6_setRules_53 : decode cX6_setRules 53 = .ok (.putfield 31, 3) := by decide +kernel
theorem dX6_setRules_56 : decode cX6_setRules 56 = .ok (.aload_n 0, 1) := by decide +kernel
theorem dX6_setRules_57 : decode cX6_setRules 57 = .ok (.iload_n 2, 1) := by decide +kernel
theorem dX6_setRules_58 : decode cX6_setRules 58 = .ok (.putfield 35, 3) := by decide +kernel
theorem dX6_setRules_61 : decode cX6_setRules 61 = .ok (.aload_n 0, 1) := by decide +kernel
theorem dX6_setRules_62 : decode cX6_setRules 62 = .ok (.iload_n 3, 1) := by decide +kernel
theorem dX6_setRules_63 : decode cX6_setRules 63 = .ok (.putfield 38, 3) := by decide +kernel
theorem dX6_setRules_66 : decode cX6_setRules 66 = .ok (.iload 4, 2) := by decide +kernel
theorem dX6_setRules_68 : decode cX6_setRules 68 = .ok (.ireturn, 1) := by decide +kernel
theorem dX6_order_0 : decode cX6_order 0 = .ok (.aload_n 0, 1) := by decide +kernel
theorem dX6_order_1 : decode cX6_order 1 = .ok (.iload_n 1, 1) := by decide +kernel
theorem dX6_order_2 : decode cX6_order 2 = .ok (.bipush 20, 2) := by decide +kernel
theorem dX6_order_4 : decode cX6_order 4 = .ok (.sipush 1000, 3) := by decide +kernel
theorem dX6_order_7 : decode cX6_order 7 = .ok (.invokestatic 95, 3) := by decide +kernel
theorem dX6_order_10 : decode cX6_order 10 = .ok (.ifCond .eq 17, 3) := by decide +kernel
theorem dX6_order_13 : decode cX6_order 13 = .ok (.iload_n 2, 1) := by decide +kernel
theorem dX6_order_14 : decode cX6_order 14 = .ok (.iconst 1, 1) := by decide +kernel
theorem dX6_order_15 : decode cX6_order 15 = .ok (.ldc 120, 2) := by decide +kernel
theorem dX6_order_17 : decode cX6_order 17 = .ok (.invokestatic 95, 3) := by decide +kernel
theorem dX6_order_20 : decode cX6_order 20 = .ok (.ifCond .eq 7, 3) := by decide +kernel
theorem dX6_order_23 : decode cX6_order 23 = .ok (.iconst 1, 1) := by decide +kernel
theorem dX6_order_24 : decode cX6_order 24 = .ok (.goto 4, 3) := by decide +kernel
theorem dX6_order_27 : decode cX6_order 27 = .ok (.iconst 0, 1) := by decide +kernel
theorem dX6_order_28 : decode cX6_order 28 = .ok (.aload_n 0, 1) := by decide +kernel
theorem dX6_order_29 : decode cX6_order 29 = .ok (.getfield 121, 3) := by decide +kernel
theorem dX6_order_32 : decode cX6_order 32 = .ok (.bipush 12, 2) := by decide +kernel
theorem dX6_order_34 : decode cX6_order 34 = .ok (.if_icmp .ge 7, 3) := by decide +kernel
theorem dX6_order_37 : decode cX6_order 37 = .ok (.iconst 1, 1) := by decide +kernel
theorem dX6_order_38 : decode cX6_order 38 = .ok (.goto 4, 3) := by decide +kernel
theorem dX6_order_41 : decode cX6_order 41 = .ok (.iconst 0, 1) := by decide +kernel
theorem dX6_order_42 : decode cX6_order 42 = .ok (.invokevirtual 102, 3) := by decide +kernel
theorem dX6_order_45 : decode cX6_order 45 = .ok (.ifCond .ne 5, 3) := by decide +kernel
theorem dX6_order_48 : decode cX6_order 48 = .ok (.iconst 0, 1) := by decide +kernel
theorem dX6_order_49 : decode cX6_order 49 = .ok (.ireturn, 1) := by decide +kernel
theorem dX6_order_50 : decode cX6_order 50 = .ok (.aload_n 0, 1) := by decide +kernel
theorem dX6_order_51 : decode cX6_order 51 = .ok (.getfield 41, 3) := by decide +kernel
theorem dX6_order_54 : decode cX6_order 54 = .ok (.aload_n 0, 1) := by decide +kernel
theorem dX6_order_55 : decode cX6_order 55 = .ok (.getfield 121, 3) := by decide +kernel
theorem dX6_order_58 : decode cX6_order 58 = .ok (.iload_n 1, 1) := by decide +kernel
theorem dX6_order_59 : decode cX6_order 59 = .ok (.iastore, 1) := by decide +kernel
theorem dX6_order_60 : decode cX6_order 60 = .ok (.aload_n 0, 1) := by decide +kernel
theorem dX6_order_61 : decode cX6_order 61 = .ok (.getfield 44, 3) := by decide +kernel
theorem dX6_order_64 : decode cX6_order 64 = .ok (.aload_n 0, 1) := by decide +kernel
theorem dX6_order_65 : decode cX6_order 65 = .ok (.getfield 121, 3) := by decide +kernel
theorem dX6_order_68 : decode cX6_order 68 = .ok (.iload_n 2, 1) := by decide +kernel
theorem dX6_order_69 : decode cX6_order 69 = .ok (.iastore, 1) := by decide +kernel
theorem dX6_order_70 : decode cX6_order 70 = .ok (.aload_n 0, 1) := by decide +kernel
theorem dX6_order_71 : decode cX6_order 71 = .ok (.getfield 50, 3) := by decide +kernel
theorem dX6_order_74 : decode cX6_order 74 = .ok (.aload_n 0, 1) := by decide +kernel
theorem dX6_order_75 : decode cX6_order 75 = .ok (.getfield 121, 3) := by decide +kernel
theorem dX6_order_78 : decode cX6_order 78 = .ok (.iconst (-1), 1) := by decide +kernel
theorem dX6_order_79 : decode cX6_order 79 = .ok (.iastore, 1) := by decide +kernel
theorem dX6_order_80 : decode cX6_order 80 = .ok (.aload_n 0, 1) := by decide +kernel
theorem dX6_order_81 : decode cX6_order 81 = .ok (.dup, 1) := by decide +kernel
theorem dX6_order_82 : decode cX6_order 82 = .ok (.getfield 121, 3) := by decide +kernel
theorem dX6_order_85 : decode cX6_order 85 = .ok (.iconst 1, 1) := by decide +kernel
theorem dX6_order_86 : decode cX6_order 86 = .ok (.iadd, 1) := by decide +kernel
theorem dX6_order_87 : decode cX6_order 87 = .ok (.putfield 121, 3) := by decide +kernel
theorem dX6_order_90 : decode cX6_order 90 = .ok (.aload_n 0, 1) := by decide +kernel
theorem dX6_order_91 : decode cX6_order 91 = .ok (.getfield 121, 3) := by decide +kernel
end
section
theorem dX6_order_94 : decode cX6_order 94 = .ok (.iconst 1, 1) := by decide +kernel
theorem dX6_order_95 : decode cX6_order 95 = .ok (.isub, 1) := by decide +kernel
theorem dX6_order_96 : decode cX6_order 96 = .ok (.ireturn, 1) := by decide +kernel
theorem dX6_drafts_0 : decode cX6_drafts 0 = .ok (.aload_n 0, 1) := by decide +kernel
theorem dX6_drafts_1 : decode cX6_drafts 1 = .ok (.getfield 53, 3) := by decide +kernel
theorem dX6_drafts_4 : decode cX6_drafts 4 = .ok (.sipush 150, 3) := by decide +kernel
theorem dX6_drafts_7 : decode cX6_drafts 7 = .ok (.aload_n 0, 1) := by decide +kernel
theorem dX6_drafts_8 : decode cX6_drafts 8 = .ok (.getfield 56, 3) := by decide +kernel
theorem dX6_drafts_11 : decode cX6_drafts 11 = .ok (.bipush 10, 2) := by decide +kernel
theorem dX6_drafts_13 : decode cX6_drafts 13 = .ok (.iaload, 1) := by decide +kernel
theorem dX6_drafts_14 : decode cX6_drafts 14 = .ok (.iadd, 1) := by decide +kernel
theorem dX6_drafts_15 : decode cX6_drafts 15 = .ok (.iload_n 1, 1) := by decide +kernel
theorem dX6_drafts_16 : decode cX6_drafts 16 = .ok (.iastore, 1) := by decide +kernel
theorem dX6_drafts_17 : decode cX6_drafts 17 = .ok (.aload_n 0, 1) := by decide +kernel
theorem dX6_drafts_18 : decode cX6_drafts 18 = .ok (.getfield 56, 3) := by decide +kernel
theorem dX6_drafts_21 : decode cX6_drafts 21 = .ok (.bipush 10, 2) := by decide +kernel
theorem dX6_drafts_23 : decode cX6_drafts 23 = .ok (.dup2, 1) := by decide +kernel
theorem dX6_drafts_24 : decode cX6_drafts 24 = .ok (.iaload, 1) := by decide +kernel
theorem dX6_drafts_25 : decode cX6_drafts 25 = .ok (.iconst 1, 1) := by decide +kernel
theorem dX6_drafts_26 : decode cX6_drafts 26 = .ok (.iadd, 1) := by decide +kernel
theorem dX6_drafts_27 : decode cX6_drafts 27 = .ok (.iastore, 1) := by decide +kernel
theorem dX6_drafts_28 : decode cX6_drafts 28 = .ok (.return_, 1) := by decide +kernel
theorem dX6_addSlit_0 : decode cX6_addSlit 0 = .ok (.aload_n 0, 1) := by decide +kernel
theorem dX6_addSlit_1 : decode cX6_addSlit 1 = .ok (.iload_n 1, 1) := by decide +kernel
theorem dX6_addSlit_2 : decode cX6_addSlit 2 = .ok (.bipush 20, 2) := by decide +kernel
theorem dX6_addSlit_4 : decode cX6_addSlit 4 = .ok (.sipush 1000, 3) := by decide +kernel
theorem dX6_addSlit_7 : decode cX6_addSlit 7 = .ok (.invokestatic 95, 3) := by decide +kernel
theorem dX6_addSlit_10 : decode cX6_addSlit 10 = .ok (.aload_n 0, 1) := by decide +kernel
theorem dX6_addSlit_11 : decode cX6_addSlit 11 = .ok (.getfield 56, 3) := by decide +kernel
theorem dX6_addSlit_14 : decode cX6_addSlit 14 = .ok (.bipush 10, 2) := by decide +kernel
theorem dX6_addSlit_16 : decode cX6_addSlit 16 = .ok (.iaload, 1) := by decide +kernel
theorem dX6_addSlit_17 : decode cX6_addSlit 17 = .ok (.bipush 15, 2) := by decide +kernel
theorem dX6_addSlit_19 : decode cX6_addSlit 19 = .ok (.if_icmp .ge 7, 3) := by decide +kernel
theorem dX6_addSlit_22 : decode cX6_addSlit 22 = .ok (.iconst 1, 1) := by decide +kernel
theorem dX6_addSlit_23 : decode cX6_addSlit 23 = .ok (.goto 4, 3) := by decide +kernel
theorem dX6_addSlit_26 : decode cX6_addSlit 26 = .ok (.iconst 0, 1) := by decide +kernel
theorem dX6_addSlit_27 : decode cX6_addSlit 27 = .ok (.invokevirtual 102, 3) := by decide +kernel
theorem dX6_addSlit_30 : decode cX6_addSlit 30 = .ok (.ifCond .ne 5, 3) := by decide +kernel
theorem dX6_addSlit_33 : decode cX6_addSlit 33 = .ok (.iconst 0, 1) := by decide +kernel
theorem dX6_addSlit_34 : decode cX6_addSlit 34 = .ok (.ireturn, 1) := by decide +kernel
theorem dX6_addSlit_35 : decode cX6_addSlit 35 = .ok (.aload_n 0, 1) := by decide +kernel
theorem dX6_addSlit_36 : decode cX6_addSlit 36 = .ok (.iload_n 1, 1) := by decide +kernel
theorem dX6_addSlit_37 : decode cX6_addSlit 37 = .ok (.invokevirtual 124, 3) := by decide +kernel
theorem dX6_addSlit_40 : decode cX6_addSlit 40 = .ok (.aload_n 0, 1) := by decide +kernel
theorem dX6_addSlit_41 : decode cX6_addSlit 41 = .ok (.getfield 56, 3) := by decide +kernel
theorem dX6_addSlit_44 : decode cX6_addSlit 44 = .ok (.bipush 10, 2) := by decide +kernel
theorem dX6_addSlit_46 : decode cX6_addSlit 46 = .ok (.iaload, 1) := by decide +kernel
theorem dX6_addSlit_47 : decode cX6_addSlit 47 = .ok (.ireturn, 1) := by decide +kernel
theorem dX6_clearDraft_0 : decode cX6_clearDraft 0 = .ok (.aload_n 0, 1) := by decide +kernel
theorem dX6_clearDraft_1 : decode cX6_clearDraft 1 = .ok (.getfield 56, 3) := by decide +kernel
theorem dX6_clearDraft_4 : decode cX6_clearDraft 4 = .ok (.bipush 10, 2) := by decide +kernel
theorem dX6_clearDraft_6 : decode cX6_clearDraft 6 = .ok (.iaload, 1) := by decide +kernel
theorem dX6_clearDraft_7 : decode cX6_clearDraft 7 = .ok (.istore_n 1, 1) := by decide +kernel
theorem dX6_clearDraft_8 : decode cX6_clearDraft 8 = .ok (.aload_n 0, 1) := by decide +kernel
theorem dX6_clearDraft_9 : decode cX6_clearDraft 9 = .ok (.getfield 56, 3) := by decide +kernel
theorem dX6_clearDraft_12 : decode cX6_clearDraft 12 = .ok (.bipush 10, 2) := by decide +kernel
theorem dX6_clearDraft_14 : decode cX6_clearDraft 14 = .ok (.iconst 0, 1) := by decide +kernel
theorem dX6_clearDraft_15 : decode cX6_clearDraft 15 = .ok (.iastore, 1) := by decide +kernel
theorem dX6_clearDraft_16 : decode cX6_clearDraft 16 = .ok (.aload_n 0, 1) := by decide +kernel
theorem dX6_clearDraft_17 : decode cX6_clearDraft 17 = .ok (.iload_n 1, 1) := by decide +kernel
theorem dX6_clearDraft_18 : decode cX6_clearDraft 18 = .ok (.invokevirtual 128, 3) := by decide +kernel
theorem dX6_clearDraft_21 : decode cX6_clearDraft 21 = .ok (.ireturn, 1) := by decide +kernel
theorem dX6_draftSlits_0 : decode cX6_draftSlits 0 = .ok (.aload_n 0, 1) := by decide +kernel
theorem dX6_draftSlits_1 : decode cX6_draftSlits 1 = .ok (.aload_n 0, 1) := by decide +kernel
theorem dX6_draftSlits_2 : decode cX6_draftSlits 2 = .ok (.getfield 56, 3) := by decide +kernel
theorem dX6_draftSlits_5 : decode cX6_draftSlits 5 = .ok (.bipush 10, 2) := by decide +kernel
theorem dX6_draftSlits_7 : decode cX6_draftSlits 7 = .ok (.iaload, 1) := by decide +kernel
theorem dX6_draftSlits_8 : decode cX6_draftSlits 8 = .ok (.invokevirtual 128, 3) := by decide +kernel
theorem dX6_draftSlits_11 : decode cX6_draftSlits 11 = .ok (.ireturn, 1) := by decide +kernel
theorem dX6_draftWidth_0 : decode cX6_draftWidth 0 = .ok (.aload_n 0, 1) := by decide +kernel
theorem dX6_draftWidth_1 : decode cX6_draftWidth 1 = .ok (.iload_n 1, 1) := by decide +kernel
theorem dX6_draftWidth_2 : decode cX6_draftWidth 2 = .ok (.iconst 0, 1) := by decide +kernel
theorem dX6_draftWidth_3 : decode cX6_draftWidth 3 = .ok (.aload_n 0, 1) := by decide +kernel
theorem dX6_draftWidth_4 : decode cX6_draftWidth 4 = .ok (.getfield 56, 3) := by decide +kernel
theorem dX6_draftWidth_7 : decode cX6_draftWidth 7 = .ok (.bipush 10, 2) := by decide +kernel
theorem dX6_draftWidth_9 : decode cX6_draftWidth 9 = .ok (.iaload, 1) := by decide +kernel
theorem dX6_draftWidth_10 : decode cX6_draftWidth 10 = .ok (.iconst 1, 1) := by decide +kernel
theorem dX6_draftWidth_11 : decode cX6_draftWidth 11 = .ok (.isub, 1) := by decide +kernel
theorem dX6_draftWidth_12 : decode cX6_draftWidth 12 = .ok (.invokestatic 95, 3) := by decide +kernel
theorem dX6_draftWidth_15 : decode cX6_draftWidth 15 = .ok (.invokevirtual 117, 3) := by decide +kernel
theorem dX6_draftWidth_18 : decode cX6_draftWidth 18 = .ok (.ifCond .eq 16, 3) := by decide +kernel
theorem dX6_draftWidth_21 : decode cX6_draftWidth 21 = .ok (.aload_n 0, 1) := by decide +kernel
theorem dX6_draftWidth_22 : decode cX6_draftWidth 22 = .ok (.getfield 53, 3) := by decide +kernel
theorem dX6_draftWidth_25 : decode cX6_draftWidth 25 = .ok (.sipush 150, 3) := by decide +kernel
theorem dX6_draftWidth_28 : decode cX6_draftWidth 28 = .ok (.iload_n 1, 1) := by decide +kernel
theorem dX6_draftWidth_29 : decode cX6_draftWidth 29 = .ok (.iadd, 1) := by decide +kernel
theorem dX6_draftWidth_30 : decode cX6_draftWidth 30 = .ok (.iaload, 1) := by decide +kernel
theorem dX6_draftWidth_31 : decode cX6_draftWidth 31 = .ok (.goto 4, 3) := by decide +kernel
theorem dX6_draftWidth_34 : decode cX6_draftWidth 34 = .ok (.iconst 0, 1) := by decide +kernel
theorem dX6_draftWidth_35 : decode cX6_draftWidth 35 = .ok (.ireturn, 1) := by decide +kernel
theorem dX6_keep_0 : decode cX6_keep 0 = .ok (.aload_n 0, 1) := by decide +kernel
theorem dX6_keep_1 : decode cX6_keep 1 = .ok (.aload_n 0, 1) := by decide +kernel
theorem dX6_keep_2 : decode cX6_keep 2 = .ok (.getfield 56, 3) := by decide +kernel
theorem dX6_keep_5 : decode cX6_keep 5 = .ok (.bipush 10, 2) := by decide +kernel
theorem dX6_keep_7 : decode cX6_keep 7 = .ok (.iaload, 1) := by decide +kernel
theorem dX6_keep_8 : decode cX6_keep 8 = .ok (.ifCond .le 16, 3) := by decide +kernel
theorem dX6_keep_11 : decode cX6_keep 11 = .ok (.aload_n 0, 1) := by decide +kernel
theorem dX6_keep_12 : decode cX6_keep 12 = .ok (.getfield 99, 3) := by decide +kernel
theorem dX6_keep_15 : decode cX6_keep 15 = .ok (.bipush 10, 2) := by decide +kernel
theorem dX6_keep_17 : decode cX6_keep 17 = .ok (.if_icmp .ge 7, 3) := by decide +kernel
theorem dX6_keep_20 : decode cX6_keep 20 = .ok (.iconst 1, 1) := by decide +kernel
theorem dX6_keep_21 : decode cX6_keep 21 = .ok (.goto 4, 3) := by decide +kernel
theorem dX6_keep_24 : decode cX6_keep 24 = .ok (.iconst 0, 1) := by decide +kernel
theorem dX6_keep_25 : decode cX6_keep 25 = .ok (.invokevirtual 117, 3) := by decide +kernel
theorem dX6_keep_28 : decode cX6_keep 28 = .ok (.ifCond .ne 5, 3) := by decide +kernel
theorem dX6_keep_31 : decode cX6_keep 31 = .ok (.iconst 0, 1) := by decide +kernel
theorem dX6_keep_32 : decode cX6_keep 32 = .ok (.ireturn, 1) := by decide +kernel
theorem dX6_keep_33 : decode cX6_keep 33 = .ok (.aload_n 0, 1) := by decide +kernel
theorem dX6_keep_34 : decode cX6_keep 34 = .ok (.getfield 56, 3) := by decide +kernel
theorem dX6_keep_37 : decode cX6_keep 37 = .ok (.aload_n 0, 1) := by decide +kernel
theorem dX6_keep_38 : decode cX6_keep 38 = .ok (.getfield 99, 3) := by decide +kernel
theorem dX6_keep_41 : decode cX6_keep 41 = .ok (.aload_n 0, 1) := by decide +kernel
theorem dX6_keep_42 : decode cX6_keep 42 = .ok (.getfield 56, 3) := by decide +kernel
theorem dX6_keep_45 : decode cX6_keep 45 = .ok (.bipush 10, 2) := by decide +kernel
theorem dX6_keep_47 : decode cX6_keep 47 = .ok (.iaload, 1) := by decide +kernel
theorem dX6_keep_48 : decode cX6_keep 48 = .ok (.iastore, 1) := by decide +kernel
theorem dX6_keep_49 : decode cX6_keep 49 = .ok (.iconst 0, 1) := by decide +kernel
theorem dX6_keep_50 : decode cX6_keep 50 = .ok (.istore_n 1, 1) := by decide +kernel
theorem dX6_keep_51 : decode cX6_keep 51 = .ok (.iload_n 1, 1) := by decide +kernel
theorem dX6_keep_52 : decode cX6_keep 52 = .ok (.aload_n 0, 1) := by decide +kernel
theorem dX6_keep_53 : decode cX6_keep 53 = .ok (.getfield 56, 3) := by decide +kernel
theorem dX6_keep_56 : decode cX6_keep 56 = .ok (.bipush 10, 2) := by decide +kernel
theorem dX6_keep_58 : decode cX6_keep 58 = .ok (.iaload, 1) := by decide +kernel
theorem dX6_keep_59 : decode cX6_keep 59 = .ok (.if_icmp .ge 33, 3) := by decide +kernel
theorem dX6_keep_62 : decode cX6_keep 62 = .ok (.aload_n 0, 1) := by decide +kernel
theorem dX6_keep_63 : decode cX6_keep 63 = .ok (.getfield 53, 3) := by decide +kernel
theorem dX6_keep_66 : decode cX6_keep 66 = .ok (.bipush 15, 2) := by decide +kernel
theorem dX6_keep_68 : decode cX6_keep 68 = .ok (.aload_n 0, 1) := by decide +kernel
theorem dX6_keep_69 : decode cX6_keep 69 = .ok (.getfield 99, 3) := by decide +kernel
theorem dX6_keep_72 : decode cX6_keep 72 = .ok (.imul, 1) := by decide +kernel
theorem dX6_keep_73 : decode cX6_keep 73 = .ok (.iload_n 1, 1) := by decide +kernel
theorem dX6_keep_74 : decode cX6_keep 74 = .ok (.iadd, 1) := by decide +kernel
theorem dX6_keep_75 : decode cX6_keep 75 = .ok (.aload_n 0, 1) := by decide +kernel
theorem dX6_keep_76 : decode cX6_keep 76 = .ok (.getfield 53, 3) := by decide +kernel
theorem dX6_keep_79 : decode cX6_keep 79 = .ok (.sipush 150, 3) := by decide +kernel
theorem dX6_keep_82 : decode cX6_keep 82 = .ok (.iload_n 1, 1) := by decide +kernel
theorem dX6_keep_83 : decode cX6_keep 83 = .ok (.iadd, 1) := by decide +kernel
theorem dX6_keep_84 : decode cX6_keep 84 = .ok (.iaload, 1) := by decide +kernel
theorem dX6_keep_85 : decode cX6_keep 85 = .ok (.iastore, 1) := by decide +kernel
theorem dX6_keep_86 : decode cX6_keep 86 = .ok (.iinc 1 1, 3) := by decide +kernel
theorem dX6_keep_89 : decode cX6_keep 89 = .ok (.goto (-38), 3) := by decide +kernel
theorem dX6_keep_92 : decode cX6_keep 92 = .ok (.aload_n 0, 1) := by decide +kernel
theorem dX6_keep_93 : decode cX6_keep 93 = .ok (.getfield 56, 3) := by decide +kernel
theorem dX6_keep_96 : decode cX6_keep 96 = .ok (.bipush 10, 2) := by decide +kernel
theorem dX6_keep_98 : decode cX6_keep 98 = .ok (.iconst 0, 1) := by decide +kernel
theorem dX6_keep_99 : decode cX6_keep 99 = .ok (.iastore, 1) := by decide +kernel
theorem dX6_keep_100 : decode cX6_keep 100 = .ok (.aload_n 0, 1) := by decide +kernel
theorem dX6_keep_101 : decode cX6_keep 101 = .ok (.dup, 1) := by decide +kernel
theorem dX6_keep_102 : decode cX6_keep 102 = .ok (.getfield 99, 3) := by decide +kernel
theorem dX6_keep_105 : decode cX6_keep 105 = .ok (.iconst 1, 1) := by decide +kernel
theorem dX6_keep_106 : decode cX6_keep 106 = .ok (.iadd, 1) := by decide +kernel
theorem dX6_keep_107 : decode cX6_keep 107 = .ok (.putfield 99, 3) := by decide +kernel
theorem dX6_keep_110 : decode cX6_keep 110 = .ok (.aload_n 0, 1) := by decide +kernel
theorem dX6_keep_111 : decode cX6_keep 111 = .ok (.getfield 99, 3) := by decide +kernel
theorem dX6_keep_114 : decode cX6_keep 114 = .ok (.iconst 1, 1) := by decide +kernel
theorem dX6_keep_115 : decode cX6_keep 115 = .ok (.isub, 1) := by decide +kernel
theorem dX6_keep_116 : decode cX6_keep 116 = .ok (.ireturn, 1) := by decide +kernel
theorem dX6_canRun_0 : decode cX6_canRun 0 = .ok (.iconst 2, 1) := by decide +kernel
theorem dX6_canRun_1 : decode cX6_canRun 1 = .ok (.aload_n 0, 1) := by decide +kernel
theorem dX6_canRun_2 : decode cX6_canRun 2 = .ok (.getfield 31, 3) := by decide +kernel
theorem dX6_canRun_5 : decode cX6_canRun 5 = .ok (.imul, 1) := by decide +kernel
theorem dX6_canRun_6 : decode cX6_canRun 6 = .ok (.istore_n 3, 1) := by decide +kernel
theorem dX6_canRun_7 : decode cX6_canRun 7 = .ok (.iconst 0, 1) := by decide +kernel
theorem dX6_canRun_8 : decode cX6_canRun 8 = .ok (.istore 4, 2) := by decide +kernel
theorem dX6_canRun_10 : decode cX6_canRun 10 = .ok (.iload 4, 2) := by decide +kernel
theorem dX6_canRun_12 : decode cX6_canRun 12 = .ok (.aload_n 0, 1) := by decide +kernel
theorem dX6_canRun_13 : decode cX6_canRun 13 = .ok (.getfield 56, 3) := by decide +kernel
theorem dX6_canRun_16 : decode cX6_canRun 16 = .ok (.iload_n 1, 1) := by decide +kernel
theorem dX6_canRun_17 : decode cX6_canRun 17 = .ok (.iaload, 1) := by decide +kernel
theorem dX6_canRun_18 : decode cX6_canRun 18 = .ok (.if_icmp .ge 24, 3) := by decide +kernel
theorem dX6_canRun_21 : decode cX6_canRun 21 = .ok (.iload_n 3, 1) := by decide +kernel
theorem dX6_canRun_22 : decode cX6_canRun 22 = .ok (.aload_n 0, 1) := by decide +kernel
theorem dX6_canRun_23 : decode cX6_canRun 23 = .ok (.getfield 53, 3) := by decide +kernel
theorem dX6_canRun_26 : decode cX6_canRun 26 = .ok (.bipush 15, 2) := by decide +kernel
theorem dX6_canRun_28 : decode cX6_canRun 28 = .ok (.iload_n 1, 1) := by decide +kernel
theorem dX6_canRun_29 : decode cX6_canRun 29 = .ok (.imul, 1) := by decide +kernel
theorem dX6_canRun_30 : decode cX6_canRun 30 = .ok (.iload 4, 2) := by decide +kernel
theorem dX6_canRun_32 : decode cX6_canRun 32 = .ok (.iadd, 1) := by decide +kernel
theorem dX6_canRun_33 : decode cX6_canRun 33 = .ok (.iaload, 1) := by decide +kernel
theorem dX6_canRun_34 : decode cX6_canRun 34 = .ok (.iadd, 1) := by decide +kernel
theorem dX6_canRun_35 : decode cX6_canRun 35 = .ok (.istore_n 3, 1) := by decide +kernel
theorem dX6_canRun_36 : decode cX6_canRun 36 = .ok (.iinc 4 1, 3) := by decide +kernel
theorem dX6_canRun_39 : decode cX6_canRun 39 = .ok (.goto (-29), 3) := by decide +kernel
theorem dX6_canRun_42 : decode cX6_canRun 42 = .ok (.iload_n 3, 1) := by decide +kernel
theorem dX6_canRun_43 : decode cX6_canRun 43 = .ok (.aload_n 0, 1) := by decide +kernel
theorem dX6_canRun_44 : decode cX6_canRun 44 = .ok (.getfield 7, 3) := by decide +kernel
theorem dX6_canRun_47 : decode cX6_canRun 47 = .ok (.iload_n 2, 1) := by decide +kernel
theorem dX6_canRun_48 : decode cX6_canRun 48 = .ok (.iaload, 1) := by decide +kernel
theorem dX6_canRun_49 : decode cX6_canRun 49 = .ok (.if_icmp .gt 22, 3) := by decide +kernel
theorem dX6_canRun_52 : decode cX6_canRun 52 = .ok (.aload_n 0, 1) := by decide +kernel
theorem dX6_canRun_53 : decode cX6_canRun 53 = .ok (.getfield 56, 3) := by decide +kernel
theorem dX6_canRun_56 : decode cX6_canRun 56 = .ok (.iload_n 1, 1) := by decide +kernel
theorem dX6_canRun_57 : decode cX6_canRun 57 = .ok (.iaload, 1) := by decide +kernel
theorem dX6_canRun_58 : decode cX6_canRun 58 = .ok (.iconst 1, 1) := by decide +kernel
theorem dX6_canRun_59 : decode cX6_canRun 59 = .ok (.iadd, 1) := by decide +kernel
theorem dX6_canRun_60 : decode cX6_canRun 60 = .ok (.aload_n 0, 1) := by decide +kernel
theorem dX6_canRun_61 : decode cX6_canRun 61 = .ok (.getfield 38, 3) := by decide +kernel
theorem dX6_canRun_64 : decode cX6_canRun 64 = .ok (.if_icmp .gt 7, 3) := by decide +kernel
theorem dX6_canRun_67 : decode cX6_canRun 67 = .ok (.iconst 1, 1) := by decide +kernel
theorem dX6_canRun_68 : decode cX6_canRun 68 = .ok (.goto 4, 3) := by decide +kernel
theorem dX6_canRun_71 : decode cX6_canRun 71 = .ok (.iconst 0, 1) := by decide +kernel
theorem dX6_canRun_72 : decode cX6_canRun 72 = .ok (.ireturn, 1) := by decide +kernel
theorem dX6_fits_0 : decode cX6_fits 0 = .ok (.aload_n 0, 1) := by decide +kernel
theorem dX6_fits_1 : decode cX6_fits 1 = .ok (.aload_n 0, 1) := by decide +kernel
theorem dX6_fits_2 : decode cX6_fits 2 = .ok (.iload_n 1, 1) := by decide +kernel
theorem dX6_fits_3 : decode cX6_fits 3 = .ok (.invokevirtual 131, 3) := by decide +kernel
theorem dX6_fits_6 : decode cX6_fits 6 = .ok (.ifCond .eq 15, 3) := by decide +kernel
theorem dX6_fits_9 : decode cX6_fits 9 = .ok (.aload_n 0, 1) := by decide +kernel
theorem dX6_fits_10 : decode cX6_fits 10 = .ok (.iload_n 2, 1) := by decide +kernel
theorem dX6_fits_11 : decode cX6_fits 11 = .ok (.invokevirtual 106, 3) := by decide +kernel
theorem dX6_fits_14 : decode cX6_fits 14 = .ok (.ifCond .eq 7, 3) := by decide +kernel
theorem dX6_fits_17 : decode cX6_fits 17 = .ok (.iconst 1, 1) := by decide +kernel
theorem dX6_fits_18 : decode cX6_fits 18 = .ok (.goto 4, 3) := by decide +kernel
theorem dX6_fits_21 : decode cX6_fits 21 = .ok (.iconst 0, 1) := by decide +kernel
theorem dX6_fits_22 : decode cX6_fits 22 = .ok (.invokevirtual 117, 3) := by decide +kernel
theorem dX6_fits_25 : decode cX6_fits 25 = .ok (.ifCond .eq 16, 3) := by decide +kernel
theorem dX6_fits_28 : decode cX6_fits 28 = .ok (.aload_n 0, 1) := by decide +kernel
theorem dX6_fits_29 : decode cX6_fits 29 = .ok (.iload_n 1, 1) := by decide +kernel
theorem dX6_fits_30 : decode cX6_fits 30 = .ok (.iload_n 2, 1) := by decide +kernel
theorem dX6_fits_31 : decode cX6_fits 31 = .ok (.invokevirtual 134, 3) := by decide +kernel
theorem dX6_fits_34 : decode cX6_fits 34 = .ok (.ifCond .eq 7, 3) := by decide +kernel
theorem dX6_fits_37 : decode cX6_fits 37 = .ok (.iconst 1, 1) := by decide +kernel
theorem dX6_fits_38 : decode cX6_fits 38 = .ok (.goto 4, 3) := by decide +kernel
theorem dX6_fits_41 : decode cX6_fits 41 = .ok (.iconst 0, 1) := by decide +kernel
theorem dX6_fits_42 : decode cX6_fits 42 = .ok (.ireturn, 1) := by decide +kernel
theorem dX6_takes_0 : decode cX6_takes 0 = .ok (.aload_n 0, 1) := by decide +kernel
theorem dX6_takes_1 : decode cX6_takes 1 = .ok (.getfield 47, 3) := by decide +kernel
theorem dX6_takes_4 : decode cX6_takes 4 = .ok (.iload_n 1, 1) := by decide +kernel
theorem dX6_takes_5 : decode cX6_takes 5 = .ok (.iaload, 1) := by decide +kernel
theorem dX6_takes_6 : decode cX6_takes 6 = .ok (.aload_n 0, 1) := by decide +kernel
theorem dX6_takes_7 : decode cX6_takes 7 = .ok (.getfield 44, 3) := by decide +kernel
theorem dX6_takes_10 : decode cX6_takes 10 = .ok (.iload_n 1, 1) := by decide +kernel
theorem dX6_takes_11 : decode cX6_takes 11 = .ok (.iaload, 1) := by decide +kernel
theorem dX6_takes_12 : decode cX6_takes 12 = .ok (.if_icmp .ge 27, 3) := by decide +kernel
theorem dX6_takes_15 : decode cX6_takes 15 = .ok (.aload_n 0, 1) := by decide +kernel
theorem dX6_takes_16 : decode cX6_takes 16 = .ok (.getfield 50, 3) := by decide +kernel
theorem dX6_takes_19 : decode cX6_takes 19 = .ok (.iload_n 1, 1) := by decide +kernel
theorem dX6_takes_20 : decode cX6_takes 20 = .ok (.iaload, 1) := by decide +kernel
theorem dX6_takes_21 : decode cX6_takes 21 = .ok (.iconst (-1), 1) := by decide +kernel
theorem dX6_takes_22 : decode cX6_takes 22 = .ok (.if_icmp .eq 13, 3) := by decide +kernel
theorem dX6_takes_25 : decode cX6_takes 25 = .ok (.aload_n 0, 1) := by decide +kernel
theorem dX6_takes_26 : decode cX6_takes 26 = .ok (.getfield 50, 3) := by decide +kernel
theorem dX6_takes_29 : decode cX6_takes 29 = .ok (.iload_n 1, 1) := by decide +kernel
theorem dX6_takes_30 : decode cX6_takes 30 = .ok (.iaload, 1) := by decide +kernel
theorem dX6_takes_31 : decode cX6_takes 31 = .ok (.iload_n 2, 1) := by decide +kernel
theorem dX6_takes_32 : decode cX6_takes 32 = .ok (.if_icmp .ne 7, 3) := by decide +kernel
theorem dX6_takes_35 : decode cX6_takes 35 = .ok (.iconst 1, 1) := by decide +kernel
theorem dX6_takes_36 : decode cX6_takes 36 = .ok (.goto 4, 3) := by decide +kernel
theorem dX6_takes_39 : decode cX6_takes 39 = .ok (.iconst 0, 1) := by decide +kernel
theorem dX6_takes_40 : decode cX6_takes 40 = .ok (.ireturn, 1) := by decide +kernel
theorem dX6_fullest_0 : decode cX6_fullest 0 = .ok (.aload_n 0, 1) := by decide +kernel
theorem dX6_fullest_1 : decode cX6_fullest 1 = .ok (.getfield 7, 3) := by decide +kernel
theorem dX6_fullest_4 : decode cX6_fullest 4 = .ok (.iload_n 1, 1) := by decide +kernel
theorem dX6_fullest_5 : decode cX6_fullest 5 = .ok (.iaload, 1) := by decide +kernel
theorem dX6_fullest_6 : decode cX6_fullest 6 = .ok (.iconst 2, 1) := by decide +kernel
theorem dX6_fullest_7 : decode cX6_fullest 7 = .ok (.aload_n 0, 1) := by decide +kernel
theorem dX6_fullest_8 : decode cX6_fullest 8 = .ok (.getfield 31, 3) := by decide +kernel
theorem dX6_fullest_11 : decode cX6_fullest 11 = .ok (.imul, 1) := by decide +kernel
theorem dX6_fullest_12 : decode cX6_fullest 12 = .ok (.isub, 1) := by decide +kernel
theorem dX6_fullest_13 : decode cX6_fullest 13 = .ok (.istore_n 2, 1) := by decide +kernel
theorem dX6_fullest_14 : decode cX6_fullest 14 = .ok (.iconst 0, 1) := by decide +kernel
theorem dX6_fullest_15 : decode cX6_fullest 15 = .ok (.istore_n 3, 1) := by decide +kernel
theorem dX6_fullest_16 : decode cX6_fullest 16 = .ok (.iconst 0, 1) := by decide +kernel
theorem dX6_fullest_17 : decode cX6_fullest 17 = .ok (.istore 4, 2) := by decide +kernel
theorem dX6_fullest_19 : decode cX6_fullest 19 = .ok (.iload 4, 2) := by decide +kernel
theorem dX6_fullest_21 : decode cX6_fullest 21 = .ok (.iload_n 2, 1) := by decide +kernel
theorem dX6_fullest_22 : decode cX6_fullest 22 = .ok (.if_icmp .gt 145, 3) := by decide +kernel
theorem dX6_fullest_25 : decode cX6_fullest 25 = .ok (.aload_n 0, 1) := by decide +kernel
theorem dX6_fullest_26 : decode cX6_fullest 26 = .ok (.getfield 80, 3) := by decide +kernel
theorem dX6_fullest_29 : decode cX6_fullest 29 = .ok (.iload 4, 2) := by decide +kernel
theorem dX6_fullest_31 : decode cX6_fullest 31 = .ok (.iload 4, 2) := by decide +kernel
theorem dX6_fullest_33 : decode cX6_fullest 33 = .ok (.ifCond .ne 7, 3) := by decide +kernel
theorem dX6_fullest_36 : decode cX6_fullest 36 = .ok (.iconst 0, 1) := by decide +kernel
theorem dX6_fullest_37 : decode cX6_fullest 37 = .ok (.goto 6, 3) := by decide +kernel
theorem dX6_fullest_40 : decode cX6_fullest 40 = .ok (.sipush 1000, 3) := by decide +kernel
theorem dX6_fullest_43 : decode cX6_fullest 43 = .ok (.iastore, 1) := by decide +kernel
theorem dX6_fullest_44 : decode cX6_fullest 44 = .ok (.iconst 0, 1) := by decide +kernel
theorem dX6_fullest_45 : decode cX6_fullest 45 = .ok (.istore 5, 2) := by decide +kernel
theorem dX6_fullest_47 : decode cX6_fullest 47 = .ok (.iload 5, 2) := by decide +kernel
theorem dX6_fullest_49 : decode cX6_fullest 49 = .ok (.aload_n 0, 1) := by decide +kernel
theorem dX6_fullest_50 : decode cX6_fullest 50 = .ok (.getfield 121, 3) := by decide +kernel
theorem dX6_fullest_53 : decode cX6_fullest 53 = .ok (.if_icmp .ge 87, 3) := by decide +kernel
theorem dX6_fullest_56 : decode cX6_fullest 56 = .ok (.aload_n 0, 1) := by decide +kernel
theorem dX6_fullest_57 : decode cX6_fullest 57 = .ok (.iload 5, 2) := by decide +kernel
theorem dX6_fullest_59 : decode cX6_fullest 59 = .ok (.aload_n 0, 1) := by decide +kernel
theorem dX6_fullest_60 : decode cX6_fullest 60 = .ok (.getfield 19, 3) := by decide +kernel
theorem dX6_fullest_63 : decode cX6_fullest 63 = .ok (.iload_n 1, 1) := by decide +kernel
theorem dX6_fullest_64 : decode cX6_fullest 64 = .ok (.iaload, 1) := by decide +kernel
theorem dX6_fullest_65 : decode cX6_fullest 65 = .ok (.invokevirtual 138, 3) := by decide +kernel
theorem dX6_fullest_68 : decode cX6_fullest 68 = .ok (.ifCond .eq 66, 3) := by decide +kernel
theorem dX6_fullest_71 : decode cX6_fullest 71 = .ok (.aload_n 0, 1) := by decide +kernel
theorem dX6_fullest_72 : decode cX6_fullest 72 = .ok (.getfield 41, 3) := by decide +kernel
theorem dX6_fullest_75 : decode cX6_fullest 75 = .ok (.iload 5, 2) := by decide +kernel
theorem dX6_fullest_77 : decode cX6_fullest 77 = .ok (.iaload, 1) := by decide +kernel
theorem dX6_fullest_78 : decode cX6_fullest 78 = .ok (.iload 4, 2) := by decide +kernel
theorem dX6_fullest_80 : decode cX6_fullest 80 = .ok (.if_icmp .gt 54, 3) := by decide +kernel
theorem dX6_fullest_83 : decode cX6_fullest 83 = .ok (.aload_n 0, 1) := by decide +kernel
theorem dX6_fullest_84 : decode cX6_fullest 84 = .ok (.getfield 80, 3) := by decide +kernel
theorem dX6_fullest_87 : decode cX6_fullest 87 = .ok (.iload 4, 2) := by decide +kernel
theorem dX6_fullest_89 : decode cX6_fullest 89 = .ok (.aload_n 0, 1) := by decide +kernel
theorem dX6_fullest_90 : decode cX6_fullest 90 = .ok (.getfield 41, 3) := by decide +kernel
theorem dX6_fullest_93 : decode cX6_fullest 93 = .ok (.iload 5, 2) := by decide +kernel
theorem dX6_fullest_95 : decode cX6_fullest 95 = .ok (.iaload, 1) := by decide +kernel
theorem dX6_fullest_96 : decode cX6_fullest 96 = .ok (.isub, 1) := by decide +kernel
theorem dX6_fullest_97 : decode cX6_fullest 97 = .ok (.iaload, 1) := by decide +kernel
theorem dX6_fullest_98 : decode cX6_fullest 98 = .ok (.iconst 1, 1) := by decide +kernel
theorem dX6_fullest_99 : decode cX6_fullest 99 = .ok (.iadd, 1) := by decide +kernel
theorem dX6_fullest_100 : decode cX6_fullest 100 = .ok (.aload_n 0, 1) := by decide +kernel
theorem dX6_fullest_101 : decode cX6_fullest 101 = .ok (.getfield 80, 3) := by decide +kernel
theorem dX6_fullest_104 : decode cX6_fullest 104 = .ok (.iload 4, 2) := by decide +kernel
theorem dX6_fullest_106 : decode cX6_fullest 106 = .ok (.iaload, 1) := by decide +kernel
theorem dX6_fullest_107 : decode cX6_fullest 107 = .ok (.if_icmp .ge 27, 3) := by decide +kernel
theorem dX6_fullest_110 : decode cX6_fullest 110 = .ok (.aload_n 0, 1) := by decide +kernel
theorem dX6_fullest_111 : decode cX6_fullest 111 = .ok (.getfield 80, 3) := by decide +kernel
theorem dX6_fullest_114 : decode cX6_fullest 114 = .ok (.iload 4, 2) := by decide +kernel
theorem dX6_fullest_116 : decode cX6_fullest 116 = .ok (.aload_n 0, 1) := by decide +kernel
theorem dX6_fullest_117 : decode cX6_fullest 117 = .ok (.getfield 80, 3) := by decide +kernel
theorem dX6_fullest_120 : decode cX6_fullest 120 = .ok (.iload 4, 2) := by decide +kernel
theorem dX6_fullest_122 : decode cX6_fullest 122 = .ok (.aload_n 0, 1) := by decide +kernel
theorem dX6_fullest_123 : decode cX6_fullest 123 = .ok (.getfield 41, 3) := by decide +kernel
theorem dX6_fullest_126 : decode cX6_fullest 126 = .ok (.iload 5, 2) := by decide +kernel
theorem dX6_fullest_128 : decode cX6_fullest 128 = .ok (.iaload, 1) := by decide +kernel
theorem dX6_fullest_129 : decode cX6_fullest 129 = .ok (.isub, 1) := by decide +kernel
theorem dX6_fullest_130 : decode cX6_fullest 130 = .ok (.iaload, 1) := by decide +kernel
theorem dX6_fullest_131 : decode cX6_fullest 131 = .ok (.iconst 1, 1) := by decide +kernel
theorem dX6_fullest_132 : decode cX6_fullest 132 = .ok (.iadd, 1) := by decide +kernel
theorem dX6_fullest_133 : decode cX6_fullest 133 = .ok (.iastore, 1) := by decide +kernel
theorem dX6_fullest_134 : decode cX6_fullest 134 = .ok (.iinc 5 1, 3) := by decide +kernel
theorem dX6_fullest_137 : decode cX6_fullest 137 = .ok (.goto (-90), 3) := by decide +kernel
theorem dX6_fullest_140 : decode cX6_fullest 140 = .ok (.aload_n 0, 1) := by decide +kernel
theorem dX6_fullest_141 : decode cX6_fullest 141 = .ok (.getfield 80, 3) := by decide +kernel
theorem dX6_fullest_144 : decode cX6_fullest 144 = .ok (.iload 4, 2) := by decide +kernel
theorem dX6_fullest_146 : decode cX6_fullest 146 = .ok (.iaload, 1) := by decide +kernel
theorem dX6_fullest_147 : decode cX6_fullest 147 = .ok (.aload_n 0, 1) := by decide +kernel
theorem dX6_fullest_148 : decode cX6_fullest 148 = .ok (.getfield 38, 3) := by decide +kernel
theorem dX6_fullest_151 : decode cX6_fullest 151 = .ok (.if_icmp .ge 8, 3) := by decide +kernel
theorem dX6_fullest_154 : decode cX6_fullest 154 = .ok (.iload 4, 2) := by decide +kernel
theorem dX6_fullest_156 : decode cX6_fullest 156 = .ok (.goto 4, 3) := by decide +kernel
theorem dX6_fullest_159 : decode cX6_fullest 159 = .ok (.iload_n 3, 1) := by decide +kernel
theorem dX6_fullest_160 : decode cX6_fullest 160 = .ok (.istore_n 3, 1) := by decide +kernel
theorem dX6_fullest_161 : decode cX6_fullest 161 = .ok (.iinc 4 1, 3) := by decide +kernel
theorem dX6_fullest_164 : decode cX6_fullest 164 = .ok (.goto (-145), 3) := by decide +kernel
theorem dX6_fullest_167 : decode cX6_fullest 167 = .ok (.iload_n 3, 1) := by decide +kernel
theorem dX6_fullest_168 : decode cX6_fullest 168 = .ok (.ireturn, 1) := by decide +kernel
theorem dX6_fill_0 : decode cX6_fill 0 = .ok (.aload_n 0, 1) := by decide +kernel
theorem dX6_fill_1 : decode cX6_fill 1 = .ok (.aload_n 0, 1) := by decide +kernel
theorem dX6_fill_2 : decode cX6_fill 2 = .ok (.iload_n 1, 1) := by decide +kernel
theorem dX6_fill_3 : decode cX6_fill 3 = .ok (.invokevirtual 106, 3) := by decide +kernel
theorem dX6_fill_6 : decode cX6_fill 6 = .ok (.invokevirtual 117, 3) := by decide +kernel
theorem dX6_fill_9 : decode cX6_fill 9 = .ok (.ifCond .ne 5, 3) := by decide +kernel
theorem dX6_fill_12 : decode cX6_fill 12 = .ok (.iconst 0, 1) := by decide +kernel
theorem dX6_fill_13 : decode cX6_fill 13 = .ok (.ireturn, 1) := by decide +kernel
theorem dX6_fill_14 : decode cX6_fill 14 = .ok (.aload_n 0, 1) := by decide +kernel
theorem dX6_fill_15 : decode cX6_fill 15 = .ok (.iload_n 1, 1) := by decide +kernel
theorem dX6_fill_16 : decode cX6_fill 16 = .ok (.invokevirtual 141, 3) := by decide +kernel
theorem dX6_fill_19 : decode cX6_fill 19 = .ok (.istore_n 2, 1) := by decide +kernel
theorem dX6_fill_20 : decode cX6_fill 20 = .ok (.iload_n 2, 1) := by decide +kernel
theorem dX6_fill_21 : decode cX6_fill 21 = .ok (.istore_n 3, 1) := by decide +kernel
theorem dX6_fill_22 : decode cX6_fill 22 = .ok (.aload_n 0, 1) := by decide +kernel
theorem dX6_fill_23 : decode cX6_fill 23 = .ok (.getfield 56, 3) := by decide +kernel
theorem dX6_fill_26 : decode cX6_fill 26 = .ok (.bipush 10, 2) := by decide +kernel
theorem dX6_fill_28 : decode cX6_fill 28 = .ok (.iconst 0, 1) := by decide +kernel
theorem dX6_fill_29 : decode cX6_fill 29 = .ok (.iastore, 1) := by decide +kernel
theorem dX6_fill_30 : decode cX6_fill 30 = .ok (.iload_n 3, 1) := by decide +kernel
theorem dX6_fill_31 : decode cX6_fill 31 = .ok (.ifCond .le 127, 3) := by decide +kernel
theorem dX6_fill_34 : decode cX6_fill 34 = .ok (.iconst 0, 1) := by decide +kernel
theorem dX6_fill_35 : decode cX6_fill 35 = .ok (.istore 4, 2) := by decide +kernel
theorem dX6_fill_37 : decode cX6_fill 37 = .ok (.iconst 0, 1) := by decide +kernel
theorem dX6_fill_38 : decode cX6_fill 38 = .ok (.istore 5, 2) := by decide +kernel
theorem dX6_fill_40 : decode cX6_fill 40 = .ok (.iload 5, 2) := by decide +kernel
theorem dX6_fill_42 : decode cX6_fill 42 = .ok (.aload_n 0, 1) := by decide +kernel
theorem dX6_fill_43 : decode cX6_fill 43 = .ok (.getfield 121, 3) := by decide +kernel
theorem dX6_fill_46 : decode cX6_fill 46 = .ok (.if_icmp .ge 98, 3) := by decide +kernel
theorem dX6_fill_49 : decode cX6_fill 49 = .ok (.aload_n 0, 1) := by decide +kernel
theorem dX6_fill_50 : decode cX6_fill 50 = .ok (.iload 5, 2) := by decide +kernel
theorem dX6_fill_52 : decode cX6_fill 52 = .ok (.aload_n 0, 1) := by decide +kernel
theorem dX6_fill_53 : decode cX6_fill 53 = .ok (.getfield 19, 3) := by decide +kernel
theorem dX6_fill_56 : decode cX6_fill 56 = .ok (.iload_n 1, 1) := by decide +kernel
theorem dX6_fill_57 : decode cX6_fill 57 = .ok (.iaload, 1) := by decide +kernel
theorem dX6_fill_58 : decode cX6_fill 58 = .ok (.invokevirtual 138, 3) := by decide +kernel
theorem dX6_fill_61 : decode cX6_fill 61 = .ok (.ifCond .eq 43, 3) := by decide +kernel
theorem dX6_fill_64 : decode cX6_fill 64 = .ok (.aload_n 0, 1) := by decide +kernel
theorem dX6_fill_65 : decode cX6_fill 65 = .ok (.getfield 41, 3) := by decide +kernel
theorem dX6_fill_68 : decode cX6_fill 68 = .ok (.iload 5, 2) := by decide +kernel
theorem dX6_fill_70 : decode cX6_fill 70 = .ok (.iaload, 1) := by decide +kernel
theorem dX6_fill_71 : decode cX6_fill 71 = .ok (.iload_n 3, 1) := by decide +kernel
theorem dX6_fill_72 : decode cX6_fill 72 = .ok (.if_icmp .gt 32, 3) := by decide +kernel
theorem dX6_fill_75 : decode cX6_fill 75 = .ok (.aload_n 0, 1) := by decide +kernel
theorem dX6_fill_76 : decode cX6_fill 76 = .ok (.getfield 80, 3) := by decide +kernel
theorem dX6_fill_79 : decode cX6_fill 79 = .ok (.iload_n 3, 1) := by decide +kernel
theorem dX6_fill_80 : decode cX6_fill 80 = .ok (.aload_n 0, 1) := by decide +kernel
theorem dX6_fill_81 : decode cX6_fill 81 = .ok (.getfield 41, 3) := by decide +kernel
theorem dX6_fill_84 : decode cX6_fill 84 = .ok (.iload 5, 2) := by decide +kernel
theorem dX6_fill_86 : decode cX6_fill 86 = .ok (.iaload, 1) := by decide +kernel
theorem dX6_fill_87 : decode cX6_fill 87 = .ok (.isub, 1) := by decide +kernel
theorem dX6_fill_88 : decode cX6_fill 88 = .ok (.iaload, 1) := by decide +kernel
theorem dX6_fill_89 : decode cX6_fill 89 = .ok (.iconst 1, 1) := by decide +kernel
theorem dX6_fill_90 : decode cX6_fill 90 = .ok (.iadd, 1) := by decide +kernel
theorem dX6_fill_91 : decode cX6_fill 91 = .ok (.aload_n 0, 1) := by decide +kernel
theorem dX6_fill_92 : decode cX6_fill 92 = .ok (.getfield 80, 3) := by decide +kernel
theorem dX6_fill_95 : decode cX6_fill 95 = .ok (.iload_n 3, 1) := by decide +kernel
theorem dX6_fill_96 : decode cX6_fill 96 = .ok (.iaload, 1) := by decide +kernel
theorem dX6_fill_97 : decode cX6_fill 97 = .ok (.if_icmp .ne 7, 3) := by decide +kernel
theorem dX6_fill_100 : decode cX6_fill 100 = .ok (.iconst 1, 1) := by decide +kernel
theorem dX6_fill_101 : decode cX6_fill 101 = .ok (.goto 4, 3) := by decide +kernel
theorem dX6_fill_104 : decode cX6_fill 104 = .ok (.iconst 0, 1) := by decide +kernel
theorem dX6_fill_105 : decode cX6_fill 105 = .ok (.istore 6, 2) := by decide +kernel
theorem dX6_fill_107 : decode cX6_fill 107 = .ok (.iload 6, 2) := by decide +kernel
theorem dX6_fill_109 : decode cX6_fill 109 = .ok (.ifCond .eq 25, 3) := by decide +kernel
theorem dX6_fill_112 : decode cX6_fill 112 = .ok (.aload_n 0, 1) := by decide +kernel
theorem dX6_fill_113 : decode cX6_fill 113 = .ok (.getfield 41, 3) := by decide +kernel
theorem dX6_fill_116 : decode cX6_fill 116 = .ok (.iload 5, 2) := by decide +kernel
theorem dX6_fill_118 : decode cX6_fill 118 = .ok (.iaload, 1) := by decide +kernel
theorem dX6_fill_119 : decode cX6_fill 119 = .ok (.iload 4, 2) := by decide +kernel
theorem dX6_fill_121 : decode cX6_fill 121 = .ok (.if_icmp .le 13, 3) := by decide +kernel
theorem dX6_fill_124 : decode cX6_fill 124 = .ok (.aload_n 0, 1) := by decide +kernel
theorem dX6_fill_125 : decode cX6_fill 125 = .ok (.getfield 41, 3) := by decide +kernel
theorem dX6_fill_128 : decode cX6_fill 128 = .ok (.iload 5, 2) := by decide +kernel
theorem dX6_fill_130 : decode cX6_fill 130 = .ok (.iaload, 1) := by decide +kernel
theorem dX6_fill_131 : decode cX6_fill 131 = .ok (.goto 5, 3) := by decide +kernel
theorem dX6_fill_134 : decode cX6_fill 134 = .ok (.iload 4, 2) := by decide +kernel
theorem dX6_fill_136 : decode cX6_fill 136 = .ok (.istore 4, 2) := by decide +kernel
theorem dX6_fill_138 : decode cX6_fill 138 = .ok (.iinc 5 1, 3) := by decide +kernel
theorem dX6_fill_141 : decode cX6_fill 141 = .ok (.goto (-101), 3) := by decide +kernel
theorem dX6_fill_144 : decode cX6_fill 144 = .ok (.aload_n 0, 1) := by decide +kernel
theorem dX6_fill_145 : decode cX6_fill 145 = .ok (.iload 4, 2) := by decide +kernel
theorem dX6_fill_147 : decode cX6_fill 147 = .ok (.invokevirtual 124, 3) := by decide +kernel
theorem dX6_fill_150 : decode cX6_fill 150 = .ok (.iload_n 3, 1) := by decide +kernel
theorem dX6_fill_151 : decode cX6_fill 151 = .ok (.iload 4, 2) := by decide +kernel
theorem dX6_fill_153 : decode cX6_fill 153 = .ok (.isub, 1) := by decide +kernel
theorem dX6_fill_154 : decode cX6_fill 154 = .ok (.istore_n 3, 1) := by decide +kernel
theorem dX6_fill_155 : decode cX6_fill 155 = .ok (.goto (-125), 3) := by decide +kernel
theorem dX6_fill_158 : decode cX6_fill 158 = .ok (.iload_n 2, 1) := by decide +kernel
theorem dX6_fill_159 : decode cX6_fill 159 = .ok (.ireturn, 1) := by decide +kernel
theorem dX6_fullestByTrying_0 : decode cX6_fullestByTrying 0 = .ok (.aload_n 0, 1) := by decide +kernel
theorem dX6_fullestByTrying_1 : decode cX6_fullestByTrying 1 = .ok (.iload_n 1, 1) := by decide +kernel
theorem dX6_fullestByTrying_2 : decode cX6_fullestByTrying 2 = .ok (.invokevirtual 106, 3) := by decide +kernel
theorem dX6_fullestByTrying_5 : decode cX6_fullestByTrying 5 = .ok (.istore_n 2, 1) := by decide +kernel
theorem dX6_fullestByTrying_6 : decode cX6_fullestByTrying 6 = .ok (.aload_n 0, 1) := by decide +kernel
theorem dX6_fullestByTrying_7 : decode cX6_fullestByTrying 7 = .ok (.iload_n 2, 1) := by decide +kernel
theorem dX6_fullestByTrying_8 : decode cX6_fullestByTrying 8 = .ok (.aload_n 0, 1) := by decide +kernel
theorem dX6_fullestByTrying_9 : decode cX6_fullestByTrying 9 = .ok (.getfield 38, 3) := by decide +kernel
theorem dX6_fullestByTrying_12 : decode cX6_fullestByTrying 12 = .ok (.bipush 8, 2) := by decide +kernel
theorem dX6_fullestByTrying_14 : decode cX6_fullestByTrying 14 = .ok (.if_icmp .gt 7, 3) := by decide +kernel
theorem dX6_fullestByTrying_17 : decode cX6_fullestByTrying 17 = .ok (.iconst 1, 1) := by decide +kernel
theorem dX6_fullestByTrying_18 : decode cX6_fullestByTrying 18 = .ok (.goto 4, 3) := by decide +kernel
theorem dX6_fullestByTrying_21 : decode cX6_fullestByTrying 21 = .ok (.iconst 0, 1) := by decide +kernel
theorem dX6_fullestByTrying_22 : decode cX6_fullestByTrying 22 = .ok (.invokevirtual 102, 3) := by decide +kernel
theorem dX6_fullestByTrying_25 : decode cX6_fullestByTrying 25 = .ok (.ifCond .eq 11, 3) := by decide +kernel
theorem dX6_fullestByTrying_28 : decode cX6_fullestByTrying 28 = .ok (.aload_n 0, 1) := by decide +kernel
theorem dX6_fullestByTrying_29 : decode cX6_fullestByTrying 29 = .ok (.iload_n 1, 1) := by decide +kernel
theorem dX6_fullestByTrying_30 : decode cX6_fullestByTrying 30 = .ok (.invokevirtual 141, 3) := by decide +kernel
theorem dX6_fullestByTrying_33 : decode cX6_fullestByTrying 33 = .ok (.goto 4, 3) := by decide +kernel
theorem dX6_fullestByTrying_36 : decode cX6_fullestByTrying 36 = .ok (.iconst 0, 1) := by decide +kernel
theorem dX6_fullestByTrying_37 : decode cX6_fullestByTrying 37 = .ok (.ireturn, 1) := by decide +kernel
theorem dX6_isPosition_0 : decode cX6_isPosition 0 = .ok (.iconst 0, 1) := by decide +kernel
theorem dX6_isPosition_1 : decode cX6_isPosition 1 = .ok (.istore_n 3, 1) := by decide +kernel
theorem dX6_isPosition_2 : decode cX6_isPosition 2 = .ok (.iload_n 2, 1) := by decide +kernel
theorem dX6_isPosition_3 : decode cX6_isPosition 3 = .ok (.ifCond .ne 7, 3) := by decide +kernel
theorem dX6_isPosition_6 : decode cX6_isPosition 6 = .ok (.iconst 1, 1) := by decide +kernel
theorem dX6_isPosition_7 : decode cX6_isPosition 7 = .ok (.goto 4, 3) := by decide +kernel
theorem dX6_isPosition_10 : decode cX6_isPosition 10 = .ok (.iconst 0, 1) := by decide +kernel
theorem dX6_isPosition_11 : decode cX6_isPosition 11 = .ok (.istore 4, 2) := by decide +kernel
theorem dX6_isPosition_13 : decode cX6_isPosition 13 = .ok (.iconst 0, 1) := by decide +kernel
theorem dX6_isPosition_14 : decode cX6_isPosition 14 = .ok (.istore 5, 2) := by decide +kernel
theorem dX6_isPosition_16 : decode cX6_isPosition 16 = .ok (.iload 5, 2) := by decide +kernel
theorem dX6_isPosition_18 : decode cX6_isPosition 18 = .ok (.aload_n 0, 1) := by decide +kernel
theorem dX6_isPosition_19 : decode cX6_isPosition 19 = .ok (.getfield 56, 3) := by decide +kernel
theorem dX6_isPosition_22 : decode cX6_isPosition 22 = .ok (.iload_n 1, 1) := by decide +kernel
theorem dX6_isPosition_23 : decode cX6_isPosition 23 = .ok (.iaload, 1) := by decide +kernel
theorem dX6_isPosition_24 : decode cX6_isPosition 24 = .ok (.if_icmp .ge 41, 3) := by decide +kernel
theorem dX6_isPosition_27 : decode cX6_isPosition 27 = .ok (.iload_n 3, 1) := by decide +kernel
theorem dX6_isPosition_28 : decode cX6_isPosition 28 = .ok (.aload_n 0, 1) := by decide +kernel
theorem dX6_isPosition_29 : decode cX6_isPosition 29 = .ok (.getfield 53, 3) := by decide +kernel
theorem dX6_isPosition_32 : decode cX6_isPosition 32 = .ok (.bipush 15, 2) := by decide +kernel
theorem dX6_isPosition_34 : decode cX6_isPosition 34 = .ok (.iload_n 1, 1) := by decide +kernel
theorem dX6_isPosition_35 : decode cX6_isPosition 35 = .ok (.imul, 1) := by decide +kernel
theorem dX6_isPosition_36 : decode cX6_isPosition 36 = .ok (.iload 5, 2) := by decide +kernel
theorem dX6_isPosition_38 : decode cX6_isPosition 38 = .ok (.iadd, 1) := by decide +kernel
theorem dX6_isPosition_39 : decode cX6_isPosition 39 = .ok (.iaload, 1) := by decide +kernel
theorem dX6_isPosition_40 : decode cX6_isPosition 40 = .ok (.iadd, 1) := by decide +kernel
theorem dX6_isPosition_41 : decode cX6_isPosition 41 = .ok (.istore_n 3, 1) := by decide +kernel
theorem dX6_isPosition_42 : decode cX6_isPosition 42 = .ok (.iload 4, 2) := by decide +kernel
theorem dX6_isPosition_44 : decode cX6_isPosition 44 = .ok (.ifCond .ne 8, 3) := by decide +kernel
theorem dX6_isPosition_47 : decode cX6_isPosition 47 = .ok (.iload_n 3, 1) := by decide +kernel
theorem dX6_isPosition_48 : decode cX6_isPosition 48 = .ok (.iload_n 2, 1) := by decide +kernel
theorem dX6_isPosition_49 : decode cX6_isPosition 49 = .ok (.if_icmp .ne 7, 3) := by decide +kernel
theorem dX6_isPosition_52 : decode cX6_isPosition 52 = .ok (.iconst 1, 1) := by decide +kernel
theorem dX6_isPosition_53 : decode cX6_isPosition 53 = .ok (.goto 4, 3) := by decide +kernel
theorem dX6_isPosition_56 : decode cX6_isPosition 56 = .ok (.iconst 0, 1) := by decide +kernel
theorem dX6_isPosition_57 : decode cX6_isPosition 57 = .ok (.istore 4, 2) := by decide +kernel
theorem dX6_isPosition_59 : decode cX6_isPosition 59 = .ok (.iinc 5 1, 3) := by decide +kernel
theorem dX6_isPosition_62 : decode cX6_isPosition 62 = .ok (.goto (-46), 3) := by decide +kernel
theorem dX6_isPosition_65 : decode cX6_isPosition 65 = .ok (.iload 4, 2) := by decide +kernel
theorem dX6_isPosition_67 : decode cX6_isPosition 67 = .ok (.ireturn, 1) := by decide +kernel
theorem dX6_movesFrom_0 : decode cX6_movesFrom 0 = .ok (.iload_n 1, 1) := by decide +kernel
theorem dX6_movesFrom_1 : decode cX6_movesFrom 1 = .ok (.iconst (-1), 1) := by decide +kernel
theorem dX6_movesFrom_2 : decode cX6_movesFrom 2 = .ok (.if_icmp .ne 7, 3) := by decide +kernel
theorem dX6_movesFrom_5 : decode cX6_movesFrom 5 = .ok (.iconst 1, 1) := by decide +kernel
theorem dX6_movesFrom_6 : decode cX6_movesFrom 6 = .ok (.goto 4, 3) := by decide +kernel
end
section
theorem dX6_movesFrom_9 : decode cX6_movesFrom 9 = .ok (.iconst 0, 1) := by decide +kernel
theorem dX6_movesFrom_10 : decode cX6_movesFrom 10 = .ok (.istore_n 3, 1) := by decide +kernel
theorem dX6_movesFrom_11 : decode cX6_movesFrom 11 = .ok (.iconst 0, 1) := by decide +kernel
theorem dX6_movesFrom_12 : decode cX6_movesFrom 12 = .ok (.istore 4, 2) := by decide +kernel
theorem dX6_movesFrom_14 : decode cX6_movesFrom 14 = .ok (.iconst 0, 1) := by decide +kernel
theorem dX6_movesFrom_15 : decode cX6_movesFrom 15 = .ok (.istore 5, 2) := by decide +kernel
theorem dX6_movesFrom_17 : decode cX6_movesFrom 17 = .ok (.iload 5, 2) := by decide +kernel
theorem dX6_movesFrom_19 : decode cX6_movesFrom 19 = .ok (.aload_n 0, 1) := by decide +kernel
theorem dX6_movesFrom_20 : decode cX6_movesFrom 20 = .ok (.getfield 56, 3) := by decide +kernel
theorem dX6_movesFrom_23 : decode cX6_movesFrom 23 = .ok (.iload_n 2, 1) := by decide +kernel
theorem dX6_movesFrom_24 : decode cX6_movesFrom 24 = .ok (.iaload, 1) := by decide +kernel
theorem dX6_movesFrom_25 : decode cX6_movesFrom 25 = .ok (.if_icmp .ge 49, 3) := by decide +kernel
theorem dX6_movesFrom_28 : decode cX6_movesFrom 28 = .ok (.iload 4, 2) := by decide +kernel
theorem dX6_movesFrom_30 : decode cX6_movesFrom 30 = .ok (.aload_n 0, 1) := by decide +kernel
theorem dX6_movesFrom_31 : decode cX6_movesFrom 31 = .ok (.getfield 53, 3) := by decide +kernel
theorem dX6_movesFrom_34 : decode cX6_movesFrom 34 = .ok (.bipush 15, 2) := by decide +kernel
theorem dX6_movesFrom_36 : decode cX6_movesFrom 36 = .ok (.iload_n 2, 1) := by decide +kernel
theorem dX6_movesFrom_37 : decode cX6_movesFrom 37 = .ok (.imul, 1) := by decide +kernel
theorem dX6_movesFrom_38 : decode cX6_movesFrom 38 = .ok (.iload 5, 2) := by decide +kernel
theorem dX6_movesFrom_40 : decode cX6_movesFrom 40 = .ok (.iadd, 1) := by decide +kernel
theorem dX6_movesFrom_41 : decode cX6_movesFrom 41 = .ok (.iaload, 1) := by decide +kernel
theorem dX6_movesFrom_42 : decode cX6_movesFrom 42 = .ok (.iadd, 1) := by decide +kernel
theorem dX6_movesFrom_43 : decode cX6_movesFrom 43 = .ok (.istore 4, 2) := by decide +kernel
theorem dX6_movesFrom_45 : decode cX6_movesFrom 45 = .ok (.iload_n 3, 1) := by decide +kernel
theorem dX6_movesFrom_46 : decode cX6_movesFrom 46 = .ok (.iload_n 1, 1) := by decide +kernel
theorem dX6_movesFrom_47 : decode cX6_movesFrom 47 = .ok (.iconst (-1), 1) := by decide +kernel
theorem dX6_movesFrom_48 : decode cX6_movesFrom 48 = .ok (.if_icmp .eq 13, 3) := by decide +kernel
theorem dX6_movesFrom_51 : decode cX6_movesFrom 51 = .ok (.aload_n 0, 1) := by decide +kernel
theorem dX6_movesFrom_52 : decode cX6_movesFrom 52 = .ok (.iload_n 1, 1) := by decide +kernel
theorem dX6_movesFrom_53 : decode cX6_movesFrom 53 = .ok (.iload 4, 2) := by decide +kernel
theorem dX6_movesFrom_55 : decode cX6_movesFrom 55 = .ok (.invokevirtual 144, 3) := by decide +kernel
theorem dX6_movesFrom_58 : decode cX6_movesFrom 58 = .ok (.ifCond .ne 7, 3) := by decide +kernel
theorem dX6_movesFrom_61 : decode cX6_movesFrom 61 = .ok (.iconst 1, 1) := by decide +kernel
theorem dX6_movesFrom_62 : decode cX6_movesFrom 62 = .ok (.goto 4, 3) := by decide +kernel
theorem dX6_movesFrom_65 : decode cX6_movesFrom 65 = .ok (.iconst 0, 1) := by decide +kernel
theorem dX6_movesFrom_66 : decode cX6_movesFrom 66 = .ok (.iadd, 1) := by decide +kernel
theorem dX6_movesFrom_67 : decode cX6_movesFrom 67 = .ok (.istore_n 3, 1) := by decide +kernel
theorem dX6_movesFrom_68 : decode cX6_movesFrom 68 = .ok (.iinc 5 1, 3) := by decide +kernel
theorem dX6_movesFrom_71 : decode cX6_movesFrom 71 = .ok (.goto (-54), 3) := by decide +kernel
theorem dX6_movesFrom_74 : decode cX6_movesFrom 74 = .ok (.iload_n 3, 1) := by decide +kernel
theorem dX6_movesFrom_75 : decode cX6_movesFrom 75 = .ok (.ireturn, 1) := by decide +kernel
theorem dX6_runs_0 : decode cX6_runs 0 = .ok (.aload_n 0, 1) := by decide +kernel
theorem dX6_runs_1 : decode cX6_runs 1 = .ok (.dup, 1) := by decide +kernel
theorem dX6_runs_2 : decode cX6_runs 2 = .ok (.getfield 147, 3) := by decide +kernel
theorem dX6_runs_5 : decode cX6_runs 5 = .ok (.aload_n 0, 1) := by decide +kernel
theorem dX6_runs_6 : decode cX6_runs 6 = .ok (.aload_n 0, 1) := by decide +kernel
theorem dX6_runs_7 : decode cX6_runs 7 = .ok (.getfield 71, 3) := by decide +kernel
theorem dX6_runs_10 : decode cX6_runs 10 = .ok (.iload_n 2, 1) := by decide +kernel
theorem dX6_runs_11 : decode cX6_runs 11 = .ok (.invokevirtual 150, 3) := by decide +kernel
theorem dX6_runs_14 : decode cX6_runs 14 = .ok (.iadd, 1) := by decide +kernel
theorem dX6_runs_15 : decode cX6_runs 15 = .ok (.putfield 147, 3) := by decide +kernel
theorem dX6_runs_18 : decode cX6_runs 18 = .ok (.aload_n 0, 1) := by decide +kernel
theorem dX6_runs_19 : decode cX6_runs 19 = .ok (.iload_n 2, 1) := by decide +kernel
theorem dX6_runs_20 : decode cX6_runs 20 = .ok (.putfield 71, 3) := by decide +kernel
theorem dX6_runs_23 : decode cX6_runs 23 = .ok (.aload_n 0, 1) := by decide +kernel
theorem dX6_runs_24 : decode cX6_runs 24 = .ok (.getfield 59, 3) := by decide +kernel
theorem dX6_runs_27 : decode cX6_runs 27 = .ok (.iload_n 1, 1) := by decide +kernel
theorem dX6_runs_28 : decode cX6_runs 28 = .ok (.iload_n 2, 1) := by decide +kernel
theorem dX6_runs_29 : decode cX6_runs 29 = .ok (.iastore, 1) := by decide +kernel
theorem dX6_runs_30 : decode cX6_runs 30 = .ok (.aload_n 0, 1) := by decide +kernel
theorem dX6_runs_31 : decode cX6_runs 31 = .ok (.getfield 35, 3) := by decide +kernel
theorem dX6_runs_34 : decode cX6_runs 34 = .ok (.aload_n 0, 1) := by decide +kernel
theorem dX6_runs_35 : decode cX6_runs 35 = .ok (.getfield 13, 3) := by decide +kernel
theorem dX6_runs_38 : decode cX6_runs 38 = .ok (.iload_n 1, 1) := by decide +kernel
theorem dX6_runs_39 : decode cX6_runs 39 = .ok (.iaload, 1) := by decide +kernel
theorem dX6_runs_40 : decode cX6_runs 40 = .ok (.if_icmp .ge 10, 3) := by decide +kernel
theorem dX6_runs_43 : decode cX6_runs 43 = .ok (.aload_n 0, 1) := by decide +kernel
theorem dX6_runs_44 : decode cX6_runs 44 = .ok (.getfield 35, 3) := by decide +kernel
theorem dX6_runs_47 : decode cX6_runs 47 = .ok (.goto 9, 3) := by decide +kernel
theorem dX6_runs_50 : decode cX6_runs 50 = .ok (.aload_n 0, 1) := by decide +kernel
theorem dX6_runs_51 : decode cX6_runs 51 = .ok (.getfield 13, 3) := by decide +kernel
theorem dX6_runs_54 : decode cX6_runs 54 = .ok (.iload_n 1, 1) := by decide +kernel
theorem dX6_runs_55 : decode cX6_runs 55 = .ok (.iaload, 1) := by decide +kernel
theorem dX6_runs_56 : decode cX6_runs 56 = .ok (.istore_n 3, 1) := by decide +kernel
theorem dX6_runs_57 : decode cX6_runs 57 = .ok (.aload_n 0, 1) := by decide +kernel
theorem dX6_runs_58 : decode cX6_runs 58 = .ok (.getfield 13, 3) := by decide +kernel
theorem dX6_runs_61 : decode cX6_runs 61 = .ok (.iload_n 1, 1) := by decide +kernel
theorem dX6_runs_62 : decode cX6_runs 62 = .ok (.iaload, 1) := by decide +kernel
theorem dX6_runs_63 : decode cX6_runs 63 = .ok (.iload_n 3, 1) := by decide +kernel
theorem dX6_runs_64 : decode cX6_runs 64 = .ok (.isub, 1) := by decide +kernel
theorem dX6_runs_65 : decode cX6_runs 65 = .ok (.istore 4, 2) := by decide +kernel
theorem dX6_runs_67 : decode cX6_runs 67 = .ok (.iload 4, 2) := by decide +kernel
theorem dX6_runs_69 : decode cX6_runs 69 = .ok (.aload_n 0, 1) := by decide +kernel
theorem dX6_runs_70 : decode cX6_runs 70 = .ok (.iload_n 1, 1) := by decide +kernel
theorem dX6_runs_71 : decode cX6_runs 71 = .ok (.invokevirtual 113, 3) := by decide +kernel
theorem dX6_runs_74 : decode cX6_runs 74 = .ok (.imul, 1) := by decide +kernel
theorem dX6_runs_75 : decode cX6_runs 75 = .ok (.aload_n 0, 1) := by decide +kernel
theorem dX6_runs_76 : decode cX6_runs 76 = .ok (.getfield 16, 3) := by decide +kernel
theorem dX6_runs_79 : decode cX6_runs 79 = .ok (.iload_n 1, 1) := by decide +kernel
theorem dX6_runs_80 : decode cX6_runs 80 = .ok (.iaload, 1) := by decide +kernel
theorem dX6_runs_81 : decode cX6_runs 81 = .ok (.idiv, 1) := by decide +kernel
theorem dX6_runs_82 : decode cX6_runs 82 = .ok (.istore 5, 2) := by decide +kernel
theorem dX6_runs_84 : decode cX6_runs 84 = .ok (.iload 4, 2) := by decide +kernel
theorem dX6_runs_86 : decode cX6_runs 86 = .ok (.iload 5, 2) := by decide +kernel
theorem dX6_runs_88 : decode cX6_runs 88 = .ok (.isub, 1) := by decide +kernel
theorem dX6_runs_89 : decode cX6_runs 89 = .ok (.istore 6, 2) := by decide +kernel
theorem dX6_runs_91 : decode cX6_runs 91 = .ok (.iload 6, 2) := by decide +kernel
theorem dX6_runs_93 : decode cX6_runs 93 = .ok (.istore 7, 2) := by decide +kernel
theorem dX6_runs_95 : decode cX6_runs 95 = .ok (.iconst 0, 1) := by decide +kernel
theorem dX6_runs_96 : decode cX6_runs 96 = .ok (.istore 8, 2) := by decide +kernel
theorem dX6_runs_98 : decode cX6_runs 98 = .ok (.iconst 0, 1) := by decide +kernel
theorem dX6_runs_99 : decode cX6_runs 99 = .ok (.istore 9, 2) := by decide +kernel
theorem dX6_runs_101 : decode cX6_runs 101 = .ok (.iload 9, 2) := by decide +kernel
theorem dX6_runs_103 : decode cX6_runs 103 = .ok (.aload_n 0, 1) := by decide +kernel
theorem dX6_runs_104 : decode cX6_runs 104 = .ok (.getfield 56, 3) := by decide +kernel
theorem dX6_runs_107 : decode cX6_runs 107 = .ok (.iload_n 2, 1) := by decide +kernel
theorem dX6_runs_108 : decode cX6_runs 108 = .ok (.iaload, 1) := by decide +kernel
theorem dX6_runs_109 : decode cX6_runs 109 = .ok (.if_icmp .ge 164, 3) := by decide +kernel
theorem dX6_runs_112 : decode cX6_runs 112 = .ok (.aload_n 0, 1) := by decide +kernel
theorem dX6_runs_113 : decode cX6_runs 113 = .ok (.getfield 53, 3) := by decide +kernel
theorem dX6_runs_116 : decode cX6_runs 116 = .ok (.bipush 15, 2) := by decide +kernel
theorem dX6_runs_118 : decode cX6_runs 118 = .ok (.iload_n 2, 1) := by decide +kernel
theorem dX6_runs_119 : decode cX6_runs 119 = .ok (.imul, 1) := by decide +kernel
theorem dX6_runs_120 : decode cX6_runs 120 = .ok (.iload 9, 2) := by decide +kernel
theorem dX6_runs_122 : decode cX6_runs 122 = .ok (.iadd, 1) := by decide +kernel
theorem dX6_runs_123 : decode cX6_runs 123 = .ok (.iaload, 1) := by decide +kernel
theorem dX6_runs_124 : decode cX6_runs 124 = .ok (.istore 10, 2) := by decide +kernel
theorem dX6_runs_126 : decode cX6_runs 126 = .ok (.iload 6, 2) := by decide +kernel
theorem dX6_runs_128 : decode cX6_runs 128 = .ok (.iload 10, 2) := by decide +kernel
theorem dX6_runs_130 : decode cX6_runs 130 = .ok (.imul, 1) := by decide +kernel
theorem dX6_runs_131 : decode cX6_runs 131 = .ok (.aload_n 0, 1) := by decide +kernel
theorem dX6_runs_132 : decode cX6_runs 132 = .ok (.getfield 7, 3) := by decide +kernel
theorem dX6_runs_135 : decode cX6_runs 135 = .ok (.iload_n 1, 1) := by decide +kernel
theorem dX6_runs_136 : decode cX6_runs 136 = .ok (.iaload, 1) := by decide +kernel
theorem dX6_runs_137 : decode cX6_runs 137 = .ok (.idiv, 1) := by decide +kernel
theorem dX6_runs_138 : decode cX6_runs 138 = .ok (.istore 11, 2) := by decide +kernel
theorem dX6_runs_140 : decode cX6_runs 140 = .ok (.iconst (-1), 1) := by decide +kernel
theorem dX6_runs_141 : decode cX6_runs 141 = .ok (.istore 12, 2) := by decide +kernel
theorem dX6_runs_143 : decode cX6_runs 143 = .ok (.aload_n 0, 1) := by decide +kernel
theorem dX6_runs_144 : decode cX6_runs 144 = .ok (.getfield 121, 3) := by decide +kernel
theorem dX6_runs_147 : decode cX6_runs 147 = .ok (.iconst 1, 1) := by decide +kernel
theorem dX6_runs_148 : decode cX6_runs 148 = .ok (.isub, 1) := by decide +kernel
theorem dX6_runs_149 : decode cX6_runs 149 = .ok (.istore 13, 2) := by decide +kernel
theorem dX6_runs_151 : decode cX6_runs 151 = .ok (.iload 13, 2) := by decide +kernel
theorem dX6_runs_153 : decode cX6_runs 153 = .ok (.ifCond .lt 45, 3) := by decide +kernel
theorem dX6_runs_156 : decode cX6_runs 156 = .ok (.aload_n 0, 1) := by decide +kernel
theorem dX6_runs_157 : decode cX6_runs 157 = .ok (.getfield 41, 3) := by decide +kernel
theorem dX6_runs_160 : decode cX6_runs 160 = .ok (.iload 13, 2) := by decide +kernel
theorem dX6_runs_162 : decode cX6_runs 162 = .ok (.iaload, 1) := by decide +kernel
theorem dX6_runs_163 : decode cX6_runs 163 = .ok (.iload 10, 2) := by decide +kernel
theorem dX6_runs_165 : decode cX6_runs 165 = .ok (.if_icmp .ne 23, 3) := by decide +kernel
theorem dX6_runs_168 : decode cX6_runs 168 = .ok (.aload_n 0, 1) := by decide +kernel
theorem dX6_runs_169 : decode cX6_runs 169 = .ok (.iload 13, 2) := by decide +kernel
theorem dX6_runs_171 : decode cX6_runs 171 = .ok (.aload_n 0, 1) := by decide +kernel
theorem dX6_runs_172 : decode cX6_runs 172 = .ok (.getfield 19, 3) := by decide +kernel
theorem dX6_runs_175 : decode cX6_runs 175 = .ok (.iload_n 1, 1) := by decide +kernel
theorem dX6_runs_176 : decode cX6_runs 176 = .ok (.iaload, 1) := by decide +kernel
theorem dX6_runs_177 : decode cX6_runs 177 = .ok (.invokevirtual 138, 3) := by decide +kernel
theorem dX6_runs_180 : decode cX6_runs 180 = .ok (.ifCond .eq 8, 3) := by decide +kernel
theorem dX6_runs_183 : decode cX6_runs 183 = .ok (.iload 13, 2) := by decide +kernel
theorem dX6_runs_185 : decode cX6_runs 185 = .ok (.goto 5, 3) := by decide +kernel
theorem dX6_runs_188 : decode cX6_runs 188 = .ok (.iload 12, 2) := by decide +kernel
theorem dX6_runs_190 : decode cX6_runs 190 = .ok (.istore 12, 2) := by decide +kernel
theorem dX6_runs_192 : decode cX6_runs 192 = .ok (.iinc 13 (-1), 3) := by decide +kernel
theorem dX6_runs_195 : decode cX6_runs 195 = .ok (.goto (-44), 3) := by decide +kernel
theorem dX6_runs_198 : decode cX6_runs 198 = .ok (.iload 12, 2) := by decide +kernel
theorem dX6_runs_200 : decode cX6_runs 200 = .ok (.iconst (-1), 1) := by decide +kernel
theorem dX6_runs_201 : decode cX6_runs 201 = .ok (.if_icmp .eq 31, 3) := by decide +kernel
theorem dX6_runs_204 : decode cX6_runs 204 = .ok (.aload_n 0, 1) := by decide +kernel
theorem dX6_runs_205 : decode cX6_runs 205 = .ok (.getfield 47, 3) := by decide +kernel
theorem dX6_runs_208 : decode cX6_runs 208 = .ok (.iload 12, 2) := by decide +kernel
theorem dX6_runs_210 : decode cX6_runs 210 = .ok (.dup2, 1) := by decide +kernel
theorem dX6_runs_211 : decode cX6_runs 211 = .ok (.iaload, 1) := by decide +kernel
theorem dX6_runs_212 : decode cX6_runs 212 = .ok (.iload 11, 2) := by decide +kernel
theorem dX6_runs_214 : decode cX6_runs 214 = .ok (.iadd, 1) := by decide +kernel
theorem dX6_runs_215 : decode cX6_runs 215 = .ok (.iastore, 1) := by decide +kernel
theorem dX6_runs_216 : decode cX6_runs 216 = .ok (.aload_n 0, 1) := by decide +kernel
theorem dX6_runs_217 : decode cX6_runs 217 = .ok (.getfield 50, 3) := by decide +kernel
theorem dX6_runs_220 : decode cX6_runs 220 = .ok (.iload 12, 2) := by decide +kernel
theorem dX6_runs_222 : decode cX6_runs 222 = .ok (.aload_n 0, 1) := by decide +kernel
theorem dX6_runs_223 : decode cX6_runs 223 = .ok (.getfield 19, 3) := by decide +kernel
theorem dX6_runs_226 : decode cX6_runs 226 = .ok (.iload_n 1, 1) := by decide +kernel
theorem dX6_runs_227 : decode cX6_runs 227 = .ok (.iaload, 1) := by decide +kernel
theorem dX6_runs_228 : decode cX6_runs 228 = .ok (.iastore, 1) := by decide +kernel
theorem dX6_runs_229 : decode cX6_runs 229 = .ok (.iinc 8 1, 3) := by decide +kernel
theorem dX6_runs_232 : decode cX6_runs 232 = .ok (.aload_n 0, 1) := by decide +kernel
theorem dX6_runs_233 : decode cX6_runs 233 = .ok (.getfield 62, 3) := by decide +kernel
theorem dX6_runs_236 : decode cX6_runs 236 = .ok (.bipush 15, 2) := by decide +kernel
theorem dX6_runs_238 : decode cX6_runs 238 = .ok (.iload_n 1, 1) := by decide +kernel
theorem dX6_runs_239 : decode cX6_runs 239 = .ok (.imul, 1) := by decide +kernel
theorem dX6_runs_240 : decode cX6_runs 240 = .ok (.iload 9, 2) := by decide +kernel
theorem dX6_runs_242 : decode cX6_runs 242 = .ok (.iadd, 1) := by decide +kernel
theorem dX6_runs_243 : decode cX6_runs 243 = .ok (.iload 11, 2) := by decide +kernel
theorem dX6_runs_245 : decode cX6_runs 245 = .ok (.iastore, 1) := by decide +kernel
theorem dX6_runs_246 : decode cX6_runs 246 = .ok (.aload_n 0, 1) := by decide +kernel
theorem dX6_runs_247 : decode cX6_runs 247 = .ok (.getfield 65, 3) := by decide +kernel
theorem dX6_runs_250 : decode cX6_runs 250 = .ok (.bipush 15, 2) := by decide +kernel
theorem dX6_runs_252 : decode cX6_runs 252 = .ok (.iload_n 1, 1) := by decide +kernel
theorem dX6_runs_253 : decode cX6_runs 253 = .ok (.imul, 1) := by decide +kernel
theorem dX6_runs_254 : decode cX6_runs 254 = .ok (.iload 9, 2) := by decide +kernel
theorem dX6_runs_256 : decode cX6_runs 256 = .ok (.iadd, 1) := by decide +kernel
theorem dX6_runs_257 : decode cX6_runs 257 = .ok (.iload 12, 2) := by decide +kernel
theorem dX6_runs_259 : decode cX6_runs 259 = .ok (.iastore, 1) := by decide +kernel
theorem dX6_runs_260 : decode cX6_runs 260 = .ok (.iload 7, 2) := by decide +kernel
theorem dX6_runs_262 : decode cX6_runs 262 = .ok (.iload 11, 2) := by decide +kernel
theorem dX6_runs_264 : decode cX6_runs 264 = .ok (.isub, 1) := by decide +kernel
theorem dX6_runs_265 : decode cX6_runs 265 = .ok (.istore 7, 2) := by decide +kernel
theorem dX6_runs_267 : decode cX6_runs 267 = .ok (.iinc 9 1, 3) := by decide +kernel
theorem dX6_runs_270 : decode cX6_runs 270 = .ok (.goto (-169), 3) := by decide +kernel
theorem dX6_runs_273 : decode cX6_runs 273 = .ok (.aload_n 0, 1) := by decide +kernel
theorem dX6_runs_274 : decode cX6_runs 274 = .ok (.getfield 68, 3) := by decide +kernel
theorem dX6_runs_277 : decode cX6_runs 277 = .ok (.iconst 3, 1) := by decide +kernel
theorem dX6_runs_278 : decode cX6_runs 278 = .ok (.iload_n 1, 1) := by decide +kernel
theorem dX6_runs_279 : decode cX6_runs 279 = .ok (.imul, 1) := by decide +kernel
theorem dX6_runs_280 : decode cX6_runs 280 = .ok (.iload_n 3, 1) := by decide +kernel
theorem dX6_runs_281 : decode cX6_runs 281 = .ok (.iastore, 1) := by decide +kernel
theorem dX6_runs_282 : decode cX6_runs 282 = .ok (.aload_n 0, 1) := by decide +kernel
theorem dX6_runs_283 : decode cX6_runs 283 = .ok (.getfield 68, 3) := by decide +kernel
theorem dX6_runs_286 : decode cX6_runs 286 = .ok (.iconst 3, 1) := by decide +kernel
theorem dX6_runs_287 : decode cX6_runs 287 = .ok (.iload_n 1, 1) := by decide +kernel
theorem dX6_runs_288 : decode cX6_runs 288 = .ok (.imul, 1) := by decide +kernel
theorem dX6_runs_289 : decode cX6_runs 289 = .ok (.iconst 1, 1) := by decide +kernel
theorem dX6_runs_290 : decode cX6_runs 290 = .ok (.iadd, 1) := by decide +kernel
theorem dX6_runs_291 : decode cX6_runs 291 = .ok (.iload 5, 2) := by decide +kernel
theorem dX6_runs_293 : decode cX6_runs 293 = .ok (.iastore, 1) := by decide +kernel
theorem dX6_runs_294 : decode cX6_runs 294 = .ok (.aload_n 0, 1) := by decide +kernel
theorem dX6_runs_295 : decode cX6_runs 295 = .ok (.getfield 68, 3) := by decide +kernel
theorem dX6_runs_298 : decode cX6_runs 298 = .ok (.iconst 3, 1) := by decide +kernel
theorem dX6_runs_299 : decode cX6_runs 299 = .ok (.iload_n 1, 1) := by decide +kernel
theorem dX6_runs_300 : decode cX6_runs 300 = .ok (.imul, 1) := by decide +kernel
theorem dX6_runs_301 : decode cX6_runs 301 = .ok (.iconst 2, 1) := by decide +kernel
theorem dX6_runs_302 : decode cX6_runs 302 = .ok (.iadd, 1) := by decide +kernel
theorem dX6_runs_303 : decode cX6_runs 303 = .ok (.iload 7, 2) := by decide +kernel
theorem dX6_runs_305 : decode cX6_runs 305 = .ok (.iastore, 1) := by decide +kernel
theorem dX6_runs_306 : decode cX6_runs 306 = .ok (.iload 8, 2) := by decide +kernel
theorem dX6_runs_308 : decode cX6_runs 308 = .ok (.ireturn, 1) := by decide +kernel
theorem dX6_run_0 : decode cX6_run 0 = .ok (.aload_n 0, 1) := by decide +kernel
theorem dX6_run_1 : decode cX6_run 1 = .ok (.iload_n 1, 1) := by decide +kernel
theorem dX6_run_2 : decode cX6_run 2 = .ok (.invokevirtual 106, 3) := by decide +kernel
theorem dX6_run_5 : decode cX6_run 5 = .ok (.ifCond .eq 15, 3) := by decide +kernel
theorem dX6_run_8 : decode cX6_run 8 = .ok (.aload_n 0, 1) := by decide +kernel
theorem dX6_run_9 : decode cX6_run 9 = .ok (.iload_n 2, 1) := by decide +kernel
theorem dX6_run_10 : decode cX6_run 10 = .ok (.invokevirtual 131, 3) := by decide +kernel
theorem dX6_run_13 : decode cX6_run 13 = .ok (.ifCond .eq 7, 3) := by decide +kernel
theorem dX6_run_16 : decode cX6_run 16 = .ok (.iconst 1, 1) := by decide +kernel
theorem dX6_run_17 : decode cX6_run 17 = .ok (.goto 4, 3) := by decide +kernel
theorem dX6_run_20 : decode cX6_run 20 = .ok (.iconst 0, 1) := by decide +kernel
theorem dX6_run_21 : decode cX6_run 21 = .ok (.istore_n 3, 1) := by decide +kernel
theorem dX6_run_22 : decode cX6_run 22 = .ok (.aload_n 0, 1) := by decide +kernel
theorem dX6_run_23 : decode cX6_run 23 = .ok (.iload_n 3, 1) := by decide +kernel
theorem dX6_run_24 : decode cX6_run 24 = .ok (.iload_n 3, 1) := by decide +kernel
theorem dX6_run_25 : decode cX6_run 25 = .ok (.ifCond .eq 26, 3) := by decide +kernel
theorem dX6_run_28 : decode cX6_run 28 = .ok (.aload_n 0, 1) := by decide +kernel
theorem dX6_run_29 : decode cX6_run 29 = .ok (.getfield 59, 3) := by decide +kernel
theorem dX6_run_32 : decode cX6_run 32 = .ok (.iload_n 1, 1) := by decide +kernel
theorem dX6_run_33 : decode cX6_run 33 = .ok (.iaload, 1) := by decide +kernel
theorem dX6_run_34 : decode cX6_run 34 = .ok (.iconst (-1), 1) := by decide +kernel
theorem dX6_run_35 : decode cX6_run 35 = .ok (.if_icmp .ne 16, 3) := by decide +kernel
theorem dX6_run_38 : decode cX6_run 38 = .ok (.aload_n 0, 1) := by decide +kernel
theorem dX6_run_39 : decode cX6_run 39 = .ok (.iload_n 2, 1) := by decide +kernel
theorem dX6_run_40 : decode cX6_run 40 = .ok (.iload_n 1, 1) := by decide +kernel
theorem dX6_run_41 : decode cX6_run 41 = .ok (.invokevirtual 134, 3) := by decide +kernel
theorem dX6_run_44 : decode cX6_run 44 = .ok (.ifCond .eq 7, 3) := by decide +kernel
theorem dX6_run_47 : decode cX6_run 47 = .ok (.iconst 1, 1) := by decide +kernel
theorem dX6_run_48 : decode cX6_run 48 = .ok (.goto 4, 3) := by decide +kernel
theorem dX6_run_51 : decode cX6_run 51 = .ok (.iconst 0, 1) := by decide +kernel
theorem dX6_run_52 : decode cX6_run 52 = .ok (.invokevirtual 102, 3) := by decide +kernel
theorem dX6_run_55 : decode cX6_run 55 = .ok (.ifCond .eq 12, 3) := by decide +kernel
theorem dX6_run_58 : decode cX6_run 58 = .ok (.aload_n 0, 1) := by decide +kernel
theorem dX6_run_59 : decode cX6_run 59 = .ok (.iload_n 1, 1) := by decide +kernel
theorem dX6_run_60 : decode cX6_run 60 = .ok (.iload_n 2, 1) := by decide +kernel
theorem dX6_run_61 : decode cX6_run 61 = .ok (.invokevirtual 154, 3) := by decide +kernel
theorem dX6_run_64 : decode cX6_run 64 = .ok (.goto 4, 3) := by decide +kernel
theorem dX6_run_67 : decode cX6_run 67 = .ok (.iconst 0, 1) := by decide +kernel
theorem dX6_run_68 : decode cX6_run 68 = .ok (.ireturn, 1) := by decide +kernel
theorem dX6_moves_0 : decode cX6_moves 0 = .ok (.aload_n 0, 1) := by decide +kernel
theorem dX6_moves_1 : decode cX6_moves 1 = .ok (.aload_n 0, 1) := by decide +kernel
theorem dX6_moves_2 : decode cX6_moves 2 = .ok (.iload_n 1, 1) := by decide +kernel
theorem dX6_moves_3 : decode cX6_moves 3 = .ok (.invokevirtual 131, 3) := by decide +kernel
theorem dX6_moves_6 : decode cX6_moves 6 = .ok (.invokevirtual 117, 3) := by decide +kernel
theorem dX6_moves_9 : decode cX6_moves 9 = .ok (.ifCond .eq 15, 3) := by decide +kernel
theorem dX6_moves_12 : decode cX6_moves 12 = .ok (.aload_n 0, 1) := by decide +kernel
theorem dX6_moves_13 : decode cX6_moves 13 = .ok (.aload_n 0, 1) := by decide +kernel
theorem dX6_moves_14 : decode cX6_moves 14 = .ok (.getfield 71, 3) := by decide +kernel
theorem dX6_moves_17 : decode cX6_moves 17 = .ok (.iload_n 1, 1) := by decide +kernel
theorem dX6_moves_18 : decode cX6_moves 18 = .ok (.invokevirtual 150, 3) := by decide +kernel
theorem dX6_moves_21 : decode cX6_moves 21 = .ok (.goto 4, 3) := by decide +kernel
theorem dX6_moves_24 : decode cX6_moves 24 = .ok (.iconst 0, 1) := by decide +kernel
theorem dX6_moves_25 : decode cX6_moves 25 = .ok (.ireturn, 1) := by decide +kernel
theorem dX6_moved_0 : decode cX6_moved 0 = .ok (.aload_n 0, 1) := by decide +kernel
theorem dX6_moved_1 : decode cX6_moved 1 = .ok (.aload_n 0, 1) := by decide +kernel
theorem dX6_moved_2 : decode cX6_moved 2 = .ok (.getfield 147, 3) := by decide +kernel
theorem dX6_moved_5 : decode cX6_moved 5 = .ok (.invokevirtual 128, 3) := by decide +kernel
theorem dX6_moved_8 : decode cX6_moved 8 = .ok (.ireturn, 1) := by decide +kernel
theorem dX6_plan_0 : decode cX6_plan 0 = .ok (.aload_n 0, 1) := by decide +kernel
theorem dX6_plan_1 : decode cX6_plan 1 = .ok (.iload_n 1, 1) := by decide +kernel
theorem dX6_plan_2 : decode cX6_plan 2 = .ok (.invokevirtual 106, 3) := by decide +kernel
theorem dX6_plan_5 : decode cX6_plan 5 = .ok (.ifCond .eq 15, 3) := by decide +kernel
theorem dX6_plan_8 : decode cX6_plan 8 = .ok (.aload_n 0, 1) := by decide +kernel
theorem dX6_plan_9 : decode cX6_plan 9 = .ok (.iload_n 2, 1) := by decide +kernel
theorem dX6_plan_10 : decode cX6_plan 10 = .ok (.invokevirtual 131, 3) := by decide +kernel
theorem dX6_plan_13 : decode cX6_plan 13 = .ok (.ifCond .eq 7, 3) := by decide +kernel
theorem dX6_plan_16 : decode cX6_plan 16 = .ok (.iconst 1, 1) := by decide +kernel
theorem dX6_plan_17 : decode cX6_plan 17 = .ok (.goto 4, 3) := by decide +kernel
theorem dX6_plan_20 : decode cX6_plan 20 = .ok (.iconst 0, 1) := by decide +kernel
theorem dX6_plan_21 : decode cX6_plan 21 = .ok (.istore_n 3, 1) := by decide +kernel
theorem dX6_plan_22 : decode cX6_plan 22 = .ok (.iload_n 3, 1) := by decide +kernel
theorem dX6_plan_23 : decode cX6_plan 23 = .ok (.ifCond .eq 35, 3) := by decide +kernel
theorem dX6_plan_26 : decode cX6_plan 26 = .ok (.aload_n 0, 1) := by decide +kernel
theorem dX6_plan_27 : decode cX6_plan 27 = .ok (.getfield 59, 3) := by decide +kernel
theorem dX6_plan_30 : decode cX6_plan 30 = .ok (.iload_n 1, 1) := by decide +kernel
theorem dX6_plan_31 : decode cX6_plan 31 = .ok (.iaload, 1) := by decide +kernel
theorem dX6_plan_32 : decode cX6_plan 32 = .ok (.iconst (-1), 1) := by decide +kernel
theorem dX6_plan_33 : decode cX6_plan 33 = .ok (.if_icmp .ne 25, 3) := by decide +kernel
theorem dX6_plan_36 : decode cX6_plan 36 = .ok (.aload_n 0, 1) := by decide +kernel
theorem dX6_plan_37 : decode cX6_plan 37 = .ok (.iload_n 2, 1) := by decide +kernel
theorem dX6_plan_38 : decode cX6_plan 38 = .ok (.iload_n 1, 1) := by decide +kernel
theorem dX6_plan_39 : decode cX6_plan 39 = .ok (.invokevirtual 134, 3) := by decide +kernel
theorem dX6_plan_42 : decode cX6_plan 42 = .ok (.ifCond .eq 16, 3) := by decide +kernel
theorem dX6_plan_45 : decode cX6_plan 45 = .ok (.aload_n 0, 1) := by decide +kernel
theorem dX6_plan_46 : decode cX6_plan 46 = .ok (.getfield 157, 3) := by decide +kernel
theorem dX6_plan_49 : decode cX6_plan 49 = .ok (.bipush 7, 2) := by decide +kernel
theorem dX6_plan_51 : decode cX6_plan 51 = .ok (.if_icmp .ge 7, 3) := by decide +kernel
theorem dX6_plan_54 : decode cX6_plan 54 = .ok (.iconst 1, 1) := by decide +kernel
theorem dX6_plan_55 : decode cX6_plan 55 = .ok (.goto 4, 3) := by decide +kernel
theorem dX6_plan_58 : decode cX6_plan 58 = .ok (.iconst 0, 1) := by decide +kernel
theorem dX6_plan_59 : decode cX6_plan 59 = .ok (.istore 4, 2) := by decide +kernel
theorem dX6_plan_61 : decode cX6_plan 61 = .ok (.iconst 0, 1) := by decide +kernel
theorem dX6_plan_62 : decode cX6_plan 62 = .ok (.istore 5, 2) := by decide +kernel
theorem dX6_plan_64 : decode cX6_plan 64 = .ok (.iload 5, 2) := by decide +kernel
theorem dX6_plan_66 : decode cX6_plan 66 = .ok (.aload_n 0, 1) := by decide +kernel
theorem dX6_plan_67 : decode cX6_plan 67 = .ok (.getfield 157, 3) := by decide +kernel
theorem dX6_plan_70 : decode cX6_plan 70 = .ok (.if_icmp .ge 32, 3) := by decide +kernel
theorem dX6_plan_73 : decode cX6_plan 73 = .ok (.iload 4, 2) := by decide +kernel
theorem dX6_plan_75 : decode cX6_plan 75 = .ok (.ifCond .eq 18, 3) := by decide +kernel
theorem dX6_plan_78 : decode cX6_plan 78 = .ok (.aload_n 0, 1) := by decide +kernel
theorem dX6_plan_79 : decode cX6_plan 79 = .ok (.getfield 74, 3) := by decide +kernel
theorem dX6_plan_82 : decode cX6_plan 82 = .ok (.iload 5, 2) := by decide +kernel
theorem dX6_plan_84 : decode cX6_plan 84 = .ok (.iaload, 1) := by decide +kernel
theorem dX6_plan_85 : decode cX6_plan 85 = .ok (.iload_n 1, 1) := by decide +kernel
theorem dX6_plan_86 : decode cX6_plan 86 = .ok (.if_icmp .eq 7, 3) := by decide +kernel
theorem dX6_plan_89 : decode cX6_plan 89 = .ok (.iconst 1, 1) := by decide +kernel
theorem dX6_plan_90 : decode cX6_plan 90 = .ok (.goto 4, 3) := by decide +kernel
theorem dX6_plan_93 : decode cX6_plan 93 = .ok (.iconst 0, 1) := by decide +kernel
theorem dX6_plan_94 : decode cX6_plan 94 = .ok (.istore 4, 2) := by decide +kernel
theorem dX6_plan_96 : decode cX6_plan 96 = .ok (.iinc 5 1, 3) := by decide +kernel
theorem dX6_plan_99 : decode cX6_plan 99 = .ok (.goto (-35), 3) := by decide +kernel
theorem dX6_plan_102 : decode cX6_plan 102 = .ok (.aload_n 0, 1) := by decide +kernel
theorem dX6_plan_103 : decode cX6_plan 103 = .ok (.iload_n 3, 1) := by decide +kernel
theorem dX6_plan_104 : decode cX6_plan 104 = .ok (.iload 4, 2) := by decide +kernel
theorem dX6_plan_106 : decode cX6_plan 106 = .ok (.invokevirtual 102, 3) := by decide +kernel
theorem dX6_plan_109 : decode cX6_plan 109 = .ok (.ifCond .ne 5, 3) := by decide +kernel
theorem dX6_plan_112 : decode cX6_plan 112 = .ok (.iconst 0, 1) := by decide +kernel
theorem dX6_plan_113 : decode cX6_plan 113 = .ok (.ireturn, 1) := by decide +kernel
theorem dX6_plan_114 : decode cX6_plan 114 = .ok (.aload_n 0, 1) := by decide +kernel
theorem dX6_plan_115 : decode cX6_plan 115 = .ok (.getfield 74, 3) := by decide +kernel
theorem dX6_plan_118 : decode cX6_plan 118 = .ok (.aload_n 0, 1) := by decide +kernel
theorem dX6_plan_119 : decode cX6_plan 119 = .ok (.getfield 157, 3) := by decide +kernel
theorem dX6_plan_122 : decode cX6_plan 122 = .ok (.iload_n 1, 1) := by decide +kernel
theorem dX6_plan_123 : decode cX6_plan 123 = .ok (.iastore, 1) := by decide +kernel
theorem dX6_plan_124 : decode cX6_plan 124 = .ok (.aload_n 0, 1) := by decide +kernel
theorem dX6_plan_125 : decode cX6_plan 125 = .ok (.getfield 77, 3) := by decide +kernel
theorem dX6_plan_128 : decode cX6_plan 128 = .ok (.aload_n 0, 1) := by decide +kernel
theorem dX6_plan_129 : decode cX6_plan 129 = .ok (.getfield 157, 3) := by decide +kernel
theorem dX6_plan_132 : decode cX6_plan 132 = .ok (.iload_n 2, 1) := by decide +kernel
theorem dX6_plan_133 : decode cX6_plan 133 = .ok (.iastore, 1) := by decide +kernel
theorem dX6_plan_134 : decode cX6_plan 134 = .ok (.aload_n 0, 1) := by decide +kernel
theorem dX6_plan_135 : decode cX6_plan 135 = .ok (.dup, 1) := by decide +kernel
theorem dX6_plan_136 : decode cX6_plan 136 = .ok (.getfield 157, 3) := by decide +kernel
theorem dX6_plan_139 : decode cX6_plan 139 = .ok (.iconst 1, 1) := by decide +kernel
theorem dX6_plan_140 : decode cX6_plan 140 = .ok (.iadd, 1) := by decide +kernel
theorem dX6_plan_141 : decode cX6_plan 141 = .ok (.putfield 157, 3) := by decide +kernel
theorem dX6_plan_144 : decode cX6_plan 144 = .ok (.aload_n 0, 1) := by decide +kernel
theorem dX6_plan_145 : decode cX6_plan 145 = .ok (.getfield 157, 3) := by decide +kernel
theorem dX6_plan_148 : decode cX6_plan 148 = .ok (.iconst 1, 1) := by decide +kernel
theorem dX6_plan_149 : decode cX6_plan 149 = .ok (.isub, 1) := by decide +kernel
theorem dX6_plan_150 : decode cX6_plan 150 = .ok (.ireturn, 1) := by decide +kernel
theorem dX6_waiting_0 : decode cX6_waiting 0 = .ok (.aload_n 0, 1) := by decide +kernel
theorem dX6_waiting_1 : decode cX6_waiting 1 = .ok (.aload_n 0, 1) := by decide +kernel
theorem dX6_waiting_2 : decode cX6_waiting 2 = .ok (.getfield 157, 3) := by decide +kernel
theorem dX6_waiting_5 : decode cX6_waiting 5 = .ok (.invokevirtual 128, 3) := by decide +kernel
theorem dX6_waiting_8 : decode cX6_waiting 8 = .ok (.ireturn, 1) := by decide +kernel
theorem dX6_between_0 : decode cX6_between 0 = .ok (.aload_n 0, 1) := by decide +kernel
theorem dX6_between_1 : decode cX6_between 1 = .ok (.iload_n 1, 1) := by decide +kernel
theorem dX6_between_2 : decode cX6_between 2 = .ok (.bipush 7, 2) := by decide +kernel
theorem dX6_between_4 : decode cX6_between 4 = .ok (.if_icmp .ne 10, 3) := by decide +kernel
theorem dX6_between_7 : decode cX6_between 7 = .ok (.aload_n 0, 1) := by decide +kernel
theorem dX6_between_8 : decode cX6_between 8 = .ok (.getfield 71, 3) := by decide +kernel
theorem dX6_between_11 : decode cX6_between 11 = .ok (.goto 9, 3) := by decide +kernel
theorem dX6_between_14 : decode cX6_between 14 = .ok (.aload_n 0, 1) := by decide +kernel
theorem dX6_between_15 : decode cX6_between 15 = .ok (.getfield 77, 3) := by decide +kernel
theorem dX6_between_18 : decode cX6_between 18 = .ok (.iload_n 1, 1) := by decide +kernel
theorem dX6_between_19 : decode cX6_between 19 = .ok (.iaload, 1) := by decide +kernel
theorem dX6_between_20 : decode cX6_between 20 = .ok (.aload_n 0, 1) := by decide +kernel
theorem dX6_between_21 : decode cX6_between 21 = .ok (.getfield 77, 3) := by decide +kernel
theorem dX6_between_24 : decode cX6_between 24 = .ok (.iload_n 2, 1) := by decide +kernel
theorem dX6_between_25 : decode cX6_between 25 = .ok (.iaload, 1) := by decide +kernel
theorem dX6_between_26 : decode cX6_between 26 = .ok (.invokevirtual 150, 3) := by decide +kernel
theorem dX6_between_29 : decode cX6_between 29 = .ok (.ireturn, 1) := by decide +kernel
theorem dX6_best_0 : decode cX6_best 0 = .ok (.iconst 1, 1) := by decide +kernel
theorem dX6_best_1 : decode cX6_best 1 = .ok (.aload_n 0, 1) := by decide +kernel
theorem dX6_best_2 : decode cX6_best 2 = .ok (.getfield 157, 3) := by decide +kernel
theorem dX6_best_5 : decode cX6_best 5 = .ok (.ishl, 1) := by decide +kernel
theorem dX6_best_6 : decode cX6_best 6 = .ok (.iconst 1, 1) := by decide +kernel
theorem dX6_best_7 : decode cX6_best 7 = .ok (.isub, 1) := by decide +kernel
theorem dX6_best_8 : decode cX6_best 8 = .ok (.istore_n 1, 1) := by decide +kernel
theorem dX6_best_9 : decode cX6_best 9 = .ok (.iload_n 1, 1) := by decide +kernel
theorem dX6_best_10 : decode cX6_best 10 = .ok (.istore_n 2, 1) := by decide +kernel
theorem dX6_best_11 : decode cX6_best 11 = .ok (.iload_n 2, 1) := by decide +kernel
theorem dX6_best_12 : decode cX6_best 12 = .ok (.ifCond .lt 134, 3) := by decide +kernel
theorem dX6_best_15 : decode cX6_best 15 = .ok (.iconst 0, 1) := by decide +kernel
theorem dX6_best_16 : decode cX6_best 16 = .ok (.istore_n 3, 1) := by decide +kernel
theorem dX6_best_17 : decode cX6_best 17 = .ok (.iload_n 3, 1) := by decide +kernel
theorem dX6_best_18 : decode cX6_best 18 = .ok (.bipush 7, 2) := by decide +kernel
theorem dX6_best_20 : decode cX6_best 20 = .ok (.if_icmp .gt 120, 3) := by decide +kernel
theorem dX6_best_23 : decode cX6_best 23 = .ok (.iload_n 2, 1) := by decide +kernel
theorem dX6_best_24 : decode cX6_best 24 = .ok (.iload_n 1, 1) := by decide +kernel
theorem dX6_best_25 : decode cX6_best 25 = .ok (.if_icmp .ne 7, 3) := by decide +kernel
theorem dX6_best_28 : decode cX6_best 28 = .ok (.iconst 0, 1) := by decide +kernel
theorem dX6_best_29 : decode cX6_best 29 = .ok (.goto 6, 3) := by decide +kernel
theorem dX6_best_32 : decode cX6_best 32 = .ok (.sipush 1000, 3) := by decide +kernel
theorem dX6_best_35 : decode cX6_best 35 = .ok (.istore 4, 2) := by decide +kernel
theorem dX6_best_37 : decode cX6_best 37 = .ok (.iconst 0, 1) := by decide +kernel
theorem dX6_best_38 : decode cX6_best 38 = .ok (.istore 5, 2) := by decide +kernel
theorem dX6_best_40 : decode cX6_best 40 = .ok (.iload 5, 2) := by decide +kernel
theorem dX6_best_42 : decode cX6_best 42 = .ok (.aload_n 0, 1) := by decide +kernel
theorem dX6_best_43 : decode cX6_best 43 = .ok (.getfield 157, 3) := by decide +kernel
theorem dX6_best_46 : decode cX6_best 46 = .ok (.if_icmp .ge 75, 3) := by decide +kernel
theorem dX6_best_49 : decode cX6_best 49 = .ok (.iload_n 3, 1) := by decide +kernel
theorem dX6_best_50 : decode cX6_best 50 = .ok (.aload_n 0, 1) := by decide +kernel
theorem dX6_best_51 : decode cX6_best 51 = .ok (.getfield 157, 3) := by decide +kernel
theorem dX6_best_54 : decode cX6_best 54 = .ok (.if_icmp .lt 9, 3) := by decide +kernel
theorem dX6_best_57 : decode cX6_best 57 = .ok (.iload_n 3, 1) := by decide +kernel
theorem dX6_best_58 : decode cX6_best 58 = .ok (.bipush 7, 2) := by decide +kernel
theorem dX6_best_60 : decode cX6_best 60 = .ok (.if_icmp .ne 61, 3) := by decide +kernel
theorem dX6_best_63 : decode cX6_best 63 = .ok (.iload_n 2, 1) := by decide +kernel
theorem dX6_best_64 : decode cX6_best 64 = .ok (.iload 5, 2) := by decide +kernel
theorem dX6_best_66 : decode cX6_best 66 = .ok (.ishr, 1) := by decide +kernel
theorem dX6_best_67 : decode cX6_best 67 = .ok (.iconst 1, 1) := by decide +kernel
theorem dX6_best_68 : decode cX6_best 68 = .ok (.iand, 1) := by decide +kernel
theorem dX6_best_69 : decode cX6_best 69 = .ok (.ifCond .ne 46, 3) := by decide +kernel
theorem dX6_best_72 : decode cX6_best 72 = .ok (.aload_n 0, 1) := by decide +kernel
theorem dX6_best_73 : decode cX6_best 73 = .ok (.iload_n 3, 1) := by decide +kernel
theorem dX6_best_74 : decode cX6_best 74 = .ok (.iload 5, 2) := by decide +kernel
theorem dX6_best_76 : decode cX6_best 76 = .ok (.invokevirtual 160, 3) := by decide +kernel
theorem dX6_best_79 : decode cX6_best 79 = .ok (.aload_n 0, 1) := by decide +kernel
theorem dX6_best_80 : decode cX6_best 80 = .ok (.getfield 83, 3) := by decide +kernel
theorem dX6_best_83 : decode cX6_best 83 = .ok (.bipush 8, 2) := by decide +kernel
theorem dX6_best_85 : decode cX6_best 85 = .ok (.iload_n 2, 1) := by decide +kernel
theorem dX6_best_86 : decode cX6_best 86 = .ok (.iconst 1, 1) := by decide +kernel
theorem dX6_best_87 : decode cX6_best 87 = .ok (.iload 5, 2) := by decide +kernel
theorem dX6_best_89 : decode cX6_best 89 = .ok (.ishl, 1) := by decide +kernel
theorem dX6_best_90 : decode cX6_best 90 = .ok (.ior, 1) := by decide +kernel
theorem dX6_best_91 : decode cX6_best 91 = .ok (.imul, 1) := by decide +kernel
theorem dX6_best_92 : decode cX6_best 92 = .ok (.iload 5, 2) := by decide +kernel
theorem dX6_best_94 : decode cX6_best 94 = .ok (.iadd, 1) := by decide +kernel
theorem dX6_best_95 : decode cX6_best 95 = .ok (.iaload, 1) := by decide +kernel
theorem dX6_best_96 : decode cX6_best 96 = .ok (.iadd, 1) := by decide +kernel
theorem dX6_best_97 : decode cX6_best 97 = .ok (.istore 6, 2) := by decide +kernel
theorem dX6_best_99 : decode cX6_best 99 = .ok (.iload 6, 2) := by decide +kernel
theorem dX6_best_101 : decode cX6_best 101 = .ok (.iload 4, 2) := by decide +kernel
theorem dX6_best_103 : decode cX6_best 103 = .ok (.if_icmp .ge 8, 3) := by decide +kernel
theorem dX6_best_106 : decode cX6_best 106 = .ok (.iload 6, 2) := by decide +kernel
theorem dX6_best_108 : decode cX6_best 108 = .ok (.goto 5, 3) := by decide +kernel
theorem dX6_best_111 : decode cX6_best 111 = .ok (.iload 4, 2) := by decide +kernel
theorem dX6_best_113 : decode cX6_best 113 = .ok (.istore 4, 2) := by decide +kernel
theorem dX6_best_115 : decode cX6_best 115 = .ok (.iinc 5 1, 3) := by decide +kernel
theorem dX6_best_118 : decode cX6_best 118 = .ok (.goto (-78), 3) := by decide +kernel
theorem dX6_best_121 : decode cX6_best 121 = .ok (.aload_n 0, 1) := by decide +kernel
theorem dX6_best_122 : decode cX6_best 122 = .ok (.getfield 83, 3) := by decide +kernel
theorem dX6_best_125 : decode cX6_best 125 = .ok (.bipush 8, 2) := by decide +kernel
theorem dX6_best_127 : decode cX6_best 127 = .ok (.iload_n 2, 1) := by decide +kernel
theorem dX6_best_128 : decode cX6_best 128 = .ok (.imul, 1) := by decide +kernel
theorem dX6_best_129 : decode cX6_best 129 = .ok (.iload_n 3, 1) := by decide +kernel
theorem dX6_best_130 : decode cX6_best 130 = .ok (.iadd, 1) := by decide +kernel
theorem dX6_best_131 : decode cX6_best 131 = .ok (.iload 4, 2) := by decide +kernel
theorem dX6_best_133 : decode cX6_best 133 = .ok (.iastore, 1) := by decide +kernel
theorem dX6_best_134 : decode cX6_best 134 = .ok (.iinc 3 1, 3) := by decide +kernel
theorem dX6_best_137 : decode cX6_best 137 = .ok (.goto (-120), 3) := by decide +kernel
theorem dX6_best_140 : decode cX6_best 140 = .ok (.iinc 2 (-1), 3) := by decide +kernel
theorem dX6_best_143 : decode cX6_best 143 = .ok (.goto (-132), 3) := by decide +kernel
theorem dX6_best_146 : decode cX6_best 146 = .ok (.iconst 0, 1) := by decide +kernel
theorem dX6_best_147 : decode cX6_best 147 = .ok (.istore_n 2, 1) := by decide +kernel
theorem dX6_best_148 : decode cX6_best 148 = .ok (.bipush 7, 2) := by decide +kernel
theorem dX6_best_150 : decode cX6_best 150 = .ok (.istore_n 3, 1) := by decide +kernel
theorem dX6_best_151 : decode cX6_best 151 = .ok (.iconst 0, 1) := by decide +kernel
theorem dX6_best_152 : decode cX6_best 152 = .ok (.istore 4, 2) := by decide +kernel
theorem dX6_best_154 : decode cX6_best 154 = .ok (.iload 4, 2) := by decide +kernel
theorem dX6_best_156 : decode cX6_best 156 = .ok (.aload_n 0, 1) := by decide +kernel
theorem dX6_best_157 : decode cX6_best 157 = .ok (.getfield 157, 3) := by decide +kernel
theorem dX6_best_160 : decode cX6_best 160 = .ok (.if_icmp .ge 119, 3) := by decide +kernel
theorem dX6_best_163 : decode cX6_best 163 = .ok (.iconst (-1), 1) := by decide +kernel
theorem dX6_best_164 : decode cX6_best 164 = .ok (.istore 5, 2) := by decide +kernel
theorem dX6_best_166 : decode cX6_best 166 = .ok (.aload_n 0, 1) := by decide +kernel
theorem dX6_best_167 : decode cX6_best 167 = .ok (.getfield 157, 3) := by decide +kernel
theorem dX6_best_170 : decode cX6_best 170 = .ok (.iconst 1, 1) := by decide +kernel
theorem dX6_best_171 : decode cX6_best 171 = .ok (.isub, 1) := by decide +kernel
theorem dX6_best_172 : decode cX6_best 172 = .ok (.istore 6, 2) := by decide +kernel
theorem dX6_best_174 : decode cX6_best 174 = .ok (.iload 6, 2) := by decide +kernel
theorem dX6_best_176 : decode cX6_best 176 = .ok (.ifCond .lt 78, 3) := by decide +kernel
theorem dX6_best_179 : decode cX6_best 179 = .ok (.iload_n 2, 1) := by decide +kernel
theorem dX6_best_180 : decode cX6_best 180 = .ok (.iload 6, 2) := by decide +kernel
theorem dX6_best_182 : decode cX6_best 182 = .ok (.ishr, 1) := by decide +kernel
theorem dX6_best_183 : decode cX6_best 183 = .ok (.iconst 1, 1) := by decide +kernel
theorem dX6_best_184 : decode cX6_best 184 = .ok (.iand, 1) := by decide +kernel
theorem dX6_best_185 : decode cX6_best 185 = .ok (.ifCond .ne 46, 3) := by decide +kernel
theorem dX6_best_188 : decode cX6_best 188 = .ok (.aload_n 0, 1) := by decide +kernel
theorem dX6_best_189 : decode cX6_best 189 = .ok (.iload_n 3, 1) := by decide +kernel
theorem dX6_best_190 : decode cX6_best 190 = .ok (.iload 6, 2) := by decide +kernel
theorem dX6_best_192 : decode cX6_best 192 = .ok (.invokevirtual 160, 3) := by decide +kernel
end
section
theorem dX6_best_195 : decode cX6_best 195 = .ok (.aload_n 0, 1) := by decide +kernel
theorem dX6_best_196 : decode cX6_best 196 = .ok (.getfield 83, 3) := by decide +kernel
theorem dX6_best_199 : decode cX6_best 199 = .ok (.bipush 8, 2) := by decide +kernel
theorem dX6_best_201 : decode cX6_best 201 = .ok (.iload_n 2, 1) := by decide +kernel
theorem dX6_best_202 : decode cX6_best 202 = .ok (.iconst 1, 1) := by decide +kernel
theorem dX6_best_203 : decode cX6_best 203 = .ok (.iload 6, 2) := by decide +kernel
theorem dX6_best_205 : decode cX6_best 205 = .ok (.ishl, 1) := by decide +kernel
theorem dX6_best_206 : decode cX6_best 206 = .ok (.ior, 1) := by decide +kernel
theorem dX6_best_207 : decode cX6_best 207 = .ok (.imul, 1) := by decide +kernel
theorem dX6_best_208 : decode cX6_best 208 = .ok (.iload 6, 2) := by decide +kernel
theorem dX6_best_210 : decode cX6_best 210 = .ok (.iadd, 1) := by decide +kernel
theorem dX6_best_211 : decode cX6_best 211 = .ok (.iaload, 1) := by decide +kernel
theorem dX6_best_212 : decode cX6_best 212 = .ok (.iadd, 1) := by decide +kernel
theorem dX6_best_213 : decode cX6_best 213 = .ok (.aload_n 0, 1) := by decide +kernel
theorem dX6_best_214 : decode cX6_best 214 = .ok (.getfield 83, 3) := by decide +kernel
theorem dX6_best_217 : decode cX6_best 217 = .ok (.bipush 8, 2) := by decide +kernel
theorem dX6_best_219 : decode cX6_best 219 = .ok (.iload_n 2, 1) := by decide +kernel
theorem dX6_best_220 : decode cX6_best 220 = .ok (.imul, 1) := by decide +kernel
theorem dX6_best_221 : decode cX6_best 221 = .ok (.iload_n 3, 1) := by decide +kernel
theorem dX6_best_222 : decode cX6_best 222 = .ok (.iadd, 1) := by decide +kernel
theorem dX6_best_223 : decode cX6_best 223 = .ok (.iaload, 1) := by decide +kernel
theorem dX6_best_224 : decode cX6_best 224 = .ok (.if_icmp .ne 7, 3) := by decide +kernel
theorem dX6_best_227 : decode cX6_best 227 = .ok (.iconst 1, 1) := by decide +kernel
theorem dX6_best_228 : decode cX6_best 228 = .ok (.goto 4, 3) := by decide +kernel
theorem dX6_best_231 : decode cX6_best 231 = .ok (.iconst 0, 1) := by decide +kernel
theorem dX6_best_232 : decode cX6_best 232 = .ok (.istore 7, 2) := by decide +kernel
theorem dX6_best_234 : decode cX6_best 234 = .ok (.iload 7, 2) := by decide +kernel
theorem dX6_best_236 : decode cX6_best 236 = .ok (.ifCond .eq 8, 3) := by decide +kernel
theorem dX6_best_239 : decode cX6_best 239 = .ok (.iload 6, 2) := by decide +kernel
theorem dX6_best_241 : decode cX6_best 241 = .ok (.goto 5, 3) := by decide +kernel
theorem dX6_best_244 : decode cX6_best 244 = .ok (.iload 5, 2) := by decide +kernel
theorem dX6_best_246 : decode cX6_best 246 = .ok (.istore 5, 2) := by decide +kernel
theorem dX6_best_248 : decode cX6_best 248 = .ok (.iinc 6 (-1), 3) := by decide +kernel
theorem dX6_best_251 : decode cX6_best 251 = .ok (.goto (-77), 3) := by decide +kernel
theorem dX6_best_254 : decode cX6_best 254 = .ok (.aload_n 0, 1) := by decide +kernel
theorem dX6_best_255 : decode cX6_best 255 = .ok (.getfield 86, 3) := by decide +kernel
theorem dX6_best_258 : decode cX6_best 258 = .ok (.iload 4, 2) := by decide +kernel
theorem dX6_best_260 : decode cX6_best 260 = .ok (.iload 5, 2) := by decide +kernel
theorem dX6_best_262 : decode cX6_best 262 = .ok (.iastore, 1) := by decide +kernel
theorem dX6_best_263 : decode cX6_best 263 = .ok (.iload_n 2, 1) := by decide +kernel
theorem dX6_best_264 : decode cX6_best 264 = .ok (.iconst 1, 1) := by decide +kernel
theorem dX6_best_265 : decode cX6_best 265 = .ok (.iload 5, 2) := by decide +kernel
theorem dX6_best_267 : decode cX6_best 267 = .ok (.ishl, 1) := by decide +kernel
theorem dX6_best_268 : decode cX6_best 268 = .ok (.ior, 1) := by decide +kernel
theorem dX6_best_269 : decode cX6_best 269 = .ok (.istore_n 2, 1) := by decide +kernel
theorem dX6_best_270 : decode cX6_best 270 = .ok (.iload 5, 2) := by decide +kernel
theorem dX6_best_272 : decode cX6_best 272 = .ok (.istore_n 3, 1) := by decide +kernel
theorem dX6_best_273 : decode cX6_best 273 = .ok (.iinc 4 1, 3) := by decide +kernel
theorem dX6_best_276 : decode cX6_best 276 = .ok (.goto (-122), 3) := by decide +kernel
theorem dX6_best_279 : decode cX6_best 279 = .ok (.aload_n 0, 1) := by decide +kernel
theorem dX6_best_280 : decode cX6_best 280 = .ok (.getfield 83, 3) := by decide +kernel
theorem dX6_best_283 : decode cX6_best 283 = .ok (.bipush 7, 2) := by decide +kernel
theorem dX6_best_285 : decode cX6_best 285 = .ok (.iaload, 1) := by decide +kernel
theorem dX6_best_286 : decode cX6_best 286 = .ok (.ireturn, 1) := by decide +kernel
theorem dX6_fewestMoves_0 : decode cX6_fewestMoves 0 = .ok (.aload_n 0, 1) := by decide +kernel
theorem dX6_fewestMoves_1 : decode cX6_fewestMoves 1 = .ok (.aload_n 0, 1) := by decide +kernel
theorem dX6_fewestMoves_2 : decode cX6_fewestMoves 2 = .ok (.invokevirtual 163, 3) := by decide +kernel
theorem dX6_fewestMoves_5 : decode cX6_fewestMoves 5 = .ok (.invokevirtual 128, 3) := by decide +kernel
theorem dX6_fewestMoves_8 : decode cX6_fewestMoves 8 = .ok (.ireturn, 1) := by decide +kernel
theorem dX6_fewestByTrying_0 : decode cX6_fewestByTrying 0 = .ok (.aload_n 0, 1) := by decide +kernel
theorem dX6_fewestByTrying_1 : decode cX6_fewestByTrying 1 = .ok (.aload_n 0, 1) := by decide +kernel
theorem dX6_fewestByTrying_2 : decode cX6_fewestByTrying 2 = .ok (.invokevirtual 163, 3) := by decide +kernel
theorem dX6_fewestByTrying_5 : decode cX6_fewestByTrying 5 = .ok (.invokevirtual 128, 3) := by decide +kernel
theorem dX6_fewestByTrying_8 : decode cX6_fewestByTrying 8 = .ok (.ireturn, 1) := by decide +kernel
theorem dX6_nextAt_0 : decode cX6_nextAt 0 = .ok (.aload_n 0, 1) := by decide +kernel
theorem dX6_nextAt_1 : decode cX6_nextAt 1 = .ok (.iload_n 1, 1) := by decide +kernel
theorem dX6_nextAt_2 : decode cX6_nextAt 2 = .ok (.iconst 0, 1) := by decide +kernel
theorem dX6_nextAt_3 : decode cX6_nextAt 3 = .ok (.aload_n 0, 1) := by decide +kernel
theorem dX6_nextAt_4 : decode cX6_nextAt 4 = .ok (.getfield 157, 3) := by decide +kernel
theorem dX6_nextAt_7 : decode cX6_nextAt 7 = .ok (.iconst 1, 1) := by decide +kernel
theorem dX6_nextAt_8 : decode cX6_nextAt 8 = .ok (.isub, 1) := by decide +kernel
theorem dX6_nextAt_9 : decode cX6_nextAt 9 = .ok (.invokestatic 95, 3) := by decide +kernel
theorem dX6_nextAt_12 : decode cX6_nextAt 12 = .ok (.invokevirtual 117, 3) := by decide +kernel
theorem dX6_nextAt_15 : decode cX6_nextAt 15 = .ok (.ifCond .ne 5, 3) := by decide +kernel
theorem dX6_nextAt_18 : decode cX6_nextAt 18 = .ok (.iconst 0, 1) := by decide +kernel
theorem dX6_nextAt_19 : decode cX6_nextAt 19 = .ok (.ireturn, 1) := by decide +kernel
theorem dX6_nextAt_20 : decode cX6_nextAt 20 = .ok (.aload_n 0, 1) := by decide +kernel
theorem dX6_nextAt_21 : decode cX6_nextAt 21 = .ok (.invokevirtual 163, 3) := by decide +kernel
theorem dX6_nextAt_24 : decode cX6_nextAt 24 = .ok (.pop, 1) := by decide +kernel
theorem dX6_nextAt_25 : decode cX6_nextAt 25 = .ok (.aload_n 0, 1) := by decide +kernel
theorem dX6_nextAt_26 : decode cX6_nextAt 26 = .ok (.getfield 86, 3) := by decide +kernel
theorem dX6_nextAt_29 : decode cX6_nextAt 29 = .ok (.iload_n 1, 1) := by decide +kernel
theorem dX6_nextAt_30 : decode cX6_nextAt 30 = .ok (.iaload, 1) := by decide +kernel
theorem dX6_nextAt_31 : decode cX6_nextAt 31 = .ok (.ireturn, 1) := by decide +kernel
theorem dX6_runAll_0 : decode cX6_runAll 0 = .ok (.aload_n 0, 1) := by decide +kernel
theorem dX6_runAll_1 : decode cX6_runAll 1 = .ok (.iconst 0, 1) := by decide +kernel
theorem dX6_runAll_2 : decode cX6_runAll 2 = .ok (.putfield 89, 3) := by decide +kernel
theorem dX6_runAll_5 : decode cX6_runAll 5 = .ok (.aload_n 0, 1) := by decide +kernel
theorem dX6_runAll_6 : decode cX6_runAll 6 = .ok (.invokevirtual 163, 3) := by decide +kernel
theorem dX6_runAll_9 : decode cX6_runAll 9 = .ok (.pop, 1) := by decide +kernel
theorem dX6_runAll_10 : decode cX6_runAll 10 = .ok (.iconst 0, 1) := by decide +kernel
theorem dX6_runAll_11 : decode cX6_runAll 11 = .ok (.istore_n 1, 1) := by decide +kernel
theorem dX6_runAll_12 : decode cX6_runAll 12 = .ok (.iconst 0, 1) := by decide +kernel
theorem dX6_runAll_13 : decode cX6_runAll 13 = .ok (.istore_n 2, 1) := by decide +kernel
theorem dX6_runAll_14 : decode cX6_runAll 14 = .ok (.iload_n 2, 1) := by decide +kernel
theorem dX6_runAll_15 : decode cX6_runAll 15 = .ok (.aload_n 0, 1) := by decide +kernel
theorem dX6_runAll_16 : decode cX6_runAll 16 = .ok (.getfield 157, 3) := by decide +kernel
theorem dX6_runAll_19 : decode cX6_runAll 19 = .ok (.if_icmp .ge 65, 3) := by decide +kernel
theorem dX6_runAll_22 : decode cX6_runAll 22 = .ok (.aload_n 0, 1) := by decide +kernel
theorem dX6_runAll_23 : decode cX6_runAll 23 = .ok (.getfield 74, 3) := by decide +kernel
theorem dX6_runAll_26 : decode cX6_runAll 26 = .ok (.aload_n 0, 1) := by decide +kernel
theorem dX6_runAll_27 : decode cX6_runAll 27 = .ok (.getfield 86, 3) := by decide +kernel
theorem dX6_runAll_30 : decode cX6_runAll 30 = .ok (.iload_n 2, 1) := by decide +kernel
theorem dX6_runAll_31 : decode cX6_runAll 31 = .ok (.iaload, 1) := by decide +kernel
theorem dX6_runAll_32 : decode cX6_runAll 32 = .ok (.iaload, 1) := by decide +kernel
theorem dX6_runAll_33 : decode cX6_runAll 33 = .ok (.istore_n 3, 1) := by decide +kernel
theorem dX6_runAll_34 : decode cX6_runAll 34 = .ok (.aload_n 0, 1) := by decide +kernel
theorem dX6_runAll_35 : decode cX6_runAll 35 = .ok (.getfield 77, 3) := by decide +kernel
theorem dX6_runAll_38 : decode cX6_runAll 38 = .ok (.aload_n 0, 1) := by decide +kernel
theorem dX6_runAll_39 : decode cX6_runAll 39 = .ok (.getfield 86, 3) := by decide +kernel
theorem dX6_runAll_42 : decode cX6_runAll 42 = .ok (.iload_n 2, 1) := by decide +kernel
theorem dX6_runAll_43 : decode cX6_runAll 43 = .ok (.iaload, 1) := by decide +kernel
theorem dX6_runAll_44 : decode cX6_runAll 44 = .ok (.iaload, 1) := by decide +kernel
theorem dX6_runAll_45 : decode cX6_runAll 45 = .ok (.istore 4, 2) := by decide +kernel
theorem dX6_runAll_47 : decode cX6_runAll 47 = .ok (.aload_n 0, 1) := by decide +kernel
theorem dX6_runAll_48 : decode cX6_runAll 48 = .ok (.getfield 59, 3) := by decide +kernel
theorem dX6_runAll_51 : decode cX6_runAll 51 = .ok (.iload_n 3, 1) := by decide +kernel
theorem dX6_runAll_52 : decode cX6_runAll 52 = .ok (.iaload, 1) := by decide +kernel
theorem dX6_runAll_53 : decode cX6_runAll 53 = .ok (.iconst (-1), 1) := by decide +kernel
theorem dX6_runAll_54 : decode cX6_runAll 54 = .ok (.if_icmp .ne 24, 3) := by decide +kernel
theorem dX6_runAll_57 : decode cX6_runAll 57 = .ok (.aload_n 0, 1) := by decide +kernel
theorem dX6_runAll_58 : decode cX6_runAll 58 = .ok (.iload 4, 2) := by decide +kernel
theorem dX6_runAll_60 : decode cX6_runAll 60 = .ok (.iload_n 3, 1) := by decide +kernel
theorem dX6_runAll_61 : decode cX6_runAll 61 = .ok (.invokevirtual 134, 3) := by decide +kernel
theorem dX6_runAll_64 : decode cX6_runAll 64 = .ok (.ifCond .eq 14, 3) := by decide +kernel
theorem dX6_runAll_67 : decode cX6_runAll 67 = .ok (.aload_n 0, 1) := by decide +kernel
theorem dX6_runAll_68 : decode cX6_runAll 68 = .ok (.iload_n 3, 1) := by decide +kernel
theorem dX6_runAll_69 : decode cX6_runAll 69 = .ok (.iload 4, 2) := by decide +kernel
theorem dX6_runAll_71 : decode cX6_runAll 71 = .ok (.invokevirtual 154, 3) := by decide +kernel
theorem dX6_runAll_74 : decode cX6_runAll 74 = .ok (.pop, 1) := by decide +kernel
theorem dX6_runAll_75 : decode cX6_runAll 75 = .ok (.iinc 1 1, 3) := by decide +kernel
theorem dX6_runAll_78 : decode cX6_runAll 78 = .ok (.iinc 2 1, 3) := by decide +kernel
theorem dX6_runAll_81 : decode cX6_runAll 81 = .ok (.goto (-67), 3) := by decide +kernel
theorem dX6_runAll_84 : decode cX6_runAll 84 = .ok (.aload_n 0, 1) := by decide +kernel
theorem dX6_runAll_85 : decode cX6_runAll 85 = .ok (.iconst 0, 1) := by decide +kernel
theorem dX6_runAll_86 : decode cX6_runAll 86 = .ok (.putfield 157, 3) := by decide +kernel
theorem dX6_runAll_89 : decode cX6_runAll 89 = .ok (.iload_n 1, 1) := by decide +kernel
theorem dX6_runAll_90 : decode cX6_runAll 90 = .ok (.ireturn, 1) := by decide +kernel
theorem dX6_slits_0 : decode cX6_slits 0 = .ok (.aload_n 0, 1) := by decide +kernel
theorem dX6_slits_1 : decode cX6_slits 1 = .ok (.aload_n 0, 1) := by decide +kernel
theorem dX6_slits_2 : decode cX6_slits 2 = .ok (.iload_n 1, 1) := by decide +kernel
theorem dX6_slits_3 : decode cX6_slits 3 = .ok (.invokevirtual 106, 3) := by decide +kernel
theorem dX6_slits_6 : decode cX6_slits 6 = .ok (.invokevirtual 117, 3) := by decide +kernel
theorem dX6_slits_9 : decode cX6_slits 9 = .ok (.ifCond .eq 31, 3) := by decide +kernel
theorem dX6_slits_12 : decode cX6_slits 12 = .ok (.aload_n 0, 1) := by decide +kernel
theorem dX6_slits_13 : decode cX6_slits 13 = .ok (.getfield 59, 3) := by decide +kernel
theorem dX6_slits_16 : decode cX6_slits 16 = .ok (.iload_n 1, 1) := by decide +kernel
theorem dX6_slits_17 : decode cX6_slits 17 = .ok (.iaload, 1) := by decide +kernel
theorem dX6_slits_18 : decode cX6_slits 18 = .ok (.iconst (-1), 1) := by decide +kernel
theorem dX6_slits_19 : decode cX6_slits 19 = .ok (.if_icmp .ne 7, 3) := by decide +kernel
theorem dX6_slits_22 : decode cX6_slits 22 = .ok (.iconst (-1), 1) := by decide +kernel
theorem dX6_slits_23 : decode cX6_slits 23 = .ok (.goto 18, 3) := by decide +kernel
theorem dX6_slits_26 : decode cX6_slits 26 = .ok (.aload_n 0, 1) := by decide +kernel
theorem dX6_slits_27 : decode cX6_slits 27 = .ok (.getfield 56, 3) := by decide +kernel
theorem dX6_slits_30 : decode cX6_slits 30 = .ok (.aload_n 0, 1) := by decide +kernel
theorem dX6_slits_31 : decode cX6_slits 31 = .ok (.getfield 59, 3) := by decide +kernel
theorem dX6_slits_34 : decode cX6_slits 34 = .ok (.iload_n 1, 1) := by decide +kernel
theorem dX6_slits_35 : decode cX6_slits 35 = .ok (.iaload, 1) := by decide +kernel
theorem dX6_slits_36 : decode cX6_slits 36 = .ok (.iaload, 1) := by decide +kernel
theorem dX6_slits_37 : decode cX6_slits 37 = .ok (.goto 4, 3) := by decide +kernel
theorem dX6_slits_40 : decode cX6_slits 40 = .ok (.iconst 0, 1) := by decide +kernel
theorem dX6_slits_41 : decode cX6_slits 41 = .ok (.ireturn, 1) := by decide +kernel
theorem dX6_isSlit_0 : decode cX6_isSlit 0 = .ok (.aload_n 0, 1) := by decide +kernel
theorem dX6_isSlit_1 : decode cX6_isSlit 1 = .ok (.iload_n 1, 1) := by decide +kernel
theorem dX6_isSlit_2 : decode cX6_isSlit 2 = .ok (.invokevirtual 106, 3) := by decide +kernel
theorem dX6_isSlit_5 : decode cX6_isSlit 5 = .ok (.istore_n 3, 1) := by decide +kernel
theorem dX6_isSlit_6 : decode cX6_isSlit 6 = .ok (.aload_n 0, 1) := by decide +kernel
theorem dX6_isSlit_7 : decode cX6_isSlit 7 = .ok (.iload_n 3, 1) := by decide +kernel
theorem dX6_isSlit_8 : decode cX6_isSlit 8 = .ok (.ifCond .eq 38, 3) := by decide +kernel
theorem dX6_isSlit_11 : decode cX6_isSlit 11 = .ok (.aload_n 0, 1) := by decide +kernel
theorem dX6_isSlit_12 : decode cX6_isSlit 12 = .ok (.getfield 59, 3) := by decide +kernel
theorem dX6_isSlit_15 : decode cX6_isSlit 15 = .ok (.iload_n 1, 1) := by decide +kernel
theorem dX6_isSlit_16 : decode cX6_isSlit 16 = .ok (.iaload, 1) := by decide +kernel
theorem dX6_isSlit_17 : decode cX6_isSlit 17 = .ok (.iconst (-1), 1) := by decide +kernel
theorem dX6_isSlit_18 : decode cX6_isSlit 18 = .ok (.if_icmp .eq 28, 3) := by decide +kernel
theorem dX6_isSlit_21 : decode cX6_isSlit 21 = .ok (.iload_n 2, 1) := by decide +kernel
theorem dX6_isSlit_22 : decode cX6_isSlit 22 = .ok (.iconst 0, 1) := by decide +kernel
theorem dX6_isSlit_23 : decode cX6_isSlit 23 = .ok (.aload_n 0, 1) := by decide +kernel
theorem dX6_isSlit_24 : decode cX6_isSlit 24 = .ok (.getfield 56, 3) := by decide +kernel
theorem dX6_isSlit_27 : decode cX6_isSlit 27 = .ok (.aload_n 0, 1) := by decide +kernel
theorem dX6_isSlit_28 : decode cX6_isSlit 28 = .ok (.getfield 59, 3) := by decide +kernel
theorem dX6_isSlit_31 : decode cX6_isSlit 31 = .ok (.iload_n 1, 1) := by decide +kernel
theorem dX6_isSlit_32 : decode cX6_isSlit 32 = .ok (.iaload, 1) := by decide +kernel
theorem dX6_isSlit_33 : decode cX6_isSlit 33 = .ok (.iaload, 1) := by decide +kernel
theorem dX6_isSlit_34 : decode cX6_isSlit 34 = .ok (.iconst 1, 1) := by decide +kernel
theorem dX6_isSlit_35 : decode cX6_isSlit 35 = .ok (.isub, 1) := by decide +kernel
theorem dX6_isSlit_36 : decode cX6_isSlit 36 = .ok (.invokestatic 95, 3) := by decide +kernel
theorem dX6_isSlit_39 : decode cX6_isSlit 39 = .ok (.ifCond .eq 7, 3) := by decide +kernel
theorem dX6_isSlit_42 : decode cX6_isSlit 42 = .ok (.iconst 1, 1) := by decide +kernel
theorem dX6_isSlit_43 : decode cX6_isSlit 43 = .ok (.goto 4, 3) := by decide +kernel
theorem dX6_isSlit_46 : decode cX6_isSlit 46 = .ok (.iconst 0, 1) := by decide +kernel
theorem dX6_isSlit_47 : decode cX6_isSlit 47 = .ok (.invokevirtual 117, 3) := by decide +kernel
theorem dX6_isSlit_50 : decode cX6_isSlit 50 = .ok (.ireturn, 1) := by decide +kernel
theorem dX6_slitWeight_0 : decode cX6_slitWeight 0 = .ok (.aload_n 0, 1) := by decide +kernel
theorem dX6_slitWeight_1 : decode cX6_slitWeight 1 = .ok (.iload_n 1, 1) := by decide +kernel
theorem dX6_slitWeight_2 : decode cX6_slitWeight 2 = .ok (.iload_n 2, 1) := by decide +kernel
theorem dX6_slitWeight_3 : decode cX6_slitWeight 3 = .ok (.invokevirtual 167, 3) := by decide +kernel
theorem dX6_slitWeight_6 : decode cX6_slitWeight 6 = .ok (.ifCond .eq 17, 3) := by decide +kernel
theorem dX6_slitWeight_9 : decode cX6_slitWeight 9 = .ok (.aload_n 0, 1) := by decide +kernel
theorem dX6_slitWeight_10 : decode cX6_slitWeight 10 = .ok (.getfield 62, 3) := by decide +kernel
theorem dX6_slitWeight_13 : decode cX6_slitWeight 13 = .ok (.bipush 15, 2) := by decide +kernel
theorem dX6_slitWeight_15 : decode cX6_slitWeight 15 = .ok (.iload_n 1, 1) := by decide +kernel
theorem dX6_slitWeight_16 : decode cX6_slitWeight 16 = .ok (.imul, 1) := by decide +kernel
theorem dX6_slitWeight_17 : decode cX6_slitWeight 17 = .ok (.iload_n 2, 1) := by decide +kernel
theorem dX6_slitWeight_18 : decode cX6_slitWeight 18 = .ok (.iadd, 1) := by decide +kernel
theorem dX6_slitWeight_19 : decode cX6_slitWeight 19 = .ok (.iaload, 1) := by decide +kernel
theorem dX6_slitWeight_20 : decode cX6_slitWeight 20 = .ok (.goto 4, 3) := by decide +kernel
theorem dX6_slitWeight_23 : decode cX6_slitWeight 23 = .ok (.iconst 0, 1) := by decide +kernel
theorem dX6_slitWeight_24 : decode cX6_slitWeight 24 = .ok (.ireturn, 1) := by decide +kernel
theorem dX6_slitOrder_0 : decode cX6_slitOrder 0 = .ok (.aload_n 0, 1) := by decide +kernel
theorem dX6_slitOrder_1 : decode cX6_slitOrder 1 = .ok (.iload_n 1, 1) := by decide +kernel
theorem dX6_slitOrder_2 : decode cX6_slitOrder 2 = .ok (.iload_n 2, 1) := by decide +kernel
theorem dX6_slitOrder_3 : decode cX6_slitOrder 3 = .ok (.invokevirtual 167, 3) := by decide +kernel
theorem dX6_slitOrder_6 : decode cX6_slitOrder 6 = .ok (.ifCond .eq 17, 3) := by decide +kernel
theorem dX6_slitOrder_9 : decode cX6_slitOrder 9 = .ok (.aload_n 0, 1) := by decide +kernel
theorem dX6_slitOrder_10 : decode cX6_slitOrder 10 = .ok (.getfield 65, 3) := by decide +kernel
theorem dX6_slitOrder_13 : decode cX6_slitOrder 13 = .ok (.bipush 15, 2) := by decide +kernel
theorem dX6_slitOrder_15 : decode cX6_slitOrder 15 = .ok (.iload_n 1, 1) := by decide +kernel
theorem dX6_slitOrder_16 : decode cX6_slitOrder 16 = .ok (.imul, 1) := by decide +kernel
theorem dX6_slitOrder_17 : decode cX6_slitOrder 17 = .ok (.iload_n 2, 1) := by decide +kernel
theorem dX6_slitOrder_18 : decode cX6_slitOrder 18 = .ok (.iadd, 1) := by decide +kernel
theorem dX6_slitOrder_19 : decode cX6_slitOrder 19 = .ok (.iaload, 1) := by decide +kernel
theorem dX6_slitOrder_20 : decode cX6_slitOrder 20 = .ok (.goto 4, 3) := by decide +kernel
theorem dX6_slitOrder_23 : decode cX6_slitOrder 23 = .ok (.iconst 0, 1) := by decide +kernel
theorem dX6_slitOrder_24 : decode cX6_slitOrder 24 = .ok (.ireturn, 1) := by decide +kernel
theorem dX6_lost_0 : decode cX6_lost 0 = .ok (.aload_n 0, 1) := by decide +kernel
theorem dX6_lost_1 : decode cX6_lost 1 = .ok (.aload_n 0, 1) := by decide +kernel
theorem dX6_lost_2 : decode cX6_lost 2 = .ok (.iload_n 1, 1) := by decide +kernel
theorem dX6_lost_3 : decode cX6_lost 3 = .ok (.invokevirtual 106, 3) := by decide +kernel
theorem dX6_lost_6 : decode cX6_lost 6 = .ok (.iload_n 2, 1) := by decide +kernel
theorem dX6_lost_7 : decode cX6_lost 7 = .ok (.iconst 0, 1) := by decide +kernel
theorem dX6_lost_8 : decode cX6_lost 8 = .ok (.iconst 2, 1) := by decide +kernel
theorem dX6_lost_9 : decode cX6_lost 9 = .ok (.invokestatic 95, 3) := by decide +kernel
theorem dX6_lost_12 : decode cX6_lost 12 = .ok (.invokevirtual 102, 3) := by decide +kernel
theorem dX6_lost_15 : decode cX6_lost 15 = .ok (.ifCond .eq 16, 3) := by decide +kernel
theorem dX6_lost_18 : decode cX6_lost 18 = .ok (.aload_n 0, 1) := by decide +kernel
theorem dX6_lost_19 : decode cX6_lost 19 = .ok (.getfield 68, 3) := by decide +kernel
theorem dX6_lost_22 : decode cX6_lost 22 = .ok (.iconst 3, 1) := by decide +kernel
theorem dX6_lost_23 : decode cX6_lost 23 = .ok (.iload_n 1, 1) := by decide +kernel
theorem dX6_lost_24 : decode cX6_lost 24 = .ok (.imul, 1) := by decide +kernel
theorem dX6_lost_25 : decode cX6_lost 25 = .ok (.iload_n 2, 1) := by decide +kernel
theorem dX6_lost_26 : decode cX6_lost 26 = .ok (.iadd, 1) := by decide +kernel
theorem dX6_lost_27 : decode cX6_lost 27 = .ok (.iaload, 1) := by decide +kernel
theorem dX6_lost_28 : decode cX6_lost 28 = .ok (.goto 4, 3) := by decide +kernel
theorem dX6_lost_31 : decode cX6_lost 31 = .ok (.iconst 0, 1) := by decide +kernel
theorem dX6_lost_32 : decode cX6_lost 32 = .ok (.ireturn, 1) := by decide +kernel
theorem dX6_isOrder_0 : decode cX6_isOrder 0 = .ok (.aload_n 0, 1) := by decide +kernel
theorem dX6_isOrder_1 : decode cX6_isOrder 1 = .ok (.iload_n 1, 1) := by decide +kernel
theorem dX6_isOrder_2 : decode cX6_isOrder 2 = .ok (.iconst 0, 1) := by decide +kernel
theorem dX6_isOrder_3 : decode cX6_isOrder 3 = .ok (.aload_n 0, 1) := by decide +kernel
theorem dX6_isOrder_4 : decode cX6_isOrder 4 = .ok (.getfield 121, 3) := by decide +kernel
theorem dX6_isOrder_7 : decode cX6_isOrder 7 = .ok (.iconst 1, 1) := by decide +kernel
theorem dX6_isOrder_8 : decode cX6_isOrder 8 = .ok (.isub, 1) := by decide +kernel
theorem dX6_isOrder_9 : decode cX6_isOrder 9 = .ok (.invokestatic 95, 3) := by decide +kernel
theorem dX6_isOrder_12 : decode cX6_isOrder 12 = .ok (.invokevirtual 117, 3) := by decide +kernel
theorem dX6_isOrder_15 : decode cX6_isOrder 15 = .ok (.ireturn, 1) := by decide +kernel
theorem dX6_delivered_0 : decode cX6_delivered 0 = .ok (.aload_n 0, 1) := by decide +kernel
theorem dX6_delivered_1 : decode cX6_delivered 1 = .ok (.iload_n 1, 1) := by decide +kernel
theorem dX6_delivered_2 : decode cX6_delivered 2 = .ok (.invokevirtual 170, 3) := by decide +kernel
theorem dX6_delivered_5 : decode cX6_delivered 5 = .ok (.ifCond .eq 12, 3) := by decide +kernel
theorem dX6_delivered_8 : decode cX6_delivered 8 = .ok (.aload_n 0, 1) := by decide +kernel
theorem dX6_delivered_9 : decode cX6_delivered 9 = .ok (.getfield 47, 3) := by decide +kernel
theorem dX6_delivered_12 : decode cX6_delivered 12 = .ok (.iload_n 1, 1) := by decide +kernel
theorem dX6_delivered_13 : decode cX6_delivered 13 = .ok (.iaload, 1) := by decide +kernel
theorem dX6_delivered_14 : decode cX6_delivered 14 = .ok (.goto 4, 3) := by decide +kernel
theorem dX6_delivered_17 : decode cX6_delivered 17 = .ok (.iconst 0, 1) := by decide +kernel
theorem dX6_delivered_18 : decode cX6_delivered 18 = .ok (.ireturn, 1) := by decide +kernel
theorem dX6_heatOf_0 : decode cX6_heatOf 0 = .ok (.aload_n 0, 1) := by decide +kernel
theorem dX6_heatOf_1 : decode cX6_heatOf 1 = .ok (.iload_n 1, 1) := by decide +kernel
theorem dX6_heatOf_2 : decode cX6_heatOf 2 = .ok (.invokevirtual 170, 3) := by decide +kernel
theorem dX6_heatOf_5 : decode cX6_heatOf 5 = .ok (.ifCond .eq 12, 3) := by decide +kernel
theorem dX6_heatOf_8 : decode cX6_heatOf 8 = .ok (.aload_n 0, 1) := by decide +kernel
theorem dX6_heatOf_9 : decode cX6_heatOf 9 = .ok (.getfield 50, 3) := by decide +kernel
theorem dX6_heatOf_12 : decode cX6_heatOf 12 = .ok (.iload_n 1, 1) := by decide +kernel
theorem dX6_heatOf_13 : decode cX6_heatOf 13 = .ok (.iaload, 1) := by decide +kernel
theorem dX6_heatOf_14 : decode cX6_heatOf 14 = .ok (.goto 4, 3) := by decide +kernel
theorem dX6_heatOf_17 : decode cX6_heatOf 17 = .ok (.iconst 0, 1) := by decide +kernel
theorem dX6_heatOf_18 : decode cX6_heatOf 18 = .ok (.ireturn, 1) := by decide +kernel
theorem dX6_stock_0 : decode cX6_stock 0 = .ok (.iconst 0, 1) := by decide +kernel
theorem dX6_stock_1 : decode cX6_stock 1 = .ok (.istore_n 2, 1) := by decide +kernel
theorem dX6_stock_2 : decode cX6_stock 2 = .ok (.iconst 0, 1) := by decide +kernel
theorem dX6_stock_3 : decode cX6_stock 3 = .ok (.istore_n 3, 1) := by decide +kernel
theorem dX6_stock_4 : decode cX6_stock 4 = .ok (.iload_n 3, 1) := by decide +kernel
theorem dX6_stock_5 : decode cX6_stock 5 = .ok (.aload_n 0, 1) := by decide +kernel
theorem dX6_stock_6 : decode cX6_stock 6 = .ok (.getfield 92, 3) := by decide +kernel
theorem dX6_stock_9 : decode cX6_stock 9 = .ok (.if_icmp .ge 112, 3) := by decide +kernel
theorem dX6_stock_12 : decode cX6_stock 12 = .ok (.iconst 0, 1) := by decide +kernel
theorem dX6_stock_13 : decode cX6_stock 13 = .ok (.istore 4, 2) := by decide +kernel
theorem dX6_stock_15 : decode cX6_stock 15 = .ok (.aload_n 0, 1) := by decide +kernel
theorem dX6_stock_16 : decode cX6_stock 16 = .ok (.getfield 59, 3) := by decide +kernel
theorem dX6_stock_19 : decode cX6_stock 19 = .ok (.iload_n 3, 1) := by decide +kernel
theorem dX6_stock_20 : decode cX6_stock 20 = .ok (.iaload, 1) := by decide +kernel
theorem dX6_stock_21 : decode cX6_stock 21 = .ok (.iconst (-1), 1) := by decide +kernel
theorem dX6_stock_22 : decode cX6_stock 22 = .ok (.if_icmp .eq 93, 3) := by decide +kernel
theorem dX6_stock_25 : decode cX6_stock 25 = .ok (.iload 4, 2) := by decide +kernel
theorem dX6_stock_27 : decode cX6_stock 27 = .ok (.aload_n 0, 1) := by decide +kernel
theorem dX6_stock_28 : decode cX6_stock 28 = .ok (.getfield 56, 3) := by decide +kernel
theorem dX6_stock_31 : decode cX6_stock 31 = .ok (.aload_n 0, 1) := by decide +kernel
theorem dX6_stock_32 : decode cX6_stock 32 = .ok (.getfield 59, 3) := by decide +kernel
theorem dX6_stock_35 : decode cX6_stock 35 = .ok (.iload_n 3, 1) := by decide +kernel
theorem dX6_stock_36 : decode cX6_stock 36 = .ok (.iaload, 1) := by decide +kernel
theorem dX6_stock_37 : decode cX6_stock 37 = .ok (.iaload, 1) := by decide +kernel
theorem dX6_stock_38 : decode cX6_stock 38 = .ok (.if_icmp .ge 77, 3) := by decide +kernel
theorem dX6_stock_41 : decode cX6_stock 41 = .ok (.aload_n 0, 1) := by decide +kernel
theorem dX6_stock_42 : decode cX6_stock 42 = .ok (.getfield 65, 3) := by decide +kernel
theorem dX6_stock_45 : decode cX6_stock 45 = .ok (.bipush 15, 2) := by decide +kernel
theorem dX6_stock_47 : decode cX6_stock 47 = .ok (.iload_n 3, 1) := by decide +kernel
theorem dX6_stock_48 : decode cX6_stock 48 = .ok (.imul, 1) := by decide +kernel
theorem dX6_stock_49 : decode cX6_stock 49 = .ok (.iload 4, 2) := by decide +kernel
theorem dX6_stock_51 : decode cX6_stock 51 = .ok (.iadd, 1) := by decide +kernel
theorem dX6_stock_52 : decode cX6_stock 52 = .ok (.iaload, 1) := by decide +kernel
theorem dX6_stock_53 : decode cX6_stock 53 = .ok (.iconst (-1), 1) := by decide +kernel
theorem dX6_stock_54 : decode cX6_stock 54 = .ok (.if_icmp .ne 28, 3) := by decide +kernel
theorem dX6_stock_57 : decode cX6_stock 57 = .ok (.aload_n 0, 1) := by decide +kernel
theorem dX6_stock_58 : decode cX6_stock 58 = .ok (.getfield 53, 3) := by decide +kernel
theorem dX6_stock_61 : decode cX6_stock 61 = .ok (.bipush 15, 2) := by decide +kernel
theorem dX6_stock_63 : decode cX6_stock 63 = .ok (.aload_n 0, 1) := by decide +kernel
theorem dX6_stock_64 : decode cX6_stock 64 = .ok (.getfield 59, 3) := by decide +kernel
theorem dX6_stock_67 : decode cX6_stock 67 = .ok (.iload_n 3, 1) := by decide +kernel
theorem dX6_stock_68 : decode cX6_stock 68 = .ok (.iaload, 1) := by decide +kernel
theorem dX6_stock_69 : decode cX6_stock 69 = .ok (.imul, 1) := by decide +kernel
theorem dX6_stock_70 : decode cX6_stock 70 = .ok (.iload 4, 2) := by decide +kernel
theorem dX6_stock_72 : decode cX6_stock 72 = .ok (.iadd, 1) := by decide +kernel
theorem dX6_stock_73 : decode cX6_stock 73 = .ok (.iaload, 1) := by decide +kernel
theorem dX6_stock_74 : decode cX6_stock 74 = .ok (.iload_n 1, 1) := by decide +kernel
theorem dX6_stock_75 : decode cX6_stock 75 = .ok (.if_icmp .ne 7, 3) := by decide +kernel
theorem dX6_stock_78 : decode cX6_stock 78 = .ok (.iconst 1, 1) := by decide +kernel
theorem dX6_stock_79 : decode cX6_stock 79 = .ok (.goto 4, 3) := by decide +kernel
theorem dX6_stock_82 : decode cX6_stock 82 = .ok (.iconst 0, 1) := by decide +kernel
theorem dX6_stock_83 : decode cX6_stock 83 = .ok (.istore 5, 2) := by decide +kernel
theorem dX6_stock_85 : decode cX6_stock 85 = .ok (.iload_n 2, 1) := by decide +kernel
theorem dX6_stock_86 : decode cX6_stock 86 = .ok (.iload 5, 2) := by decide +kernel
theorem dX6_stock_88 : decode cX6_stock 88 = .ok (.ifCond .eq 18, 3) := by decide +kernel
theorem dX6_stock_91 : decode cX6_stock 91 = .ok (.aload_n 0, 1) := by decide +kernel
theorem dX6_stock_92 : decode cX6_stock 92 = .ok (.getfield 62, 3) := by decide +kernel
theorem dX6_stock_95 : decode cX6_stock 95 = .ok (.bipush 15, 2) := by decide +kernel
theorem dX6_stock_97 : decode cX6_stock 97 = .ok (.iload_n 3, 1) := by decide +kernel
theorem dX6_stock_98 : decode cX6_stock 98 = .ok (.imul, 1) := by decide +kernel
theorem dX6_stock_99 : decode cX6_stock 99 = .ok (.iload 4, 2) := by decide +kernel
theorem dX6_stock_101 : decode cX6_stock 101 = .ok (.iadd, 1) := by decide +kernel
theorem dX6_stock_102 : decode cX6_stock 102 = .ok (.iaload, 1) := by decide +kernel
theorem dX6_stock_103 : decode cX6_stock 103 = .ok (.goto 4, 3) := by decide +kernel
theorem dX6_stock_106 : decode cX6_stock 106 = .ok (.iconst 0, 1) := by decide +kernel
theorem dX6_stock_107 : decode cX6_stock 107 = .ok (.iadd, 1) := by decide +kernel
theorem dX6_stock_108 : decode cX6_stock 108 = .ok (.istore_n 2, 1) := by decide +kernel
theorem dX6_stock_109 : decode cX6_stock 109 = .ok (.iinc 4 1, 3) := by decide +kernel
theorem dX6_stock_112 : decode cX6_stock 112 = .ok (.goto (-97), 3) := by decide +kernel
theorem dX6_stock_115 : decode cX6_stock 115 = .ok (.iinc 3 1, 3) := by decide +kernel
theorem dX6_stock_118 : decode cX6_stock 118 = .ok (.goto (-114), 3) := by decide +kernel
theorem dX6_stock_121 : decode cX6_stock 121 = .ok (.aload_n 0, 1) := by decide +kernel
theorem dX6_stock_122 : decode cX6_stock 122 = .ok (.iload_n 2, 1) := by decide +kernel
theorem dX6_stock_123 : decode cX6_stock 123 = .ok (.invokevirtual 128, 3) := by decide +kernel
theorem dX6_stock_126 : decode cX6_stock 126 = .ok (.ireturn, 1) := by decide +kernel
end
section
/-! THE FRAME: one world for class and model; a state of it is a function oMem: kind of the cell, its number, its slot, to a whole number. References never change once all is made. -/
abbrev oMem : Type := Nat → Nat → Nat → Int
abbrev oG : Type := va_G × (Nat → Nat → Nat) × (Nat → ClassId)
def oi (z : Int) : Value := .int (Int32.ofInt z)
abbrev InR (z : Int) : Prop := -2147483648 ≤ z ∧ z ≤ 2147483647
/-- how many cells of each kind -/
def o_ns : List Nat := [1, 20, 20, 20, 20, 20, 20, 12, 11, 11, 1, 1, 1, 1, 8, 8, 1, 1, 1, 1, 1, 1, 1, 1, 1, 1, 1, 1, 1, 1, 1, 1, 1, 1, 1, 1, 1, 1, 1, 1, 1, 1, 1, 1, 1, 1, 1, 1]
def o_n (K : Nat) : Nat := o_ns.getD K 0
/-- how long the rows of ints of each kind are -/
def o_lens : List Nat := [0, 0, 8, 8, 15, 15, 15, 0, 0, 15, 0, 12, 2001, 0, 7, 128, 7, 7, 7, 0, 0, 0, 0, 0, 0, 20, 20, 20, 20, 160, 160, 20, 12, 12, 12, 12, 165, 11, 20, 300, 300, 60, 7, 7, 2001, 1024, 7, 0]
def o_len (K : Nat) : Nat := o_lens.getD K 0
def o_sh (g : oG) (K i : Nat) (f : Nat → Int) : va_E :=
  if K = 0 then .inr (5, [.ref (g.2.1 19 0), oi (f 1), .ref (g.2.1 20 0), oi (f 3), .ref (g.2.1 21 0), oi (f 5), .ref (g.2.1 8 10), oi (f 7), oi (f 8), oi (f 9), oi (f 10), oi (f 11), .ref (g.2.1 17 0), .ref (g.2.1 18 0), oi (f 14), .ref (g.2.1 10 0), .ref (g.2.1 13 0)])
  else if K = 1 then .inr (0, [oi (f 0), oi (f 1), oi (f 2), oi (f 3), .ref (g.2.1 2 i), .ref (g.2.1 3 i), oi (f 6), .ref (g.2.1 4 i), .ref (g.2.1 5 i), .ref (g.2.1 6 i), oi (f 10), oi (f 11), oi (f 12), oi (f 13)])
  else if K = 7 then .inr (2, [oi (f 0), oi (f 1), oi (f 2), oi (f 3)])
  else if K = 8 then .inr (3, [.ref (g.2.1 9 i), oi (f 1)])
  else if K = 10 then .inr (1, [.ref (g.2.1 11 0), oi (f 1), .ref (g.2.1 12 0)])
  else if K = 13 then .inr (4, [.ref (g.2.1 22 0), .ref (g.2.1 23 0), .ref (g.2.1 16 0)])
  else if K = 19 then .inl (g.2.2 1, 20, .inr (.inr (.inr (.inr (fun j => some (g.2.1 1 j))))))
  else if K = 20 then .inl (g.2.2 2, 12, .inr (.inr (.inr (.inr (fun j => some (g.2.1 7 j))))))
  else if K = 21 then .inl (g.2.2 3, 10, .inr (.inr (.inr (.inr (fun j => some (g.2.1 8 j))))))
  else if K = 22 then .inl (g.2.2 4, 8, .inr (.inr (.inr (.inr (fun j => some (g.2.1 14 j))))))
  else if K = 23 then .inl (g.2.2 4, 8, .inr (.inr (.inr (.inr (fun j => some (g.2.1 15 j))))))
  else if K = 24 then .inr (6, [.ref (g.2.1 25 0), .ref (g.2.1 26 0), .ref (g.2.1 27 0), .ref (g.2.1 28 0), oi (f 4), .ref (g.2.1 29 0), .ref (g.2.1 30 0), .ref (g.2.1 31 0), oi (f 8), oi (f 9), oi (f 10), .ref (g.2.1 32 0), .ref (g.2.1 33 0), .ref (g.2.1 34 0), .ref (g.2.1 35 0), oi (f 15), .ref (g.2.1 36 0), .ref (g.2.1 37 0), oi (f 18), .ref (g.2.1 38 0), .ref (g.2.1 39 0), .ref (g.2.1 40 0), .ref (g.2.1 41 0), oi (f 23), oi (f 24), .ref (g.2.1 42 0), .ref (g.2.1 43 0), oi (f 27), .ref (g.2.1 44 0), .ref (g.2.1 45 0), .ref (g.2.1 46 0), oi (f 31)])
  else if K = 47 then .inl (g.2.2 5, 1, .inr (.inl (fun j => (Int32.ofInt (f j)).toInt64)))
  else .inl (g.2.2 0, o_len K, .inl (fun j => Int32.ofInt (f j)))
def o_ids : List (Nat × Nat) := (List.range 48).flatMap (fun K => (List.range (o_n K)).map (fun i => (K, i)))
def o_ws (g : oG) (σ : oMem) : va_W := o_ids.map (fun q => (g.2.1 q.1 q.2, o_sh g q.1 q.2 (σ q.1 q.2)))
def o_tys (g : oG) : List (ClassId × FieldType) := [(g.2.2 0, .int), (g.2.2 1, .object RX0), (g.2.2 2, .object RX2), (g.2.2 3, .object RX3), (g.2.2 4, .array .int), (g.2.2 5, .long)]
theorem o_nodup : o_ids.Nodup := by decide +kernel
theorem o_mem {K i : Nat} (h : i < o_n K) : (K, i) ∈ o_ids := by
  refine List.mem_flatMap.mpr ⟨K, List.mem_range.mpr ?_, List.mem_map.mpr ⟨i, List.mem_range.mpr h, rfl⟩⟩
  rcases Nat.lt_or_ge K 48 with q | q
  · exact q
  · exact absurd h (by unfold o_n; rw [List.getD_eq_getElem?_getD, List.getElem?_eq_none (show o_ns.length ≤ K from q)]; exact Nat.not_lt_zero _)
theorem o_at (g : oG) (σ : oMem) {K i : Nat} (h : i < o_n K) : ∃ k : Nat, (o_ws g σ)[k]? = some (g.2.1 K i, o_sh g K i (σ K i)) ∧ ∀ (σ' : oMem) (e : va_E), (∀ K' i', ¬ (K' = K ∧ i' = i) → σ' K' i' = σ K' i') → e = o_sh g K i (σ' K i) → (o_ws g σ).set k (g.2.1 K i, e) = o_ws g σ' := by
  obtain ⟨k, hk⟩ := List.mem_iff_getElem?.mp (o_mem h)
  refine ⟨k, by rw [o_ws, List.getElem?_map, hk]; rfl, fun σ' e h1 h2 => ?_⟩
  apply List.ext_getElem?
  intro j
  rw [List.getElem?_set, o_ws, o_ws, List.getElem?_map, List.getElem?_map]
  by_cases hj : k = j
  · subst hj
    rw [if_pos rfl, hk, h2]
    have hl : k < (o_ids.map (fun q => (g.2.1 q.1 q.2, o_sh g q.1 q.2 (σ q.1 q.2)))).length := by
      rw [List.length_map]; exact (List.getElem?_eq_some_iff.mp hk).1
    rw [if_pos hl]; rfl
  · rw [if_neg hj]
    cases hq : o_ids[j]? with
    | none => rfl
    | some q =>
      have hne : ¬ (q.1 = K ∧ q.2 = i) := by
        rintro ⟨rfl, rfl⟩
        exact hj ((List.getElem?_inj (List.getElem?_eq_some_iff.mp hk).1 o_nodup).mp (hk.trans hq.symm))
      show some (g.2.1 q.1 q.2, o_sh g q.1 q.2 (σ q.1 q.2)) = some (g.2.1 q.1 q.2, o_sh g q.1 q.2 (σ' q.1 q.2))
      rw [h1 q.1 q.2 hne]
def o_up (σ : oMem) (K i j : Nat) (v : Int) : oMem := fun K' i' j' => if K' = K ∧ i' = i ∧ j' = j then v else σ K' i' j'
theorem o_up_at (σ : oMem) (K i j : Nat) (v : Int) (K' i' j' : Nat) : o_up σ K i j v K' i' j' = if K' = K ∧ i' = i ∧ j' = j then v else σ K' i' j' := rfl
theorem o_up_row (σ : oMem) (K i j : Nat) (v : Int) (K' i' : Nat) (h : ¬ (K' = K ∧ i' = i)) : o_up σ K i j v K' i' = σ K' i' := by
  funext j'
  exact if_neg (fun q => h ⟨q.1, q.2.1⟩)
theorem o_up_own (σ : oMem) (K i j : Nat) (v : Int) : o_up σ K i j v K i = fun j' => if j' = j then v else σ K i j' := by
  funext j'
  simp [o_up]
/-! whole numbers and ints -/
theorem o_size : (Int32.size : Int) = 4294967296 := rfl
theorem o_toInt {z : Int} (h : InR z) : (Int32.ofInt z).toInt = z := by
  rw [Int32.toInt_ofInt]
  exact Int.bmod_eq_of_le (by have := h.1; have := o_size; omega) (by have := h.2; have := o_size; omega)
theorem o_le {a b : Int} (ha : InR a) (hb : InR b) : Int32.ofInt a ≤ Int32.ofInt b ↔ a ≤ b := by rw [Int32.le_iff_toInt_le, o_toInt ha, o_toInt hb]
theorem o_lt {a b : Int} (ha : InR a) (hb : InR b) : Int32.ofInt a < Int32.ofInt b ↔ a < b := by rw [Int32.lt_iff_toInt_lt, o_toInt ha, o_toInt hb]
theorem o_eq {a b : Int} (ha : InR a) (hb : InR b) : Int32.ofInt a = Int32.ofInt b ↔ a = b := by rw [← Int32.toInt_inj, o_toInt ha, o_toInt hb]
theorem o_of (x : Int32) : ∃ z : Int, InR z ∧ x = Int32.ofInt z := ⟨x.toInt, ⟨Int32.minValue_le_toInt x, Int32.toInt_le x⟩, (Int32.ofInt_toInt x).symm⟩
theorem o_add (a b : Int) : Int32.ofInt a + Int32.ofInt b = Int32.ofInt (a + b) := (Int32.ofInt_add a b).symm
theorem o_sub (a b : Int) : Int32.ofInt a - Int32.ofInt b = Int32.ofInt (a - b) := (Int32.ofInt_sub a b).symm
theorem o_mul (a b : Int) : Int32.ofInt a * Int32.ofInt b = Int32.ofInt (a * b) := (Int32.ofInt_mul a b).symm
theorem o_div {a b : Int} (ha : 0 ≤ a) (hb : 0 < b) (h1 : InR a) (h2 : InR b) : Int32.ofInt a / Int32.ofInt b = Int32.ofInt (a / b) := by
  rw [← Int32.toInt_inj, Int32.toInt_div, o_toInt h1, o_toInt h2, Int.tdiv_eq_ediv_of_nonneg ha]
  have h3 : 0 ≤ a / b := Int.ediv_nonneg ha (Int.le_of_lt hb)
  have h4 : a / b ≤ a := Int.ediv_le_self b ha
  have h5 : InR (a / b) := ⟨by omega, by have := h1.2; omega⟩
  rw [o_toInt h5]
  exact Int.bmod_eq_of_le (by have := h5.1; have := o_size; omega) (by have := h5.2; have := o_size; omega)
theorem o_in {z : Int} {n : Nat} (h0 : 0 ≤ z) (h1 : z < n) (hn : n ≤ 2147483647) : vp_in (Int32.ofInt z) n := by
  rw [vp_in_iff, o_toInt ⟨by omega, by omega⟩]
  exact ⟨h0, h1⟩
theorem o_nat {z : Int} (h : InR z) : (Int32.ofInt z).toNatClampNeg = z.toNat := by
  rw [← o_toInt h]
  simp [o_toInt h, Int32.toNatClampNeg]
/-! a frame's locals: a list of values, none where unset; none of two slots -/
def o_as : Nat → List (Option Value) → List (Nat × Value)
  | _, [] => []
  | i, none :: r => o_as (i + 1) r
  | i, some v :: r => (i, v) :: o_as (i + 1) r
theorem o_as_mem {i : Nat} {v : Value} : ∀ (vs : List (Option Value)) (k : Nat), (i, v) ∈ o_as k vs ↔ ∃ j : Nat, i = k + j ∧ vs[j]? = some (some v)
  | [], k => by simp [o_as]
  | none :: r, k => by
    rw [o_as, o_as_mem r (k + 1)]
    constructor
    · rintro ⟨j, h1, h2⟩
      exact ⟨j + 1, by omega, by simpa using h2⟩
    · rintro ⟨j, h1, h2⟩
      cases j with
      | zero => simp at h2
      | succ j => exact ⟨j, by omega, by simpa using h2⟩
  | some w :: r, k => by
    rw [o_as, List.mem_cons, o_as_mem r (k + 1)]
    constructor
    · rintro (h | ⟨j, h1, h2⟩)
      · cases h
        exact ⟨0, rfl, rfl⟩
      · exact ⟨j + 1, by omega, by simpa using h2⟩
    · rintro ⟨j, h1, h2⟩
      cases j with
      | zero =>
        simp at h2
        exact Or.inl (by rw [h1, h2]; rfl)
      | succ j => exact Or.inr ⟨j, by omega, by simpa using h2⟩
def oL (ls : Array Slot) (nL : Nat) (vs : List (Option Value)) : Prop := lv_has ls nL (o_as 0 vs) ∧ vs.length = nL ∧ ∀ v : Value, some v ∈ vs → v.category = 1
theorem oL.val {ls : Array Slot} {nL : Nat} {vs : List (Option Value)} (h : oL ls nL vs) {i : Nat} {v : Value} (hi : vs[i]? = some (some v)) : ls[i]? = some (.val v) := h.1.2.2 (i, v) ((o_as_mem vs 0).mpr ⟨i, by omega, hi⟩)
theorem oL.lt {ls : Array Slot} {nL : Nat} {vs : List (Option Value)} (h : oL ls nL vs) {i : Nat} (hi : i < vs.length) : i < nL := h.2.1 ▸ hi
theorem oL.setv {ls ls' : Array Slot} {nL : Nat} {vs : List (Option Value)} (h : oL ls nL vs) {i : Nat} {v : Value} (hv : v.category = 1) (hi : i < vs.length) (h' : lv_has ls' nL ((i, v) :: (o_as 0 vs).filter (fun q => !(q.1 == i) && !(q.1 + 1 == i && q.2.category == 2)))) : oL ls' nL (vs.set i (some v)) := by
  refine ⟨⟨h'.1, h'.2.1, fun q hq => ?_⟩, by rw [List.length_set]; exact h.2.1, fun w hw => ?_⟩
  · obtain ⟨j, h1, h2⟩ := (o_as_mem (i := q.1) (v := q.2) _ 0).mp hq
    rw [List.getElem?_set] at h2
    by_cases hj : i = j
    · subst hj
      rw [if_pos rfl, if_pos hi] at h2
      have h3 := h'.2.2 (i, v) List.mem_cons_self
      have e1 : q.1 = i := by omega
      have e2 : q.2 = v := (Option.some.inj (Option.some.inj h2)).symm
      rw [e1, e2]; exact h3
    · rw [if_neg hj] at h2
      refine h'.2.2 q (List.mem_cons_of_mem _ (List.mem_filter.mpr ⟨(o_as_mem (i := q.1) (v := q.2) _ 0).mpr ⟨j, h1, h2⟩, ?_⟩))
      have hc := h.2.2 q.2 (List.mem_of_getElem? h2)
      have hne : ¬ q.1 = i := by omega
      simp [hne, hc]
  · rcases List.mem_or_eq_of_mem_set hw with h1 | h1
    · exact h.2.2 w h1
    · cases h1; exact hv
theorem oL.entry (av : List Value) {n : Nat} (hc : ∀ v ∈ av, v.category = 1) (hn : av.length ≤ n) : ∃ ls : Array Slot, (lg_sl av ++ List.replicate (n - (lg_sl av).length) Slot.unset).toArray = ls ∧ oL ls n (av.map some ++ List.replicate (n - av.length) none) := by
  have hsl : lg_sl av = av.map Slot.val := by
    unfold lg_sl
    induction av with
    | nil => rfl
    | cons a r ih =>
      rw [List.flatMap_cons, ih (fun v h => hc v (List.mem_cons_of_mem _ h)) (by simp at hn; omega)]
      have h1 := hc a List.mem_cons_self
      simp [h1]
  have hlen : (lg_sl av).length = av.length := by rw [hsl, List.length_map]
  have h := lv_entry av (n := n) (by rw [hlen]; exact hn)
  refine ⟨_, rfl, ⟨h.1, h.2.1, fun q hq => ?_⟩, by simp; omega, fun v hv => ?_⟩
  · obtain ⟨j, h1, h2⟩ := (o_as_mem (i := q.1) (v := q.2) _ 0).mp hq
    have e1 : q.1 = j := by omega
    rw [e1]
    by_cases hj : j < av.length
    · rw [List.getElem?_append_left (by simpa using hj), List.getElem?_map] at h2
      cases hq2 : av[j]? with
      | none => rw [hq2] at h2; simp at h2
      | some w =>
        rw [hq2] at h2
        simp at h2
        rw [hsl, List.getElem?_toArray, List.getElem?_append_left (by simpa using hj), List.getElem?_map, hq2, ← h2]
        rfl
    · rw [List.getElem?_append_right (by simpa using Nat.le_of_not_lt hj)] at h2
      rw [List.getElem?_replicate] at h2
      split at h2 <;> simp at h2
  · rcases List.mem_append.mp hv with h1 | h1
    · obtain ⟨w, hw, e⟩ := List.mem_map.mp h1
      cases e; exact hc _ hw
    · rw [List.mem_replicate] at h1
      cases h1.2
/-! the judgement: the machine stands in this method at pc with these locals and this stack, in this world, and comes to Q -/
abbrev oCtx : Type := Program × Env × Room × State × MethodId × Array Value × List Frame × Method × Code × (State → Prop) × (Nat → Prop) × Nat
def oW (l : Launch) (g : oG) : oCtx → oMem → Nat → List (Option Value) → List Value → Nat → Prop
  | (p, e, R, s, m, args, below, meth, c, Q, A, nL), σ, pc, vs, st, k => ∀ (H : Heap) (locs : List Loc) (ls : Array Slot), oL ls nL vs → va_P g.1 vwCl (o_ws g σ) H → va_S A s.heap H locs → W p l e R s m args below meth c H locs k (6 * k) Q (F0 m pc ls st)
def o_nf : List (String × Nat × String × String × String × String) := [(RX5, 102, "SlittingOffice$Coil", "length", "I", "SlittingOffice"), (RX5, 135, "SlittingOffice$Pattern", "count", "I", "SlittingOffice"), (RX5, 150, "SlittingOffice$Pattern", "widths", "[I", "SlittingOffice"), (RX5, 219, "SlittingOffice$RunOrder", "best", "[I", "SlittingOffice"), (RX5, 222, "SlittingOffice$Coil", "slitCount", "I", "SlittingOffice"), (RX5, 228, "SlittingOffice$Coil", "slitWeights", "[I", "SlittingOffice"), (RX5, 231, "SlittingOffice$Coil", "slitOrders", "[I", "SlittingOffice"), (RX5, 234, "SlittingOffice$Coil", "innerTurns", "I", "SlittingOffice"), (RX5, 237, "SlittingOffice$Coil", "cutOut", "I", "SlittingOffice"), (RX5, 240, "SlittingOffice$Coil", "trim", "I", "SlittingOffice"), (RX5, 246, "SlittingOffice$Order", "received", "I", "SlittingOffice"), (RX5, 249, "SlittingOffice$Order", "heat", "I", "SlittingOffice"), (RX5, 275, "SlittingOffice$Coil", "width", "I", "SlittingOffice"), (RX5, 287, "SlittingOffice$Coil", "heat", "I", "SlittingOffice"), (RX5, 291, "SlittingOffice$Order", "width", "I", "SlittingOffice"), (RX5, 302, "SlittingOffice$Coil", "slitWidths", "[I", "SlittingOffice"), (RX5, 315, "SlittingOffice$RunOrder", "moves", "[[I", "SlittingOffice"), (RX0, 76, "SlittingOffice$Pattern", "count", "I", "SlittingOffice"), (RX0, 81, "SlittingOffice$Pattern", "widths", "[I", "SlittingOffice")]
def o_nm : List (String × Nat × MethodName × String) := [(RX5, 105, yX0_isSlit, "SlittingOffice"), (RX5, 109, yX0_hasMostDefects, "SlittingOffice"), (RX5, 114, yX0_addDefect, "SlittingOffice"), (RX5, 118, yX0_cutOutLength, "SlittingOffice"), (RX5, 125, yX2_describe, "SlittingOffice"), (RX5, 127, yX3_isFull, "SlittingOffice"), (RX5, 132, yX3_append, "SlittingOffice"), (RX5, 138, yX3_empty, "SlittingOffice"), (RX5, 141, yX3_hasSlitAt, "SlittingOffice"), (RX5, 155, yX3_becomeCopyOf, "SlittingOffice"), (RX5, 174, yX1_greatestTotal, "SlittingOffice"), (RX5, 178, yX1_layOut, "SlittingOffice"), (RX5, 184, yX1_greatestTotalByTrying, "SlittingOffice"), (RX5, 207, yX4_fewestBySets, "SlittingOffice"), (RX5, 211, yX4_fewestByOrders, "SlittingOffice"), (RX5, 216, yX4_findBest, "SlittingOffice"), (RX5, 252, yX0_stockOf, "SlittingOffice"), (RX5, 272, yX0_hasSlitAt, "SlittingOffice"), (RX5, 278, yX3_totalWidth, "SlittingOffice"), (RX5, 281, yX3_knivesNeeded, "SlittingOffice"), (RX5, 284, yX1_forgetWidths, "SlittingOffice"), (RX5, 288, yX2_wouldTakeHeat, "SlittingOffice"), (RX5, 292, yX1_offerWidth, "SlittingOffice"), (RX5, 295, yX0_slitBy, "SlittingOffice"), (RX5, 308, yX2_receive, "SlittingOffice"), (RX5, 311, yX3_knivesNotIn, "SlittingOffice"), (RX5, 37, yX3_init, "SlittingOffice"), (RX5, 69, yX1_init, "SlittingOffice"), (RX5, 76, yX4_init, "SlittingOffice"), (RX5, 81, yX0_init, "SlittingOffice"), (RX5, 82, yX2_init, "SlittingOffice"), (RX5, 94, yX0_describe, "SlittingOffice"), (RX1, 32, yX3_empty, "SlittingOffice"), (RX1, 40, yX3_append, "SlittingOffice")]
def o_ca : List String := ["java/lang/IllegalArgumentException", "java/lang/IllegalStateException", "java/lang/IndexOutOfBoundsException"]
def o_de : List MethodName := [Bundle.initS "java/lang/RuntimeException", Bundle.initS "java/lang/Exception", Bundle.initS "java/lang/Throwable"]
def o_tx : List (String × Nat × String) := [(RX5, 112, "the coil is slit or has no room for a defect"), (RX5, 123, "no more orders"), (RX5, 130, "the draft has no room for a slit"), (RX5, 147, "the draft has no such slit"), (RX5, 153, "the draft is empty or there are no more patterns"), (RX5, 182, "too many knives for trying"), (RX5, 191, "the coil is slit or the pattern does not fit it"), (RX5, 202, "the run can not wait"), (RX5, 214, "no such place"), (RX5, 257, "out of range"), (RX5, 263, "no such coil"), (RX5, 268, "no such pattern"), (RX5, 270, "no such order"), (RX5, 273, "the coil has no such slit"), (RX5, 89, "no more coils")]
/-- what is known of the tables beside the words: links among nest mates, texts, two statics of Throwable -/
def oF (A : Nat → Prop) (U : State) (H : Heap) : Prop :=
  (∀ q ∈ o_nf, va_Nw (.fieldLinkNest q.1 q.2.1 q.2.2.1 q.2.2.2.1 q.2.2.2.2.1 q.2.2.2.2.2) U) ∧ (∀ q ∈ o_nm, va_Nw (.methodLinkNest q.1 q.2.1 q.2.2.1 q.2.2.2) U) ∧ (∀ q ∈ o_tx, ∃ a : Nat, vk_R q.1 q.2.1 q.2.2 a U) ∧
  vx_Zq Bundle.tN "UNASSIGNED_STACK" Bundle.steD A U H ∧ vx_Zq Bundle.tN "SUPPRESSED_SENTINEL" Bundle.listD A U H ∧ (∀ q ∈ o_ca, va_Nw (.castable q q) U) ∧ (∀ q ∈ o_de, va_Nw (.declares q) U)
def oA (g : oG) (sz : Nat) : Nat → Prop := va_A (o_ws g (fun _ _ _ => 0)) sz
theorem o_ws_addr {g : oG} {σ σ' : oMem} {k : Nat} {a : Nat} {e : va_E} (h : (o_ws g σ)[k]? = some (a, e)) : ∃ e' : va_E, (o_ws g σ')[k]? = some (a, e') := by
  rw [o_ws, List.getElem?_map] at h
  cases hq : o_ids[k]? with
  | none => rw [hq] at h; simp at h
  | some q =>
    rw [hq] at h
    have h1 := congrArg (Option.map Prod.fst) h
    simp at h1
    exact ⟨_, by rw [o_ws, List.getElem?_map, hq, ← h1]; rfl⟩
theorem oA_ws {g : oG} {σ : oMem} {sz q : Nat} : oA g sz q ↔ va_A (o_ws g σ) sz q := by
  constructor
  · rintro (⟨k, e, h⟩ | h)
    · obtain ⟨e', h'⟩ := o_ws_addr (σ' := σ) h
      exact Or.inl ⟨k, e', h'⟩
    · exact Or.inr h
  · rintro (⟨k, e, h⟩ | h)
    · obtain ⟨e', h'⟩ := o_ws_addr (σ' := fun _ _ _ => 0) h
      exact Or.inl ⟨k, e', h'⟩
    · exact Or.inr h
theorem o_ws_D {g : oG} {σ σ' : oMem} {A : Nat → Prop} (h : va_D A (o_ws g σ)) : va_D A (o_ws g σ') := by
  refine ⟨fun i j p q h1 h2 h3 => ?_, fun k q h1 => ?_⟩
  · obtain ⟨e1, h1'⟩ := o_ws_addr (σ' := σ) (a := p.1) (e := p.2) h1
    obtain ⟨e2, h2'⟩ := o_ws_addr (σ' := σ) (a := q.1) (e := q.2) h2
    exact h.1 i j _ _ h1' h2' h3
  · obtain ⟨e1, h1'⟩ := o_ws_addr (σ' := σ) (a := q.1) (e := q.2) h1
    exact h.2 k (q.1, e1) h1'
def oPre (g : oG) (σ : oMem) (sz : Nat) (U : State) : Prop := U.heap.size = sz ∧ va_P g.1 vwCl (o_ws g σ) U.heap ∧ va_K g.1 vwCl (o_tys g) U ∧ va_D (fun _ => True) (o_ws g (fun _ _ _ => 0)) ∧ oF (oA g sz) U U.heap
def oK (l : Launch) (g : oG) (own : String) (cc : ByteArray) (lam mc : Nat) : oCtx → Prop
  | (p, e, R, s, m, args, below, meth, c, Q, A, nL) => p.tables.exec = Jvm.exec ∧ c.code = cc ∧ c.maxLocals = nL ∧ s.vm.findClass own = some m.cls ∧ (∀ w ∈ wsL_law, w.before args s = true) ∧ va_K g.1 vwCl (o_tys g) s ∧ va_D A (o_ws g (fun _ _ _ => 0)) ∧ (∀ q : Nat, s.heap.size ≤ q → A q) ∧ oF A s s.heap ∧ (10 + lam ≤ R.frames ∧ 200 + 100 * lam ≤ R.locals ∧ mc ≤ R.cells ∧ 6 * mc ≤ R.slots)
def oRm (lam mc : Nat) : Room := { frames := 10 + lam, cells := mc, slots := 6 * mc, locals := 200 + 100 * lam }
theorem oF.same {A : Nat → Prop} {u U : State} {H : Heap} (h : u.vm = U.vm) (f : oF A u H) : oF A U H := by
  obtain ⟨f1, f2, f3, f4, f5, f6, f7⟩ := f
  refine ⟨fun q hq => va_Nw.same rfl h (f1 q hq), fun q hq => va_Nw.same rfl h (f2 q hq), fun q hq => ?_, f4.moved (by rw [h]; exact Vm.Alike.refl _), f5.moved (by rw [h]; exact Vm.Alike.refl _), fun q hq => va_Nw.same rfl h (f6 q hq), fun q hq => va_Nw.same rfl h (f7 q hq)⟩
  obtain ⟨a, ha⟩ := f3 q hq
  exact ⟨a, ha.same h.symm⟩
theorem oF.warm {A : Nat → Prop} {s U : State} {H : Heap} (h : s.WarmedH U.vm) (f : oF A s H) : oF A U H := by
  obtain ⟨f1, f2, f3, f4, f5, f6, f7⟩ := f
  refine ⟨fun q hq => va_Nw.warmF h (f1 q hq), fun q hq => va_Nw.warmM h (f2 q hq), fun q hq => ?_, f4.moved h.alike, f5.moved h.alike, fun q hq => va_Nw.warmC h (f6 q hq), fun q hq => va_Nw.warmD h (f7 q hq)⟩
  obtain ⟨a, ha⟩ := f3 q hq
  exact ⟨a, ha.warm h⟩
theorem oF.kept {A : Nat → Prop} {U : State} {H H1 : Heap} (hq : ∀ a : Nat, a < H.size → ¬ A a → H1[a]? = H[a]?) (f : oF A U H) : oF A U H1 := ⟨f.1, f.2.1, f.2.2.1, f.2.2.2.1.kept hq, f.2.2.2.2.1.kept hq, f.2.2.2.2.2⟩
theorem oF.narrow {A B : Nat → Prop} {U : State} {H : Heap} (hAB : ∀ q, B q → A q) (f : oF A U H) : oF B U H := ⟨f.1, f.2.1, f.2.2.1, f.2.2.2.1.narrow hAB, f.2.2.2.2.1.narrow hAB, f.2.2.2.2.2⟩
theorem oA_in {g : oG} {A : Nat → Prop} {H0 H : Heap} (hD : va_D A (o_ws g (fun _ _ _ => 0))) (hA : ∀ q : Nat, H0.size ≤ q → A q) (hz : H0.size ≤ H.size) : ∀ q : Nat, oA g H.size q → A q := by
  rintro q (⟨k, e, h⟩ | h)
  · exact hD.2 k _ h
  · exact hA q (Nat.le_trans hz h)
theorem oPre_blind {g : oG} {av : List Value} {σ : oMem} {sz : Nat} : FrameBlind (va_Pc av (oPre g σ sz)) := by
  intro a U g' mk h
  obtain ⟨h0, h1, h2, h3, h4, h5⟩ := h
  exact ⟨h0, h1, h2, va_K.moved (u := U) (U := U.calling g' mk a) (Vm.Alike.refl U.vm) h3, h4, oF.same (u := U) (U := U.calling g' mk a) rfl h5⟩
/-- the world at a call -/
theorem o_pre {l : Launch} {g : oG} {own : String} {cc : ByteArray} {lam mc : Nat} {p : Program} {e : Env} {R : Room} {s : State} {m : MethodId} {args : Array Value} {below : List Frame} {meth : Method} {c : Code} {Q : State → Prop} {A : Nat → Prop} {nL : Nat}
    (C : oK l g own cc lam mc (p, e, R, s, m, args, below, meth, c, Q, A, nL)) {σ : oMem} {H : Heap} {locs : List Loc} (hP : va_P g.1 vwCl (o_ws g σ) H) (hS : va_S A s.heap H locs) (av : List Value) : ∀ U : State, U.heap = H → s.WarmedH U.vm → va_Pc av (oPre g σ H.size) av.toArray U := by
  obtain ⟨-, -, -, -, -, hK, hD, hA, hF, -⟩ := C
  intro U hU hW
  refine ⟨rfl, by rw [hU], by rw [hU]; exact hP, va_K.moved hW.alike hK, ⟨hD.1, fun _ _ _ => trivial⟩, ?_⟩
  rw [hU]
  exact ((hF.kept (fun a h1 h2 => hS.2.1 a h1 h2)).narrow (oA_in hD hA hS.1)).warm hW
/-! contracts: an int that is z, the world behind it; nothing; and such methods as may throw, the world being as it was -/
def oMi (l : Launch) (g : oG) (y : MethodName) (w : Cond) (lam mc : Nat) (av : List Value) (σ : oMem) (post : Int → oMem → Prop) : Prop :=
  ∀ sz : Nat, Met l y (w :: wsL_law) (oRm lam mc) (va_Pc av (oPre g σ sz)) (va_Qi (fun r (σ' : oMem) => ∃ z : Int, r = Int32.ofInt z ∧ post z σ') (fun σ' t => va_P g.1 vwCl (o_ws g σ') t.heap) (oA g sz)) mc (6 * mc) (oA g sz)
def oMv (l : Launch) (g : oG) (y : MethodName) (w : Cond) (lam mc : Nat) (av : List Value) (σ : oMem) (post : oMem → Prop) : Prop :=
  ∀ sz : Nat, Met l y (w :: wsL_law) (oRm lam mc) (va_Pc av (oPre g σ sz)) (va_Qv post (fun σ' t => va_P g.1 vwCl (o_ws g σ') t.heap) (oA g sz)) mc (6 * mc) (oA g sz)
def oXC (g : oG) (σ : oMem) (px : String → Prop) (sz : Nat) : String → State → State → Prop := vx_X (S := Unit) (fun _ => True) (fun E _ t => px E ∧ va_P g.1 vwCl (o_ws g σ) t.heap) (oA g sz)
def oXi (l : Launch) (g : oG) (y : MethodName) (w : Cond) (lam mc : Nat) (av : List Value) (σ : oMem) (post : Int → oMem → Prop) (px : String → Prop) : Prop :=
  ∀ sz : Nat, vx_Met l y (w :: wsL_law) (oRm lam mc) (va_Pc av (oPre g σ sz)) (va_Qi (fun r (σ' : oMem) => ∃ z : Int, r = Int32.ofInt z ∧ post z σ') (fun σ' t => va_P g.1 vwCl (o_ws g σ') t.heap) (oA g sz)) (oXC g σ px sz) mc (6 * mc) (oA g sz)
def oXv (l : Launch) (g : oG) (y : MethodName) (w : Cond) (lam mc : Nat) (av : List Value) (σ : oMem) (post : oMem → Prop) (px : String → Prop) : Prop :=
  ∀ sz : Nat, vx_Met l y (w :: wsL_law) (oRm lam mc) (va_Pc av (oPre g σ sz)) (va_Qv post (fun σ' t => va_P g.1 vwCl (o_ws g σ') t.heap) (oA g sz)) (oXC g σ px sz) mc (6 * mc) (oA g sz)
end
section
/-- what a throw comes to, in a method that may throw, the world being as it was at its entry -/
def oT (l : Launch) (g : oG) (own : String) (cc : ByteArray) (mc : Nat) (σ0 : oMem) (px : String → Prop) (x : oCtx) : Prop :=
  (match x with
  | (p, e, R, s, m, args, below, meth, c, Q, A, nL) => ∀ (E : String) (ce : Cell) (q : Nat) (H : Heap) (locs : List Loc) (ls : Array Slot) (pc : Nat) (rest : List Value) (k : Nat), px E → va_P g.1 vwCl (o_ws g σ0) H → va_S A s.heap H locs → H[q]? = some ce → ce.vm = .none → s.vm.findClass E = some ce.cls → k ≤ mc → vx_W p l e R s m args below meth c H locs k (6 * k) Q (F0 m pc ls rest) q) ∧
  ∀ (pc ik is ic : Nat) (cls text : String) (vs : List (Option Value)) (k : Nat), px cls → Bundle.fit cls = true → cls ∈ o_ca → Cond.classLink own ik cls ∈ wsL_law → Cond.initialized cls ∈ wsL_law → (own, is, text) ∈ o_tx →
    (∀ w ∈ (vx_atS own ic cls ["java/lang/RuntimeException", "java/lang/Exception"]).filter goodWord, w ∈ wsL_law) → (∀ w ∈ (vx_atS own ic cls ["java/lang/RuntimeException", "java/lang/Exception"]).filter (fun w => !goodWord w), w ∈ Cond.castable cls cls :: o_de.map Cond.declares) →
    (∀ w ∈ Cond.classLink own ik cls :: Cond.initialized cls :: vx_atS own ic cls ["java/lang/RuntimeException", "java/lang/Exception"], vx_ot w = true) →
    decode cc pc = .ok (.new ik, 3) → decode cc (pc + 3) = .ok (.dup, 1) → decode cc (pc + 4) = .ok (.ldc is, 2) → decode cc (pc + 6) = .ok (.invokespecial ic, 3) → decode cc (pc + 9) = .ok (.athrow, 1) → k + 1 ≤ mc → oW l g x σ0 pc vs [] k
theorem o_bodyI {l : Launch} {g : oG} {own : String} {cc : ByteArray} {ty : FieldType} {maxL lam mc : Nat} {σ : oMem} {post : Int → oMem → Prop} {p : Program} {e : Env} {R : Room} {s : State} {m : MethodId} {args : Array Value} {below : List Frame} {meth : Method} {c : Code} {A : Nat → Prop} {Q0 : Array Value → State → Outcome → State → Prop}
    (hx : p.tables.exec = Jvm.exec) (hb : c.code = cc) (hr : meth.sig.returnType = some ty) (hlocks : meth.locks = false) (hQ : ∀ (z : Int) (σ' : oMem) (t : State), post z σ' → va_P g.1 vwCl (o_ws g σ') t.heap → va_F A s t → Q0 args s (.returned (some (oi z))) t) {z : Int} {σ' : oMem} {pc : Nat} {vs : List (Option Value)} {k : Nat} (hd : decode cc pc = .ok (.ireturn, 1)) (hn : narrow ty (oi z) = oi z) (hp : post z σ') (hk : k ≤ mc) :
    oW l g (p, e, R, s, m, args, below, meth, c, MQ below Q0 args s mc (6 * mc) A, A, maxL) σ' pc vs [oi z] k := by
  intro H locs ls hl hP hS
  refine W.widen (k := mc) (n := 6 * mc) hk (Nat.mul_le_mul_left 6 hk) ?_
  exact W.zret hx hb hr hn (fun t ht hW => hQ z σ' t hp (by rw [ht]; exact hP) (hS.F ht)) hS.2.2 hd hlocks
theorem o_bodyV {l : Launch} {g : oG} {cc : ByteArray} {maxL mc : Nat} {post : oMem → Prop} {p : Program} {e : Env} {R : Room} {s : State} {m : MethodId} {args : Array Value} {below : List Frame} {meth : Method} {c : Code} {A : Nat → Prop} {Q0 : Array Value → State → Outcome → State → Prop}
    (hx : p.tables.exec = Jvm.exec) (hb : c.code = cc) (hr : meth.sig.returnType = none) (hlocks : meth.locks = false) (hQ : ∀ (σ' : oMem) (t : State), post σ' → va_P g.1 vwCl (o_ws g σ') t.heap → va_F A s t → Q0 args s (.returned none) t) {σ' : oMem} {pc : Nat} {vs : List (Option Value)} {k : Nat} (hd : decode cc pc = .ok (.return_, 1)) (hp : post σ') (hk : k ≤ mc) :
    oW l g (p, e, R, s, m, args, below, meth, c, MQ below Q0 args s mc (6 * mc) A, A, maxL) σ' pc vs [] k := by
  intro H locs ls hl hP hS
  refine W.widen (k := mc) (n := 6 * mc) hk (Nat.mul_le_mul_left 6 hk) ?_
  exact W.vret hx hb hr (fun t ht hW => hQ σ' t hp (by rw [ht]; exact hP) (hS.F ht)) hS.2.2 hd hlocks
theorem o_ctx {l : Launch} {g : oG} {own : String} {y : MethodName} {w : Cond} {cc : ByteArray} {ret : Option FieldType} {maxL lam mc : Nat} {σ : oMem} {p : Program} {e : Env} {s s₁ : State} {m : MethodId} {args : Array Value} {below : List Frame} {meth : Method} {c : Code} {Q : State → Prop}
    (B : BodyLoose p l y (headSpec (w :: wsL_law) (oRm lam mc)) cc maxL ret e s m args below meth c s₁) (hml : c.maxLocals = maxL) (ho : y.cls = own) {sz : Nat} (hv : oPre g σ sz s) :
    oK l g own cc lam mc (p, e, (headSpec (w :: wsL_law) (oRm lam mc)).room, s, m, args, below, meth, c, Q, oA g sz, maxL) ∧ va_P g.1 vwCl (o_ws g σ) s.heap ∧ va_S (oA g sz) s.heap s.heap [] ∧ sz = s.heap.size := by
  obtain ⟨h0, hP, hK, hD, hF⟩ := hv
  subst h0
  subst ho
  have hts := atoms_spec (ws := w :: wsL_law) B.pre
  exact ⟨⟨B.exec, B.bytes, hml, findClass_of_methodNamed B.named, fun w' hw => hts w' (List.mem_cons_of_mem _ hw), hK, hD.self, fun q h => Or.inr h, hF, ⟨Nat.le_refl _, Nat.le_refl _, Nat.le_refl _, Nat.le_refl _⟩⟩, hP, va_S.rf, rfl⟩
theorem oMi_of {l : Launch} {g : oG} {own : String} {y : MethodName} {cc : ByteArray} {ty : FieldType} {maxL lam mc : Nat} {av : List Value} {σ : oMem} {post : Int → oMem → Prop} (hy : plainName y.cls = true) (ho : y.cls = own) (hc : ∀ v ∈ av, v.category = 1) (hn : av.length ≤ maxL)
    (body : ∀ x : oCtx, oK l g own cc lam mc x → (∀ (z : Int) (σ' : oMem) (pc : Nat) (vs : List (Option Value)) (k : Nat), decode cc pc = .ok (.ireturn, 1) → narrow ty (oi z) = oi z → post z σ' → k ≤ mc → oW l g x σ' pc vs [oi z] k) → oW l g x σ 0 (av.map some ++ List.replicate (maxL - av.length) none) [] 0) :
    oMi l g y (.code y cc maxL (some ty)) lam mc av σ post := by
  intro sz
  refine Met.ofW (cc := cc) (maxL := maxL) (ret := some ty) hy rfl ?_
  intro p e s m args below meth c s₁ B hml hv
  obtain ⟨rfl, hv⟩ := hv
  obtain ⟨C, hP, hS, -⟩ := o_ctx B hml ho hv
  obtain ⟨ls, e1, hl⟩ := oL.entry av (n := maxL) hc hn
  rw [lg_entry_eq, e1]
  exact body _ C (fun z σ' pc vs k hd hn9 hp hk => o_bodyI (own := own) (lam := lam) (σ := σ) B.exec B.bytes B.returns B.notSynchronized (fun z9 σ9 t9 h1 h2 h3 => ⟨⟨Int32.ofInt z9, σ9, rfl, ⟨z9, rfl, h1⟩, h2⟩, h3⟩) hd hn9 hp hk) s.heap [] ls hl hP hS
theorem oMv_of {l : Launch} {g : oG} {own : String} {y : MethodName} {cc : ByteArray} {maxL lam mc : Nat} {av : List Value} {σ : oMem} {post : oMem → Prop} (hy : plainName y.cls = true) (ho : y.cls = own) (hc : ∀ v ∈ av, v.category = 1) (hn : av.length ≤ maxL)
    (body : ∀ x : oCtx, oK l g own cc lam mc x → (∀ (σ' : oMem) (pc : Nat) (vs : List (Option Value)) (k : Nat), decode cc pc = .ok (.return_, 1) → post σ' → k ≤ mc → oW l g x σ' pc vs [] k) → oW l g x σ 0 (av.map some ++ List.replicate (maxL - av.length) none) [] 0) :
    oMv l g y (.code y cc maxL none) lam mc av σ post := by
  intro sz
  refine Met.ofW (cc := cc) (maxL := maxL) (ret := none) hy rfl ?_
  intro p e s m args below meth c s₁ B hml hv
  obtain ⟨rfl, hv⟩ := hv
  obtain ⟨C, hP, hS, -⟩ := o_ctx B hml ho hv
  obtain ⟨ls, e1, hl⟩ := oL.entry av (n := maxL) hc hn
  rw [lg_entry_eq, e1]
  exact body _ C (fun σ' pc vs k hd hp hk => o_bodyV B.exec B.bytes B.returns B.notSynchronized (fun σ9 t9 h1 h2 h3 => ⟨⟨σ9, rfl, h1, h2⟩, h3⟩) hd hp hk) s.heap [] ls hl hP hS
theorem o_thrower {l : Launch} {g : oG} {own : String} {y : MethodName} {w : Cond} {cc : ByteArray} {ret : Option FieldType} {maxL lam mc : Nat} {σ : oMem} {px : String → Prop} {Qc : Array Value → State → Outcome → State → Prop} {p : Program} {e : Env} {s s₁ : State} {m : MethodId} {args : Array Value} {below : List Frame} {meth : Method} {c : Code} (hl : l.stackTraces = false) {sz : Nat}
    (B : BodyLoose p l y (headSpec (w :: wsL_law) (oRm lam mc)) cc maxL ret e s m args below meth c s₁) (ht : ∀ x ∈ c.exceptionTable.toList, False) (C : oK l g own cc lam mc (p, e, (headSpec (w :: wsL_law) (oRm lam mc)).room, s, m, args, below, meth, c, vx_MQ below Qc (oXC g σ px sz) args s mc (6 * mc) (oA g sz), oA g sz, maxL)) :
    oT l g own cc mc σ px (p, e, (headSpec (w :: wsL_law) (oRm lam mc)).room, s, m, args, below, meth, c, vx_MQ below Qc (oXC g σ px sz) args s mc (6 * mc) (oA g sz), oA g sz, maxL) := by
  refine ⟨fun E ce q H locs ls pc rest k hp hP hS h1 h2 h3 hk => vx_out (fun x hx => absurd (ht x hx) id) B.notSynchronized h1 h2 h3 (fun t e1 hW => ⟨(), trivial, ⟨hp, by rw [e1]; exact hP⟩, hS.F e1⟩) hS.2.2 hk (Nat.mul_le_mul_left 6 hk), ?_⟩
  intro pc ik is ic cls text vs k hp hfit hca hk hini htx hgood hbad hot d0 d3 d4 d6 d9 hkm
  obtain ⟨hx, hb, hml, hown, hts, hK, hD, hA, hF, hR⟩ := C
  intro H locs ls hl9 hP hS
  obtain ⟨sa, hstr⟩ := hF.2.2.1 _ htx
  have hcast : (Cond.castable cls cls).before args s = true := va_Nw.use rfl (hF.2.2.2.2.2.1 _ hca)
  refine vx_throwS (sa := sa) (names := ["java/lang/RuntimeException", "java/lang/Exception"]) hx hb hl hown hfit (by decide +kernel) (hts _ hk) (hts _ hini) hstr (fun w hw => ?_) hot hF.2.2.2.1 hF.2.2.2.2.1 hS (hl9.1.1.trans hml.symm) d0 d3 d4 d6 d9 (fun x hx => absurd (ht x hx) id) (Nat.lt_of_lt_of_le (by show 2 + 3 < 10; omega) (Nat.le_trans (Nat.le_add_right _ _) hR.1)) (Nat.le_trans (by show 0 + (13 * (2 + 1) + 43) ≤ 200; omega) (Nat.le_trans (Nat.le_add_right _ _) hR.2.1)) (Nat.le_trans hkm hR.2.2.1) (Nat.le_trans (by omega) hR.2.2.2) B.notSynchronized (fun t hW hz hh => ?_) hS.2.2 hkm (by omega)
  · by_cases hg : goodWord w = true
    · exact hts _ (hgood w (List.mem_filter.mpr ⟨hw, hg⟩))
    · rcases List.mem_cons.mp (hbad w (List.mem_filter.mpr ⟨hw, by simp [hg]⟩)) with h9 | h9
      · rw [h9]; exact hcast
      · obtain ⟨y9, hy9, e9⟩ := List.mem_map.mp h9
        rw [← e9]
        exact va_Nw.use rfl (hF.2.2.2.2.2.2 _ hy9)
  · refine ⟨(), trivial, ⟨hp, ?_⟩, ?_⟩
    · exact fun k q hq => (hP k q hq).kept (hh q.1 (vx_lt hP hq))
    · exact ⟨Nat.le_trans hS.1 hz, fun q h1 h2 => by rw [hh q (Nat.lt_of_lt_of_le h1 hS.1)]; exact hS.2.1 q h1 h2⟩
theorem oXi_of {l : Launch} {g : oG} {own : String} {y : MethodName} {cc : ByteArray} {ty : FieldType} {maxL lam mc : Nat} {av : List Value} {σ : oMem} {post : Int → oMem → Prop} {px : String → Prop} (hl : l.stackTraces = false) (hy : plainName y.cls = true) (ho : y.cls = own) (hc : ∀ v ∈ av, v.category = 1) (hn : av.length ≤ maxL)
    (body : ∀ x : oCtx, oK l g own cc lam mc x → oT l g own cc mc σ px x → (∀ (z : Int) (σ' : oMem) (pc : Nat) (vs : List (Option Value)) (k : Nat), decode cc pc = .ok (.ireturn, 1) → narrow ty (oi z) = oi z → post z σ' → k ≤ mc → oW l g x σ' pc vs [oi z] k) → oW l g x σ 0 (av.map some ++ List.replicate (maxL - av.length) none) [] 0) :
    oXi l g y (.code y cc maxL (some ty)) lam mc av σ post px := by
  intro sz
  refine vx_ofW (cc := cc) (maxL := maxL) (ret := some ty) hy rfl ?_
  intro p e s m args below meth c s₁ B hml ht hv
  obtain ⟨rfl, hv⟩ := hv
  obtain ⟨C, hP, hS, -⟩ := o_ctx B hml ho hv
  obtain ⟨ls, e1, hl2⟩ := oL.entry av (n := maxL) hc hn
  rw [lg_entry_eq, e1]
  refine body _ C (o_thrower hl B ht C) (fun z σ' pc vs k hd hn9 hp hk => ?_) s.heap [] ls hl2 hP hS
  exact fun H locs ls hl hP hS => vx_ret (o_bodyI (l := l) (own := own) (lam := lam) (σ := σ) (post := post) B.exec B.bytes B.returns B.notSynchronized (fun z9 σ9 t9 h1 h2 h3 => ⟨⟨Int32.ofInt z9, σ9, rfl, ⟨z9, rfl, h1⟩, h2⟩, h3⟩) hd hn9 hp hk H locs ls hl hP hS)
theorem oXv_of {l : Launch} {g : oG} {own : String} {y : MethodName} {cc : ByteArray} {maxL lam mc : Nat} {av : List Value} {σ : oMem} {post : oMem → Prop} {px : String → Prop} (hl : l.stackTraces = false) (hy : plainName y.cls = true) (ho : y.cls = own) (hc : ∀ v ∈ av, v.category = 1) (hn : av.length ≤ maxL)
    (body : ∀ x : oCtx, oK l g own cc lam mc x → oT l g own cc mc σ px x → (∀ (σ' : oMem) (pc : Nat) (vs : List (Option Value)) (k : Nat), decode cc pc = .ok (.return_, 1) → post σ' → k ≤ mc → oW l g x σ' pc vs [] k) → oW l g x σ 0 (av.map some ++ List.replicate (maxL - av.length) none) [] 0) :
    oXv l g y (.code y cc maxL none) lam mc av σ post px := by
  intro sz
  refine vx_ofW (cc := cc) (maxL := maxL) (ret := none) hy rfl ?_
  intro p e s m args below meth c s₁ B hml ht hv
  obtain ⟨rfl, hv⟩ := hv
  obtain ⟨C, hP, hS, -⟩ := o_ctx B hml ho hv
  obtain ⟨ls, e1, hl2⟩ := oL.entry av (n := maxL) hc hn
  rw [lg_entry_eq, e1]
  refine body _ C (o_thrower hl B ht C) (fun σ' pc vs k hd hp hk => ?_) s.heap [] ls hl2 hP hS
  exact fun H locs ls hl hP hS => vx_ret (o_bodyV (l := l) (post := post) B.exec B.bytes B.returns B.notSynchronized (fun σ9 t9 h1 h2 h3 => ⟨⟨σ9, rfl, h1, h2⟩, h3⟩) hd hp hk H locs ls hl hP hS)
end
section
/-! instructions -/
section ORULES
variable {l : Launch} {g : oG} {own : String} {cc : ByteArray} {lam mc : Nat} {x : oCtx} {σ : oMem} {pc : Nat} {vs : List (Option Value)} {st : List Value} {k : Nat}
theorem o_iconst {n : Int} (C : oK l g own cc lam mc x) (hd : decode cc pc = .ok (.iconst n, 1)) (kk : oW l g x σ (pc + 1) vs (oi n :: st) k) : oW l g x σ pc vs st k := by
  obtain ⟨p, e, R, s, m, args, below, meth, c, Q, A, nL⟩ := x
  obtain ⟨hx, hb, -⟩ := C
  exact fun H locs ls hl hP hS => lv_iconst hx hb hd rfl (kk H locs ls hl hP hS)
theorem o_bipush {n : Int} (C : oK l g own cc lam mc x) (hd : decode cc pc = .ok (.bipush n, 2)) (hv : (Int8.ofInt n).toInt32 = Int32.ofInt n) (kk : oW l g x σ (pc + 2) vs (oi n :: st) k) : oW l g x σ pc vs st k := by
  obtain ⟨p, e, R, s, m, args, below, meth, c, Q, A, nL⟩ := x
  obtain ⟨hx, hb, -⟩ := C
  exact fun H locs ls hl hP hS => lv_bipush hx hb hd hv (kk H locs ls hl hP hS)
theorem o_sipush {n : Int} (C : oK l g own cc lam mc x) (hd : decode cc pc = .ok (.sipush n, 3)) (hv : (Int16.ofInt n).toInt32 = Int32.ofInt n) (kk : oW l g x σ (pc + 3) vs (oi n :: st) k) : oW l g x σ pc vs st k := by
  obtain ⟨p, e, R, s, m, args, below, meth, c, Q, A, nL⟩ := x
  obtain ⟨hx, hb, -⟩ := C
  exact fun H locs ls hl hP hS => lv_sipush hx hb hd hv (kk H locs ls hl hP hS)
theorem o_ldcI {n : Int} {index : Nat} (C : oK l g own cc lam mc x) (hd : decode cc pc = .ok (.ldc index, 2)) (hw : Cond.constant own index (Int32.ofInt n) ∈ wsL_law) (kk : oW l g x σ (pc + 2) vs (oi n :: st) k) : oW l g x σ pc vs st k := by
  obtain ⟨p, e, R, s, m, args, below, meth, c, Q, A, nL⟩ := x
  obtain ⟨hx, hb, -, hown, hts, -⟩ := C
  exact fun H locs ls hl hP hS => lv_ldc hx hb hown (hts _ hw) hd (kk H locs ls hl hP hS)
theorem o_iload {i : Nat} {z : Int} (C : oK l g own cc lam mc x) (hd : decode cc pc = .ok (.iload i, 2)) (hi : vs[i]? = some (some (oi z))) (kk : oW l g x σ (pc + 2) vs (oi z :: st) k) : oW l g x σ pc vs st k := by
  obtain ⟨p, e, R, s, m, args, below, meth, c, Q, A, nL⟩ := x
  obtain ⟨hx, hb, -⟩ := C
  exact fun H locs ls hl hP hS => lv_iload hx hb hd (hl.val hi) (kk H locs ls hl hP hS)
theorem o_iload_n {i : Fin 4} {z : Int} (C : oK l g own cc lam mc x) (hd : decode cc pc = .ok (.iload_n i, 1)) (hi : vs[(i : Nat)]? = some (some (oi z))) (kk : oW l g x σ (pc + 1) vs (oi z :: st) k) : oW l g x σ pc vs st k := by
  obtain ⟨p, e, R, s, m, args, below, meth, c, Q, A, nL⟩ := x
  obtain ⟨hx, hb, -⟩ := C
  exact fun H locs ls hl hP hS => lv_iload_n hx hb hd rfl (hl.val hi) (kk H locs ls hl hP hS)
theorem o_aload {i a : Nat} (C : oK l g own cc lam mc x) (hd : decode cc pc = .ok (.aload i, 2)) (hi : vs[i]? = some (some (.ref a))) (kk : oW l g x σ (pc + 2) vs (.ref a :: st) k) : oW l g x σ pc vs st k := by
  obtain ⟨p, e, R, s, m, args, below, meth, c, Q, A, nL⟩ := x
  obtain ⟨hx, hb, -⟩ := C
  exact fun H locs ls hl hP hS => lv_aload hx hb hd (hl.val hi) (kk H locs ls hl hP hS)
theorem o_aload_n {i : Fin 4} {a : Nat} (C : oK l g own cc lam mc x) (hd : decode cc pc = .ok (.aload_n i, 1)) (hi : vs[(i : Nat)]? = some (some (.ref a))) (kk : oW l g x σ (pc + 1) vs (.ref a :: st) k) : oW l g x σ pc vs st k := by
  obtain ⟨p, e, R, s, m, args, below, meth, c, Q, A, nL⟩ := x
  obtain ⟨hx, hb, -⟩ := C
  exact fun H locs ls hl hP hS => lv_aload_n hx hb hd rfl (hl.val hi) (kk H locs ls hl hP hS)
theorem o_istore {i : Nat} {z : Int} (C : oK l g own cc lam mc x) (hd : decode cc pc = .ok (.istore i, 2)) (hi : i < vs.length) (kk : oW l g x σ (pc + 2) (vs.set i (some (oi z))) st k) : oW l g x σ pc vs (oi z :: st) k := by
  obtain ⟨p, e, R, s, m, args, below, meth, c, Q, A, nL⟩ := x
  obtain ⟨hx, hb, -⟩ := C
  exact fun H locs ls hl hP hS => lv_istore hx hb hd hl.1 (hl.lt hi) rfl (fun ls' h' => kk H locs ls' (hl.setv rfl hi h') hP hS)
theorem o_istore_n {i : Fin 4} {z : Int} (C : oK l g own cc lam mc x) (hd : decode cc pc = .ok (.istore_n i, 1)) (hi : (i : Nat) < vs.length) (kk : oW l g x σ (pc + 1) (vs.set (i : Nat) (some (oi z))) st k) : oW l g x σ pc vs (oi z :: st) k := by
  obtain ⟨p, e, R, s, m, args, below, meth, c, Q, A, nL⟩ := x
  obtain ⟨hx, hb, -⟩ := C
  exact fun H locs ls hl hP hS => lv_istore_n hx hb hd rfl hl.1 (hl.lt hi) rfl (fun ls' h' => kk H locs ls' (hl.setv rfl hi h') hP hS)
theorem o_astore {i a : Nat} (C : oK l g own cc lam mc x) (hd : decode cc pc = .ok (.astore i, 2)) (hi : i < vs.length) (kk : oW l g x σ (pc + 2) (vs.set i (some (.ref a))) st k) : oW l g x σ pc vs (.ref a :: st) k := by
  obtain ⟨p, e, R, s, m, args, below, meth, c, Q, A, nL⟩ := x
  obtain ⟨hx, hb, -⟩ := C
  exact fun H locs ls hl hP hS => lv_astore hx hb hd hl.1 (hl.lt hi) rfl (fun ls' h' => kk H locs ls' (hl.setv rfl hi h') hP hS)
theorem o_astore_n {i : Fin 4} {a : Nat} (C : oK l g own cc lam mc x) (hd : decode cc pc = .ok (.astore_n i, 1)) (hi : (i : Nat) < vs.length) (kk : oW l g x σ (pc + 1) (vs.set (i : Nat) (some (.ref a))) st k) : oW l g x σ pc vs (.ref a :: st) k := by
  obtain ⟨p, e, R, s, m, args, below, meth, c, Q, A, nL⟩ := x
  obtain ⟨hx, hb, -⟩ := C
  exact fun H locs ls hl hP hS => lv_astore_n hx hb hd rfl hl.1 (hl.lt hi) rfl (fun ls' h' => kk H locs ls' (hl.setv rfl hi h') hP hS)
theorem o_iinc {i : Nat} {n z : Int} (C : oK l g own cc lam mc x) (hd : decode cc pc = .ok (.iinc i n, 3)) (hi : vs[i]? = some (some (oi z))) (kk : oW l g x σ (pc + 3) (vs.set i (some (oi (z + n)))) st k) : oW l g x σ pc vs st k := by
  obtain ⟨p, e, R, s, m, args, below, meth, c, Q, A, nL⟩ := x
  obtain ⟨hx, hb, -⟩ := C
  intro H locs ls hl hP hS
  have hlt : i < vs.length := (List.getElem?_eq_some_iff.mp hi).1
  obtain ⟨j, hj⟩ := List.mem_iff_getElem?.mp ((o_as_mem (i := i) (v := oi z) vs 0).mpr ⟨i, by omega, hi⟩)
  exact lv_iinc (v := Int32.ofInt (z + n)) hx hb hd hl.1 hj (o_add z n) (hl.lt hlt) rfl (fun ls' h' => kk H locs ls' (hl.setv rfl hlt h') hP hS)
theorem o_iadd {a b : Int} (C : oK l g own cc lam mc x) (hd : decode cc pc = .ok (.iadd, 1)) (kk : oW l g x σ (pc + 1) vs (oi (a + b) :: st) k) : oW l g x σ pc vs (oi b :: oi a :: st) k := by
  obtain ⟨p, e, R, s, m, args, below, meth, c, Q, A, nL⟩ := x
  obtain ⟨hx, hb, -⟩ := C
  exact fun H locs ls hl hP hS => lv_iadd hx hb hd (by rw [o_add]; exact kk H locs ls hl hP hS)
theorem o_isub {a b : Int} (C : oK l g own cc lam mc x) (hd : decode cc pc = .ok (.isub, 1)) (kk : oW l g x σ (pc + 1) vs (oi (a - b) :: st) k) : oW l g x σ pc vs (oi b :: oi a :: st) k := by
  obtain ⟨p, e, R, s, m, args, below, meth, c, Q, A, nL⟩ := x
  obtain ⟨hx, hb, -⟩ := C
  exact fun H locs ls hl hP hS => lv_isub hx hb hd (by rw [o_sub]; exact kk H locs ls hl hP hS)
theorem o_imul {a b : Int} (C : oK l g own cc lam mc x) (hd : decode cc pc = .ok (.imul, 1)) (kk : oW l g x σ (pc + 1) vs (oi (a * b) :: st) k) : oW l g x σ pc vs (oi b :: oi a :: st) k := by
  obtain ⟨p, e, R, s, m, args, below, meth, c, Q, A, nL⟩ := x
  obtain ⟨hx, hb, -⟩ := C
  exact fun H locs ls hl hP hS => lv_imul hx hb hd (by rw [o_mul]; exact kk H locs ls hl hP hS)
theorem o_idiv {a b : Int} (C : oK l g own cc lam mc x) (hd : decode cc pc = .ok (.idiv, 1)) (ha : 0 ≤ a) (hb0 : 0 < b) (h1 : InR a) (h2 : InR b) (kk : oW l g x σ (pc + 1) vs (oi (a / b) :: st) k) : oW l g x σ pc vs (oi b :: oi a :: st) k := by
  obtain ⟨p, e, R, s, m, args, below, meth, c, Q, A, nL⟩ := x
  obtain ⟨hx, hb, -⟩ := C
  exact fun H locs ls hl hP hS => lv_idiv hx hb hd (fun h => by rw [show (0 : Int32) = Int32.ofInt 0 from rfl, o_eq h2 ⟨by omega, by omega⟩] at h; omega) (by rw [o_div ha hb0 h1 h2]; exact kk H locs ls hl hP hS)
theorem o_ishl {a b v : Int} (C : oK l g own cc lam mc x) (hd : decode cc pc = .ok (.ishl, 1)) (hv : Int32.ofInt a <<< (Int32.ofInt b &&& 31) = Int32.ofInt v) (kk : oW l g x σ (pc + 1) vs (oi v :: st) k) : oW l g x σ pc vs (oi b :: oi a :: st) k := by
  obtain ⟨p, e, R, s, m, args, below, meth, c, Q, A, nL⟩ := x
  obtain ⟨hx, hb, -⟩ := C
  exact fun H locs ls hl hP hS => lv_ishl hx hb hd (by rw [hv]; exact kk H locs ls hl hP hS)
theorem o_ishr {a b v : Int} (C : oK l g own cc lam mc x) (hd : decode cc pc = .ok (.ishr, 1)) (hv : Int32.ofInt a >>> (Int32.ofInt b &&& 31) = Int32.ofInt v) (kk : oW l g x σ (pc + 1) vs (oi v :: st) k) : oW l g x σ pc vs (oi b :: oi a :: st) k := by
  obtain ⟨p, e, R, s, m, args, below, meth, c, Q, A, nL⟩ := x
  obtain ⟨hx, hb, -⟩ := C
  exact fun H locs ls hl hP hS => lv_ishr hx hb hd (by rw [hv]; exact kk H locs ls hl hP hS)
theorem o_iand {a b v : Int} (C : oK l g own cc lam mc x) (hd : decode cc pc = .ok (.iand, 1)) (hv : Int32.ofInt a &&& Int32.ofInt b = Int32.ofInt v) (kk : oW l g x σ (pc + 1) vs (oi v :: st) k) : oW l g x σ pc vs (oi b :: oi a :: st) k := by
  obtain ⟨p, e, R, s, m, args, below, meth, c, Q, A, nL⟩ := x
  obtain ⟨hx, hb, -⟩ := C
  exact fun H locs ls hl hP hS => lv_iand hx hb hd (by rw [hv]; exact kk H locs ls hl hP hS)
theorem o_ior {a b v : Int} (C : oK l g own cc lam mc x) (hd : decode cc pc = .ok (.ior, 1)) (hv : Int32.ofInt a ||| Int32.ofInt b = Int32.ofInt v) (kk : oW l g x σ (pc + 1) vs (oi v :: st) k) : oW l g x σ pc vs (oi b :: oi a :: st) k := by
  obtain ⟨p, e, R, s, m, args, below, meth, c, Q, A, nL⟩ := x
  obtain ⟨hx, hb, -⟩ := C
  exact fun H locs ls hl hP hS => lv_ior hx hb hd (by rw [hv]; exact kk H locs ls hl hP hS)
theorem o_ixor {a b v : Int} (C : oK l g own cc lam mc x) (hd : decode cc pc = .ok (.ixor, 1)) (hv : Int32.ofInt a ^^^ Int32.ofInt b = Int32.ofInt v) (kk : oW l g x σ (pc + 1) vs (oi v :: st) k) : oW l g x σ pc vs (oi b :: oi a :: st) k := by
  obtain ⟨p, e, R, s, m, args, below, meth, c, Q, A, nL⟩ := x
  obtain ⟨hx, hb, -⟩ := C
  exact fun H locs ls hl hP hS => lv_ixor hx hb hd (by rw [hv]; exact kk H locs ls hl hP hS)
theorem o_goto {off : Int} {tgt : Nat} (C : oK l g own cc lam mc x) (hd : decode cc pc = .ok (.goto off, 3)) (ht : (pc : Int) + off = (tgt : Int)) (kk : oW l g x σ tgt vs st k) : oW l g x σ pc vs st k := by
  obtain ⟨p, e, R, s, m, args, below, meth, c, Q, A, nL⟩ := x
  obtain ⟨hx, hb, -⟩ := C
  exact fun H locs ls hl hP hS => lv_goto hx hb hd ht (kk H locs ls hl hP hS)
theorem o_dup {v : Value} (C : oK l g own cc lam mc x) (hd : decode cc pc = .ok (.dup, 1)) (hv : v.category = 1) (kk : oW l g x σ (pc + 1) vs (v :: v :: st) k) : oW l g x σ pc vs (v :: st) k := by
  obtain ⟨p, e, R, s, m, args, below, meth, c, Q, A, nL⟩ := x
  obtain ⟨hx, hb, -⟩ := C
  exact fun H locs ls hl hP hS => lv_dup hx hb hd hv (kk H locs ls hl hP hS)
theorem o_dup2 {v w : Value} (C : oK l g own cc lam mc x) (hd : decode cc pc = .ok (.dup2, 1)) (hv : v.category = 1) (hw : w.category = 1) (kk : oW l g x σ (pc + 1) vs (v :: w :: v :: w :: st) k) : oW l g x σ pc vs (v :: w :: st) k := by
  obtain ⟨p, e, R, s, m, args, below, meth, c, Q, A, nL⟩ := x
  obtain ⟨hx, hb, -⟩ := C
  exact fun H locs ls hl hP hS => lv_dup2_11 hx hb hd hv hw (kk H locs ls hl hP hS)
theorem o_pop {v : Value} (C : oK l g own cc lam mc x) (hd : decode cc pc = .ok (.pop, 1)) (hv : v.category = 1) (kk : oW l g x σ (pc + 1) vs st k) : oW l g x σ pc vs (v :: st) k := by
  obtain ⟨p, e, R, s, m, args, below, meth, c, Q, A, nL⟩ := x
  obtain ⟨hx, hb, -⟩ := C
  exact fun H locs ls hl hP hS => lv_pop hx hb hd hv (kk H locs ls hl hP hS)
theorem o_icmp_eq {a b off : Int} {tgt : Nat} (C : oK l g own cc lam mc x) (hd : decode cc pc = .ok (.if_icmp .eq off, 3)) (ht : (pc : Int) + off = (tgt : Int)) (ha : InR a) (hb : InR b) (kt : a = b → oW l g x σ tgt vs st k) (kf : ¬ a = b → oW l g x σ (pc + 3) vs st k) : oW l g x σ pc vs (oi b :: oi a :: st) k := by
  obtain ⟨p, e, R, s, m, args, below, meth, c, Q, A, nL⟩ := x
  obtain ⟨hx, hb9, -⟩ := C
  intro H locs ls hl hP hS
  refine lv_icmp_eq hx hb9 hd ht (fun h1 => kt (by rw [o_eq ha hb] at h1; exact h1) H locs ls hl hP hS) (fun h1 => kf ?_ H locs ls hl hP hS)
  rw [o_eq ha hb] at h1
  exact h1
theorem o_if_eq {a off : Int} {tgt : Nat} (C : oK l g own cc lam mc x) (hd : decode cc pc = .ok (.ifCond .eq off, 3)) (ht : (pc : Int) + off = (tgt : Int)) (ha : InR a) (kt : a = 0 → oW l g x σ tgt vs st k) (kf : ¬ a = 0 → oW l g x σ (pc + 3) vs st k) : oW l g x σ pc vs (oi a :: st) k := by
  obtain ⟨p, e, R, s, m, args, below, meth, c, Q, A, nL⟩ := x
  obtain ⟨hx, hb9, -⟩ := C
  have hb : InR 0 := ⟨by omega, by omega⟩
  have h0 : (0 : Int32) = Int32.ofInt 0 := rfl
  intro H locs ls hl hP hS
  refine lv_if_eq hx hb9 hd ht (fun h1 => kt (by rw [h0, o_eq ha hb] at h1; exact h1) H locs ls hl hP hS) (fun h1 => kf ?_ H locs ls hl hP hS)
  rw [h0, o_eq ha hb] at h1
  exact h1
theorem o_icmp_ne {a b off : Int} {tgt : Nat} (C : oK l g own cc lam mc x) (hd : decode cc pc = .ok (.if_icmp .ne off, 3)) (ht : (pc : Int) + off = (tgt : Int)) (ha : InR a) (hb : InR b) (kt : ¬ a = b → oW l g x σ tgt vs st k) (kf : a = b → oW l g x σ (pc + 3) vs st k) : oW l g x σ pc vs (oi b :: oi a :: st) k := by
  obtain ⟨p, e, R, s, m, args, below, meth, c, Q, A, nL⟩ := x
  obtain ⟨hx, hb9, -⟩ := C
  intro H locs ls hl hP hS
  refine lv_icmp_ne hx hb9 hd ht (fun h1 => kt (by rw [o_eq ha hb] at h1; exact h1) H locs ls hl hP hS) (fun h1 => kf ?_ H locs ls hl hP hS)
  rw [o_eq ha hb] at h1
  exact h1
theorem o_if_ne {a off : Int} {tgt : Nat} (C : oK l g own cc lam mc x) (hd : decode cc pc = .ok (.ifCond .ne off, 3)) (ht : (pc : Int) + off = (tgt : Int)) (ha : InR a) (kt : ¬ a = 0 → oW l g x σ tgt vs st k) (kf : a = 0 → oW l g x σ (pc + 3) vs st k) : oW l g x σ pc vs (oi a :: st) k := by
  obtain ⟨p, e, R, s, m, args, below, meth, c, Q, A, nL⟩ := x
  obtain ⟨hx, hb9, -⟩ := C
  have hb : InR 0 := ⟨by omega, by omega⟩
  have h0 : (0 : Int32) = Int32.ofInt 0 := rfl
  intro H locs ls hl hP hS
  refine lv_if_ne hx hb9 hd ht (fun h1 => kt (by rw [h0, o_eq ha hb] at h1; exact h1) H locs ls hl hP hS) (fun h1 => kf ?_ H locs ls hl hP hS)
  rw [h0, o_eq ha hb] at h1
  exact h1
theorem o_icmp_lt {a b off : Int} {tgt : Nat} (C : oK l g own cc lam mc x) (hd : decode cc pc = .ok (.if_icmp .lt off, 3)) (ht : (pc : Int) + off = (tgt : Int)) (ha : InR a) (hb : InR b) (kt : a < b → oW l g x σ tgt vs st k) (kf : b ≤ a → oW l g x σ (pc + 3) vs st k) : oW l g x σ pc vs (oi b :: oi a :: st) k := by
  obtain ⟨p, e, R, s, m, args, below, meth, c, Q, A, nL⟩ := x
  obtain ⟨hx, hb9, -⟩ := C
  intro H locs ls hl hP hS
  refine lv_icmp_lt hx hb9 hd ht (fun h1 => kt (by rw [o_lt ha hb] at h1; exact h1) H locs ls hl hP hS) (fun h1 => kf ?_ H locs ls hl hP hS)
  rw [o_lt ha hb] at h1
  omega
theorem o_if_lt {a off : Int} {tgt : Nat} (C : oK l g own cc lam mc x) (hd : decode cc pc = .ok (.ifCond .lt off, 3)) (ht : (pc : Int) + off = (tgt : Int)) (ha : InR a) (kt : a < 0 → oW l g x σ tgt vs st k) (kf : 0 ≤ a → oW l g x σ (pc + 3) vs st k) : oW l g x σ pc vs (oi a :: st) k := by
  obtain ⟨p, e, R, s, m, args, below, meth, c, Q, A, nL⟩ := x
  obtain ⟨hx, hb9, -⟩ := C
  have hb : InR 0 := ⟨by omega, by omega⟩
  have h0 : (0 : Int32) = Int32.ofInt 0 := rfl
  intro H locs ls hl hP hS
  refine lv_if_lt hx hb9 hd ht (fun h1 => kt (by rw [h0, o_lt ha hb] at h1; exact h1) H locs ls hl hP hS) (fun h1 => kf ?_ H locs ls hl hP hS)
  rw [h0, o_lt ha hb] at h1
  omega
theorem o_icmp_ge {a b off : Int} {tgt : Nat} (C : oK l g own cc lam mc x) (hd : decode cc pc = .ok (.if_icmp .ge off, 3)) (ht : (pc : Int) + off = (tgt : Int)) (ha : InR a) (hb : InR b) (kt : b ≤ a → oW l g x σ tgt vs st k) (kf : a < b → oW l g x σ (pc + 3) vs st k) : oW l g x σ pc vs (oi b :: oi a :: st) k := by
  obtain ⟨p, e, R, s, m, args, below, meth, c, Q, A, nL⟩ := x
  obtain ⟨hx, hb9, -⟩ := C
  intro H locs ls hl hP hS
  refine lv_icmp_ge hx hb9 hd ht (fun h1 => kt (by rw [o_le hb ha] at h1; exact h1) H locs ls hl hP hS) (fun h1 => kf ?_ H locs ls hl hP hS)
  rw [o_le hb ha] at h1
  omega
theorem o_if_ge {a off : Int} {tgt : Nat} (C : oK l g own cc lam mc x) (hd : decode cc pc = .ok (.ifCond .ge off, 3)) (ht : (pc : Int) + off = (tgt : Int)) (ha : InR a) (kt : 0 ≤ a → oW l g x σ tgt vs st k) (kf : a < 0 → oW l g x σ (pc + 3) vs st k) : oW l g x σ pc vs (oi a :: st) k := by
  obtain ⟨p, e, R, s, m, args, below, meth, c, Q, A, nL⟩ := x
  obtain ⟨hx, hb9, -⟩ := C
  have hb : InR 0 := ⟨by omega, by omega⟩
  have h0 : (0 : Int32) = Int32.ofInt 0 := rfl
  intro H locs ls hl hP hS
  refine lv_if_ge hx hb9 hd ht (fun h1 => kt (by rw [h0, o_le hb ha] at h1; exact h1) H locs ls hl hP hS) (fun h1 => kf ?_ H locs ls hl hP hS)
  rw [h0, o_le hb ha] at h1
  omega
theorem o_icmp_gt {a b off : Int} {tgt : Nat} (C : oK l g own cc lam mc x) (hd : decode cc pc = .ok (.if_icmp .gt off, 3)) (ht : (pc : Int) + off = (tgt : Int)) (ha : InR a) (hb : InR b) (kt : b < a → oW l g x σ tgt vs st k) (kf : a ≤ b → oW l g x σ (pc + 3) vs st k) : oW l g x σ pc vs (oi b :: oi a :: st) k := by
  obtain ⟨p, e, R, s, m, args, below, meth, c, Q, A, nL⟩ := x
  obtain ⟨hx, hb9, -⟩ := C
  intro H locs ls hl hP hS
  refine lv_icmp_gt hx hb9 hd ht (fun h1 => kt (by rw [o_lt hb ha] at h1; exact h1) H locs ls hl hP hS) (fun h1 => kf ?_ H locs ls hl hP hS)
  rw [o_lt hb ha] at h1
  omega
theorem o_if_gt {a off : Int} {tgt : Nat} (C : oK l g own cc lam mc x) (hd : decode cc pc = .ok (.ifCond .gt off, 3)) (ht : (pc : Int) + off = (tgt : Int)) (ha : InR a) (kt : 0 < a → oW l g x σ tgt vs st k) (kf : a ≤ 0 → oW l g x σ (pc + 3) vs st k) : oW l g x σ pc vs (oi a :: st) k := by
  obtain ⟨p, e, R, s, m, args, below, meth, c, Q, A, nL⟩ := x
  obtain ⟨hx, hb9, -⟩ := C
  have hb : InR 0 := ⟨by omega, by omega⟩
  have h0 : (0 : Int32) = Int32.ofInt 0 := rfl
  intro H locs ls hl hP hS
  refine lv_if_gt hx hb9 hd ht (fun h1 => kt (by rw [h0, o_lt hb ha] at h1; exact h1) H locs ls hl hP hS) (fun h1 => kf ?_ H locs ls hl hP hS)
  rw [h0, o_lt hb ha] at h1
  omega
theorem o_icmp_le {a b off : Int} {tgt : Nat} (C : oK l g own cc lam mc x) (hd : decode cc pc = .ok (.if_icmp .le off, 3)) (ht : (pc : Int) + off = (tgt : Int)) (ha : InR a) (hb : InR b) (kt : a ≤ b → oW l g x σ tgt vs st k) (kf : b < a → oW l g x σ (pc + 3) vs st k) : oW l g x σ pc vs (oi b :: oi a :: st) k := by
  obtain ⟨p, e, R, s, m, args, below, meth, c, Q, A, nL⟩ := x
  obtain ⟨hx, hb9, -⟩ := C
  intro H locs ls hl hP hS
  refine lv_icmp_le hx hb9 hd ht (fun h1 => kt (by rw [o_le ha hb] at h1; exact h1) H locs ls hl hP hS) (fun h1 => kf ?_ H locs ls hl hP hS)
  rw [o_le ha hb] at h1
  omega
theorem o_if_le {a off : Int} {tgt : Nat} (C : oK l g own cc lam mc x) (hd : decode cc pc = .ok (.ifCond .le off, 3)) (ht : (pc : Int) + off = (tgt : Int)) (ha : InR a) (kt : a ≤ 0 → oW l g x σ tgt vs st k) (kf : 0 < a → oW l g x σ (pc + 3) vs st k) : oW l g x σ pc vs (oi a :: st) k := by
  obtain ⟨p, e, R, s, m, args, below, meth, c, Q, A, nL⟩ := x
  obtain ⟨hx, hb9, -⟩ := C
  have hb : InR 0 := ⟨by omega, by omega⟩
  have h0 : (0 : Int32) = Int32.ofInt 0 := rfl
  intro H locs ls hl hP hS
  refine lv_if_le hx hb9 hd ht (fun h1 => kt (by rw [h0, o_le ha hb] at h1; exact h1) H locs ls hl hP hS) (fun h1 => kf ?_ H locs ls hl hP hS)
  rw [h0, o_le ha hb] at h1
  omega
end ORULES
end
section
/-! fields, rows, calls -/
section OHEAP
variable {l : Launch} {g : oG} {own : String} {cc : ByteArray} {lam mc : Nat} {x : oCtx} {σ : oMem} {pc : Nat} {vs : List (Option Value)} {st : List Value} {k : Nat}
theorem o_get {Cn : String} {T : u_T} {N ci idx K i slot : Nat} {fs : List Value} {v : Value} (C : oK l g own cc lam mc x) (hi : i < o_n K) (hsh : o_sh g K i (σ K i) = .inr (ci, fs)) (hc : vwCl[ci]? = some (Cn, T, N)) (hin : ∀ w ∈ u_ws Cn T N, w ∈ wsL_law) (hk : slot < N) (hlink : Cond.fieldLink own idx (T slot).1 (T slot).2.1 (T slot).2.2.1 ∈ wsL_law) (hv : fs[slot]? = some v) (hd : decode cc pc = .ok (.getfield idx, 3)) (kk : oW l g x σ (pc + 3) vs (v :: st) k) : oW l g x σ pc vs (.ref (g.2.1 K i) :: st) k := by
  obtain ⟨p, e, R, s, m, args, below, meth, c, Q, A, nL⟩ := x
  obtain ⟨hx, hb, hml, hown, hts, hK, -⟩ := C
  intro H locs ls hl hP hS
  obtain ⟨q0, hq, -⟩ := o_at g σ hi
  rw [hsh] at hq
  exact va_get hx hb hts hin hown hK hP q0 hq hc slot hk (hts _ hlink) (fun _ h => h) hv hd (kk H locs ls hl hP hS)
theorem o_getN {Cn host : String} {T : u_T} {N ci idx K i slot : Nat} {fs : List Value} {v : Value} (C : oK l g own cc lam mc x) (hi : i < o_n K) (hsh : o_sh g K i (σ K i) = .inr (ci, fs)) (hc : vwCl[ci]? = some (Cn, T, N)) (hin : ∀ w ∈ u_ws Cn T N, w ∈ wsL_law) (hk : slot < N) (hlink : (own, idx, (T slot).1, (T slot).2.1, (T slot).2.2.1, host) ∈ o_nf) (hv : fs[slot]? = some v) (hd : decode cc pc = .ok (.getfield idx, 3)) (kk : oW l g x σ (pc + 3) vs (v :: st) k) : oW l g x σ pc vs (.ref (g.2.1 K i) :: st) k := by
  obtain ⟨p, e, R, s, m, args, below, meth, c, Q, A, nL⟩ := x
  obtain ⟨hx, hb, hml, hown, hts, hK, -, -, hF, -⟩ := C
  intro H locs ls hl hP hS
  obtain ⟨q0, hq, -⟩ := o_at g σ hi
  rw [hsh] at hq
  exact va_getN hx hb hts hin hown hK hP q0 hq hc slot hk (va_Nw.use rfl (hF.1 _ hlink)) (fun _ h => h) hv hd (kk H locs ls hl hP hS)
theorem o_put {Cn : String} {T : u_T} {N ci idx K i slot : Nat} {z : Int} (C : oK l g own cc lam mc x) (hi : i < o_n K) (fs : (Nat → Int) → List Value) (hsh : ∀ f, o_sh g K i f = .inr (ci, fs f)) (hset : ∀ (f : Nat → Int) (v : Int), (fs f).set slot (oi v) = fs (fun j => if j = slot then v else f j)) (hc : vwCl[ci]? = some (Cn, T, N)) (hin : ∀ w ∈ u_ws Cn T N, w ∈ wsL_law) (ty0 : Nat → FieldType) (hty : ∀ k, k < N → parseFieldDescriptor (T k).2.2.1 = some (ty0 k)) (hnm : ∀ a, a < N → ∀ b, b < N → a ≠ b → (T a).2.1 ≠ (T b).2.1) (hk : slot < N) (hlink : Cond.fieldLink own idx (T slot).1 (T slot).2.1 (T slot).2.2.1 ∈ wsL_law) (hfin : (T slot).2.2.2 = false) (hpd : parseFieldDescriptor (T slot).2.2.1 = some .int) (hl0 : slot < (fs (σ K i)).length) (hd : decode cc pc = .ok (.putfield idx, 3)) (kk : oW l g x (o_up σ K i slot z) (pc + 3) vs st k) : oW l g x σ pc vs (oi z :: .ref (g.2.1 K i) :: st) k := by
  obtain ⟨p, e, R, s, m, args, below, meth, c, Q, A, nL⟩ := x
  obtain ⟨hx, hb, hml, hown, hts, hK, hD, -⟩ := C
  intro H locs ls hl hP hS
  obtain ⟨q0, hq, hset2⟩ := o_at g σ hi
  rw [hsh] at hq
  refine va_put hx hb hts hin ty0 hty hnm hown hK hP (o_ws_D hD) hS q0 hq hc slot hk (hts _ hlink) (fun _ h => h) hfin hpd rfl rfl hl0 hd (fun H1 locs1 hP1 hD1 hS1 => ?_)
  rw [hset2 (o_up σ K i slot z) _ (fun K' i' h => o_up_row σ K i slot z K' i' h) (by rw [hsh, hset, o_up_own])] at hP1
  exact kk H1 locs1 ls hl hP1 hS1
theorem o_len_le (K : Nat) : o_len K ≤ 2001 := by
  unfold o_len
  rw [List.getD_eq_getElem?_getD]
  cases h : o_lens[K]? with
  | none => exact Nat.zero_le _
  | some v => exact (show ∀ v ∈ o_lens, v ≤ 2001 by decide) v (List.mem_of_getElem? h)
theorem o_iald {K i : Nat} {z : Int} (C : oK l g own cc lam mc x) (hi : i < o_n K) (hsh : ∀ f, o_sh g K i f = .inl (g.2.2 0, o_len K, .inl (fun j => Int32.ofInt (f j)))) (h0 : 0 ≤ z) (h1 : z < o_len K) (hd : decode cc pc = .ok (.iaload, 1)) (kk : oW l g x σ (pc + 1) vs (oi (σ K i z.toNat) :: st) k) : oW l g x σ pc vs (oi z :: .ref (g.2.1 K i) :: st) k := by
  obtain ⟨p, e, R, s, m, args, below, meth, c, Q, A, nL⟩ := x
  obtain ⟨hx, hb, hml, hown, hts, hK, -⟩ := C
  intro H locs ls hl hP hS
  obtain ⟨q0, hq, -⟩ := o_at g σ hi
  rw [hsh] at hq
  have hle := o_len_le K
  refine va_iald hx hb hK hP q0 0 hq rfl (o_in h0 h1 (by omega)) hd ?_
  rw [o_nat ⟨by omega, by omega⟩]
  exact kk H locs ls hl hP hS
theorem o_iast {K i : Nat} {z v : Int} (C : oK l g own cc lam mc x) (hi : i < o_n K) (hsh : ∀ f, o_sh g K i f = .inl (g.2.2 0, o_len K, .inl (fun j => Int32.ofInt (f j)))) (h0 : 0 ≤ z) (h1 : z < o_len K) (hd : decode cc pc = .ok (.iastore, 1)) (kk : oW l g x (o_up σ K i z.toNat v) (pc + 1) vs st k) : oW l g x σ pc vs (oi v :: oi z :: .ref (g.2.1 K i) :: st) k := by
  obtain ⟨p, e, R, s, m, args, below, meth, c, Q, A, nL⟩ := x
  obtain ⟨hx, hb, hml, hown, hts, hK, hD, -⟩ := C
  intro H locs ls hl hP hS
  obtain ⟨q0, hq, hset2⟩ := o_at g σ hi
  rw [hsh] at hq
  have hle := o_len_le K
  refine va_iast hx hb hK hP (o_ws_D hD) hS q0 0 hq rfl (o_in h0 h1 (by omega)) hd (fun H1 locs1 hP1 hD1 hS1 => ?_)
  rw [o_nat ⟨by omega, by omega⟩] at hP1
  rw [hset2 (o_up σ K i z.toNat v) _ (fun K' i' h => o_up_row σ K i z.toNat v K' i' h) (by
    rw [hsh, o_up_own]
    refine congrArg (fun f => Sum.inl (g.2.2 0, o_len K, Sum.inl f)) (funext fun j => ?_)
    show (if j = z.toNat then Int32.ofInt v else Int32.ofInt (σ K i j)) = Int32.ofInt (if j = z.toNat then v else σ K i j)
    split <;> rfl)] at hP1
  exact kk H1 locs1 ls hl hP1 hS1
theorem o_aald {K i t0 n : Nat} {ty : FieldType} {cA : ClassId} {f : Nat → Nat} {z : Int} (C : oK l g own cc lam mc x) (hi : i < o_n K) (hsh : o_sh g K i (σ K i) = .inl (cA, n, .inr (.inr (.inr (.inr (fun j => some (f j))))))) (ht : (o_tys g)[t0]? = some (cA, ty)) (hr : ty.isReference = true) (hn : n ≤ 2147483647) (h0 : 0 ≤ z) (h1 : z < n) (hd : decode cc pc = .ok (.aaload, 1)) (kk : oW l g x σ (pc + 1) vs (.ref (f z.toNat) :: st) k) : oW l g x σ pc vs (oi z :: .ref (g.2.1 K i) :: st) k := by
  obtain ⟨p, e, R, s, m, args, below, meth, c, Q, A, nL⟩ := x
  obtain ⟨hx, hb, hml, hown, hts, hK, -⟩ := C
  intro H locs ls hl hP hS
  obtain ⟨q0, hq, -⟩ := o_at g σ hi
  rw [hsh] at hq
  have hin := o_in (n := n) h0 h1 hn
  have hlt : (Int32.ofInt z).toNatClampNeg < n := Nat.not_le.mp fun q => hin (Or.inr q)
  refine W.aald (v := .ref (f z.toNat)) (ty := ty) hx hb (hP q0 _ hq) ((hK.2 t0 _ ht).1 n (fun j => va_rf (some (f j)))) hr (fun q => by cases q) (by show ¬ (Int32.ofInt z < 0 ∨ (arrV _ _ _).slots.size ≤ _); rw [arrV_size]; exact hin) (by show (arrV _ _ _).slots[_]? = _; rw [arrV_read _ _ hlt, o_nat ⟨by omega, by omega⟩]; rfl) rfl rfl hd (kk H locs ls hl hP hS)
theorem o_alen {K i t0 n : Nat} {xx : vp_A} {ty : FieldType} {cA : ClassId} (C : oK l g own cc lam mc x) (hi : i < o_n K) (hsh : o_sh g K i (σ K i) = .inl (cA, xx)) (ht : (o_tys g)[t0]? = some (cA, ty)) (hn : Int32.ofNat xx.1 = Int32.ofInt (n : Int)) (hd : decode cc pc = .ok (.arraylength, 1)) (kk : oW l g x σ (pc + 1) vs (oi (n : Int) :: st) k) : oW l g x σ pc vs (.ref (g.2.1 K i) :: st) k := by
  obtain ⟨p, e, R, s, m, args, below, meth, c, Q, A, nL⟩ := x
  obtain ⟨hx, hb, hml, hown, hts, hK, -⟩ := C
  intro H locs ls hl hP hS
  obtain ⟨q0, hq, -⟩ := o_at g σ hi
  rw [hsh] at hq
  exact va_alen hx hb hK hP q0 t0 hq ht hn hd (kk H locs ls hl hP hS)
theorem o_max {a b : Int} {idx : Nat} (C : oK l g own cc lam mc x) (w1 : Cond.methodLink own idx Lib.Math.max.name ∈ wsL_law) (w2 : Cond.static Lib.Math.max.name ∈ wsL_law) (w3 : Cond.initialized "java/lang/Math" ∈ wsL_law) (w4 : Cond.code Lib.Math.max.name Lib.Math.max.code 2 (some .int) ∈ wsL_law) (ha : InR a) (hb9 : InR b) (hW : (st.map fun v => v.category).sum ≤ 8) (hk : k ≤ mc) (hd : decode cc pc = .ok (.invokestatic idx, 3)) (kk : oW l g x σ (pc + 3) vs (oi (if a < b then b else a) :: st) k) : oW l g x σ pc vs (oi b :: oi a :: st) k := by
  obtain ⟨p, e, R, s, m, args, below, meth, c, Q, A, nL⟩ := x
  obtain ⟨hx, hb, hml, hown, hts, hK, hD, hA, hF, hR1, hR2, hR3, hR4⟩ := C
  intro H locs ls hl hP hS
  refine va_mmax hx hb (hml.trans hl.1.1.symm) hown (hts _ w1) (hts _ w2) (hts _ w3) (hts _ w4) (by omega) (by omega) (by omega) (by omega) hd ?_
  have h := kk H locs ls hl hP hS
  have e9 : (if Int32.ofInt a < Int32.ofInt b then Int32.ofInt b else Int32.ofInt a) = Int32.ofInt (if a < b then b else a) := by
    by_cases q : a < b
    · rw [if_pos q, if_pos ((o_lt ha hb9).mpr q)]
    · rw [if_neg q, if_neg (fun h => q ((o_lt ha hb9).mp h))]
  rw [e9]; exact h
theorem o_min {a b : Int} {idx : Nat} (C : oK l g own cc lam mc x) (w1 : Cond.methodLink own idx Lib.Math.min.name ∈ wsL_law) (w2 : Cond.static Lib.Math.min.name ∈ wsL_law) (w3 : Cond.initialized "java/lang/Math" ∈ wsL_law) (w4 : Cond.code Lib.Math.min.name Lib.Math.min.code 2 (some .int) ∈ wsL_law) (ha : InR a) (hb9 : InR b) (hW : (st.map fun v => v.category).sum ≤ 8) (hk : k ≤ mc) (hd : decode cc pc = .ok (.invokestatic idx, 3)) (kk : oW l g x σ (pc + 3) vs (oi (if b < a then b else a) :: st) k) : oW l g x σ pc vs (oi b :: oi a :: st) k := by
  obtain ⟨p, e, R, s, m, args, below, meth, c, Q, A, nL⟩ := x
  obtain ⟨hx, hb, hml, hown, hts, hK, hD, hA, hF, hR1, hR2, hR3, hR4⟩ := C
  intro H locs ls hl hP hS
  refine va_mmin hx hb (hml.trans hl.1.1.symm) hown (hts _ w1) (hts _ w2) (hts _ w3) (hts _ w4) (by omega) (by omega) (by omega) (by omega) hd ?_
  have h := kk H locs ls hl hP hS
  have e9 : (if Int32.ofInt b < Int32.ofInt a then Int32.ofInt b else Int32.ofInt a) = Int32.ofInt (if b < a then b else a) := by
    by_cases q : b < a
    · rw [if_pos q, if_pos ((o_lt hb9 ha).mpr q)]
    · rw [if_neg q, if_neg (fun h => q ((o_lt hb9 ha).mp h))]
  rw [e9]; exact h
end OHEAP
section OCALLS
variable {l : Launch} {g : oG} {own : String} {cc : ByteArray} {lam mc lam' mc' : Nat} {x : oCtx} {σ : oMem} {pc : Nat} {vs : List (Option Value)} {st rest : List Value} {k : Nat}
variable {y : MethodName} {bytes : ByteArray} {maxL idx n K i : Nat} {ty : FieldType} {As : List Value} {postI : Int → oMem → Prop} {postV : oMem → Prop} {px pxc : String → Prop} {σ0 : oMem}
abbrev oDn (y : MethodName) (n : Nat) : Prop := y.cls ≠ "java/lang/invoke/MethodHandle" ∧ y.cls ≠ "java/lang/invoke/VarHandle" ∧ (parseMethodDescriptor y.desc).map (fun d => d.parameters.length) = some n
abbrev oRecv (g : oG) (σ : oMem) (y : MethodName) (K i : Nat) : Prop := ∃ (ci : Nat) (fs : List Value) (q : vw_C), o_sh g K i (σ K i) = .inr (ci, fs) ∧ vwCl[ci]? = some q ∧ q.1 = y.cls
theorem o_recv {p : Program} {e : Env} {R : Room} {s : State} {m : MethodId} {args : Array Value} {below : List Frame} {meth : Method} {c : Code} {Q : State → Prop} {A : Nat → Prop} {nL : Nat} {H : Heap} (hK : va_K g.1 vwCl (o_tys g) s) (hP : va_P g.1 vwCl (o_ws g σ) H) (hi : i < o_n K) (hr : oRecv g σ y K i) : ∃ cell : Cell, H[g.2.1 K i]? = some cell ∧ cell.vm.isStatics = false ∧ s.vm.findClass y.cls = some cell.cls := by
  obtain ⟨ci, fs, q, h1, h2, h3⟩ := hr
  obtain ⟨q0, hq, -⟩ := o_at g σ hi
  rw [h1] at hq
  rw [← h3]
  exact va_recv hK hP h2 hq
theorem o_callVi (C : oK l g own cc lam mc x) (hM : oMi l g y (.code y bytes maxL (some ty)) lam' mc' (.ref (g.2.1 K i) :: As) σ postI) (w1 : Cond.methodLink own idx y ∈ wsL_law) (w2 : Cond.instanceMethod y ∈ wsL_law) (w3 : Cond.selects y.cls y y ∈ wsL_law) (w4 : Cond.initialized y.cls ∈ wsL_law) (w5 : Cond.code y bytes maxL (some ty) ∈ wsL_law) (hi : i < o_n K) (hr : oRecv g σ y K i) (hy : oDn y n) (hL : maxL ≤ 81) (hlm : lam' + 1 ≤ lam) (hk : k + mc' ≤ mc) (hn : As.length = n) (hW : (rest.map fun v => v.category).sum ≤ 8) (hd : decode cc pc = .ok (.invokevirtual idx, 3)) (kk : ∀ (z : Int) (σ' : oMem), postI z σ' → oW l g x σ' (pc + 3) vs (oi z :: rest) (k + mc')) : oW l g x σ pc vs (As.reverse ++ .ref (g.2.1 K i) :: rest) k := by
  obtain ⟨p, e, R, s, m, args, below, meth, c, Q, A, nL⟩ := x
  have C0 := C
  obtain ⟨hx, hb, hml, hown, hts, hK, hD, hA, hF, hR1, hR2, hR3, hR4⟩ := C
  intro H locs ls hl hP hS
  refine va_calli (va_runV (As := As) (rest := rest) (Ts := wsL_law) ⟨hx, hb, hml, hown, hts⟩ (hM H.size) (cwV n hts (o_good4 w1 w2 w3 w4 (o_good w5)) rfl rfl rfl ⟨rfl, hy⟩ ⟨by show 10 + lam' + 1 ≤ _; omega, by show 8 + (maxL + 11) + (200 + 100 * lam') ≤ _; omega⟩) ⟨oPre_blind, o_recv (p := p) (e := e) (R := R) (m := m) (args := args) (below := below) (meth := meth) (c := c) (Q := Q) (A := A) (nL := nL) hK hP hi hr, o_pre C0 hP hS _⟩ rfl hn hl.1.1 rfl (by show 2 * 0 + _ ≤ 8; omega) hd ⟨by omega, by omega⟩) hS (fun q _ h => oA_in hD hA hS.1 q h) (fun q h => oA_in hD hA hS.1 q h) (fun r σ' t H1 locs1 ht hvm hp hB hz hk1 hS1 => ?_)
  obtain ⟨z, rfl, hp⟩ := hp
  have h := kk z σ' hp H1 locs1 ls hl (by rw [← ht]; exact hB) hS1
  rw [Nat.mul_add] at h
  exact h
theorem o_callVv (C : oK l g own cc lam mc x) (hM : oMv l g y (.code y bytes maxL (none)) lam' mc' (.ref (g.2.1 K i) :: As) σ postV) (w1 : Cond.methodLink own idx y ∈ wsL_law) (w2 : Cond.instanceMethod y ∈ wsL_law) (w3 : Cond.selects y.cls y y ∈ wsL_law) (w4 : Cond.initialized y.cls ∈ wsL_law) (w5 : Cond.code y bytes maxL (none) ∈ wsL_law) (hi : i < o_n K) (hr : oRecv g σ y K i) (hy : oDn y n) (hL : maxL ≤ 81) (hlm : lam' + 1 ≤ lam) (hk : k + mc' ≤ mc) (hn : As.length = n) (hW : (rest.map fun v => v.category).sum ≤ 8) (hd : decode cc pc = .ok (.invokevirtual idx, 3)) (kk : ∀ σ' : oMem, postV σ' → oW l g x σ' (pc + 3) vs rest (k + mc')) : oW l g x σ pc vs (As.reverse ++ .ref (g.2.1 K i) :: rest) k := by
  obtain ⟨p, e, R, s, m, args, below, meth, c, Q, A, nL⟩ := x
  have C0 := C
  obtain ⟨hx, hb, hml, hown, hts, hK, hD, hA, hF, hR1, hR2, hR3, hR4⟩ := C
  intro H locs ls hl hP hS
  refine va_callv (va_runV (As := As) (rest := rest) (Ts := wsL_law) ⟨hx, hb, hml, hown, hts⟩ (hM H.size) (cwV n hts (o_good4 w1 w2 w3 w4 (o_good w5)) rfl rfl rfl ⟨rfl, hy⟩ ⟨by show 10 + lam' + 1 ≤ _; omega, by show 8 + (maxL + 11) + (200 + 100 * lam') ≤ _; omega⟩) ⟨oPre_blind, o_recv (p := p) (e := e) (R := R) (m := m) (args := args) (below := below) (meth := meth) (c := c) (Q := Q) (A := A) (nL := nL) hK hP hi hr, o_pre C0 hP hS _⟩ rfl hn hl.1.1 rfl (by show 2 * 0 + _ ≤ 8; omega) hd ⟨by omega, by omega⟩) hS (fun q _ h => oA_in hD hA hS.1 q h) (fun q h => oA_in hD hA hS.1 q h) (fun σ' t H1 locs1 ht hvm hp hB hz hk1 hS1 => ?_)
  have h := kk σ' hp H1 locs1 ls hl (by rw [← ht]; exact hB) hS1
  rw [Nat.mul_add] at h
  exact h
theorem o_callVxi (T : oT l g own cc mc σ px x) (C : oK l g own cc lam mc x) (hM : oXi l g y (.code y bytes maxL (some ty)) lam' mc' (.ref (g.2.1 K i) :: As) σ postI pxc) (hpx : ∀ E, pxc E → px E) (w1 : Cond.methodLink own idx y ∈ wsL_law) (w2 : Cond.instanceMethod y ∈ wsL_law) (w3 : Cond.selects y.cls y y ∈ wsL_law) (w4 : Cond.initialized y.cls ∈ wsL_law) (w5 : Cond.code y bytes maxL (some ty) ∈ wsL_law) (hi : i < o_n K) (hr : oRecv g σ y K i) (hy : oDn y n) (hL : maxL ≤ 81) (hlm : lam' + 1 ≤ lam) (hk : k + mc' ≤ mc) (hn : As.length = n) (hW : (rest.map fun v => v.category).sum ≤ 8) (hd : decode cc pc = .ok (.invokevirtual idx, 3)) (kk : ∀ (z : Int) (σ' : oMem), postI z σ' → oW l g x σ' (pc + 3) vs (oi z :: rest) (k + mc')) : oW l g x σ pc vs (As.reverse ++ .ref (g.2.1 K i) :: rest) k := by
  obtain ⟨p, e, R, s, m, args, below, meth, c, Q, A, nL⟩ := x
  have C0 := C
  obtain ⟨hx, hb, hml, hown, hts, hK, hD, hA, hF, hR1, hR2, hR3, hR4⟩ := C
  intro H locs ls hl hP hS
  refine vx_calli (vx_runV (As := As) (rest := rest) (Ts := wsL_law) ⟨hx, hb, hml, hown, hts⟩ (hM H.size) (cwV n hts (o_good4 w1 w2 w3 w4 (o_good w5)) rfl rfl rfl ⟨rfl, hy⟩ ⟨by show 10 + lam' + 1 ≤ _; omega, by show 8 + (maxL + 11) + (200 + 100 * lam') ≤ _; omega⟩) ⟨oPre_blind, o_recv (p := p) (e := e) (R := R) (m := m) (args := args) (below := below) (meth := meth) (c := c) (Q := Q) (A := A) (nL := nL) hK hP hi hr, o_pre C0 hP hS _⟩ rfl hn hl.1.1 rfl (by show 2 * 0 + _ ≤ 8; omega) hd ⟨by omega, by omega⟩) hS (fun q _ h => oA_in hD hA hS.1 q h) (fun q h => oA_in hD hA hS.1 q h) (fun q _ h => oA_in hD hA hS.1 q h) (fun E ce q9 u t H1 locs1 ht hvm hp hB hz hk1 hS1 h1 h2 h3 => ?_) (fun r σ' t H1 locs1 ht hvm hp hB hz hk1 hS1 => ?_)
  · have h := T.1 E ce q9 H1 locs1 ls pc rest (k + mc') (hpx E hB.1) (by rw [← ht]; exact hB.2) hS1 h1 h2 h3 hk
    rw [Nat.mul_add] at h
    exact h
  obtain ⟨z, rfl, hp⟩ := hp
  have h := kk z σ' hp H1 locs1 ls hl (by rw [← ht]; exact hB) hS1
  rw [Nat.mul_add] at h
  exact h
theorem o_callVxv (T : oT l g own cc mc σ px x) (C : oK l g own cc lam mc x) (hM : oXv l g y (.code y bytes maxL (none)) lam' mc' (.ref (g.2.1 K i) :: As) σ postV pxc) (hpx : ∀ E, pxc E → px E) (w1 : Cond.methodLink own idx y ∈ wsL_law) (w2 : Cond.instanceMethod y ∈ wsL_law) (w3 : Cond.selects y.cls y y ∈ wsL_law) (w4 : Cond.initialized y.cls ∈ wsL_law) (w5 : Cond.code y bytes maxL (none) ∈ wsL_law) (hi : i < o_n K) (hr : oRecv g σ y K i) (hy : oDn y n) (hL : maxL ≤ 81) (hlm : lam' + 1 ≤ lam) (hk : k + mc' ≤ mc) (hn : As.length = n) (hW : (rest.map fun v => v.category).sum ≤ 8) (hd : decode cc pc = .ok (.invokevirtual idx, 3)) (kk : ∀ σ' : oMem, postV σ' → oW l g x σ' (pc + 3) vs rest (k + mc')) : oW l g x σ pc vs (As.reverse ++ .ref (g.2.1 K i) :: rest) k := by
  obtain ⟨p, e, R, s, m, args, below, meth, c, Q, A, nL⟩ := x
  have C0 := C
  obtain ⟨hx, hb, hml, hown, hts, hK, hD, hA, hF, hR1, hR2, hR3, hR4⟩ := C
  intro H locs ls hl hP hS
  refine vx_callv (vx_runV (As := As) (rest := rest) (Ts := wsL_law) ⟨hx, hb, hml, hown, hts⟩ (hM H.size) (cwV n hts (o_good4 w1 w2 w3 w4 (o_good w5)) rfl rfl rfl ⟨rfl, hy⟩ ⟨by show 10 + lam' + 1 ≤ _; omega, by show 8 + (maxL + 11) + (200 + 100 * lam') ≤ _; omega⟩) ⟨oPre_blind, o_recv (p := p) (e := e) (R := R) (m := m) (args := args) (below := below) (meth := meth) (c := c) (Q := Q) (A := A) (nL := nL) hK hP hi hr, o_pre C0 hP hS _⟩ rfl hn hl.1.1 rfl (by show 2 * 0 + _ ≤ 8; omega) hd ⟨by omega, by omega⟩) hS (fun q _ h => oA_in hD hA hS.1 q h) (fun q h => oA_in hD hA hS.1 q h) (fun q _ h => oA_in hD hA hS.1 q h) (fun E ce q9 u t H1 locs1 ht hvm hp hB hz hk1 hS1 h1 h2 h3 => ?_) (fun σ' t H1 locs1 ht hvm hp hB hz hk1 hS1 => ?_)
  · have h := T.1 E ce q9 H1 locs1 ls pc rest (k + mc') (hpx E hB.1) (by rw [← ht]; exact hB.2) hS1 h1 h2 h3 hk
    rw [Nat.mul_add] at h
    exact h
  have h := kk σ' hp H1 locs1 ls hl (by rw [← ht]; exact hB) hS1
  rw [Nat.mul_add] at h
  exact h
theorem o_callSi (C : oK l g own cc lam mc x) (hM : oMi l g y (.code y bytes maxL (some ty)) lam' mc' As σ postI) (w1 : Cond.methodLink own idx y ∈ wsL_law) (w2 : Cond.static y ∈ wsL_law) (w4 : Cond.initialized own ∈ wsL_law) (w5 : Cond.code y bytes maxL (some ty) ∈ wsL_law) (ho : y.cls = own) (hy : oDn y n) (hL : maxL ≤ 81) (hlm : lam' + 1 ≤ lam) (hk : k + mc' ≤ mc) (hn : As.length = n) (hW : (rest.map fun v => v.category).sum ≤ 8) (hd : decode cc pc = .ok (.invokestatic idx, 3)) (kk : ∀ (z : Int) (σ' : oMem), postI z σ' → oW l g x σ' (pc + 3) vs (oi z :: rest) (k + mc')) : oW l g x σ pc vs (As.reverse ++ rest) k := by
  obtain ⟨p, e, R, s, m, args, below, meth, c, Q, A, nL⟩ := x
  have C0 := C
  obtain ⟨hx, hb, hml, hown, hts, hK, hD, hA, hF, hR1, hR2, hR3, hR4⟩ := C
  intro H locs ls hl hP hS
  refine va_calli (va_runS (As := As) (rest := rest) (Ts := wsL_law) ⟨hx, hb, hml, hown, hts⟩ (hM H.size) (cwS n hts (o_good3 w1 w2 w4 (o_good w5)) rfl rfl rfl ⟨ho, hy⟩ ⟨by show 10 + lam' + 1 ≤ _; omega, by show 8 + (maxL + 11) + (200 + 100 * lam') ≤ _; omega⟩) ⟨oPre_blind, o_pre C0 hP hS _⟩ rfl hn hl.1.1 rfl (by show 2 * 0 + _ ≤ 8; omega) hd ⟨by omega, by omega⟩) hS (fun q _ h => oA_in hD hA hS.1 q h) (fun q h => oA_in hD hA hS.1 q h) (fun r σ' t H1 locs1 ht hvm hp hB hz hk1 hS1 => ?_)
  obtain ⟨z, rfl, hp⟩ := hp
  have h := kk z σ' hp H1 locs1 ls hl (by rw [← ht]; exact hB) hS1
  rw [Nat.mul_add] at h
  exact h
theorem o_callSv (C : oK l g own cc lam mc x) (hM : oMv l g y (.code y bytes maxL (none)) lam' mc' As σ postV) (w1 : Cond.methodLink own idx y ∈ wsL_law) (w2 : Cond.static y ∈ wsL_law) (w4 : Cond.initialized own ∈ wsL_law) (w5 : Cond.code y bytes maxL (none) ∈ wsL_law) (ho : y.cls = own) (hy : oDn y n) (hL : maxL ≤ 81) (hlm : lam' + 1 ≤ lam) (hk : k + mc' ≤ mc) (hn : As.length = n) (hW : (rest.map fun v => v.category).sum ≤ 8) (hd : decode cc pc = .ok (.invokestatic idx, 3)) (kk : ∀ σ' : oMem, postV σ' → oW l g x σ' (pc + 3) vs rest (k + mc')) : oW l g x σ pc vs (As.reverse ++ rest) k := by
  obtain ⟨p, e, R, s, m, args, below, meth, c, Q, A, nL⟩ := x
  have C0 := C
  obtain ⟨hx, hb, hml, hown, hts, hK, hD, hA, hF, hR1, hR2, hR3, hR4⟩ := C
  intro H locs ls hl hP hS
  refine va_callv (va_runS (As := As) (rest := rest) (Ts := wsL_law) ⟨hx, hb, hml, hown, hts⟩ (hM H.size) (cwS n hts (o_good3 w1 w2 w4 (o_good w5)) rfl rfl rfl ⟨ho, hy⟩ ⟨by show 10 + lam' + 1 ≤ _; omega, by show 8 + (maxL + 11) + (200 + 100 * lam') ≤ _; omega⟩) ⟨oPre_blind, o_pre C0 hP hS _⟩ rfl hn hl.1.1 rfl (by show 2 * 0 + _ ≤ 8; omega) hd ⟨by omega, by omega⟩) hS (fun q _ h => oA_in hD hA hS.1 q h) (fun q h => oA_in hD hA hS.1 q h) (fun σ' t H1 locs1 ht hvm hp hB hz hk1 hS1 => ?_)
  have h := kk σ' hp H1 locs1 ls hl (by rw [← ht]; exact hB) hS1
  rw [Nat.mul_add] at h
  exact h
theorem o_callSxi (T : oT l g own cc mc σ px x) (C : oK l g own cc lam mc x) (hM : oXi l g y (.code y bytes maxL (some ty)) lam' mc' As σ postI pxc) (hpx : ∀ E, pxc E → px E) (w1 : Cond.methodLink own idx y ∈ wsL_law) (w2 : Cond.static y ∈ wsL_law) (w4 : Cond.initialized own ∈ wsL_law) (w5 : Cond.code y bytes maxL (some ty) ∈ wsL_law) (ho : y.cls = own) (hy : oDn y n) (hL : maxL ≤ 81) (hlm : lam' + 1 ≤ lam) (hk : k + mc' ≤ mc) (hn : As.length = n) (hW : (rest.map fun v => v.category).sum ≤ 8) (hd : decode cc pc = .ok (.invokestatic idx, 3)) (kk : ∀ (z : Int) (σ' : oMem), postI z σ' → oW l g x σ' (pc + 3) vs (oi z :: rest) (k + mc')) : oW l g x σ pc vs (As.reverse ++ rest) k := by
  obtain ⟨p, e, R, s, m, args, below, meth, c, Q, A, nL⟩ := x
  have C0 := C
  obtain ⟨hx, hb, hml, hown, hts, hK, hD, hA, hF, hR1, hR2, hR3, hR4⟩ := C
  intro H locs ls hl hP hS
  refine vx_calli (vx_runS (As := As) (rest := rest) (Ts := wsL_law) ⟨hx, hb, hml, hown, hts⟩ (hM H.size) (cwS n hts (o_good3 w1 w2 w4 (o_good w5)) rfl rfl rfl ⟨ho, hy⟩ ⟨by show 10 + lam' + 1 ≤ _; omega, by show 8 + (maxL + 11) + (200 + 100 * lam') ≤ _; omega⟩) ⟨oPre_blind, o_pre C0 hP hS _⟩ rfl hn hl.1.1 rfl (by show 2 * 0 + _ ≤ 8; omega) hd ⟨by omega, by omega⟩) hS (fun q _ h => oA_in hD hA hS.1 q h) (fun q h => oA_in hD hA hS.1 q h) (fun q _ h => oA_in hD hA hS.1 q h) (fun E ce q9 u t H1 locs1 ht hvm hp hB hz hk1 hS1 h1 h2 h3 => ?_) (fun r σ' t H1 locs1 ht hvm hp hB hz hk1 hS1 => ?_)
  · have h := T.1 E ce q9 H1 locs1 ls pc rest (k + mc') (hpx E hB.1) (by rw [← ht]; exact hB.2) hS1 h1 h2 h3 hk
    rw [Nat.mul_add] at h
    exact h
  obtain ⟨z, rfl, hp⟩ := hp
  have h := kk z σ' hp H1 locs1 ls hl (by rw [← ht]; exact hB) hS1
  rw [Nat.mul_add] at h
  exact h
theorem o_callSxv (T : oT l g own cc mc σ px x) (C : oK l g own cc lam mc x) (hM : oXv l g y (.code y bytes maxL (none)) lam' mc' As σ postV pxc) (hpx : ∀ E, pxc E → px E) (w1 : Cond.methodLink own idx y ∈ wsL_law) (w2 : Cond.static y ∈ wsL_law) (w4 : Cond.initialized own ∈ wsL_law) (w5 : Cond.code y bytes maxL (none) ∈ wsL_law) (ho : y.cls = own) (hy : oDn y n) (hL : maxL ≤ 81) (hlm : lam' + 1 ≤ lam) (hk : k + mc' ≤ mc) (hn : As.length = n) (hW : (rest.map fun v => v.category).sum ≤ 8) (hd : decode cc pc = .ok (.invokestatic idx, 3)) (kk : ∀ σ' : oMem, postV σ' → oW l g x σ' (pc + 3) vs rest (k + mc')) : oW l g x σ pc vs (As.reverse ++ rest) k := by
  obtain ⟨p, e, R, s, m, args, below, meth, c, Q, A, nL⟩ := x
  have C0 := C
  obtain ⟨hx, hb, hml, hown, hts, hK, hD, hA, hF, hR1, hR2, hR3, hR4⟩ := C
  intro H locs ls hl hP hS
  refine vx_callv (vx_runS (As := As) (rest := rest) (Ts := wsL_law) ⟨hx, hb, hml, hown, hts⟩ (hM H.size) (cwS n hts (o_good3 w1 w2 w4 (o_good w5)) rfl rfl rfl ⟨ho, hy⟩ ⟨by show 10 + lam' + 1 ≤ _; omega, by show 8 + (maxL + 11) + (200 + 100 * lam') ≤ _; omega⟩) ⟨oPre_blind, o_pre C0 hP hS _⟩ rfl hn hl.1.1 rfl (by show 2 * 0 + _ ≤ 8; omega) hd ⟨by omega, by omega⟩) hS (fun q _ h => oA_in hD hA hS.1 q h) (fun q h => oA_in hD hA hS.1 q h) (fun q _ h => oA_in hD hA hS.1 q h) (fun E ce q9 u t H1 locs1 ht hvm hp hB hz hk1 hS1 h1 h2 h3 => ?_) (fun σ' t H1 locs1 ht hvm hp hB hz hk1 hS1 => ?_)
  · have h := T.1 E ce q9 H1 locs1 ls pc rest (k + mc') (hpx E hB.1) (by rw [← ht]; exact hB.2) hS1 h1 h2 h3 hk
    rw [Nat.mul_add] at h
    exact h
  have h := kk σ' hp H1 locs1 ls hl (by rw [← ht]; exact hB) hS1
  rw [Nat.mul_add] at h
  exact h
theorem o_callNi (C : oK l g own cc lam mc x) (hM : oMi l g y (.code y bytes maxL (some ty)) lam' mc' (.ref (g.2.1 K i) :: As) σ postI) {host : String} (w1 : (own, idx, y, host) ∈ o_nm) (w2 : Cond.instanceMethod y ∈ wsL_law) (w3 : Cond.selects y.cls y y ∈ wsL_law) (w4 : Cond.initialized y.cls ∈ wsL_law) (w5 : Cond.code y bytes maxL (some ty) ∈ wsL_law) (hi : i < o_n K) (hr : oRecv g σ y K i) (hy : oDn y n) (hL : maxL ≤ 81) (hlm : lam' + 1 ≤ lam) (hk : k + mc' ≤ mc) (hn : As.length = n) (hW : (rest.map fun v => v.category).sum ≤ 8) (hd : decode cc pc = .ok (.invokevirtual idx, 3)) (kk : ∀ (z : Int) (σ' : oMem), postI z σ' → oW l g x σ' (pc + 3) vs (oi z :: rest) (k + mc')) : oW l g x σ pc vs (As.reverse ++ .ref (g.2.1 K i) :: rest) k := by
  obtain ⟨p, e, R, s, m, args, below, meth, c, Q, A, nL⟩ := x
  have C0 := C
  obtain ⟨hx, hb, hml, hown, hts, hK, hD, hA, hF, hR1, hR2, hR3, hR4⟩ := C
  intro H locs ls hl hP hS
  refine va_calli (va_runVN (As := As) (rest := rest) (Ts := wsL_law) ⟨hx, hb, hml, hown, hts⟩ (hM H.size) (⟨va_cnB n hts (o_good w5) rfl rfl rfl (hF.2.1 _ w1) (hts _ w4) hy ⟨by show 10 + lam' + 1 ≤ _; omega, by show 8 + (maxL + 11) + (200 + 100 * lam') ≤ _; omega⟩, hts _ w2, hts _ w3⟩) ⟨oPre_blind, o_recv (p := p) (e := e) (R := R) (m := m) (args := args) (below := below) (meth := meth) (c := c) (Q := Q) (A := A) (nL := nL) hK hP hi hr, o_pre C0 hP hS _⟩ rfl hn hl.1.1 rfl (by show 2 * 0 + _ ≤ 8; omega) hd ⟨by omega, by omega⟩) hS (fun q _ h => oA_in hD hA hS.1 q h) (fun q h => oA_in hD hA hS.1 q h) (fun r σ' t H1 locs1 ht hvm hp hB hz hk1 hS1 => ?_)
  obtain ⟨z, rfl, hp⟩ := hp
  have h := kk z σ' hp H1 locs1 ls hl (by rw [← ht]; exact hB) hS1
  rw [Nat.mul_add] at h
  exact h
theorem o_callNv (C : oK l g own cc lam mc x) (hM : oMv l g y (.code y bytes maxL (none)) lam' mc' (.ref (g.2.1 K i) :: As) σ postV) {host : String} (w1 : (own, idx, y, host) ∈ o_nm) (w2 : Cond.instanceMethod y ∈ wsL_law) (w3 : Cond.selects y.cls y y ∈ wsL_law) (w4 : Cond.initialized y.cls ∈ wsL_law) (w5 : Cond.code y bytes maxL (none) ∈ wsL_law) (hi : i < o_n K) (hr : oRecv g σ y K i) (hy : oDn y n) (hL : maxL ≤ 81) (hlm : lam' + 1 ≤ lam) (hk : k + mc' ≤ mc) (hn : As.length = n) (hW : (rest.map fun v => v.category).sum ≤ 8) (hd : decode cc pc = .ok (.invokevirtual idx, 3)) (kk : ∀ σ' : oMem, postV σ' → oW l g x σ' (pc + 3) vs rest (k + mc')) : oW l g x σ pc vs (As.reverse ++ .ref (g.2.1 K i) :: rest) k := by
  obtain ⟨p, e, R, s, m, args, below, meth, c, Q, A, nL⟩ := x
  have C0 := C
  obtain ⟨hx, hb, hml, hown, hts, hK, hD, hA, hF, hR1, hR2, hR3, hR4⟩ := C
  intro H locs ls hl hP hS
  refine va_callv (va_runVN (As := As) (rest := rest) (Ts := wsL_law) ⟨hx, hb, hml, hown, hts⟩ (hM H.size) (⟨va_cnB n hts (o_good w5) rfl rfl rfl (hF.2.1 _ w1) (hts _ w4) hy ⟨by show 10 + lam' + 1 ≤ _; omega, by show 8 + (maxL + 11) + (200 + 100 * lam') ≤ _; omega⟩, hts _ w2, hts _ w3⟩) ⟨oPre_blind, o_recv (p := p) (e := e) (R := R) (m := m) (args := args) (below := below) (meth := meth) (c := c) (Q := Q) (A := A) (nL := nL) hK hP hi hr, o_pre C0 hP hS _⟩ rfl hn hl.1.1 rfl (by show 2 * 0 + _ ≤ 8; omega) hd ⟨by omega, by omega⟩) hS (fun q _ h => oA_in hD hA hS.1 q h) (fun q h => oA_in hD hA hS.1 q h) (fun σ' t H1 locs1 ht hvm hp hB hz hk1 hS1 => ?_)
  have h := kk σ' hp H1 locs1 ls hl (by rw [← ht]; exact hB) hS1
  rw [Nat.mul_add] at h
  exact h

end OCALLS
end
section
theorem gf_X5_11 {l : Launch} {g : oG} {cc : ByteArray} {lam mc : Nat} {x : oCtx} {σ : oMem} {pc : Nat} {vs : List (Option Value)} {st : List Value} {k : Nat} (C : oK l g RX5 cc lam mc x) (hd : decode cc pc = .ok (.getfield 11, 3)) (kk : oW l g x σ (pc + 3) vs (.ref (g.2.1 19 0) :: st) k) : oW l g x σ pc vs (.ref (g.2.1 0 0) :: st) k := o_get (K := 0) (slot := 0) C (by decide) rfl rfl inlX5 (by decide) kw_1_14 rfl hd kk
theorem gf_X5_15 {l : Launch} {g : oG} {cc : ByteArray} {lam mc : Nat} {x : oCtx} {σ : oMem} {pc : Nat} {vs : List (Option Value)} {st : List Value} {k : Nat} (C : oK l g RX5 cc lam mc x) (hd : decode cc pc = .ok (.getfield 15, 3)) (kk : oW l g x σ (pc + 3) vs (oi (σ 0 0 1) :: st) k) : oW l g x σ pc vs (.ref (g.2.1 0 0) :: st) k := o_get (K := 0) (slot := 1) C (by decide) rfl rfl inlX5 (by decide) kw_1_15 rfl hd kk
theorem pf_X5_15 {l : Launch} {g : oG} {cc : ByteArray} {lam mc : Nat} {x : oCtx} {σ : oMem} {pc : Nat} {vs : List (Option Value)} {st : List Value} {k : Nat} {z : Int} (C : oK l g RX5 cc lam mc x) (hd : decode cc pc = .ok (.putfield 15, 3)) (kk : oW l g x (o_up σ 0 0 1 z) (pc + 3) vs st k) : oW l g x σ pc vs (oi z :: .ref (g.2.1 0 0) :: st) k := o_put (K := 0) (slot := 1) C (by decide) _ (fun _ => rfl) (fun _ _ => rfl) rfl inlX5 tyX5 tyX5_ok nmX5 (by decide) kw_1_15 rfl (by decide +kernel) (Nat.le_of_ble_eq_true rfl) hd kk
theorem gf_X5_21 {l : Launch} {g : oG} {cc : ByteArray} {lam mc : Nat} {x : oCtx} {σ : oMem} {pc : Nat} {vs : List (Option Value)} {st : List Value} {k : Nat} (C : oK l g RX5 cc lam mc x) (hd : decode cc pc = .ok (.getfield 21, 3)) (kk : oW l g x σ (pc + 3) vs (.ref (g.2.1 20 0) :: st) k) : oW l g x σ pc vs (.ref (g.2.1 0 0) :: st) k := o_get (K := 0) (slot := 2) C (by decide) rfl rfl inlX5 (by decide) kw_1_17 rfl hd kk
theorem gf_X5_25 {l : Launch} {g : oG} {cc : ByteArray} {lam mc : Nat} {x : oCtx} {σ : oMem} {pc : Nat} {vs : List (Option Value)} {st : List Value} {k : Nat} (C : oK l g RX5 cc lam mc x) (hd : decode cc pc = .ok (.getfield 25, 3)) (kk : oW l g x σ (pc + 3) vs (oi (σ 0 0 3) :: st) k) : oW l g x σ pc vs (.ref (g.2.1 0 0) :: st) k := o_get (K := 0) (slot := 3) C (by decide) rfl rfl inlX5 (by decide) kw_1_18 rfl hd kk
theorem pf_X5_25 {l : Launch} {g : oG} {cc : ByteArray} {lam mc : Nat} {x : oCtx} {σ : oMem} {pc : Nat} {vs : List (Option Value)} {st : List Value} {k : Nat} {z : Int} (C : oK l g RX5 cc lam mc x) (hd : decode cc pc = .ok (.putfield 25, 3)) (kk : oW l g x (o_up σ 0 0 3 z) (pc + 3) vs st k) : oW l g x σ pc vs (oi z :: .ref (g.2.1 0 0) :: st) k := o_put (K := 0) (slot := 3) C (by decide) _ (fun _ => rfl) (fun _ _ => rfl) rfl inlX5 tyX5 tyX5_ok nmX5 (by decide) kw_1_18 rfl (by decide +kernel) (Nat.le_of_ble_eq_true rfl) hd kk
theorem gf_X5_30 {l : Launch} {g : oG} {cc : ByteArray} {lam mc : Nat} {x : oCtx} {σ : oMem} {pc : Nat} {vs : List (Option Value)} {st : List Value} {k : Nat} (C : oK l g RX5 cc lam mc x) (hd : decode cc pc = .ok (.getfield 30, 3)) (kk : oW l g x σ (pc + 3) vs (.ref (g.2.1 21 0) :: st) k) : oW l g x σ pc vs (.ref (g.2.1 0 0) :: st) k := o_get (K := 0) (slot := 4) C (by decide) rfl rfl inlX5 (by decide) kw_1_20 rfl hd kk
theorem gf_X5_34 {l : Launch} {g : oG} {cc : ByteArray} {lam mc : Nat} {x : oCtx} {σ : oMem} {pc : Nat} {vs : List (Option Value)} {st : List Value} {k : Nat} (C : oK l g RX5 cc lam mc x) (hd : decode cc pc = .ok (.getfield 34, 3)) (kk : oW l g x σ (pc + 3) vs (oi (σ 0 0 5) :: st) k) : oW l g x σ pc vs (.ref (g.2.1 0 0) :: st) k := o_get (K := 0) (slot := 5) C (by decide) rfl rfl inlX5 (by decide) kw_1_21 rfl hd kk
theorem pf_X5_34 {l : Launch} {g : oG} {cc : ByteArray} {lam mc : Nat} {x : oCtx} {σ : oMem} {pc : Nat} {vs : List (Option Value)} {st : List Value} {k : Nat} {z : Int} (C : oK l g RX5 cc lam mc x) (hd : decode cc pc = .ok (.putfield 34, 3)) (kk : oW l g x (o_up σ 0 0 5 z) (pc + 3) vs st k) : oW l g x σ pc vs (oi z :: .ref (g.2.1 0 0) :: st) k := o_put (K := 0) (slot := 5) C (by decide) _ (fun _ => rfl) (fun _ _ => rfl) rfl inlX5 tyX5 tyX5_ok nmX5 (by decide) kw_1_21 rfl (by decide +kernel) (Nat.le_of_ble_eq_true rfl) hd kk
theorem gf_X5_38 {l : Launch} {g : oG} {cc : ByteArray} {lam mc : Nat} {x : oCtx} {σ : oMem} {pc : Nat} {vs : List (Option Value)} {st : List Value} {k : Nat} (C : oK l g RX5 cc lam mc x) (hd : decode cc pc = .ok (.getfield 38, 3)) (kk : oW l g x σ (pc + 3) vs (.ref (g.2.1 8 10) :: st) k) : oW l g x σ pc vs (.ref (g.2.1 0 0) :: st) k := o_get (K := 0) (slot := 6) C (by decide) rfl rfl inlX5 (by decide) kw_2_0 rfl hd kk
theorem gf_X5_42 {l : Launch} {g : oG} {cc : ByteArray} {lam mc : Nat} {x : oCtx} {σ : oMem} {pc : Nat} {vs : List (Option Value)} {st : List Value} {k : Nat} (C : oK l g RX5 cc lam mc x) (hd : decode cc pc = .ok (.getfield 42, 3)) (kk : oW l g x σ (pc + 3) vs (oi (σ 0 0 7) :: st) k) : oW l g x σ pc vs (.ref (g.2.1 0 0) :: st) k := o_get (K := 0) (slot := 7) C (by decide) rfl rfl inlX5 (by decide) kw_2_1 rfl hd kk
theorem pf_X5_42 {l : Launch} {g : oG} {cc : ByteArray} {lam mc : Nat} {x : oCtx} {σ : oMem} {pc : Nat} {vs : List (Option Value)} {st : List Value} {k : Nat} {z : Int} (C : oK l g RX5 cc lam mc x) (hd : decode cc pc = .ok (.putfield 42, 3)) (kk : oW l g x (o_up σ 0 0 7 z) (pc + 3) vs st k) : oW l g x σ pc vs (oi z :: .ref (g.2.1 0 0) :: st) k := o_put (K := 0) (slot := 7) C (by decide) _ (fun _ => rfl) (fun _ _ => rfl) rfl inlX5 tyX5 tyX5_ok nmX5 (by decide) kw_2_1 rfl (by decide +kernel) (Nat.le_of_ble_eq_true rfl) hd kk
theorem gf_X5_45 {l : Launch} {g : oG} {cc : ByteArray} {lam mc : Nat} {x : oCtx} {σ : oMem} {pc : Nat} {vs : List (Option Value)} {st : List Value} {k : Nat} (C : oK l g RX5 cc lam mc x) (hd : decode cc pc = .ok (.getfield 45, 3)) (kk : oW l g x σ (pc + 3) vs (oi (σ 0 0 8) :: st) k) : oW l g x σ pc vs (.ref (g.2.1 0 0) :: st) k := o_get (K := 0) (slot := 8) C (by decide) rfl rfl inlX5 (by decide) kw_2_2 rfl hd kk
theorem pf_X5_45 {l : Launch} {g : oG} {cc : ByteArray} {lam mc : Nat} {x : oCtx} {σ : oMem} {pc : Nat} {vs : List (Option Value)} {st : List Value} {k : Nat} {z : Int} (C : oK l g RX5 cc lam mc x) (hd : decode cc pc = .ok (.putfield 45, 3)) (kk : oW l g x (o_up σ 0 0 8 z) (pc + 3) vs st k) : oW l g x σ pc vs (oi z :: .ref (g.2.1 0 0) :: st) k := o_put (K := 0) (slot := 8) C (by decide) _ (fun _ => rfl) (fun _ _ => rfl) rfl inlX5 tyX5 tyX5_ok nmX5 (by decide) kw_2_2 rfl (by decide +kernel) (Nat.le_of_ble_eq_true rfl) hd kk
theorem gf_X5_48 {l : Launch} {g : oG} {cc : ByteArray} {lam mc : Nat} {x : oCtx} {σ : oMem} {pc : Nat} {vs : List (Option Value)} {st : List Value} {k : Nat} (C : oK l g RX5 cc lam mc x) (hd : decode cc pc = .ok (.getfield 48, 3)) (kk : oW l g x σ (pc + 3) vs (oi (σ 0 0 9) :: st) k) : oW l g x σ pc vs (.ref (g.2.1 0 0) :: st) k := o_get (K := 0) (slot := 9) C (by decide) rfl rfl inlX5 (by decide) kw_2_3 rfl hd kk
theorem pf_X5_48 {l : Launch} {g : oG} {cc : ByteArray} {lam mc : Nat} {x : oCtx} {σ : oMem} {pc : Nat} {vs : List (Option Value)} {st : List Value} {k : Nat} {z : Int} (C : oK l g RX5 cc lam mc x) (hd : decode cc pc = .ok (.putfield 48, 3)) (kk : oW l g x (o_up σ 0 0 9 z) (pc + 3) vs st k) : oW l g x σ pc vs (oi z :: .ref (g.2.1 0 0) :: st) k := o_put (K := 0) (slot := 9) C (by decide) _ (fun _ => rfl) (fun _ _ => rfl) rfl inlX5 tyX5 tyX5_ok nmX5 (by decide) kw_2_3 rfl (by decide +kernel) (Nat.le_of_ble_eq_true rfl) hd kk
theorem gf_X5_51 {l : Launch} {g : oG} {cc : ByteArray} {lam mc : Nat} {x : oCtx} {σ : oMem} {pc : Nat} {vs : List (Option Value)} {st : List Value} {k : Nat} (C : oK l g RX5 cc lam mc x) (hd : decode cc pc = .ok (.getfield 51, 3)) (kk : oW l g x σ (pc + 3) vs (oi (σ 0 0 10) :: st) k) : oW l g x σ pc vs (.ref (g.2.1 0 0) :: st) k := o_get (K := 0) (slot := 10) C (by decide) rfl rfl inlX5 (by decide) kw_2_4 rfl hd kk
theorem pf_X5_51 {l : Launch} {g : oG} {cc : ByteArray} {lam mc : Nat} {x : oCtx} {σ : oMem} {pc : Nat} {vs : List (Option Value)} {st : List Value} {k : Nat} {z : Int} (C : oK l g RX5 cc lam mc x) (hd : decode cc pc = .ok (.putfield 51, 3)) (kk : oW l g x (o_up σ 0 0 10 z) (pc + 3) vs st k) : oW l g x σ pc vs (oi z :: .ref (g.2.1 0 0) :: st) k := o_put (K := 0) (slot := 10) C (by decide) _ (fun _ => rfl) (fun _ _ => rfl) rfl inlX5 tyX5 tyX5_ok nmX5 (by decide) kw_2_4 rfl (by decide +kernel) (Nat.le_of_ble_eq_true rfl) hd kk
theorem gf_X5_54 {l : Launch} {g : oG} {cc : ByteArray} {lam mc : Nat} {x : oCtx} {σ : oMem} {pc : Nat} {vs : List (Option Value)} {st : List Value} {k : Nat} (C : oK l g RX5 cc lam mc x) (hd : decode cc pc = .ok (.getfield 54, 3)) (kk : oW l g x σ (pc + 3) vs (oi (σ 0 0 11) :: st) k) : oW l g x σ pc vs (.ref (g.2.1 0 0) :: st) k := o_get (K := 0) (slot := 11) C (by decide) rfl rfl inlX5 (by decide) kw_2_5 rfl hd kk
theorem pf_X5_54 {l : Launch} {g : oG} {cc : ByteArray} {lam mc : Nat} {x : oCtx} {σ : oMem} {pc : Nat} {vs : List (Option Value)} {st : List Value} {k : Nat} {z : Int} (C : oK l g RX5 cc lam mc x) (hd : decode cc pc = .ok (.putfield 54, 3)) (kk : oW l g x (o_up σ 0 0 11 z) (pc + 3) vs st k) : oW l g x σ pc vs (oi z :: .ref (g.2.1 0 0) :: st) k := o_put (K := 0) (slot := 11) C (by decide) _ (fun _ => rfl) (fun _ _ => rfl) rfl inlX5 tyX5 tyX5_ok nmX5 (by decide) kw_2_5 rfl (by decide +kernel) (Nat.le_of_ble_eq_true rfl) hd kk
theorem gf_X5_57 {l : Launch} {g : oG} {cc : ByteArray} {lam mc : Nat} {x : oCtx} {σ : oMem} {pc : Nat} {vs : List (Option Value)} {st : List Value} {k : Nat} (C : oK l g RX5 cc lam mc x) (hd : decode cc pc = .ok (.getfield 57, 3)) (kk : oW l g x σ (pc + 3) vs (.ref (g.2.1 17 0) :: st) k) : oW l g x σ pc vs (.ref (g.2.1 0 0) :: st) k := o_get (K := 0) (slot := 12) C (by decide) rfl rfl inlX5 (by decide) kw_2_7 rfl hd kk
theorem gf_X5_61 {l : Launch} {g : oG} {cc : ByteArray} {lam mc : Nat} {x : oCtx} {σ : oMem} {pc : Nat} {vs : List (Option Value)} {st : List Value} {k : Nat} (C : oK l g RX5 cc lam mc x) (hd : decode cc pc = .ok (.getfield 61, 3)) (kk : oW l g x σ (pc + 3) vs (.ref (g.2.1 18 0) :: st) k) : oW l g x σ pc vs (.ref (g.2.1 0 0) :: st) k := o_get (K := 0) (slot := 13) C (by decide) rfl rfl inlX5 (by decide) kw_2_8 rfl hd kk
theorem gf_X5_64 {l : Launch} {g : oG} {cc : ByteArray} {lam mc : Nat} {x : oCtx} {σ : oMem} {pc : Nat} {vs : List (Option Value)} {st : List Value} {k : Nat} (C : oK l g RX5 cc lam mc x) (hd : decode cc pc = .ok (.getfield 64, 3)) (kk : oW l g x σ (pc + 3) vs (oi (σ 0 0 14) :: st) k) : oW l g x σ pc vs (.ref (g.2.1 0 0) :: st) k := o_get (K := 0) (slot := 14) C (by decide) rfl rfl inlX5 (by decide) kw_2_9 rfl hd kk
theorem pf_X5_64 {l : Launch} {g : oG} {cc : ByteArray} {lam mc : Nat} {x : oCtx} {σ : oMem} {pc : Nat} {vs : List (Option Value)} {st : List Value} {k : Nat} {z : Int} (C : oK l g RX5 cc lam mc x) (hd : decode cc pc = .ok (.putfield 64, 3)) (kk : oW l g x (o_up σ 0 0 14 z) (pc + 3) vs st k) : oW l g x σ pc vs (oi z :: .ref (g.2.1 0 0) :: st) k := o_put (K := 0) (slot := 14) C (by decide) _ (fun _ => rfl) (fun _ _ => rfl) rfl inlX5 tyX5 tyX5_ok nmX5 (by decide) kw_2_9 rfl (by decide +kernel) (Nat.le_of_ble_eq_true rfl) hd kk
theorem gf_X5_70 {l : Launch} {g : oG} {cc : ByteArray} {lam mc : Nat} {x : oCtx} {σ : oMem} {pc : Nat} {vs : List (Option Value)} {st : List Value} {k : Nat} (C : oK l g RX5 cc lam mc x) (hd : decode cc pc = .ok (.getfield 70, 3)) (kk : oW l g x σ (pc + 3) vs (.ref (g.2.1 10 0) :: st) k) : oW l g x σ pc vs (.ref (g.2.1 0 0) :: st) k := o_get (K := 0) (slot := 15) C (by decide) rfl rfl inlX5 (by decide) kw_2_13 rfl hd kk
theorem gf_X5_77 {l : Launch} {g : oG} {cc : ByteArray} {lam mc : Nat} {x : oCtx} {σ : oMem} {pc : Nat} {vs : List (Option Value)} {st : List Value} {k : Nat} (C : oK l g RX5 cc lam mc x) (hd : decode cc pc = .ok (.getfield 77, 3)) (kk : oW l g x σ (pc + 3) vs (.ref (g.2.1 13 0) :: st) k) : oW l g x σ pc vs (.ref (g.2.1 0 0) :: st) k := o_get (K := 0) (slot := 16) C (by decide) rfl rfl inlX5 (by decide) kw_2_17 rfl hd kk
theorem gf_X3_9 {l : Launch} {g : oG} {cc : ByteArray} {lam mc : Nat} {x : oCtx} {σ : oMem} {pc : Nat} {vs : List (Option Value)} {st : List Value} {k : Nat} {i : Nat} (C : oK l g RX3 cc lam mc x) (hi : i < 11) (hd : decode cc pc = .ok (.getfield 9, 3)) (kk : oW l g x σ (pc + 3) vs (.ref (g.2.1 9 i) :: st) k) : oW l g x σ pc vs (.ref (g.2.1 8 i) :: st) k := o_get (K := 8) (slot := 0) C hi rfl rfl inlX3 (by decide) kw_3_1 rfl hd kk
theorem gf_X3_15 {l : Launch} {g : oG} {cc : ByteArray} {lam mc : Nat} {x : oCtx} {σ : oMem} {pc : Nat} {vs : List (Option Value)} {st : List Value} {k : Nat} {i : Nat} (C : oK l g RX3 cc lam mc x) (hi : i < 11) (hd : decode cc pc = .ok (.getfield 15, 3)) (kk : oW l g x σ (pc + 3) vs (oi (σ 8 i 1) :: st) k) : oW l g x σ pc vs (.ref (g.2.1 8 i) :: st) k := o_get (K := 8) (slot := 1) C hi rfl rfl inlX3 (by decide) kw_3_2 rfl hd kk
theorem pf_X3_15 {l : Launch} {g : oG} {cc : ByteArray} {lam mc : Nat} {x : oCtx} {σ : oMem} {pc : Nat} {vs : List (Option Value)} {st : List Value} {k : Nat} {i : Nat} {z : Int} (C : oK l g RX3 cc lam mc x) (hi : i < 11) (hd : decode cc pc = .ok (.putfield 15, 3)) (kk : oW l g x (o_up σ 8 i 1 z) (pc + 3) vs st k) : oW l g x σ pc vs (oi z :: .ref (g.2.1 8 i) :: st) k := o_put (K := 8) (slot := 1) C hi _ (fun _ => rfl) (fun _ _ => rfl) rfl inlX3 tyX3 tyX3_ok nmX3 (by decide) kw_3_2 rfl (by decide +kernel) (Nat.le_of_ble_eq_true rfl) hd kk
theorem gf_X1_9 {l : Launch} {g : oG} {cc : ByteArray} {lam mc : Nat} {x : oCtx} {σ : oMem} {pc : Nat} {vs : List (Option Value)} {st : List Value} {k : Nat} (C : oK l g RX1 cc lam mc x) (hd : decode cc pc = .ok (.getfield 9, 3)) (kk : oW l g x σ (pc + 3) vs (.ref (g.2.1 11 0) :: st) k) : oW l g x σ pc vs (.ref (g.2.1 10 0) :: st) k := o_get (K := 10) (slot := 0) C (by decide) rfl rfl inlX1 (by decide) kw_3_6 rfl hd kk
theorem gf_X1_15 {l : Launch} {g : oG} {cc : ByteArray} {lam mc : Nat} {x : oCtx} {σ : oMem} {pc : Nat} {vs : List (Option Value)} {st : List Value} {k : Nat} (C : oK l g RX1 cc lam mc x) (hd : decode cc pc = .ok (.getfield 15, 3)) (kk : oW l g x σ (pc + 3) vs (oi (σ 10 0 1) :: st) k) : oW l g x σ pc vs (.ref (g.2.1 10 0) :: st) k := o_get (K := 10) (slot := 1) C (by decide) rfl rfl inlX1 (by decide) kw_3_7 rfl hd kk
theorem pf_X1_15 {l : Launch} {g : oG} {cc : ByteArray} {lam mc : Nat} {x : oCtx} {σ : oMem} {pc : Nat} {vs : List (Option Value)} {st : List Value} {k : Nat} {z : Int} (C : oK l g RX1 cc lam mc x) (hd : decode cc pc = .ok (.putfield 15, 3)) (kk : oW l g x (o_up σ 10 0 1 z) (pc + 3) vs st k) : oW l g x σ pc vs (oi z :: .ref (g.2.1 10 0) :: st) k := o_put (K := 10) (slot := 1) C (by decide) _ (fun _ => rfl) (fun _ _ => rfl) rfl inlX1 tyX1 tyX1_ok nmX1 (by decide) kw_3_7 rfl (by decide +kernel) (Nat.le_of_ble_eq_true rfl) hd kk
theorem gf_X1_19 {l : Launch} {g : oG} {cc : ByteArray} {lam mc : Nat} {x : oCtx} {σ : oMem} {pc : Nat} {vs : List (Option Value)} {st : List Value} {k : Nat} (C : oK l g RX1 cc lam mc x) (hd : decode cc pc = .ok (.getfield 19, 3)) (kk : oW l g x σ (pc + 3) vs (.ref (g.2.1 12 0) :: st) k) : oW l g x σ pc vs (.ref (g.2.1 10 0) :: st) k := o_get (K := 10) (slot := 2) C (by decide) rfl rfl inlX1 (by decide) kw_3_8 rfl hd kk
theorem gf_X4_11 {l : Launch} {g : oG} {cc : ByteArray} {lam mc : Nat} {x : oCtx} {σ : oMem} {pc : Nat} {vs : List (Option Value)} {st : List Value} {k : Nat} (C : oK l g RX4 cc lam mc x) (hd : decode cc pc = .ok (.getfield 11, 3)) (kk : oW l g x σ (pc + 3) vs (.ref (g.2.1 22 0) :: st) k) : oW l g x σ pc vs (.ref (g.2.1 13 0) :: st) k := o_get (K := 13) (slot := 0) C (by decide) rfl rfl inlX4 (by decide) kw_3_13 rfl hd kk
theorem gf_X4_16 {l : Launch} {g : oG} {cc : ByteArray} {lam mc : Nat} {x : oCtx} {σ : oMem} {pc : Nat} {vs : List (Option Value)} {st : List Value} {k : Nat} (C : oK l g RX4 cc lam mc x) (hd : decode cc pc = .ok (.getfield 16, 3)) (kk : oW l g x σ (pc + 3) vs (.ref (g.2.1 23 0) :: st) k) : oW l g x σ pc vs (.ref (g.2.1 13 0) :: st) k := o_get (K := 13) (slot := 1) C (by decide) rfl rfl inlX4 (by decide) kw_3_14 rfl hd kk
theorem gf_X4_19 {l : Launch} {g : oG} {cc : ByteArray} {lam mc : Nat} {x : oCtx} {σ : oMem} {pc : Nat} {vs : List (Option Value)} {st : List Value} {k : Nat} (C : oK l g RX4 cc lam mc x) (hd : decode cc pc = .ok (.getfield 19, 3)) (kk : oW l g x σ (pc + 3) vs (.ref (g.2.1 16 0) :: st) k) : oW l g x σ pc vs (.ref (g.2.1 13 0) :: st) k := o_get (K := 13) (slot := 2) C (by decide) rfl rfl inlX4 (by decide) kw_3_15 rfl hd kk
theorem gf_X0_9 {l : Launch} {g : oG} {cc : ByteArray} {lam mc : Nat} {x : oCtx} {σ : oMem} {pc : Nat} {vs : List (Option Value)} {st : List Value} {k : Nat} {i : Nat} (C : oK l g RX0 cc lam mc x) (hi : i < 20) (hd : decode cc pc = .ok (.getfield 9, 3)) (kk : oW l g x σ (pc + 3) vs (oi (σ 1 i 0) :: st) k) : oW l g x σ pc vs (.ref (g.2.1 1 i) :: st) k := o_get (K := 1) (slot := 0) C hi rfl rfl inlX0 (by decide) kw_3_19 rfl hd kk
theorem pf_X0_9 {l : Launch} {g : oG} {cc : ByteArray} {lam mc : Nat} {x : oCtx} {σ : oMem} {pc : Nat} {vs : List (Option Value)} {st : List Value} {k : Nat} {i : Nat} {z : Int} (C : oK l g RX0 cc lam mc x) (hi : i < 20) (hd : decode cc pc = .ok (.putfield 9, 3)) (kk : oW l g x (o_up σ 1 i 0 z) (pc + 3) vs st k) : oW l g x σ pc vs (oi z :: .ref (g.2.1 1 i) :: st) k := o_put (K := 1) (slot := 0) C hi _ (fun _ => rfl) (fun _ _ => rfl) rfl inlX0 tyX0 tyX0_ok nmX0 (by decide) kw_3_19 rfl (by decide +kernel) (Nat.le_of_ble_eq_true rfl) hd kk
theorem gf_X0_15 {l : Launch} {g : oG} {cc : ByteArray} {lam mc : Nat} {x : oCtx} {σ : oMem} {pc : Nat} {vs : List (Option Value)} {st : List Value} {k : Nat} {i : Nat} (C : oK l g RX0 cc lam mc x) (hi : i < 20) (hd : decode cc pc = .ok (.getfield 15, 3)) (kk : oW l g x σ (pc + 3) vs (oi (σ 1 i 1) :: st) k) : oW l g x σ pc vs (.ref (g.2.1 1 i) :: st) k := o_get (K := 1) (slot := 1) C hi rfl rfl inlX0 (by decide) kw_3_20 rfl hd kk
theorem pf_X0_15 {l : Launch} {g : oG} {cc : ByteArray} {lam mc : Nat} {x : oCtx} {σ : oMem} {pc : Nat} {vs : List (Option Value)} {st : List Value} {k : Nat} {i : Nat} {z : Int} (C : oK l g RX0 cc lam mc x) (hi : i < 20) (hd : decode cc pc = .ok (.putfield 15, 3)) (kk : oW l g x (o_up σ 1 i 1 z) (pc + 3) vs st k) : oW l g x σ pc vs (oi z :: .ref (g.2.1 1 i) :: st) k := o_put (K := 1) (slot := 1) C hi _ (fun _ => rfl) (fun _ _ => rfl) rfl inlX0 tyX0 tyX0_ok nmX0 (by decide) kw_3_20 rfl (by decide +kernel) (Nat.le_of_ble_eq_true rfl) hd kk
theorem gf_X0_18 {l : Launch} {g : oG} {cc : ByteArray} {lam mc : Nat} {x : oCtx} {σ : oMem} {pc : Nat} {vs : List (Option Value)} {st : List Value} {k : Nat} {i : Nat} (C : oK l g RX0 cc lam mc x) (hi : i < 20) (hd : decode cc pc = .ok (.getfield 18, 3)) (kk : oW l g x σ (pc + 3) vs (oi (σ 1 i 2) :: st) k) : oW l g x σ pc vs (.ref (g.2.1 1 i) :: st) k := o_get (K := 1) (slot := 2) C hi rfl rfl inlX0 (by decide) kw_3_21 rfl hd kk
theorem pf_X0_18 {l : Launch} {g : oG} {cc : ByteArray} {lam mc : Nat} {x : oCtx} {σ : oMem} {pc : Nat} {vs : List (Option Value)} {st : List Value} {k : Nat} {i : Nat} {z : Int} (C : oK l g RX0 cc lam mc x) (hi : i < 20) (hd : decode cc pc = .ok (.putfield 18, 3)) (kk : oW l g x (o_up σ 1 i 2 z) (pc + 3) vs st k) : oW l g x σ pc vs (oi z :: .ref (g.2.1 1 i) :: st) k := o_put (K := 1) (slot := 2) C hi _ (fun _ => rfl) (fun _ _ => rfl) rfl inlX0 tyX0 tyX0_ok nmX0 (by decide) kw_3_21 rfl (by decide +kernel) (Nat.le_of_ble_eq_true rfl) hd kk
theorem gf_X0_21 {l : Launch} {g : oG} {cc : ByteArray} {lam mc : Nat} {x : oCtx} {σ : oMem} {pc : Nat} {vs : List (Option Value)} {st : List Value} {k : Nat} {i : Nat} (C : oK l g RX0 cc lam mc x) (hi : i < 20) (hd : decode cc pc = .ok (.getfield 21, 3)) (kk : oW l g x σ (pc + 3) vs (oi (σ 1 i 3) :: st) k) : oW l g x σ pc vs (.ref (g.2.1 1 i) :: st) k := o_get (K := 1) (slot := 3) C hi rfl rfl inlX0 (by decide) kw_3_22 rfl hd kk
theorem pf_X0_21 {l : Launch} {g : oG} {cc : ByteArray} {lam mc : Nat} {x : oCtx} {σ : oMem} {pc : Nat} {vs : List (Option Value)} {st : List Value} {k : Nat} {i : Nat} {z : Int} (C : oK l g RX0 cc lam mc x) (hi : i < 20) (hd : decode cc pc = .ok (.putfield 21, 3)) (kk : oW l g x (o_up σ 1 i 3 z) (pc + 3) vs st k) : oW l g x σ pc vs (oi z :: .ref (g.2.1 1 i) :: st) k := o_put (K := 1) (slot := 3) C hi _ (fun _ => rfl) (fun _ _ => rfl) rfl inlX0 tyX0 tyX0_ok nmX0 (by decide) kw_3_22 rfl (by decide +kernel) (Nat.le_of_ble_eq_true rfl) hd kk
theorem gf_X0_24 {l : Launch} {g : oG} {cc : ByteArray} {lam mc : Nat} {x : oCtx} {σ : oMem} {pc : Nat} {vs : List (Option Value)} {st : List Value} {k : Nat} {i : Nat} (C : oK l g RX0 cc lam mc x) (hi : i < 20) (hd : decode cc pc = .ok (.getfield 24, 3)) (kk : oW l g x σ (pc + 3) vs (.ref (g.2.1 2 i) :: st) k) : oW l g x σ pc vs (.ref (g.2.1 1 i) :: st) k := o_get (K := 1) (slot := 4) C hi rfl rfl inlX0 (by decide) kw_3_23 rfl hd kk
theorem gf_X0_28 {l : Launch} {g : oG} {cc : ByteArray} {lam mc : Nat} {x : oCtx} {σ : oMem} {pc : Nat} {vs : List (Option Value)} {st : List Value} {k : Nat} {i : Nat} (C : oK l g RX0 cc lam mc x) (hi : i < 20) (hd : decode cc pc = .ok (.getfield 28, 3)) (kk : oW l g x σ (pc + 3) vs (.ref (g.2.1 3 i) :: st) k) : oW l g x σ pc vs (.ref (g.2.1 1 i) :: st) k := o_get (K := 1) (slot := 5) C hi rfl rfl inlX0 (by decide) kw_4_0 rfl hd kk
theorem gf_X0_31 {l : Launch} {g : oG} {cc : ByteArray} {lam mc : Nat} {x : oCtx} {σ : oMem} {pc : Nat} {vs : List (Option Value)} {st : List Value} {k : Nat} {i : Nat} (C : oK l g RX0 cc lam mc x) (hi : i < 20) (hd : decode cc pc = .ok (.getfield 31, 3)) (kk : oW l g x σ (pc + 3) vs (oi (σ 1 i 6) :: st) k) : oW l g x σ pc vs (.ref (g.2.1 1 i) :: st) k := o_get (K := 1) (slot := 6) C hi rfl rfl inlX0 (by decide) kw_4_1 rfl hd kk
theorem pf_X0_31 {l : Launch} {g : oG} {cc : ByteArray} {lam mc : Nat} {x : oCtx} {σ : oMem} {pc : Nat} {vs : List (Option Value)} {st : List Value} {k : Nat} {i : Nat} {z : Int} (C : oK l g RX0 cc lam mc x) (hi : i < 20) (hd : decode cc pc = .ok (.putfield 31, 3)) (kk : oW l g x (o_up σ 1 i 6 z) (pc + 3) vs st k) : oW l g x σ pc vs (oi z :: .ref (g.2.1 1 i) :: st) k := o_put (K := 1) (slot := 6) C hi _ (fun _ => rfl) (fun _ _ => rfl) rfl inlX0 tyX0 tyX0_ok nmX0 (by decide) kw_4_1 rfl (by decide +kernel) (Nat.le_of_ble_eq_true rfl) hd kk
theorem gf_X0_34 {l : Launch} {g : oG} {cc : ByteArray} {lam mc : Nat} {x : oCtx} {σ : oMem} {pc : Nat} {vs : List (Option Value)} {st : List Value} {k : Nat} {i : Nat} (C : oK l g RX0 cc lam mc x) (hi : i < 20) (hd : decode cc pc = .ok (.getfield 34, 3)) (kk : oW l g x σ (pc + 3) vs (.ref (g.2.1 4 i) :: st) k) : oW l g x σ pc vs (.ref (g.2.1 1 i) :: st) k := o_get (K := 1) (slot := 7) C hi rfl rfl inlX0 (by decide) kw_4_2 rfl hd kk
theorem gf_X0_37 {l : Launch} {g : oG} {cc : ByteArray} {lam mc : Nat} {x : oCtx} {σ : oMem} {pc : Nat} {vs : List (Option Value)} {st : List Value} {k : Nat} {i : Nat} (C : oK l g RX0 cc lam mc x) (hi : i < 20) (hd : decode cc pc = .ok (.getfield 37, 3)) (kk : oW l g x σ (pc + 3) vs (.ref (g.2.1 5 i) :: st) k) : oW l g x σ pc vs (.ref (g.2.1 1 i) :: st) k := o_get (K := 1) (slot := 8) C hi rfl rfl inlX0 (by decide) kw_4_3 rfl hd kk
theorem gf_X0_40 {l : Launch} {g : oG} {cc : ByteArray} {lam mc : Nat} {x : oCtx} {σ : oMem} {pc : Nat} {vs : List (Option Value)} {st : List Value} {k : Nat} {i : Nat} (C : oK l g RX0 cc lam mc x) (hi : i < 20) (hd : decode cc pc = .ok (.getfield 40, 3)) (kk : oW l g x σ (pc + 3) vs (.ref (g.2.1 6 i) :: st) k) : oW l g x σ pc vs (.ref (g.2.1 1 i) :: st) k := o_get (K := 1) (slot := 9) C hi rfl rfl inlX0 (by decide) kw_4_4 rfl hd kk
theorem gf_X0_43 {l : Launch} {g : oG} {cc : ByteArray} {lam mc : Nat} {x : oCtx} {σ : oMem} {pc : Nat} {vs : List (Option Value)} {st : List Value} {k : Nat} {i : Nat} (C : oK l g RX0 cc lam mc x) (hi : i < 20) (hd : decode cc pc = .ok (.getfield 43, 3)) (kk : oW l g x σ (pc + 3) vs (oi (σ 1 i 10) :: st) k) : oW l g x σ pc vs (.ref (g.2.1 1 i) :: st) k := o_get (K := 1) (slot := 10) C hi rfl rfl inlX0 (by decide) kw_4_5 rfl hd kk
theorem pf_X0_43 {l : Launch} {g : oG} {cc : ByteArray} {lam mc : Nat} {x : oCtx} {σ : oMem} {pc : Nat} {vs : List (Option Value)} {st : List Value} {k : Nat} {i : Nat} {z : Int} (C : oK l g RX0 cc lam mc x) (hi : i < 20) (hd : decode cc pc = .ok (.putfield 43, 3)) (kk : oW l g x (o_up σ 1 i 10 z) (pc + 3) vs st k) : oW l g x σ pc vs (oi z :: .ref (g.2.1 1 i) :: st) k := o_put (K := 1) (slot := 10) C hi _ (fun _ => rfl) (fun _ _ => rfl) rfl inlX0 tyX0 tyX0_ok nmX0 (by decide) kw_4_5 rfl (by decide +kernel) (Nat.le_of_ble_eq_true rfl) hd kk
theorem gf_X0_46 {l : Launch} {g : oG} {cc : ByteArray} {lam mc : Nat} {x : oCtx} {σ : oMem} {pc : Nat} {vs : List (Option Value)} {st : List Value} {k : Nat} {i : Nat} (C : oK l g RX0 cc lam mc x) (hi : i < 20) (hd : decode cc pc = .ok (.getfield 46, 3)) (kk : oW l g x σ (pc + 3) vs (oi (σ 1 i 11) :: st) k) : oW l g x σ pc vs (.ref (g.2.1 1 i) :: st) k := o_get (K := 1) (slot := 11) C hi rfl rfl inlX0 (by decide) kw_4_6 rfl hd kk
theorem pf_X0_46 {l : Launch} {g : oG} {cc : ByteArray} {lam mc : Nat} {x : oCtx} {σ : oMem} {pc : Nat} {vs : List (Option Value)} {st : List Value} {k : Nat} {i : Nat} {z : Int} (C : oK l g RX0 cc lam mc x) (hi : i < 20) (hd : decode cc pc = .ok (.putfield 46, 3)) (kk : oW l g x (o_up σ 1 i 11 z) (pc + 3) vs st k) : oW l g x σ pc vs (oi z :: .ref (g.2.1 1 i) :: st) k := o_put (K := 1) (slot := 11) C hi _ (fun _ => rfl) (fun _ _ => rfl) rfl inlX0 tyX0 tyX0_ok nmX0 (by decide) kw_4_6 rfl (by decide +kernel) (Nat.le_of_ble_eq_true rfl) hd kk
theorem gf_X0_49 {l : Launch} {g : oG} {cc : ByteArray} {lam mc : Nat} {x : oCtx} {σ : oMem} {pc : Nat} {vs : List (Option Value)} {st : List Value} {k : Nat} {i : Nat} (C : oK l g RX0 cc lam mc x) (hi : i < 20) (hd : decode cc pc = .ok (.getfield 49, 3)) (kk : oW l g x σ (pc + 3) vs (oi (σ 1 i 12) :: st) k) : oW l g x σ pc vs (.ref (g.2.1 1 i) :: st) k := o_get (K := 1) (slot := 12) C hi rfl rfl inlX0 (by decide) kw_4_7 rfl hd kk
theorem pf_X0_49 {l : Launch} {g : oG} {cc : ByteArray} {lam mc : Nat} {x : oCtx} {σ : oMem} {pc : Nat} {vs : List (Option Value)} {st : List Value} {k : Nat} {i : Nat} {z : Int} (C : oK l g RX0 cc lam mc x) (hi : i < 20) (hd : decode cc pc = .ok (.putfield 49, 3)) (kk : oW l g x (o_up σ 1 i 12 z) (pc + 3) vs st k) : oW l g x σ pc vs (oi z :: .ref (g.2.1 1 i) :: st) k := o_put (K := 1) (slot := 12) C hi _ (fun _ => rfl) (fun _ _ => rfl) rfl inlX0 tyX0 tyX0_ok nmX0 (by decide) kw_4_7 rfl (by decide +kernel) (Nat.le_of_ble_eq_true rfl) hd kk
theorem gf_X0_52 {l : Launch} {g : oG} {cc : ByteArray} {lam mc : Nat} {x : oCtx} {σ : oMem} {pc : Nat} {vs : List (Option Value)} {st : List Value} {k : Nat} {i : Nat} (C : oK l g RX0 cc lam mc x) (hi : i < 20) (hd : decode cc pc = .ok (.getfield 52, 3)) (kk : oW l g x σ (pc + 3) vs (oi (σ 1 i 13) :: st) k) : oW l g x σ pc vs (.ref (g.2.1 1 i) :: st) k := o_get (K := 1) (slot := 13) C hi rfl rfl inlX0 (by decide) kw_4_8 rfl hd kk
theorem pf_X0_52 {l : Launch} {g : oG} {cc : ByteArray} {lam mc : Nat} {x : oCtx} {σ : oMem} {pc : Nat} {vs : List (Option Value)} {st : List Value} {k : Nat} {i : Nat} {z : Int} (C : oK l g RX0 cc lam mc x) (hi : i < 20) (hd : decode cc pc = .ok (.putfield 52, 3)) (kk : oW l g x (o_up σ 1 i 13 z) (pc + 3) vs st k) : oW l g x σ pc vs (oi z :: .ref (g.2.1 1 i) :: st) k := o_put (K := 1) (slot := 13) C hi _ (fun _ => rfl) (fun _ _ => rfl) rfl inlX0 tyX0 tyX0_ok nmX0 (by decide) kw_4_8 rfl (by decide +kernel) (Nat.le_of_ble_eq_true rfl) hd kk
theorem gf_X2_9 {l : Launch} {g : oG} {cc : ByteArray} {lam mc : Nat} {x : oCtx} {σ : oMem} {pc : Nat} {vs : List (Option Value)} {st : List Value} {k : Nat} {i : Nat} (C : oK l g RX2 cc lam mc x) (hi : i < 12) (hd : decode cc pc = .ok (.getfield 9, 3)) (kk : oW l g x σ (pc + 3) vs (oi (σ 7 i 0) :: st) k) : oW l g x σ pc vs (.ref (g.2.1 7 i) :: st) k := o_get (K := 7) (slot := 0) C hi rfl rfl inlX2 (by decide) kw_4_12 rfl hd kk
theorem pf_X2_9 {l : Launch} {g : oG} {cc : ByteArray} {lam mc : Nat} {x : oCtx} {σ : oMem} {pc : Nat} {vs : List (Option Value)} {st : List Value} {k : Nat} {i : Nat} {z : Int} (C : oK l g RX2 cc lam mc x) (hi : i < 12) (hd : decode cc pc = .ok (.putfield 9, 3)) (kk : oW l g x (o_up σ 7 i 0 z) (pc + 3) vs st k) : oW l g x σ pc vs (oi z :: .ref (g.2.1 7 i) :: st) k := o_put (K := 7) (slot := 0) C hi _ (fun _ => rfl) (fun _ _ => rfl) rfl inlX2 tyX2 tyX2_ok nmX2 (by decide) kw_4_12 rfl (by decide +kernel) (Nat.le_of_ble_eq_true rfl) hd kk
theorem gf_X2_15 {l : Launch} {g : oG} {cc : ByteArray} {lam mc : Nat} {x : oCtx} {σ : oMem} {pc : Nat} {vs : List (Option Value)} {st : List Value} {k : Nat} {i : Nat} (C : oK l g RX2 cc lam mc x) (hi : i < 12) (hd : decode cc pc = .ok (.getfield 15, 3)) (kk : oW l g x σ (pc + 3) vs (oi (σ 7 i 1) :: st) k) : oW l g x σ pc vs (.ref (g.2.1 7 i) :: st) k := o_get (K := 7) (slot := 1) C hi rfl rfl inlX2 (by decide) kw_4_13 rfl hd kk
theorem pf_X2_15 {l : Launch} {g : oG} {cc : ByteArray} {lam mc : Nat} {x : oCtx} {σ : oMem} {pc : Nat} {vs : List (Option Value)} {st : List Value} {k : Nat} {i : Nat} {z : Int} (C : oK l g RX2 cc lam mc x) (hi : i < 12) (hd : decode cc pc = .ok (.putfield 15, 3)) (kk : oW l g x (o_up σ 7 i 1 z) (pc + 3) vs st k) : oW l g x σ pc vs (oi z :: .ref (g.2.1 7 i) :: st) k := o_put (K := 7) (slot := 1) C hi _ (fun _ => rfl) (fun _ _ => rfl) rfl inlX2 tyX2 tyX2_ok nmX2 (by decide) kw_4_13 rfl (by decide +kernel) (Nat.le_of_ble_eq_true rfl) hd kk
theorem gf_X2_18 {l : Launch} {g : oG} {cc : ByteArray} {lam mc : Nat} {x : oCtx} {σ : oMem} {pc : Nat} {vs : List (Option Value)} {st : List Value} {k : Nat} {i : Nat} (C : oK l g RX2 cc lam mc x) (hi : i < 12) (hd : decode cc pc = .ok (.getfield 18, 3)) (kk : oW l g x σ (pc + 3) vs (oi (σ 7 i 2) :: st) k) : oW l g x σ pc vs (.ref (g.2.1 7 i) :: st) k := o_get (K := 7) (slot := 2) C hi rfl rfl inlX2 (by decide) kw_4_14 rfl hd kk
theorem pf_X2_18 {l : Launch} {g : oG} {cc : ByteArray} {lam mc : Nat} {x : oCtx} {σ : oMem} {pc : Nat} {vs : List (Option Value)} {st : List Value} {k : Nat} {i : Nat} {z : Int} (C : oK l g RX2 cc lam mc x) (hi : i < 12) (hd : decode cc pc = .ok (.putfield 18, 3)) (kk : oW l g x (o_up σ 7 i 2 z) (pc + 3) vs st k) : oW l g x σ pc vs (oi z :: .ref (g.2.1 7 i) :: st) k := o_put (K := 7) (slot := 2) C hi _ (fun _ => rfl) (fun _ _ => rfl) rfl inlX2 tyX2 tyX2_ok nmX2 (by decide) kw_4_14 rfl (by decide +kernel) (Nat.le_of_ble_eq_true rfl) hd kk
theorem gf_X2_21 {l : Launch} {g : oG} {cc : ByteArray} {lam mc : Nat} {x : oCtx} {σ : oMem} {pc : Nat} {vs : List (Option Value)} {st : List Value} {k : Nat} {i : Nat} (C : oK l g RX2 cc lam mc x) (hi : i < 12) (hd : decode cc pc = .ok (.getfield 21, 3)) (kk : oW l g x σ (pc + 3) vs (oi (σ 7 i 3) :: st) k) : oW l g x σ pc vs (.ref (g.2.1 7 i) :: st) k := o_get (K := 7) (slot := 3) C hi rfl rfl inlX2 (by decide) kw_4_15 rfl hd kk
theorem pf_X2_21 {l : Launch} {g : oG} {cc : ByteArray} {lam mc : Nat} {x : oCtx} {σ : oMem} {pc : Nat} {vs : List (Option Value)} {st : List Value} {k : Nat} {i : Nat} {z : Int} (C : oK l g RX2 cc lam mc x) (hi : i < 12) (hd : decode cc pc = .ok (.putfield 21, 3)) (kk : oW l g x (o_up σ 7 i 3 z) (pc + 3) vs st k) : oW l g x σ pc vs (oi z :: .ref (g.2.1 7 i) :: st) k := o_put (K := 7) (slot := 3) C hi _ (fun _ => rfl) (fun _ _ => rfl) rfl inlX2 tyX2 tyX2_ok nmX2 (by decide) kw_4_15 rfl (by decide +kernel) (Nat.le_of_ble_eq_true rfl) hd kk
theorem gf_X6_7 {l : Launch} {g : oG} {cc : ByteArray} {lam mc : Nat} {x : oCtx} {σ : oMem} {pc : Nat} {vs : List (Option Value)} {st : List Value} {k : Nat} (C : oK l g RX6 cc lam mc x) (hd : decode cc pc = .ok (.getfield 7, 3)) (kk : oW l g x σ (pc + 3) vs (.ref (g.2.1 25 0) :: st) k) : oW l g x σ pc vs (.ref (g.2.1 24 0) :: st) k := o_get (K := 24) (slot := 0) C (by decide) rfl rfl inlX6 (by decide) kw_4_20 rfl hd kk
theorem gf_X6_13 {l : Launch} {g : oG} {cc : ByteArray} {lam mc : Nat} {x : oCtx} {σ : oMem} {pc : Nat} {vs : List (Option Value)} {st : List Value} {k : Nat} (C : oK l g RX6 cc lam mc x) (hd : decode cc pc = .ok (.getfield 13, 3)) (kk : oW l g x σ (pc + 3) vs (.ref (g.2.1 26 0) :: st) k) : oW l g x σ pc vs (.ref (g.2.1 24 0) :: st) k := o_get (K := 24) (slot := 1) C (by decide) rfl rfl inlX6 (by decide) kw_4_21 rfl hd kk
theorem gf_X6_16 {l : Launch} {g : oG} {cc : ByteArray} {lam mc : Nat} {x : oCtx} {σ : oMem} {pc : Nat} {vs : List (Option Value)} {st : List Value} {k : Nat} (C : oK l g RX6 cc lam mc x) (hd : decode cc pc = .ok (.getfield 16, 3)) (kk : oW l g x σ (pc + 3) vs (.ref (g.2.1 27 0) :: st) k) : oW l g x σ pc vs (.ref (g.2.1 24 0) :: st) k := o_get (K := 24) (slot := 2) C (by decide) rfl rfl inlX6 (by decide) kw_4_22 rfl hd kk
theorem gf_X6_19 {l : Launch} {g : oG} {cc : ByteArray} {lam mc : Nat} {x : oCtx} {σ : oMem} {pc : Nat} {vs : List (Option Value)} {st : List Value} {k : Nat} (C : oK l g RX6 cc lam mc x) (hd : decode cc pc = .ok (.getfield 19, 3)) (kk : oW l g x σ (pc + 3) vs (.ref (g.2.1 28 0) :: st) k) : oW l g x σ pc vs (.ref (g.2.1 24 0) :: st) k := o_get (K := 24) (slot := 3) C (by decide) rfl rfl inlX6 (by decide) kw_4_23 rfl hd kk
theorem gf_X6_22 {l : Launch} {g : oG} {cc : ByteArray} {lam mc : Nat} {x : oCtx} {σ : oMem} {pc : Nat} {vs : List (Option Value)} {st : List Value} {k : Nat} (C : oK l g RX6 cc lam mc x) (hd : decode cc pc = .ok (.getfield 22, 3)) (kk : oW l g x σ (pc + 3) vs (.ref (g.2.1 29 0) :: st) k) : oW l g x σ pc vs (.ref (g.2.1 24 0) :: st) k := o_get (K := 24) (slot := 5) C (by decide) rfl rfl inlX6 (by decide) kw_5_0 rfl hd kk
theorem gf_X6_25 {l : Launch} {g : oG} {cc : ByteArray} {lam mc : Nat} {x : oCtx} {σ : oMem} {pc : Nat} {vs : List (Option Value)} {st : List Value} {k : Nat} (C : oK l g RX6 cc lam mc x) (hd : decode cc pc = .ok (.getfield 25, 3)) (kk : oW l g x σ (pc + 3) vs (.ref (g.2.1 30 0) :: st) k) : oW l g x σ pc vs (.ref (g.2.1 24 0) :: st) k := o_get (K := 24) (slot := 6) C (by decide) rfl rfl inlX6 (by decide) kw_5_1 rfl hd kk
theorem gf_X6_28 {l : Launch} {g : oG} {cc : ByteArray} {lam mc : Nat} {x : oCtx} {σ : oMem} {pc : Nat} {vs : List (Option Value)} {st : List Value} {k : Nat} (C : oK l g RX6 cc lam mc x) (hd : decode cc pc = .ok (.getfield 28, 3)) (kk : oW l g x σ (pc + 3) vs (.ref (g.2.1 31 0) :: st) k) : oW l g x σ pc vs (.ref (g.2.1 24 0) :: st) k := o_get (K := 24) (slot := 7) C (by decide) rfl rfl inlX6 (by decide) kw_5_2 rfl hd kk
theorem gf_X6_31 {l : Launch} {g : oG} {cc : ByteArray} {lam mc : Nat} {x : oCtx} {σ : oMem} {pc : Nat} {vs : List (Option Value)} {st : List Value} {k : Nat} (C : oK l g RX6 cc lam mc x) (hd : decode cc pc = .ok (.getfield 31, 3)) (kk : oW l g x σ (pc + 3) vs (oi (σ 24 0 8) :: st) k) : oW l g x σ pc vs (.ref (g.2.1 24 0) :: st) k := o_get (K := 24) (slot := 8) C (by decide) rfl rfl inlX6 (by decide) kw_5_3 rfl hd kk
theorem pf_X6_31 {l : Launch} {g : oG} {cc : ByteArray} {lam mc : Nat} {x : oCtx} {σ : oMem} {pc : Nat} {vs : List (Option Value)} {st : List Value} {k : Nat} {z : Int} (C : oK l g RX6 cc lam mc x) (hd : decode cc pc = .ok (.putfield 31, 3)) (kk : oW l g x (o_up σ 24 0 8 z) (pc + 3) vs st k) : oW l g x σ pc vs (oi z :: .ref (g.2.1 24 0) :: st) k := o_put (K := 24) (slot := 8) C (by decide) _ (fun _ => rfl) (fun _ _ => rfl) rfl inlX6 tyX6 tyX6_ok nmX6 (by decide) kw_5_3 rfl (by decide +kernel) (Nat.le_of_ble_eq_true rfl) hd kk
theorem gf_X6_35 {l : Launch} {g : oG} {cc : ByteArray} {lam mc : Nat} {x : oCtx} {σ : oMem} {pc : Nat} {vs : List (Option Value)} {st : List Value} {k : Nat} (C : oK l g RX6 cc lam mc x) (hd : decode cc pc = .ok (.getfield 35, 3)) (kk : oW l g x σ (pc + 3) vs (oi (σ 24 0 9) :: st) k) : oW l g x σ pc vs (.ref (g.2.1 24 0) :: st) k := o_get (K := 24) (slot := 9) C (by decide) rfl rfl inlX6 (by decide) kw_5_4 rfl hd kk
theorem pf_X6_35 {l : Launch} {g : oG} {cc : ByteArray} {lam mc : Nat} {x : oCtx} {σ : oMem} {pc : Nat} {vs : List (Option Value)} {st : List Value} {k : Nat} {z : Int} (C : oK l g RX6 cc lam mc x) (hd : decode cc pc = .ok (.putfield 35, 3)) (kk : oW l g x (o_up σ 24 0 9 z) (pc + 3) vs st k) : oW l g x σ pc vs (oi z :: .ref (g.2.1 24 0) :: st) k := o_put (K := 24) (slot := 9) C (by decide) _ (fun _ => rfl) (fun _ _ => rfl) rfl inlX6 tyX6 tyX6_ok nmX6 (by decide) kw_5_4 rfl (by decide +kernel) (Nat.le_of_ble_eq_true rfl) hd kk
theorem gf_X6_38 {l : Launch} {g : oG} {cc : ByteArray} {lam mc : Nat} {x : oCtx} {σ : oMem} {pc : Nat} {vs : List (Option Value)} {st : List Value} {k : Nat} (C : oK l g RX6 cc lam mc x) (hd : decode cc pc = .ok (.getfield 38, 3)) (kk : oW l g x σ (pc + 3) vs (oi (σ 24 0 10) :: st) k) : oW l g x σ pc vs (.ref (g.2.1 24 0) :: st) k := o_get (K := 24) (slot := 10) C (by decide) rfl rfl inlX6 (by decide) kw_5_5 rfl hd kk
theorem pf_X6_38 {l : Launch} {g : oG} {cc : ByteArray} {lam mc : Nat} {x : oCtx} {σ : oMem} {pc : Nat} {vs : List (Option Value)} {st : List Value} {k : Nat} {z : Int} (C : oK l g RX6 cc lam mc x) (hd : decode cc pc = .ok (.putfield 38, 3)) (kk : oW l g x (o_up σ 24 0 10 z) (pc + 3) vs st k) : oW l g x σ pc vs (oi z :: .ref (g.2.1 24 0) :: st) k := o_put (K := 24) (slot := 10) C (by decide) _ (fun _ => rfl) (fun _ _ => rfl) rfl inlX6 tyX6 tyX6_ok nmX6 (by decide) kw_5_5 rfl (by decide +kernel) (Nat.le_of_ble_eq_true rfl) hd kk
theorem gf_X6_41 {l : Launch} {g : oG} {cc : ByteArray} {lam mc : Nat} {x : oCtx} {σ : oMem} {pc : Nat} {vs : List (Option Value)} {st : List Value} {k : Nat} (C : oK l g RX6 cc lam mc x) (hd : decode cc pc = .ok (.getfield 41, 3)) (kk : oW l g x σ (pc + 3) vs (.ref (g.2.1 32 0) :: st) k) : oW l g x σ pc vs (.ref (g.2.1 24 0) :: st) k := o_get (K := 24) (slot := 11) C (by decide) rfl rfl inlX6 (by decide) kw_5_6 rfl hd kk
theorem gf_X6_44 {l : Launch} {g : oG} {cc : ByteArray} {lam mc : Nat} {x : oCtx} {σ : oMem} {pc : Nat} {vs : List (Option Value)} {st : List Value} {k : Nat} (C : oK l g RX6 cc lam mc x) (hd : decode cc pc = .ok (.getfield 44, 3)) (kk : oW l g x σ (pc + 3) vs (.ref (g.2.1 33 0) :: st) k) : oW l g x σ pc vs (.ref (g.2.1 24 0) :: st) k := o_get (K := 24) (slot := 12) C (by decide) rfl rfl inlX6 (by decide) kw_5_7 rfl hd kk
theorem gf_X6_47 {l : Launch} {g : oG} {cc : ByteArray} {lam mc : Nat} {x : oCtx} {σ : oMem} {pc : Nat} {vs : List (Option Value)} {st : List Value} {k : Nat} (C : oK l g RX6 cc lam mc x) (hd : decode cc pc = .ok (.getfield 47, 3)) (kk : oW l g x σ (pc + 3) vs (.ref (g.2.1 34 0) :: st) k) : oW l g x σ pc vs (.ref (g.2.1 24 0) :: st) k := o_get (K := 24) (slot := 13) C (by decide) rfl rfl inlX6 (by decide) kw_5_8 rfl hd kk
theorem gf_X6_50 {l : Launch} {g : oG} {cc : ByteArray} {lam mc : Nat} {x : oCtx} {σ : oMem} {pc : Nat} {vs : List (Option Value)} {st : List Value} {k : Nat} (C : oK l g RX6 cc lam mc x) (hd : decode cc pc = .ok (.getfield 50, 3)) (kk : oW l g x σ (pc + 3) vs (.ref (g.2.1 35 0) :: st) k) : oW l g x σ pc vs (.ref (g.2.1 24 0) :: st) k := o_get (K := 24) (slot := 14) C (by decide) rfl rfl inlX6 (by decide) kw_5_9 rfl hd kk
theorem gf_X6_53 {l : Launch} {g : oG} {cc : ByteArray} {lam mc : Nat} {x : oCtx} {σ : oMem} {pc : Nat} {vs : List (Option Value)} {st : List Value} {k : Nat} (C : oK l g RX6 cc lam mc x) (hd : decode cc pc = .ok (.getfield 53, 3)) (kk : oW l g x σ (pc + 3) vs (.ref (g.2.1 36 0) :: st) k) : oW l g x σ pc vs (.ref (g.2.1 24 0) :: st) k := o_get (K := 24) (slot := 16) C (by decide) rfl rfl inlX6 (by decide) kw_5_10 rfl hd kk
theorem gf_X6_56 {l : Launch} {g : oG} {cc : ByteArray} {lam mc : Nat} {x : oCtx} {σ : oMem} {pc : Nat} {vs : List (Option Value)} {st : List Value} {k : Nat} (C : oK l g RX6 cc lam mc x) (hd : decode cc pc = .ok (.getfield 56, 3)) (kk : oW l g x σ (pc + 3) vs (.ref (g.2.1 37 0) :: st) k) : oW l g x σ pc vs (.ref (g.2.1 24 0) :: st) k := o_get (K := 24) (slot := 17) C (by decide) rfl rfl inlX6 (by decide) kw_5_11 rfl hd kk
theorem gf_X6_59 {l : Launch} {g : oG} {cc : ByteArray} {lam mc : Nat} {x : oCtx} {σ : oMem} {pc : Nat} {vs : List (Option Value)} {st : List Value} {k : Nat} (C : oK l g RX6 cc lam mc x) (hd : decode cc pc = .ok (.getfield 59, 3)) (kk : oW l g x σ (pc + 3) vs (.ref (g.2.1 38 0) :: st) k) : oW l g x σ pc vs (.ref (g.2.1 24 0) :: st) k := o_get (K := 24) (slot := 19) C (by decide) rfl rfl inlX6 (by decide) kw_5_12 rfl hd kk
theorem gf_X6_62 {l : Launch} {g : oG} {cc : ByteArray} {lam mc : Nat} {x : oCtx} {σ : oMem} {pc : Nat} {vs : List (Option Value)} {st : List Value} {k : Nat} (C : oK l g RX6 cc lam mc x) (hd : decode cc pc = .ok (.getfield 62, 3)) (kk : oW l g x σ (pc + 3) vs (.ref (g.2.1 39 0) :: st) k) : oW l g x σ pc vs (.ref (g.2.1 24 0) :: st) k := o_get (K := 24) (slot := 20) C (by decide) rfl rfl inlX6 (by decide) kw_5_13 rfl hd kk
theorem gf_X6_65 {l : Launch} {g : oG} {cc : ByteArray} {lam mc : Nat} {x : oCtx} {σ : oMem} {pc : Nat} {vs : List (Option Value)} {st : List Value} {k : Nat} (C : oK l g RX6 cc lam mc x) (hd : decode cc pc = .ok (.getfield 65, 3)) (kk : oW l g x σ (pc + 3) vs (.ref (g.2.1 40 0) :: st) k) : oW l g x σ pc vs (.ref (g.2.1 24 0) :: st) k := o_get (K := 24) (slot := 21) C (by decide) rfl rfl inlX6 (by decide) kw_5_14 rfl hd kk
theorem gf_X6_68 {l : Launch} {g : oG} {cc : ByteArray} {lam mc : Nat} {x : oCtx} {σ : oMem} {pc : Nat} {vs : List (Option Value)} {st : List Value} {k : Nat} (C : oK l g RX6 cc lam mc x) (hd : decode cc pc = .ok (.getfield 68, 3)) (kk : oW l g x σ (pc + 3) vs (.ref (g.2.1 41 0) :: st) k) : oW l g x σ pc vs (.ref (g.2.1 24 0) :: st) k := o_get (K := 24) (slot := 22) C (by decide) rfl rfl inlX6 (by decide) kw_5_15 rfl hd kk
theorem gf_X6_71 {l : Launch} {g : oG} {cc : ByteArray} {lam mc : Nat} {x : oCtx} {σ : oMem} {pc : Nat} {vs : List (Option Value)} {st : List Value} {k : Nat} (C : oK l g RX6 cc lam mc x) (hd : decode cc pc = .ok (.getfield 71, 3)) (kk : oW l g x σ (pc + 3) vs (oi (σ 24 0 23) :: st) k) : oW l g x σ pc vs (.ref (g.2.1 24 0) :: st) k := o_get (K := 24) (slot := 23) C (by decide) rfl rfl inlX6 (by decide) kw_5_16 rfl hd kk
theorem pf_X6_71 {l : Launch} {g : oG} {cc : ByteArray} {lam mc : Nat} {x : oCtx} {σ : oMem} {pc : Nat} {vs : List (Option Value)} {st : List Value} {k : Nat} {z : Int} (C : oK l g RX6 cc lam mc x) (hd : decode cc pc = .ok (.putfield 71, 3)) (kk : oW l g x (o_up σ 24 0 23 z) (pc + 3) vs st k) : oW l g x σ pc vs (oi z :: .ref (g.2.1 24 0) :: st) k := o_put (K := 24) (slot := 23) C (by decide) _ (fun _ => rfl) (fun _ _ => rfl) rfl inlX6 tyX6 tyX6_ok nmX6 (by decide) kw_5_16 rfl (by decide +kernel) (Nat.le_of_ble_eq_true rfl) hd kk
theorem gf_X6_74 {l : Launch} {g : oG} {cc : ByteArray} {lam mc : Nat} {x : oCtx} {σ : oMem} {pc : Nat} {vs : List (Option Value)} {st : List Value} {k : Nat} (C : oK l g RX6 cc lam mc x) (hd : decode cc pc = .ok (.getfield 74, 3)) (kk : oW l g x σ (pc + 3) vs (.ref (g.2.1 42 0) :: st) k) : oW l g x σ pc vs (.ref (g.2.1 24 0) :: st) k := o_get (K := 24) (slot := 25) C (by decide) rfl rfl inlX6 (by decide) kw_5_17 rfl hd kk
theorem gf_X6_77 {l : Launch} {g : oG} {cc : ByteArray} {lam mc : Nat} {x : oCtx} {σ : oMem} {pc : Nat} {vs : List (Option Value)} {st : List Value} {k : Nat} (C : oK l g RX6 cc lam mc x) (hd : decode cc pc = .ok (.getfield 77, 3)) (kk : oW l g x σ (pc + 3) vs (.ref (g.2.1 43 0) :: st) k) : oW l g x σ pc vs (.ref (g.2.1 24 0) :: st) k := o_get (K := 24) (slot := 26) C (by decide) rfl rfl inlX6 (by decide) kw_5_18 rfl hd kk
theorem gf_X6_80 {l : Launch} {g : oG} {cc : ByteArray} {lam mc : Nat} {x : oCtx} {σ : oMem} {pc : Nat} {vs : List (Option Value)} {st : List Value} {k : Nat} (C : oK l g RX6 cc lam mc x) (hd : decode cc pc = .ok (.getfield 80, 3)) (kk : oW l g x σ (pc + 3) vs (.ref (g.2.1 44 0) :: st) k) : oW l g x σ pc vs (.ref (g.2.1 24 0) :: st) k := o_get (K := 24) (slot := 28) C (by decide) rfl rfl inlX6 (by decide) kw_5_19 rfl hd kk
theorem gf_X6_83 {l : Launch} {g : oG} {cc : ByteArray} {lam mc : Nat} {x : oCtx} {σ : oMem} {pc : Nat} {vs : List (Option Value)} {st : List Value} {k : Nat} (C : oK l g RX6 cc lam mc x) (hd : decode cc pc = .ok (.getfield 83, 3)) (kk : oW l g x σ (pc + 3) vs (.ref (g.2.1 45 0) :: st) k) : oW l g x σ pc vs (.ref (g.2.1 24 0) :: st) k := o_get (K := 24) (slot := 29) C (by decide) rfl rfl inlX6 (by decide) kw_5_20 rfl hd kk
theorem gf_X6_86 {l : Launch} {g : oG} {cc : ByteArray} {lam mc : Nat} {x : oCtx} {σ : oMem} {pc : Nat} {vs : List (Option Value)} {st : List Value} {k : Nat} (C : oK l g RX6 cc lam mc x) (hd : decode cc pc = .ok (.getfield 86, 3)) (kk : oW l g x σ (pc + 3) vs (.ref (g.2.1 46 0) :: st) k) : oW l g x σ pc vs (.ref (g.2.1 24 0) :: st) k := o_get (K := 24) (slot := 30) C (by decide) rfl rfl inlX6 (by decide) kw_5_21 rfl hd kk
theorem gf_X6_92 {l : Launch} {g : oG} {cc : ByteArray} {lam mc : Nat} {x : oCtx} {σ : oMem} {pc : Nat} {vs : List (Option Value)} {st : List Value} {k : Nat} (C : oK l g RX6 cc lam mc x) (hd : decode cc pc = .ok (.getfield 92, 3)) (kk : oW l g x σ (pc + 3) vs (oi (σ 24 0 4) :: st) k) : oW l g x σ pc vs (.ref (g.2.1 24 0) :: st) k := o_get (K := 24) (slot := 4) C (by decide) rfl rfl inlX6 (by decide) kw_6_22 rfl hd kk
theorem pf_X6_92 {l : Launch} {g : oG} {cc : ByteArray} {lam mc : Nat} {x : oCtx} {σ : oMem} {pc : Nat} {vs : List (Option Value)} {st : List Value} {k : Nat} {z : Int} (C : oK l g RX6 cc lam mc x) (hd : decode cc pc = .ok (.putfield 92, 3)) (kk : oW l g x (o_up σ 24 0 4 z) (pc + 3) vs st k) : oW l g x σ pc vs (oi z :: .ref (g.2.1 24 0) :: st) k := o_put (K := 24) (slot := 4) C (by decide) _ (fun _ => rfl) (fun _ _ => rfl) rfl inlX6 tyX6 tyX6_ok nmX6 (by decide) kw_6_22 rfl (by decide +kernel) (Nat.le_of_ble_eq_true rfl) hd kk
theorem gf_X6_89 {l : Launch} {g : oG} {cc : ByteArray} {lam mc : Nat} {x : oCtx} {σ : oMem} {pc : Nat} {vs : List (Option Value)} {st : List Value} {k : Nat} (C : oK l g RX6 cc lam mc x) (hd : decode cc pc = .ok (.getfield 89, 3)) (kk : oW l g x σ (pc + 3) vs (oi (σ 24 0 31) :: st) k) : oW l g x σ pc vs (.ref (g.2.1 24 0) :: st) k := o_get (K := 24) (slot := 31) C (by decide) rfl rfl inlX6 (by decide) kw_7_6 rfl hd kk
theorem pf_X6_89 {l : Launch} {g : oG} {cc : ByteArray} {lam mc : Nat} {x : oCtx} {σ : oMem} {pc : Nat} {vs : List (Option Value)} {st : List Value} {k : Nat} {z : Int} (C : oK l g RX6 cc lam mc x) (hd : decode cc pc = .ok (.putfield 89, 3)) (kk : oW l g x (o_up σ 24 0 31 z) (pc + 3) vs st k) : oW l g x σ pc vs (oi z :: .ref (g.2.1 24 0) :: st) k := o_put (K := 24) (slot := 31) C (by decide) _ (fun _ => rfl) (fun _ _ => rfl) rfl inlX6 tyX6 tyX6_ok nmX6 (by decide) kw_7_6 rfl (by decide +kernel) (Nat.le_of_ble_eq_true rfl) hd kk
theorem gf_X6_121 {l : Launch} {g : oG} {cc : ByteArray} {lam mc : Nat} {x : oCtx} {σ : oMem} {pc : Nat} {vs : List (Option Value)} {st : List Value} {k : Nat} (C : oK l g RX6 cc lam mc x) (hd : decode cc pc = .ok (.getfield 121, 3)) (kk : oW l g x σ (pc + 3) vs (oi (σ 24 0 15) :: st) k) : oW l g x σ pc vs (.ref (g.2.1 24 0) :: st) k := o_get (K := 24) (slot := 15) C (by decide) rfl rfl inlX6 (by decide) kw_10_21 rfl hd kk
theorem pf_X6_121 {l : Launch} {g : oG} {cc : ByteArray} {lam mc : Nat} {x : oCtx} {σ : oMem} {pc : Nat} {vs : List (Option Value)} {st : List Value} {k : Nat} {z : Int} (C : oK l g RX6 cc lam mc x) (hd : decode cc pc = .ok (.putfield 121, 3)) (kk : oW l g x (o_up σ 24 0 15 z) (pc + 3) vs st k) : oW l g x σ pc vs (oi z :: .ref (g.2.1 24 0) :: st) k := o_put (K := 24) (slot := 15) C (by decide) _ (fun _ => rfl) (fun _ _ => rfl) rfl inlX6 tyX6 tyX6_ok nmX6 (by decide) kw_10_21 rfl (by decide +kernel) (Nat.le_of_ble_eq_true rfl) hd kk
theorem gf_X6_99 {l : Launch} {g : oG} {cc : ByteArray} {lam mc : Nat} {x : oCtx} {σ : oMem} {pc : Nat} {vs : List (Option Value)} {st : List Value} {k : Nat} (C : oK l g RX6 cc lam mc x) (hd : decode cc pc = .ok (.getfield 99, 3)) (kk : oW l g x σ (pc + 3) vs (oi (σ 24 0 18) :: st) k) : oW l g x σ pc vs (.ref (g.2.1 24 0) :: st) k := o_get (K := 24) (slot := 18) C (by decide) rfl rfl inlX6 (by decide) kw_14_1 rfl hd kk
theorem pf_X6_99 {l : Launch} {g : oG} {cc : ByteArray} {lam mc : Nat} {x : oCtx} {σ : oMem} {pc : Nat} {vs : List (Option Value)} {st : List Value} {k : Nat} {z : Int} (C : oK l g RX6 cc lam mc x) (hd : decode cc pc = .ok (.putfield 99, 3)) (kk : oW l g x (o_up σ 24 0 18 z) (pc + 3) vs st k) : oW l g x σ pc vs (oi z :: .ref (g.2.1 24 0) :: st) k := o_put (K := 24) (slot := 18) C (by decide) _ (fun _ => rfl) (fun _ _ => rfl) rfl inlX6 tyX6 tyX6_ok nmX6 (by decide) kw_14_1 rfl (by decide +kernel) (Nat.le_of_ble_eq_true rfl) hd kk
theorem gf_X6_147 {l : Launch} {g : oG} {cc : ByteArray} {lam mc : Nat} {x : oCtx} {σ : oMem} {pc : Nat} {vs : List (Option Value)} {st : List Value} {k : Nat} (C : oK l g RX6 cc lam mc x) (hd : decode cc pc = .ok (.getfield 147, 3)) (kk : oW l g x σ (pc + 3) vs (oi (σ 24 0 24) :: st) k) : oW l g x σ pc vs (.ref (g.2.1 24 0) :: st) k := o_get (K := 24) (slot := 24) C (by decide) rfl rfl inlX6 (by decide) kw_20_19 rfl hd kk
theorem pf_X6_147 {l : Launch} {g : oG} {cc : ByteArray} {lam mc : Nat} {x : oCtx} {σ : oMem} {pc : Nat} {vs : List (Option Value)} {st : List Value} {k : Nat} {z : Int} (C : oK l g RX6 cc lam mc x) (hd : decode cc pc = .ok (.putfield 147, 3)) (kk : oW l g x (o_up σ 24 0 24 z) (pc + 3) vs st k) : oW l g x σ pc vs (oi z :: .ref (g.2.1 24 0) :: st) k := o_put (K := 24) (slot := 24) C (by decide) _ (fun _ => rfl) (fun _ _ => rfl) rfl inlX6 tyX6 tyX6_ok nmX6 (by decide) kw_20_19 rfl (by decide +kernel) (Nat.le_of_ble_eq_true rfl) hd kk
theorem gf_X6_157 {l : Launch} {g : oG} {cc : ByteArray} {lam mc : Nat} {x : oCtx} {σ : oMem} {pc : Nat} {vs : List (Option Value)} {st : List Value} {k : Nat} (C : oK l g RX6 cc lam mc x) (hd : decode cc pc = .ok (.getfield 157, 3)) (kk : oW l g x σ (pc + 3) vs (oi (σ 24 0 27) :: st) k) : oW l g x σ pc vs (.ref (g.2.1 24 0) :: st) k := o_get (K := 24) (slot := 27) C (by decide) rfl rfl inlX6 (by decide) kw_22_14 rfl hd kk
theorem pf_X6_157 {l : Launch} {g : oG} {cc : ByteArray} {lam mc : Nat} {x : oCtx} {σ : oMem} {pc : Nat} {vs : List (Option Value)} {st : List Value} {k : Nat} {z : Int} (C : oK l g RX6 cc lam mc x) (hd : decode cc pc = .ok (.putfield 157, 3)) (kk : oW l g x (o_up σ 24 0 27 z) (pc + 3) vs st k) : oW l g x σ pc vs (oi z :: .ref (g.2.1 24 0) :: st) k := o_put (K := 24) (slot := 27) C (by decide) _ (fun _ => rfl) (fun _ _ => rfl) rfl inlX6 tyX6 tyX6_ok nmX6 (by decide) kw_22_14 rfl (by decide +kernel) (Nat.le_of_ble_eq_true rfl) hd kk
theorem gf_X5_102 {l : Launch} {g : oG} {cc : ByteArray} {lam mc : Nat} {x : oCtx} {σ : oMem} {pc : Nat} {vs : List (Option Value)} {st : List Value} {k : Nat} {i : Nat} (C : oK l g RX5 cc lam mc x) (hi : i < 20) (hd : decode cc pc = .ok (.getfield 102, 3)) (kk : oW l g x σ (pc + 3) vs (oi (σ 1 i 2) :: st) k) : oW l g x σ pc vs (.ref (g.2.1 1 i) :: st) k := o_getN (K := 1) (slot := 2) C hi rfl rfl inlX0 (by decide) (List.mem_of_getElem? (i := 0) rfl) rfl hd kk
theorem gf_X5_135 {l : Launch} {g : oG} {cc : ByteArray} {lam mc : Nat} {x : oCtx} {σ : oMem} {pc : Nat} {vs : List (Option Value)} {st : List Value} {k : Nat} {i : Nat} (C : oK l g RX5 cc lam mc x) (hi : i < 11) (hd : decode cc pc = .ok (.getfield 135, 3)) (kk : oW l g x σ (pc + 3) vs (oi (σ 8 i 1) :: st) k) : oW l g x σ pc vs (.ref (g.2.1 8 i) :: st) k := o_getN (K := 8) (slot := 1) C hi rfl rfl inlX3 (by decide) (List.mem_of_getElem? (i := 1) rfl) rfl hd kk
theorem gf_X5_150 {l : Launch} {g : oG} {cc : ByteArray} {lam mc : Nat} {x : oCtx} {σ : oMem} {pc : Nat} {vs : List (Option Value)} {st : List Value} {k : Nat} {i : Nat} (C : oK l g RX5 cc lam mc x) (hi : i < 11) (hd : decode cc pc = .ok (.getfield 150, 3)) (kk : oW l g x σ (pc + 3) vs (.ref (g.2.1 9 i) :: st) k) : oW l g x σ pc vs (.ref (g.2.1 8 i) :: st) k := o_getN (K := 8) (slot := 0) C hi rfl rfl inlX3 (by decide) (List.mem_of_getElem? (i := 2) rfl) rfl hd kk
theorem gf_X5_219 {l : Launch} {g : oG} {cc : ByteArray} {lam mc : Nat} {x : oCtx} {σ : oMem} {pc : Nat} {vs : List (Option Value)} {st : List Value} {k : Nat} (C : oK l g RX5 cc lam mc x) (hd : decode cc pc = .ok (.getfield 219, 3)) (kk : oW l g x σ (pc + 3) vs (.ref (g.2.1 16 0) :: st) k) : oW l g x σ pc vs (.ref (g.2.1 13 0) :: st) k := o_getN (K := 13) (slot := 2) C (by decide) rfl rfl inlX4 (by decide) (List.mem_of_getElem? (i := 3) rfl) rfl hd kk
theorem gf_X5_222 {l : Launch} {g : oG} {cc : ByteArray} {lam mc : Nat} {x : oCtx} {σ : oMem} {pc : Nat} {vs : List (Option Value)} {st : List Value} {k : Nat} {i : Nat} (C : oK l g RX5 cc lam mc x) (hi : i < 20) (hd : decode cc pc = .ok (.getfield 222, 3)) (kk : oW l g x σ (pc + 3) vs (oi (σ 1 i 10) :: st) k) : oW l g x σ pc vs (.ref (g.2.1 1 i) :: st) k := o_getN (K := 1) (slot := 10) C hi rfl rfl inlX0 (by decide) (List.mem_of_getElem? (i := 4) rfl) rfl hd kk
theorem gf_X5_228 {l : Launch} {g : oG} {cc : ByteArray} {lam mc : Nat} {x : oCtx} {σ : oMem} {pc : Nat} {vs : List (Option Value)} {st : List Value} {k : Nat} {i : Nat} (C : oK l g RX5 cc lam mc x) (hi : i < 20) (hd : decode cc pc = .ok (.getfield 228, 3)) (kk : oW l g x σ (pc + 3) vs (.ref (g.2.1 5 i) :: st) k) : oW l g x σ pc vs (.ref (g.2.1 1 i) :: st) k := o_getN (K := 1) (slot := 8) C hi rfl rfl inlX0 (by decide) (List.mem_of_getElem? (i := 5) rfl) rfl hd kk
theorem gf_X5_231 {l : Launch} {g : oG} {cc : ByteArray} {lam mc : Nat} {x : oCtx} {σ : oMem} {pc : Nat} {vs : List (Option Value)} {st : List Value} {k : Nat} {i : Nat} (C : oK l g RX5 cc lam mc x) (hi : i < 20) (hd : decode cc pc = .ok (.getfield 231, 3)) (kk : oW l g x σ (pc + 3) vs (.ref (g.2.1 6 i) :: st) k) : oW l g x σ pc vs (.ref (g.2.1 1 i) :: st) k := o_getN (K := 1) (slot := 9) C hi rfl rfl inlX0 (by decide) (List.mem_of_getElem? (i := 6) rfl) rfl hd kk
theorem gf_X5_234 {l : Launch} {g : oG} {cc : ByteArray} {lam mc : Nat} {x : oCtx} {σ : oMem} {pc : Nat} {vs : List (Option Value)} {st : List Value} {k : Nat} {i : Nat} (C : oK l g RX5 cc lam mc x) (hi : i < 20) (hd : decode cc pc = .ok (.getfield 234, 3)) (kk : oW l g x σ (pc + 3) vs (oi (σ 1 i 11) :: st) k) : oW l g x σ pc vs (.ref (g.2.1 1 i) :: st) k := o_getN (K := 1) (slot := 11) C hi rfl rfl inlX0 (by decide) (List.mem_of_getElem? (i := 7) rfl) rfl hd kk
theorem gf_X5_237 {l : Launch} {g : oG} {cc : ByteArray} {lam mc : Nat} {x : oCtx} {σ : oMem} {pc : Nat} {vs : List (Option Value)} {st : List Value} {k : Nat} {i : Nat} (C : oK l g RX5 cc lam mc x) (hi : i < 20) (hd : decode cc pc = .ok (.getfield 237, 3)) (kk : oW l g x σ (pc + 3) vs (oi (σ 1 i 12) :: st) k) : oW l g x σ pc vs (.ref (g.2.1 1 i) :: st) k := o_getN (K := 1) (slot := 12) C hi rfl rfl inlX0 (by decide) (List.mem_of_getElem? (i := 8) rfl) rfl hd kk
theorem gf_X5_240 {l : Launch} {g : oG} {cc : ByteArray} {lam mc : Nat} {x : oCtx} {σ : oMem} {pc : Nat} {vs : List (Option Value)} {st : List Value} {k : Nat} {i : Nat} (C : oK l g RX5 cc lam mc x) (hi : i < 20) (hd : decode cc pc = .ok (.getfield 240, 3)) (kk : oW l g x σ (pc + 3) vs (oi (σ 1 i 13) :: st) k) : oW l g x σ pc vs (.ref (g.2.1 1 i) :: st) k := o_getN (K := 1) (slot := 13) C hi rfl rfl inlX0 (by decide) (List.mem_of_getElem? (i := 9) rfl) rfl hd kk
theorem gf_X5_246 {l : Launch} {g : oG} {cc : ByteArray} {lam mc : Nat} {x : oCtx} {σ : oMem} {pc : Nat} {vs : List (Option Value)} {st : List Value} {k : Nat} {i : Nat} (C : oK l g RX5 cc lam mc x) (hi : i < 12) (hd : decode cc pc = .ok (.getfield 246, 3)) (kk : oW l g x σ (pc + 3) vs (oi (σ 7 i 2) :: st) k) : oW l g x σ pc vs (.ref (g.2.1 7 i) :: st) k := o_getN (K := 7) (slot := 2) C hi rfl rfl inlX2 (by decide) (List.mem_of_getElem? (i := 10) rfl) rfl hd kk
theorem gf_X5_249 {l : Launch} {g : oG} {cc : ByteArray} {lam mc : Nat} {x : oCtx} {σ : oMem} {pc : Nat} {vs : List (Option Value)} {st : List Value} {k : Nat} {i : Nat} (C : oK l g RX5 cc lam mc x) (hi : i < 12) (hd : decode cc pc = .ok (.getfield 249, 3)) (kk : oW l g x σ (pc + 3) vs (oi (σ 7 i 3) :: st) k) : oW l g x σ pc vs (.ref (g.2.1 7 i) :: st) k := o_getN (K := 7) (slot := 3) C hi rfl rfl inlX2 (by decide) (List.mem_of_getElem? (i := 11) rfl) rfl hd kk
theorem gf_X5_275 {l : Launch} {g : oG} {cc : ByteArray} {lam mc : Nat} {x : oCtx} {σ : oMem} {pc : Nat} {vs : List (Option Value)} {st : List Value} {k : Nat} {i : Nat} (C : oK l g RX5 cc lam mc x) (hi : i < 20) (hd : decode cc pc = .ok (.getfield 275, 3)) (kk : oW l g x σ (pc + 3) vs (oi (σ 1 i 0) :: st) k) : oW l g x σ pc vs (.ref (g.2.1 1 i) :: st) k := o_getN (K := 1) (slot := 0) C hi rfl rfl inlX0 (by decide) (List.mem_of_getElem? (i := 12) rfl) rfl hd kk
theorem gf_X5_287 {l : Launch} {g : oG} {cc : ByteArray} {lam mc : Nat} {x : oCtx} {σ : oMem} {pc : Nat} {vs : List (Option Value)} {st : List Value} {k : Nat} {i : Nat} (C : oK l g RX5 cc lam mc x) (hi : i < 20) (hd : decode cc pc = .ok (.getfield 287, 3)) (kk : oW l g x σ (pc + 3) vs (oi (σ 1 i 3) :: st) k) : oW l g x σ pc vs (.ref (g.2.1 1 i) :: st) k := o_getN (K := 1) (slot := 3) C hi rfl rfl inlX0 (by decide) (List.mem_of_getElem? (i := 13) rfl) rfl hd kk
theorem gf_X5_291 {l : Launch} {g : oG} {cc : ByteArray} {lam mc : Nat} {x : oCtx} {σ : oMem} {pc : Nat} {vs : List (Option Value)} {st : List Value} {k : Nat} {i : Nat} (C : oK l g RX5 cc lam mc x) (hi : i < 12) (hd : decode cc pc = .ok (.getfield 291, 3)) (kk : oW l g x σ (pc + 3) vs (oi (σ 7 i 0) :: st) k) : oW l g x σ pc vs (.ref (g.2.1 7 i) :: st) k := o_getN (K := 7) (slot := 0) C hi rfl rfl inlX2 (by decide) (List.mem_of_getElem? (i := 14) rfl) rfl hd kk
theorem gf_X5_302 {l : Launch} {g : oG} {cc : ByteArray} {lam mc : Nat} {x : oCtx} {σ : oMem} {pc : Nat} {vs : List (Option Value)} {st : List Value} {k : Nat} {i : Nat} (C : oK l g RX5 cc lam mc x) (hi : i < 20) (hd : decode cc pc = .ok (.getfield 302, 3)) (kk : oW l g x σ (pc + 3) vs (.ref (g.2.1 4 i) :: st) k) : oW l g x σ pc vs (.ref (g.2.1 1 i) :: st) k := o_getN (K := 1) (slot := 7) C hi rfl rfl inlX0 (by decide) (List.mem_of_getElem? (i := 15) rfl) rfl hd kk
theorem gf_X5_315 {l : Launch} {g : oG} {cc : ByteArray} {lam mc : Nat} {x : oCtx} {σ : oMem} {pc : Nat} {vs : List (Option Value)} {st : List Value} {k : Nat} (C : oK l g RX5 cc lam mc x) (hd : decode cc pc = .ok (.getfield 315, 3)) (kk : oW l g x σ (pc + 3) vs (.ref (g.2.1 22 0) :: st) k) : oW l g x σ pc vs (.ref (g.2.1 13 0) :: st) k := o_getN (K := 13) (slot := 0) C (by decide) rfl rfl inlX4 (by decide) (List.mem_of_getElem? (i := 16) rfl) rfl hd kk
theorem gf_X0_76 {l : Launch} {g : oG} {cc : ByteArray} {lam mc : Nat} {x : oCtx} {σ : oMem} {pc : Nat} {vs : List (Option Value)} {st : List Value} {k : Nat} {i : Nat} (C : oK l g RX0 cc lam mc x) (hi : i < 11) (hd : decode cc pc = .ok (.getfield 76, 3)) (kk : oW l g x σ (pc + 3) vs (oi (σ 8 i 1) :: st) k) : oW l g x σ pc vs (.ref (g.2.1 8 i) :: st) k := o_getN (K := 8) (slot := 1) C hi rfl rfl inlX3 (by decide) (List.mem_of_getElem? (i := 17) rfl) rfl hd kk
theorem gf_X0_81 {l : Launch} {g : oG} {cc : ByteArray} {lam mc : Nat} {x : oCtx} {σ : oMem} {pc : Nat} {vs : List (Option Value)} {st : List Value} {k : Nat} {i : Nat} (C : oK l g RX0 cc lam mc x) (hi : i < 11) (hd : decode cc pc = .ok (.getfield 81, 3)) (kk : oW l g x σ (pc + 3) vs (.ref (g.2.1 9 i) :: st) k) : oW l g x σ pc vs (.ref (g.2.1 8 i) :: st) k := o_getN (K := 8) (slot := 0) C hi rfl rfl inlX3 (by decide) (List.mem_of_getElem? (i := 18) rfl) rfl hd kk
theorem ia_2 {l : Launch} {g : oG} {own : String} {cc : ByteArray} {lam mc : Nat} {x : oCtx} {σ : oMem} {pc : Nat} {vs : List (Option Value)} {st : List Value} {k : Nat} {i : Nat} {z : Int} (C : oK l g own cc lam mc x) (hi : i < 20) (h0 : 0 ≤ z) (h1 : z < 8) (hd : decode cc pc = .ok (.iaload, 1)) (kk : oW l g x σ (pc + 1) vs (oi (σ 2 i z.toNat) :: st) k) : oW l g x σ pc vs (oi z :: .ref (g.2.1 2 i) :: st) k := o_iald (K := 2) C hi (fun _ => rfl) h0 h1 hd kk
theorem is_2 {l : Launch} {g : oG} {own : String} {cc : ByteArray} {lam mc : Nat} {x : oCtx} {σ : oMem} {pc : Nat} {vs : List (Option Value)} {st : List Value} {k : Nat} {i : Nat} {z v : Int} (C : oK l g own cc lam mc x) (hi : i < 20) (h0 : 0 ≤ z) (h1 : z < 8) (hd : decode cc pc = .ok (.iastore, 1)) (kk : oW l g x (o_up σ 2 i z.toNat v) (pc + 1) vs st k) : oW l g x σ pc vs (oi v :: oi z :: .ref (g.2.1 2 i) :: st) k := o_iast (K := 2) C hi (fun _ => rfl) h0 h1 hd kk
theorem al_2 {l : Launch} {g : oG} {own : String} {cc : ByteArray} {lam mc : Nat} {x : oCtx} {σ : oMem} {pc : Nat} {vs : List (Option Value)} {st : List Value} {k : Nat} {i : Nat} (C : oK l g own cc lam mc x) (hi : i < 20) (hd : decode cc pc = .ok (.arraylength, 1)) (kk : oW l g x σ (pc + 1) vs (oi 8 :: st) k) : oW l g x σ pc vs (.ref (g.2.1 2 i) :: st) k := o_alen (K := 2) (n := 8) (t0 := 0) C hi rfl rfl rfl hd kk
theorem ia_3 {l : Launch} {g : oG} {own : String} {cc : ByteArray} {lam mc : Nat} {x : oCtx} {σ : oMem} {pc : Nat} {vs : List (Option Value)} {st : List Value} {k : Nat} {i : Nat} {z : Int} (C : oK l g own cc lam mc x) (hi : i < 20) (h0 : 0 ≤ z) (h1 : z < 8) (hd : decode cc pc = .ok (.iaload, 1)) (kk : oW l g x σ (pc + 1) vs (oi (σ 3 i z.toNat) :: st) k) : oW l g x σ pc vs (oi z :: .ref (g.2.1 3 i) :: st) k := o_iald (K := 3) C hi (fun _ => rfl) h0 h1 hd kk
theorem is_3 {l : Launch} {g : oG} {own : String} {cc : ByteArray} {lam mc : Nat} {x : oCtx} {σ : oMem} {pc : Nat} {vs : List (Option Value)} {st : List Value} {k : Nat} {i : Nat} {z v : Int} (C : oK l g own cc lam mc x) (hi : i < 20) (h0 : 0 ≤ z) (h1 : z < 8) (hd : decode cc pc = .ok (.iastore, 1)) (kk : oW l g x (o_up σ 3 i z.toNat v) (pc + 1) vs st k) : oW l g x σ pc vs (oi v :: oi z :: .ref (g.2.1 3 i) :: st) k := o_iast (K := 3) C hi (fun _ => rfl) h0 h1 hd kk
theorem al_3 {l : Launch} {g : oG} {own : String} {cc : ByteArray} {lam mc : Nat} {x : oCtx} {σ : oMem} {pc : Nat} {vs : List (Option Value)} {st : List Value} {k : Nat} {i : Nat} (C : oK l g own cc lam mc x) (hi : i < 20) (hd : decode cc pc = .ok (.arraylength, 1)) (kk : oW l g x σ (pc + 1) vs (oi 8 :: st) k) : oW l g x σ pc vs (.ref (g.2.1 3 i) :: st) k := o_alen (K := 3) (n := 8) (t0 := 0) C hi rfl rfl rfl hd kk
theorem ia_4 {l : Launch} {g : oG} {own : String} {cc : ByteArray} {lam mc : Nat} {x : oCtx} {σ : oMem} {pc : Nat} {vs : List (Option Value)} {st : List Value} {k : Nat} {i : Nat} {z : Int} (C : oK l g own cc lam mc x) (hi : i < 20) (h0 : 0 ≤ z) (h1 : z < 15) (hd : decode cc pc = .ok (.iaload, 1)) (kk : oW l g x σ (pc + 1) vs (oi (σ 4 i z.toNat) :: st) k) : oW l g x σ pc vs (oi z :: .ref (g.2.1 4 i) :: st) k := o_iald (K := 4) C hi (fun _ => rfl) h0 h1 hd kk
theorem is_4 {l : Launch} {g : oG} {own : String} {cc : ByteArray} {lam mc : Nat} {x : oCtx} {σ : oMem} {pc : Nat} {vs : List (Option Value)} {st : List Value} {k : Nat} {i : Nat} {z v : Int} (C : oK l g own cc lam mc x) (hi : i < 20) (h0 : 0 ≤ z) (h1 : z < 15) (hd : decode cc pc = .ok (.iastore, 1)) (kk : oW l g x (o_up σ 4 i z.toNat v) (pc + 1) vs st k) : oW l g x σ pc vs (oi v :: oi z :: .ref (g.2.1 4 i) :: st) k := o_iast (K := 4) C hi (fun _ => rfl) h0 h1 hd kk
theorem al_4 {l : Launch} {g : oG} {own : String} {cc : ByteArray} {lam mc : Nat} {x : oCtx} {σ : oMem} {pc : Nat} {vs : List (Option Value)} {st : List Value} {k : Nat} {i : Nat} (C : oK l g own cc lam mc x) (hi : i < 20) (hd : decode cc pc = .ok (.arraylength, 1)) (kk : oW l g x σ (pc + 1) vs (oi 15 :: st) k) : oW l g x σ pc vs (.ref (g.2.1 4 i) :: st) k := o_alen (K := 4) (n := 15) (t0 := 0) C hi rfl rfl rfl hd kk
theorem ia_5 {l : Launch} {g : oG} {own : String} {cc : ByteArray} {lam mc : Nat} {x : oCtx} {σ : oMem} {pc : Nat} {vs : List (Option Value)} {st : List Value} {k : Nat} {i : Nat} {z : Int} (C : oK l g own cc lam mc x) (hi : i < 20) (h0 : 0 ≤ z) (h1 : z < 15) (hd : decode cc pc = .ok (.iaload, 1)) (kk : oW l g x σ (pc + 1) vs (oi (σ 5 i z.toNat) :: st) k) : oW l g x σ pc vs (oi z :: .ref (g.2.1 5 i) :: st) k := o_iald (K := 5) C hi (fun _ => rfl) h0 h1 hd kk
theorem is_5 {l : Launch} {g : oG} {own : String} {cc : ByteArray} {lam mc : Nat} {x : oCtx} {σ : oMem} {pc : Nat} {vs : List (Option Value)} {st : List Value} {k : Nat} {i : Nat} {z v : Int} (C : oK l g own cc lam mc x) (hi : i < 20) (h0 : 0 ≤ z) (h1 : z < 15) (hd : decode cc pc = .ok (.iastore, 1)) (kk : oW l g x (o_up σ 5 i z.toNat v) (pc + 1) vs st k) : oW l g x σ pc vs (oi v :: oi z :: .ref (g.2.1 5 i) :: st) k := o_iast (K := 5) C hi (fun _ => rfl) h0 h1 hd kk
theorem al_5 {l : Launch} {g : oG} {own : String} {cc : ByteArray} {lam mc : Nat} {x : oCtx} {σ : oMem} {pc : Nat} {vs : List (Option Value)} {st : List Value} {k : Nat} {i : Nat} (C : oK l g own cc lam mc x) (hi : i < 20) (hd : decode cc pc = .ok (.arraylength, 1)) (kk : oW l g x σ (pc + 1) vs (oi 15 :: st) k) : oW l g x σ pc vs (.ref (g.2.1 5 i) :: st) k := o_alen (K := 5) (n := 15) (t0 := 0) C hi rfl rfl rfl hd kk
theorem ia_6 {l : Launch} {g : oG} {own : String} {cc : ByteArray} {lam mc : Nat} {x : oCtx} {σ : oMem} {pc : Nat} {vs : List (Option Value)} {st : List Value} {k : Nat} {i : Nat} {z : Int} (C : oK l g own cc lam mc x) (hi : i < 20) (h0 : 0 ≤ z) (h1 : z < 15) (hd : decode cc pc = .ok (.iaload, 1)) (kk : oW l g x σ (pc + 1) vs (oi (σ 6 i z.toNat) :: st) k) : oW l g x σ pc vs (oi z :: .ref (g.2.1 6 i) :: st) k := o_iald (K := 6) C hi (fun _ => rfl) h0 h1 hd kk
theorem is_6 {l : Launch} {g : oG} {own : String} {cc : ByteArray} {lam mc : Nat} {x : oCtx} {σ : oMem} {pc : Nat} {vs : List (Option Value)} {st : List Value} {k : Nat} {i : Nat} {z v : Int} (C : oK l g own cc lam mc x) (hi : i < 20) (h0 : 0 ≤ z) (h1 : z < 15) (hd : decode cc pc = .ok (.iastore, 1)) (kk : oW l g x (o_up σ 6 i z.toNat v) (pc + 1) vs st k) : oW l g x σ pc vs (oi v :: oi z :: .ref (g.2.1 6 i) :: st) k := o_iast (K := 6) C hi (fun _ => rfl) h0 h1 hd kk
theorem al_6 {l : Launch} {g : oG} {own : String} {cc : ByteArray} {lam mc : Nat} {x : oCtx} {σ : oMem} {pc : Nat} {vs : List (Option Value)} {st : List Value} {k : Nat} {i : Nat} (C : oK l g own cc lam mc x) (hi : i < 20) (hd : decode cc pc = .ok (.arraylength, 1)) (kk : oW l g x σ (pc + 1) vs (oi 15 :: st) k) : oW l g x σ pc vs (.ref (g.2.1 6 i) :: st) k := o_alen (K := 6) (n := 15) (t0 := 0) C hi rfl rfl rfl hd kk
theorem ia_9 {l : Launch} {g : oG} {own : String} {cc : ByteArray} {lam mc : Nat} {x : oCtx} {σ : oMem} {pc : Nat} {vs : List (Option Value)} {st : List Value} {k : Nat} {i : Nat} {z : Int} (C : oK l g own cc lam mc x) (hi : i < 11) (h0 : 0 ≤ z) (h1 : z < 15) (hd : decode cc pc = .ok (.iaload, 1)) (kk : oW l g x σ (pc + 1) vs (oi (σ 9 i z.toNat) :: st) k) : oW l g x σ pc vs (oi z :: .ref (g.2.1 9 i) :: st) k := o_iald (K := 9) C hi (fun _ => rfl) h0 h1 hd kk
theorem is_9 {l : Launch} {g : oG} {own : String} {cc : ByteArray} {lam mc : Nat} {x : oCtx} {σ : oMem} {pc : Nat} {vs : List (Option Value)} {st : List Value} {k : Nat} {i : Nat} {z v : Int} (C : oK l g own cc lam mc x) (hi : i < 11) (h0 : 0 ≤ z) (h1 : z < 15) (hd : decode cc pc = .ok (.iastore, 1)) (kk : oW l g x (o_up σ 9 i z.toNat v) (pc + 1) vs st k) : oW l g x σ pc vs (oi v :: oi z :: .ref (g.2.1 9 i) :: st) k := o_iast (K := 9) C hi (fun _ => rfl) h0 h1 hd kk
theorem al_9 {l : Launch} {g : oG} {own : String} {cc : ByteArray} {lam mc : Nat} {x : oCtx} {σ : oMem} {pc : Nat} {vs : List (Option Value)} {st : List Value} {k : Nat} {i : Nat} (C : oK l g own cc lam mc x) (hi : i < 11) (hd : decode cc pc = .ok (.arraylength, 1)) (kk : oW l g x σ (pc + 1) vs (oi 15 :: st) k) : oW l g x σ pc vs (.ref (g.2.1 9 i) :: st) k := o_alen (K := 9) (n := 15) (t0 := 0) C hi rfl rfl rfl hd kk
theorem ia_11 {l : Launch} {g : oG} {own : String} {cc : ByteArray} {lam mc : Nat} {x : oCtx} {σ : oMem} {pc : Nat} {vs : List (Option Value)} {st : List Value} {k : Nat} {z : Int} (C : oK l g own cc lam mc x) (h0 : 0 ≤ z) (h1 : z < 12) (hd : decode cc pc = .ok (.iaload, 1)) (kk : oW l g x σ (pc + 1) vs (oi (σ 11 0 z.toNat) :: st) k) : oW l g x σ pc vs (oi z :: .ref (g.2.1 11 0) :: st) k := o_iald (K := 11) C (by decide) (fun _ => rfl) h0 h1 hd kk
theorem is_11 {l : Launch} {g : oG} {own : String} {cc : ByteArray} {lam mc : Nat} {x : oCtx} {σ : oMem} {pc : Nat} {vs : List (Option Value)} {st : List Value} {k : Nat} {z v : Int} (C : oK l g own cc lam mc x) (h0 : 0 ≤ z) (h1 : z < 12) (hd : decode cc pc = .ok (.iastore, 1)) (kk : oW l g x (o_up σ 11 0 z.toNat v) (pc + 1) vs st k) : oW l g x σ pc vs (oi v :: oi z :: .ref (g.2.1 11 0) :: st) k := o_iast (K := 11) C (by decide) (fun _ => rfl) h0 h1 hd kk
theorem al_11 {l : Launch} {g : oG} {own : String} {cc : ByteArray} {lam mc : Nat} {x : oCtx} {σ : oMem} {pc : Nat} {vs : List (Option Value)} {st : List Value} {k : Nat} (C : oK l g own cc lam mc x) (hd : decode cc pc = .ok (.arraylength, 1)) (kk : oW l g x σ (pc + 1) vs (oi 12 :: st) k) : oW l g x σ pc vs (.ref (g.2.1 11 0) :: st) k := o_alen (K := 11) (n := 12) (t0 := 0) C (by decide) rfl rfl rfl hd kk
theorem ia_12 {l : Launch} {g : oG} {own : String} {cc : ByteArray} {lam mc : Nat} {x : oCtx} {σ : oMem} {pc : Nat} {vs : List (Option Value)} {st : List Value} {k : Nat} {z : Int} (C : oK l g own cc lam mc x) (h0 : 0 ≤ z) (h1 : z < 2001) (hd : decode cc pc = .ok (.iaload, 1)) (kk : oW l g x σ (pc + 1) vs (oi (σ 12 0 z.toNat) :: st) k) : oW l g x σ pc vs (oi z :: .ref (g.2.1 12 0) :: st) k := o_iald (K := 12) C (by decide) (fun _ => rfl) h0 h1 hd kk
theorem is_12 {l : Launch} {g : oG} {own : String} {cc : ByteArray} {lam mc : Nat} {x : oCtx} {σ : oMem} {pc : Nat} {vs : List (Option Value)} {st : List Value} {k : Nat} {z v : Int} (C : oK l g own cc lam mc x) (h0 : 0 ≤ z) (h1 : z < 2001) (hd : decode cc pc = .ok (.iastore, 1)) (kk : oW l g x (o_up σ 12 0 z.toNat v) (pc + 1) vs st k) : oW l g x σ pc vs (oi v :: oi z :: .ref (g.2.1 12 0) :: st) k := o_iast (K := 12) C (by decide) (fun _ => rfl) h0 h1 hd kk
theorem al_12 {l : Launch} {g : oG} {own : String} {cc : ByteArray} {lam mc : Nat} {x : oCtx} {σ : oMem} {pc : Nat} {vs : List (Option Value)} {st : List Value} {k : Nat} (C : oK l g own cc lam mc x) (hd : decode cc pc = .ok (.arraylength, 1)) (kk : oW l g x σ (pc + 1) vs (oi 2001 :: st) k) : oW l g x σ pc vs (.ref (g.2.1 12 0) :: st) k := o_alen (K := 12) (n := 2001) (t0 := 0) C (by decide) rfl rfl rfl hd kk
theorem ia_14 {l : Launch} {g : oG} {own : String} {cc : ByteArray} {lam mc : Nat} {x : oCtx} {σ : oMem} {pc : Nat} {vs : List (Option Value)} {st : List Value} {k : Nat} {i : Nat} {z : Int} (C : oK l g own cc lam mc x) (hi : i < 8) (h0 : 0 ≤ z) (h1 : z < 7) (hd : decode cc pc = .ok (.iaload, 1)) (kk : oW l g x σ (pc + 1) vs (oi (σ 14 i z.toNat) :: st) k) : oW l g x σ pc vs (oi z :: .ref (g.2.1 14 i) :: st) k := o_iald (K := 14) C hi (fun _ => rfl) h0 h1 hd kk
theorem is_14 {l : Launch} {g : oG} {own : String} {cc : ByteArray} {lam mc : Nat} {x : oCtx} {σ : oMem} {pc : Nat} {vs : List (Option Value)} {st : List Value} {k : Nat} {i : Nat} {z v : Int} (C : oK l g own cc lam mc x) (hi : i < 8) (h0 : 0 ≤ z) (h1 : z < 7) (hd : decode cc pc = .ok (.iastore, 1)) (kk : oW l g x (o_up σ 14 i z.toNat v) (pc + 1) vs st k) : oW l g x σ pc vs (oi v :: oi z :: .ref (g.2.1 14 i) :: st) k := o_iast (K := 14) C hi (fun _ => rfl) h0 h1 hd kk
theorem al_14 {l : Launch} {g : oG} {own : String} {cc : ByteArray} {lam mc : Nat} {x : oCtx} {σ : oMem} {pc : Nat} {vs : List (Option Value)} {st : List Value} {k : Nat} {i : Nat} (C : oK l g own cc lam mc x) (hi : i < 8) (hd : decode cc pc = .ok (.arraylength, 1)) (kk : oW l g x σ (pc + 1) vs (oi 7 :: st) k) : oW l g x σ pc vs (.ref (g.2.1 14 i) :: st) k := o_alen (K := 14) (n := 7) (t0 := 0) C hi rfl rfl rfl hd kk
theorem ia_15 {l : Launch} {g : oG} {own : String} {cc : ByteArray} {lam mc : Nat} {x : oCtx} {σ : oMem} {pc : Nat} {vs : List (Option Value)} {st : List Value} {k : Nat} {i : Nat} {z : Int} (C : oK l g own cc lam mc x) (hi : i < 8) (h0 : 0 ≤ z) (h1 : z < 128) (hd : decode cc pc = .ok (.iaload, 1)) (kk : oW l g x σ (pc + 1) vs (oi (σ 15 i z.toNat) :: st) k) : oW l g x σ pc vs (oi z :: .ref (g.2.1 15 i) :: st) k := o_iald (K := 15) C hi (fun _ => rfl) h0 h1 hd kk
theorem is_15 {l : Launch} {g : oG} {own : String} {cc : ByteArray} {lam mc : Nat} {x : oCtx} {σ : oMem} {pc : Nat} {vs : List (Option Value)} {st : List Value} {k : Nat} {i : Nat} {z v : Int} (C : oK l g own cc lam mc x) (hi : i < 8) (h0 : 0 ≤ z) (h1 : z < 128) (hd : decode cc pc = .ok (.iastore, 1)) (kk : oW l g x (o_up σ 15 i z.toNat v) (pc + 1) vs st k) : oW l g x σ pc vs (oi v :: oi z :: .ref (g.2.1 15 i) :: st) k := o_iast (K := 15) C hi (fun _ => rfl) h0 h1 hd kk
theorem al_15 {l : Launch} {g : oG} {own : String} {cc : ByteArray} {lam mc : Nat} {x : oCtx} {σ : oMem} {pc : Nat} {vs : List (Option Value)} {st : List Value} {k : Nat} {i : Nat} (C : oK l g own cc lam mc x) (hi : i < 8) (hd : decode cc pc = .ok (.arraylength, 1)) (kk : oW l g x σ (pc + 1) vs (oi 128 :: st) k) : oW l g x σ pc vs (.ref (g.2.1 15 i) :: st) k := o_alen (K := 15) (n := 128) (t0 := 0) C hi rfl rfl rfl hd kk
theorem ia_16 {l : Launch} {g : oG} {own : String} {cc : ByteArray} {lam mc : Nat} {x : oCtx} {σ : oMem} {pc : Nat} {vs : List (Option Value)} {st : List Value} {k : Nat} {z : Int} (C : oK l g own cc lam mc x) (h0 : 0 ≤ z) (h1 : z < 7) (hd : decode cc pc = .ok (.iaload, 1)) (kk : oW l g x σ (pc + 1) vs (oi (σ 16 0 z.toNat) :: st) k) : oW l g x σ pc vs (oi z :: .ref (g.2.1 16 0) :: st) k := o_iald (K := 16) C (by decide) (fun _ => rfl) h0 h1 hd kk
theorem is_16 {l : Launch} {g : oG} {own : String} {cc : ByteArray} {lam mc : Nat} {x : oCtx} {σ : oMem} {pc : Nat} {vs : List (Option Value)} {st : List Value} {k : Nat} {z v : Int} (C : oK l g own cc lam mc x) (h0 : 0 ≤ z) (h1 : z < 7) (hd : decode cc pc = .ok (.iastore, 1)) (kk : oW l g x (o_up σ 16 0 z.toNat v) (pc + 1) vs st k) : oW l g x σ pc vs (oi v :: oi z :: .ref (g.2.1 16 0) :: st) k := o_iast (K := 16) C (by decide) (fun _ => rfl) h0 h1 hd kk
theorem al_16 {l : Launch} {g : oG} {own : String} {cc : ByteArray} {lam mc : Nat} {x : oCtx} {σ : oMem} {pc : Nat} {vs : List (Option Value)} {st : List Value} {k : Nat} (C : oK l g own cc lam mc x) (hd : decode cc pc = .ok (.arraylength, 1)) (kk : oW l g x σ (pc + 1) vs (oi 7 :: st) k) : oW l g x σ pc vs (.ref (g.2.1 16 0) :: st) k := o_alen (K := 16) (n := 7) (t0 := 0) C (by decide) rfl rfl rfl hd kk
theorem ia_17 {l : Launch} {g : oG} {own : String} {cc : ByteArray} {lam mc : Nat} {x : oCtx} {σ : oMem} {pc : Nat} {vs : List (Option Value)} {st : List Value} {k : Nat} {z : Int} (C : oK l g own cc lam mc x) (h0 : 0 ≤ z) (h1 : z < 7) (hd : decode cc pc = .ok (.iaload, 1)) (kk : oW l g x σ (pc + 1) vs (oi (σ 17 0 z.toNat) :: st) k) : oW l g x σ pc vs (oi z :: .ref (g.2.1 17 0) :: st) k := o_iald (K := 17) C (by decide) (fun _ => rfl) h0 h1 hd kk
theorem is_17 {l : Launch} {g : oG} {own : String} {cc : ByteArray} {lam mc : Nat} {x : oCtx} {σ : oMem} {pc : Nat} {vs : List (Option Value)} {st : List Value} {k : Nat} {z v : Int} (C : oK l g own cc lam mc x) (h0 : 0 ≤ z) (h1 : z < 7) (hd : decode cc pc = .ok (.iastore, 1)) (kk : oW l g x (o_up σ 17 0 z.toNat v) (pc + 1) vs st k) : oW l g x σ pc vs (oi v :: oi z :: .ref (g.2.1 17 0) :: st) k := o_iast (K := 17) C (by decide) (fun _ => rfl) h0 h1 hd kk
theorem al_17 {l : Launch} {g : oG} {own : String} {cc : ByteArray} {lam mc : Nat} {x : oCtx} {σ : oMem} {pc : Nat} {vs : List (Option Value)} {st : List Value} {k : Nat} (C : oK l g own cc lam mc x) (hd : decode cc pc = .ok (.arraylength, 1)) (kk : oW l g x σ (pc + 1) vs (oi 7 :: st) k) : oW l g x σ pc vs (.ref (g.2.1 17 0) :: st) k := o_alen (K := 17) (n := 7) (t0 := 0) C (by decide) rfl rfl rfl hd kk
theorem ia_18 {l : Launch} {g : oG} {own : String} {cc : ByteArray} {lam mc : Nat} {x : oCtx} {σ : oMem} {pc : Nat} {vs : List (Option Value)} {st : List Value} {k : Nat} {z : Int} (C : oK l g own cc lam mc x) (h0 : 0 ≤ z) (h1 : z < 7) (hd : decode cc pc = .ok (.iaload, 1)) (kk : oW l g x σ (pc + 1) vs (oi (σ 18 0 z.toNat) :: st) k) : oW l g x σ pc vs (oi z :: .ref (g.2.1 18 0) :: st) k := o_iald (K := 18) C (by decide) (fun _ => rfl) h0 h1 hd kk
theorem is_18 {l : Launch} {g : oG} {own : String} {cc : ByteArray} {lam mc : Nat} {x : oCtx} {σ : oMem} {pc : Nat} {vs : List (Option Value)} {st : List Value} {k : Nat} {z v : Int} (C : oK l g own cc lam mc x) (h0 : 0 ≤ z) (h1 : z < 7) (hd : decode cc pc = .ok (.iastore, 1)) (kk : oW l g x (o_up σ 18 0 z.toNat v) (pc + 1) vs st k) : oW l g x σ pc vs (oi v :: oi z :: .ref (g.2.1 18 0) :: st) k := o_iast (K := 18) C (by decide) (fun _ => rfl) h0 h1 hd kk
theorem al_18 {l : Launch} {g : oG} {own : String} {cc : ByteArray} {lam mc : Nat} {x : oCtx} {σ : oMem} {pc : Nat} {vs : List (Option Value)} {st : List Value} {k : Nat} (C : oK l g own cc lam mc x) (hd : decode cc pc = .ok (.arraylength, 1)) (kk : oW l g x σ (pc + 1) vs (oi 7 :: st) k) : oW l g x σ pc vs (.ref (g.2.1 18 0) :: st) k := o_alen (K := 18) (n := 7) (t0 := 0) C (by decide) rfl rfl rfl hd kk
theorem aa_19 {l : Launch} {g : oG} {own : String} {cc : ByteArray} {lam mc : Nat} {x : oCtx} {σ : oMem} {pc : Nat} {vs : List (Option Value)} {st : List Value} {k : Nat} {z : Int} (C : oK l g own cc lam mc x) (h0 : 0 ≤ z) (h1 : z < 20) (hd : decode cc pc = .ok (.aaload, 1)) (kk : oW l g x σ (pc + 1) vs (.ref (g.2.1 1 z.toNat) :: st) k) : oW l g x σ pc vs (oi z :: .ref (g.2.1 19 0) :: st) k := o_aald (K := 19) (t0 := 1) (f := fun j => g.2.1 1 j) C (by decide) rfl rfl rfl (by decide) h0 h1 hd kk
theorem al_19 {l : Launch} {g : oG} {own : String} {cc : ByteArray} {lam mc : Nat} {x : oCtx} {σ : oMem} {pc : Nat} {vs : List (Option Value)} {st : List Value} {k : Nat} (C : oK l g own cc lam mc x) (hd : decode cc pc = .ok (.arraylength, 1)) (kk : oW l g x σ (pc + 1) vs (oi 20 :: st) k) : oW l g x σ pc vs (.ref (g.2.1 19 0) :: st) k := o_alen (K := 19) (n := 20) (t0 := 1) C (by decide) rfl rfl rfl hd kk
theorem aa_20 {l : Launch} {g : oG} {own : String} {cc : ByteArray} {lam mc : Nat} {x : oCtx} {σ : oMem} {pc : Nat} {vs : List (Option Value)} {st : List Value} {k : Nat} {z : Int} (C : oK l g own cc lam mc x) (h0 : 0 ≤ z) (h1 : z < 12) (hd : decode cc pc = .ok (.aaload, 1)) (kk : oW l g x σ (pc + 1) vs (.ref (g.2.1 7 z.toNat) :: st) k) : oW l g x σ pc vs (oi z :: .ref (g.2.1 20 0) :: st) k := o_aald (K := 20) (t0 := 2) (f := fun j => g.2.1 7 j) C (by decide) rfl rfl rfl (by decide) h0 h1 hd kk
theorem al_20 {l : Launch} {g : oG} {own : String} {cc : ByteArray} {lam mc : Nat} {x : oCtx} {σ : oMem} {pc : Nat} {vs : List (Option Value)} {st : List Value} {k : Nat} (C : oK l g own cc lam mc x) (hd : decode cc pc = .ok (.arraylength, 1)) (kk : oW l g x σ (pc + 1) vs (oi 12 :: st) k) : oW l g x σ pc vs (.ref (g.2.1 20 0) :: st) k := o_alen (K := 20) (n := 12) (t0 := 2) C (by decide) rfl rfl rfl hd kk
theorem aa_21 {l : Launch} {g : oG} {own : String} {cc : ByteArray} {lam mc : Nat} {x : oCtx} {σ : oMem} {pc : Nat} {vs : List (Option Value)} {st : List Value} {k : Nat} {z : Int} (C : oK l g own cc lam mc x) (h0 : 0 ≤ z) (h1 : z < 10) (hd : decode cc pc = .ok (.aaload, 1)) (kk : oW l g x σ (pc + 1) vs (.ref (g.2.1 8 z.toNat) :: st) k) : oW l g x σ pc vs (oi z :: .ref (g.2.1 21 0) :: st) k := o_aald (K := 21) (t0 := 3) (f := fun j => g.2.1 8 j) C (by decide) rfl rfl rfl (by decide) h0 h1 hd kk
theorem al_21 {l : Launch} {g : oG} {own : String} {cc : ByteArray} {lam mc : Nat} {x : oCtx} {σ : oMem} {pc : Nat} {vs : List (Option Value)} {st : List Value} {k : Nat} (C : oK l g own cc lam mc x) (hd : decode cc pc = .ok (.arraylength, 1)) (kk : oW l g x σ (pc + 1) vs (oi 10 :: st) k) : oW l g x σ pc vs (.ref (g.2.1 21 0) :: st) k := o_alen (K := 21) (n := 10) (t0 := 3) C (by decide) rfl rfl rfl hd kk
theorem aa_22 {l : Launch} {g : oG} {own : String} {cc : ByteArray} {lam mc : Nat} {x : oCtx} {σ : oMem} {pc : Nat} {vs : List (Option Value)} {st : List Value} {k : Nat} {z : Int} (C : oK l g own cc lam mc x) (h0 : 0 ≤ z) (h1 : z < 8) (hd : decode cc pc = .ok (.aaload, 1)) (kk : oW l g x σ (pc + 1) vs (.ref (g.2.1 14 z.toNat) :: st) k) : oW l g x σ pc vs (oi z :: .ref (g.2.1 22 0) :: st) k := o_aald (K := 22) (t0 := 4) (f := fun j => g.2.1 14 j) C (by decide) rfl rfl rfl (by decide) h0 h1 hd kk
theorem al_22 {l : Launch} {g : oG} {own : String} {cc : ByteArray} {lam mc : Nat} {x : oCtx} {σ : oMem} {pc : Nat} {vs : List (Option Value)} {st : List Value} {k : Nat} (C : oK l g own cc lam mc x) (hd : decode cc pc = .ok (.arraylength, 1)) (kk : oW l g x σ (pc + 1) vs (oi 8 :: st) k) : oW l g x σ pc vs (.ref (g.2.1 22 0) :: st) k := o_alen (K := 22) (n := 8) (t0 := 4) C (by decide) rfl rfl rfl hd kk
theorem aa_23 {l : Launch} {g : oG} {own : String} {cc : ByteArray} {lam mc : Nat} {x : oCtx} {σ : oMem} {pc : Nat} {vs : List (Option Value)} {st : List Value} {k : Nat} {z : Int} (C : oK l g own cc lam mc x) (h0 : 0 ≤ z) (h1 : z < 8) (hd : decode cc pc = .ok (.aaload, 1)) (kk : oW l g x σ (pc + 1) vs (.ref (g.2.1 15 z.toNat) :: st) k) : oW l g x σ pc vs (oi z :: .ref (g.2.1 23 0) :: st) k := o_aald (K := 23) (t0 := 4) (f := fun j => g.2.1 15 j) C (by decide) rfl rfl rfl (by decide) h0 h1 hd kk
theorem al_23 {l : Launch} {g : oG} {own : String} {cc : ByteArray} {lam mc : Nat} {x : oCtx} {σ : oMem} {pc : Nat} {vs : List (Option Value)} {st : List Value} {k : Nat} (C : oK l g own cc lam mc x) (hd : decode cc pc = .ok (.arraylength, 1)) (kk : oW l g x σ (pc + 1) vs (oi 8 :: st) k) : oW l g x σ pc vs (.ref (g.2.1 23 0) :: st) k := o_alen (K := 23) (n := 8) (t0 := 4) C (by decide) rfl rfl rfl hd kk
theorem ia_25 {l : Launch} {g : oG} {own : String} {cc : ByteArray} {lam mc : Nat} {x : oCtx} {σ : oMem} {pc : Nat} {vs : List (Option Value)} {st : List Value} {k : Nat} {z : Int} (C : oK l g own cc lam mc x) (h0 : 0 ≤ z) (h1 : z < 20) (hd : decode cc pc = .ok (.iaload, 1)) (kk : oW l g x σ (pc + 1) vs (oi (σ 25 0 z.toNat) :: st) k) : oW l g x σ pc vs (oi z :: .ref (g.2.1 25 0) :: st) k := o_iald (K := 25) C (by decide) (fun _ => rfl) h0 h1 hd kk
theorem is_25 {l : Launch} {g : oG} {own : String} {cc : ByteArray} {lam mc : Nat} {x : oCtx} {σ : oMem} {pc : Nat} {vs : List (Option Value)} {st : List Value} {k : Nat} {z v : Int} (C : oK l g own cc lam mc x) (h0 : 0 ≤ z) (h1 : z < 20) (hd : decode cc pc = .ok (.iastore, 1)) (kk : oW l g x (o_up σ 25 0 z.toNat v) (pc + 1) vs st k) : oW l g x σ pc vs (oi v :: oi z :: .ref (g.2.1 25 0) :: st) k := o_iast (K := 25) C (by decide) (fun _ => rfl) h0 h1 hd kk
theorem al_25 {l : Launch} {g : oG} {own : String} {cc : ByteArray} {lam mc : Nat} {x : oCtx} {σ : oMem} {pc : Nat} {vs : List (Option Value)} {st : List Value} {k : Nat} (C : oK l g own cc lam mc x) (hd : decode cc pc = .ok (.arraylength, 1)) (kk : oW l g x σ (pc + 1) vs (oi 20 :: st) k) : oW l g x σ pc vs (.ref (g.2.1 25 0) :: st) k := o_alen (K := 25) (n := 20) (t0 := 0) C (by decide) rfl rfl rfl hd kk
theorem ia_26 {l : Launch} {g : oG} {own : String} {cc : ByteArray} {lam mc : Nat} {x : oCtx} {σ : oMem} {pc : Nat} {vs : List (Option Value)} {st : List Value} {k : Nat} {z : Int} (C : oK l g own cc lam mc x) (h0 : 0 ≤ z) (h1 : z < 20) (hd : decode cc pc = .ok (.iaload, 1)) (kk : oW l g x σ (pc + 1) vs (oi (σ 26 0 z.toNat) :: st) k) : oW l g x σ pc vs (oi z :: .ref (g.2.1 26 0) :: st) k := o_iald (K := 26) C (by decide) (fun _ => rfl) h0 h1 hd kk
theorem is_26 {l : Launch} {g : oG} {own : String} {cc : ByteArray} {lam mc : Nat} {x : oCtx} {σ : oMem} {pc : Nat} {vs : List (Option Value)} {st : List Value} {k : Nat} {z v : Int} (C : oK l g own cc lam mc x) (h0 : 0 ≤ z) (h1 : z < 20) (hd : decode cc pc = .ok (.iastore, 1)) (kk : oW l g x (o_up σ 26 0 z.toNat v) (pc + 1) vs st k) : oW l g x σ pc vs (oi v :: oi z :: .ref (g.2.1 26 0) :: st) k := o_iast (K := 26) C (by decide) (fun _ => rfl) h0 h1 hd kk
theorem al_26 {l : Launch} {g : oG} {own : String} {cc : ByteArray} {lam mc : Nat} {x : oCtx} {σ : oMem} {pc : Nat} {vs : List (Option Value)} {st : List Value} {k : Nat} (C : oK l g own cc lam mc x) (hd : decode cc pc = .ok (.arraylength, 1)) (kk : oW l g x σ (pc + 1) vs (oi 20 :: st) k) : oW l g x σ pc vs (.ref (g.2.1 26 0) :: st) k := o_alen (K := 26) (n := 20) (t0 := 0) C (by decide) rfl rfl rfl hd kk
theorem ia_27 {l : Launch} {g : oG} {own : String} {cc : ByteArray} {lam mc : Nat} {x : oCtx} {σ : oMem} {pc : Nat} {vs : List (Option Value)} {st : List Value} {k : Nat} {z : Int} (C : oK l g own cc lam mc x) (h0 : 0 ≤ z) (h1 : z < 20) (hd : decode cc pc = .ok (.iaload, 1)) (kk : oW l g x σ (pc + 1) vs (oi (σ 27 0 z.toNat) :: st) k) : oW l g x σ pc vs (oi z :: .ref (g.2.1 27 0) :: st) k := o_iald (K := 27) C (by decide) (fun _ => rfl) h0 h1 hd kk
theorem is_27 {l : Launch} {g : oG} {own : String} {cc : ByteArray} {lam mc : Nat} {x : oCtx} {σ : oMem} {pc : Nat} {vs : List (Option Value)} {st : List Value} {k : Nat} {z v : Int} (C : oK l g own cc lam mc x) (h0 : 0 ≤ z) (h1 : z < 20) (hd : decode cc pc = .ok (.iastore, 1)) (kk : oW l g x (o_up σ 27 0 z.toNat v) (pc + 1) vs st k) : oW l g x σ pc vs (oi v :: oi z :: .ref (g.2.1 27 0) :: st) k := o_iast (K := 27) C (by decide) (fun _ => rfl) h0 h1 hd kk
theorem al_27 {l : Launch} {g : oG} {own : String} {cc : ByteArray} {lam mc : Nat} {x : oCtx} {σ : oMem} {pc : Nat} {vs : List (Option Value)} {st : List Value} {k : Nat} (C : oK l g own cc lam mc x) (hd : decode cc pc = .ok (.arraylength, 1)) (kk : oW l g x σ (pc + 1) vs (oi 20 :: st) k) : oW l g x σ pc vs (.ref (g.2.1 27 0) :: st) k := o_alen (K := 27) (n := 20) (t0 := 0) C (by decide) rfl rfl rfl hd kk
theorem ia_28 {l : Launch} {g : oG} {own : String} {cc : ByteArray} {lam mc : Nat} {x : oCtx} {σ : oMem} {pc : Nat} {vs : List (Option Value)} {st : List Value} {k : Nat} {z : Int} (C : oK l g own cc lam mc x) (h0 : 0 ≤ z) (h1 : z < 20) (hd : decode cc pc = .ok (.iaload, 1)) (kk : oW l g x σ (pc + 1) vs (oi (σ 28 0 z.toNat) :: st) k) : oW l g x σ pc vs (oi z :: .ref (g.2.1 28 0) :: st) k := o_iald (K := 28) C (by decide) (fun _ => rfl) h0 h1 hd kk
theorem is_28 {l : Launch} {g : oG} {own : String} {cc : ByteArray} {lam mc : Nat} {x : oCtx} {σ : oMem} {pc : Nat} {vs : List (Option Value)} {st : List Value} {k : Nat} {z v : Int} (C : oK l g own cc lam mc x) (h0 : 0 ≤ z) (h1 : z < 20) (hd : decode cc pc = .ok (.iastore, 1)) (kk : oW l g x (o_up σ 28 0 z.toNat v) (pc + 1) vs st k) : oW l g x σ pc vs (oi v :: oi z :: .ref (g.2.1 28 0) :: st) k := o_iast (K := 28) C (by decide) (fun _ => rfl) h0 h1 hd kk
theorem al_28 {l : Launch} {g : oG} {own : String} {cc : ByteArray} {lam mc : Nat} {x : oCtx} {σ : oMem} {pc : Nat} {vs : List (Option Value)} {st : List Value} {k : Nat} (C : oK l g own cc lam mc x) (hd : decode cc pc = .ok (.arraylength, 1)) (kk : oW l g x σ (pc + 1) vs (oi 20 :: st) k) : oW l g x σ pc vs (.ref (g.2.1 28 0) :: st) k := o_alen (K := 28) (n := 20) (t0 := 0) C (by decide) rfl rfl rfl hd kk
theorem ia_29 {l : Launch} {g : oG} {own : String} {cc : ByteArray} {lam mc : Nat} {x : oCtx} {σ : oMem} {pc : Nat} {vs : List (Option Value)} {st : List Value} {k : Nat} {z : Int} (C : oK l g own cc lam mc x) (h0 : 0 ≤ z) (h1 : z < 160) (hd : decode cc pc = .ok (.iaload, 1)) (kk : oW l g x σ (pc + 1) vs (oi (σ 29 0 z.toNat) :: st) k) : oW l g x σ pc vs (oi z :: .ref (g.2.1 29 0) :: st) k := o_iald (K := 29) C (by decide) (fun _ => rfl) h0 h1 hd kk
theorem is_29 {l : Launch} {g : oG} {own : String} {cc : ByteArray} {lam mc : Nat} {x : oCtx} {σ : oMem} {pc : Nat} {vs : List (Option Value)} {st : List Value} {k : Nat} {z v : Int} (C : oK l g own cc lam mc x) (h0 : 0 ≤ z) (h1 : z < 160) (hd : decode cc pc = .ok (.iastore, 1)) (kk : oW l g x (o_up σ 29 0 z.toNat v) (pc + 1) vs st k) : oW l g x σ pc vs (oi v :: oi z :: .ref (g.2.1 29 0) :: st) k := o_iast (K := 29) C (by decide) (fun _ => rfl) h0 h1 hd kk
theorem al_29 {l : Launch} {g : oG} {own : String} {cc : ByteArray} {lam mc : Nat} {x : oCtx} {σ : oMem} {pc : Nat} {vs : List (Option Value)} {st : List Value} {k : Nat} (C : oK l g own cc lam mc x) (hd : decode cc pc = .ok (.arraylength, 1)) (kk : oW l g x σ (pc + 1) vs (oi 160 :: st) k) : oW l g x σ pc vs (.ref (g.2.1 29 0) :: st) k := o_alen (K := 29) (n := 160) (t0 := 0) C (by decide) rfl rfl rfl hd kk
theorem ia_30 {l : Launch} {g : oG} {own : String} {cc : ByteArray} {lam mc : Nat} {x : oCtx} {σ : oMem} {pc : Nat} {vs : List (Option Value)} {st : List Value} {k : Nat} {z : Int} (C : oK l g own cc lam mc x) (h0 : 0 ≤ z) (h1 : z < 160) (hd : decode cc pc = .ok (.iaload, 1)) (kk : oW l g x σ (pc + 1) vs (oi (σ 30 0 z.toNat) :: st) k) : oW l g x σ pc vs (oi z :: .ref (g.2.1 30 0) :: st) k := o_iald (K := 30) C (by decide) (fun _ => rfl) h0 h1 hd kk
theorem is_30 {l : Launch} {g : oG} {own : String} {cc : ByteArray} {lam mc : Nat} {x : oCtx} {σ : oMem} {pc : Nat} {vs : List (Option Value)} {st : List Value} {k : Nat} {z v : Int} (C : oK l g own cc lam mc x) (h0 : 0 ≤ z) (h1 : z < 160) (hd : decode cc pc = .ok (.iastore, 1)) (kk : oW l g x (o_up σ 30 0 z.toNat v) (pc + 1) vs st k) : oW l g x σ pc vs (oi v :: oi z :: .ref (g.2.1 30 0) :: st) k := o_iast (K := 30) C (by decide) (fun _ => rfl) h0 h1 hd kk
theorem al_30 {l : Launch} {g : oG} {own : String} {cc : ByteArray} {lam mc : Nat} {x : oCtx} {σ : oMem} {pc : Nat} {vs : List (Option Value)} {st : List Value} {k : Nat} (C : oK l g own cc lam mc x) (hd : decode cc pc = .ok (.arraylength, 1)) (kk : oW l g x σ (pc + 1) vs (oi 160 :: st) k) : oW l g x σ pc vs (.ref (g.2.1 30 0) :: st) k := o_alen (K := 30) (n := 160) (t0 := 0) C (by decide) rfl rfl rfl hd kk
theorem ia_31 {l : Launch} {g : oG} {own : String} {cc : ByteArray} {lam mc : Nat} {x : oCtx} {σ : oMem} {pc : Nat} {vs : List (Option Value)} {st : List Value} {k : Nat} {z : Int} (C : oK l g own cc lam mc x) (h0 : 0 ≤ z) (h1 : z < 20) (hd : decode cc pc = .ok (.iaload, 1)) (kk : oW l g x σ (pc + 1) vs (oi (σ 31 0 z.toNat) :: st) k) : oW l g x σ pc vs (oi z :: .ref (g.2.1 31 0) :: st) k := o_iald (K := 31) C (by decide) (fun _ => rfl) h0 h1 hd kk
theorem is_31 {l : Launch} {g : oG} {own : String} {cc : ByteArray} {lam mc : Nat} {x : oCtx} {σ : oMem} {pc : Nat} {vs : List (Option Value)} {st : List Value} {k : Nat} {z v : Int} (C : oK l g own cc lam mc x) (h0 : 0 ≤ z) (h1 : z < 20) (hd : decode cc pc = .ok (.iastore, 1)) (kk : oW l g x (o_up σ 31 0 z.toNat v) (pc + 1) vs st k) : oW l g x σ pc vs (oi v :: oi z :: .ref (g.2.1 31 0) :: st) k := o_iast (K := 31) C (by decide) (fun _ => rfl) h0 h1 hd kk
theorem al_31 {l : Launch} {g : oG} {own : String} {cc : ByteArray} {lam mc : Nat} {x : oCtx} {σ : oMem} {pc : Nat} {vs : List (Option Value)} {st : List Value} {k : Nat} (C : oK l g own cc lam mc x) (hd : decode cc pc = .ok (.arraylength, 1)) (kk : oW l g x σ (pc + 1) vs (oi 20 :: st) k) : oW l g x σ pc vs (.ref (g.2.1 31 0) :: st) k := o_alen (K := 31) (n := 20) (t0 := 0) C (by decide) rfl rfl rfl hd kk
theorem ia_32 {l : Launch} {g : oG} {own : String} {cc : ByteArray} {lam mc : Nat} {x : oCtx} {σ : oMem} {pc : Nat} {vs : List (Option Value)} {st : List Value} {k : Nat} {z : Int} (C : oK l g own cc lam mc x) (h0 : 0 ≤ z) (h1 : z < 12) (hd : decode cc pc = .ok (.iaload, 1)) (kk : oW l g x σ (pc + 1) vs (oi (σ 32 0 z.toNat) :: st) k) : oW l g x σ pc vs (oi z :: .ref (g.2.1 32 0) :: st) k := o_iald (K := 32) C (by decide) (fun _ => rfl) h0 h1 hd kk
theorem is_32 {l : Launch} {g : oG} {own : String} {cc : ByteArray} {lam mc : Nat} {x : oCtx} {σ : oMem} {pc : Nat} {vs : List (Option Value)} {st : List Value} {k : Nat} {z v : Int} (C : oK l g own cc lam mc x) (h0 : 0 ≤ z) (h1 : z < 12) (hd : decode cc pc = .ok (.iastore, 1)) (kk : oW l g x (o_up σ 32 0 z.toNat v) (pc + 1) vs st k) : oW l g x σ pc vs (oi v :: oi z :: .ref (g.2.1 32 0) :: st) k := o_iast (K := 32) C (by decide) (fun _ => rfl) h0 h1 hd kk
theorem al_32 {l : Launch} {g : oG} {own : String} {cc : ByteArray} {lam mc : Nat} {x : oCtx} {σ : oMem} {pc : Nat} {vs : List (Option Value)} {st : List Value} {k : Nat} (C : oK l g own cc lam mc x) (hd : decode cc pc = .ok (.arraylength, 1)) (kk : oW l g x σ (pc + 1) vs (oi 12 :: st) k) : oW l g x σ pc vs (.ref (g.2.1 32 0) :: st) k := o_alen (K := 32) (n := 12) (t0 := 0) C (by decide) rfl rfl rfl hd kk
theorem ia_33 {l : Launch} {g : oG} {own : String} {cc : ByteArray} {lam mc : Nat} {x : oCtx} {σ : oMem} {pc : Nat} {vs : List (Option Value)} {st : List Value} {k : Nat} {z : Int} (C : oK l g own cc lam mc x) (h0 : 0 ≤ z) (h1 : z < 12) (hd : decode cc pc = .ok (.iaload, 1)) (kk : oW l g x σ (pc + 1) vs (oi (σ 33 0 z.toNat) :: st) k) : oW l g x σ pc vs (oi z :: .ref (g.2.1 33 0) :: st) k := o_iald (K := 33) C (by decide) (fun _ => rfl) h0 h1 hd kk
theorem is_33 {l : Launch} {g : oG} {own : String} {cc : ByteArray} {lam mc : Nat} {x : oCtx} {σ : oMem} {pc : Nat} {vs : List (Option Value)} {st : List Value} {k : Nat} {z v : Int} (C : oK l g own cc lam mc x) (h0 : 0 ≤ z) (h1 : z < 12) (hd : decode cc pc = .ok (.iastore, 1)) (kk : oW l g x (o_up σ 33 0 z.toNat v) (pc + 1) vs st k) : oW l g x σ pc vs (oi v :: oi z :: .ref (g.2.1 33 0) :: st) k := o_iast (K := 33) C (by decide) (fun _ => rfl) h0 h1 hd kk
theorem al_33 {l : Launch} {g : oG} {own : String} {cc : ByteArray} {lam mc : Nat} {x : oCtx} {σ : oMem} {pc : Nat} {vs : List (Option Value)} {st : List Value} {k : Nat} (C : oK l g own cc lam mc x) (hd : decode cc pc = .ok (.arraylength, 1)) (kk : oW l g x σ (pc + 1) vs (oi 12 :: st) k) : oW l g x σ pc vs (.ref (g.2.1 33 0) :: st) k := o_alen (K := 33) (n := 12) (t0 := 0) C (by decide) rfl rfl rfl hd kk
theorem ia_34 {l : Launch} {g : oG} {own : String} {cc : ByteArray} {lam mc : Nat} {x : oCtx} {σ : oMem} {pc : Nat} {vs : List (Option Value)} {st : List Value} {k : Nat} {z : Int} (C : oK l g own cc lam mc x) (h0 : 0 ≤ z) (h1 : z < 12) (hd : decode cc pc = .ok (.iaload, 1)) (kk : oW l g x σ (pc + 1) vs (oi (σ 34 0 z.toNat) :: st) k) : oW l g x σ pc vs (oi z :: .ref (g.2.1 34 0) :: st) k := o_iald (K := 34) C (by decide) (fun _ => rfl) h0 h1 hd kk
theorem is_34 {l : Launch} {g : oG} {own : String} {cc : ByteArray} {lam mc : Nat} {x : oCtx} {σ : oMem} {pc : Nat} {vs : List (Option Value)} {st : List Value} {k : Nat} {z v : Int} (C : oK l g own cc lam mc x) (h0 : 0 ≤ z) (h1 : z < 12) (hd : decode cc pc = .ok (.iastore, 1)) (kk : oW l g x (o_up σ 34 0 z.toNat v) (pc + 1) vs st k) : oW l g x σ pc vs (oi v :: oi z :: .ref (g.2.1 34 0) :: st) k := o_iast (K := 34) C (by decide) (fun _ => rfl) h0 h1 hd kk
theorem al_34 {l : Launch} {g : oG} {own : String} {cc : ByteArray} {lam mc : Nat} {x : oCtx} {σ : oMem} {pc : Nat} {vs : List (Option Value)} {st : List Value} {k : Nat} (C : oK l g own cc lam mc x) (hd : decode cc pc = .ok (.arraylength, 1)) (kk : oW l g x σ (pc + 1) vs (oi 12 :: st) k) : oW l g x σ pc vs (.ref (g.2.1 34 0) :: st) k := o_alen (K := 34) (n := 12) (t0 := 0) C (by decide) rfl rfl rfl hd kk
theorem ia_35 {l : Launch} {g : oG} {own : String} {cc : ByteArray} {lam mc : Nat} {x : oCtx} {σ : oMem} {pc : Nat} {vs : List (Option Value)} {st : List Value} {k : Nat} {z : Int} (C : oK l g own cc lam mc x) (h0 : 0 ≤ z) (h1 : z < 12) (hd : decode cc pc = .ok (.iaload, 1)) (kk : oW l g x σ (pc + 1) vs (oi (σ 35 0 z.toNat) :: st) k) : oW l g x σ pc vs (oi z :: .ref (g.2.1 35 0) :: st) k := o_iald (K := 35) C (by decide) (fun _ => rfl) h0 h1 hd kk
theorem is_35 {l : Launch} {g : oG} {own : String} {cc : ByteArray} {lam mc : Nat} {x : oCtx} {σ : oMem} {pc : Nat} {vs : List (Option Value)} {st : List Value} {k : Nat} {z v : Int} (C : oK l g own cc lam mc x) (h0 : 0 ≤ z) (h1 : z < 12) (hd : decode cc pc = .ok (.iastore, 1)) (kk : oW l g x (o_up σ 35 0 z.toNat v) (pc + 1) vs st k) : oW l g x σ pc vs (oi v :: oi z :: .ref (g.2.1 35 0) :: st) k := o_iast (K := 35) C (by decide) (fun _ => rfl) h0 h1 hd kk
theorem al_35 {l : Launch} {g : oG} {own : String} {cc : ByteArray} {lam mc : Nat} {x : oCtx} {σ : oMem} {pc : Nat} {vs : List (Option Value)} {st : List Value} {k : Nat} (C : oK l g own cc lam mc x) (hd : decode cc pc = .ok (.arraylength, 1)) (kk : oW l g x σ (pc + 1) vs (oi 12 :: st) k) : oW l g x σ pc vs (.ref (g.2.1 35 0) :: st) k := o_alen (K := 35) (n := 12) (t0 := 0) C (by decide) rfl rfl rfl hd kk
theorem ia_36 {l : Launch} {g : oG} {own : String} {cc : ByteArray} {lam mc : Nat} {x : oCtx} {σ : oMem} {pc : Nat} {vs : List (Option Value)} {st : List Value} {k : Nat} {z : Int} (C : oK l g own cc lam mc x) (h0 : 0 ≤ z) (h1 : z < 165) (hd : decode cc pc = .ok (.iaload, 1)) (kk : oW l g x σ (pc + 1) vs (oi (σ 36 0 z.toNat) :: st) k) : oW l g x σ pc vs (oi z :: .ref (g.2.1 36 0) :: st) k := o_iald (K := 36) C (by decide) (fun _ => rfl) h0 h1 hd kk
theorem is_36 {l : Launch} {g : oG} {own : String} {cc : ByteArray} {lam mc : Nat} {x : oCtx} {σ : oMem} {pc : Nat} {vs : List (Option Value)} {st : List Value} {k : Nat} {z v : Int} (C : oK l g own cc lam mc x) (h0 : 0 ≤ z) (h1 : z < 165) (hd : decode cc pc = .ok (.iastore, 1)) (kk : oW l g x (o_up σ 36 0 z.toNat v) (pc + 1) vs st k) : oW l g x σ pc vs (oi v :: oi z :: .ref (g.2.1 36 0) :: st) k := o_iast (K := 36) C (by decide) (fun _ => rfl) h0 h1 hd kk
theorem al_36 {l : Launch} {g : oG} {own : String} {cc : ByteArray} {lam mc : Nat} {x : oCtx} {σ : oMem} {pc : Nat} {vs : List (Option Value)} {st : List Value} {k : Nat} (C : oK l g own cc lam mc x) (hd : decode cc pc = .ok (.arraylength, 1)) (kk : oW l g x σ (pc + 1) vs (oi 165 :: st) k) : oW l g x σ pc vs (.ref (g.2.1 36 0) :: st) k := o_alen (K := 36) (n := 165) (t0 := 0) C (by decide) rfl rfl rfl hd kk
theorem ia_37 {l : Launch} {g : oG} {own : String} {cc : ByteArray} {lam mc : Nat} {x : oCtx} {σ : oMem} {pc : Nat} {vs : List (Option Value)} {st : List Value} {k : Nat} {z : Int} (C : oK l g own cc lam mc x) (h0 : 0 ≤ z) (h1 : z < 11) (hd : decode cc pc = .ok (.iaload, 1)) (kk : oW l g x σ (pc + 1) vs (oi (σ 37 0 z.toNat) :: st) k) : oW l g x σ pc vs (oi z :: .ref (g.2.1 37 0) :: st) k := o_iald (K := 37) C (by decide) (fun _ => rfl) h0 h1 hd kk
theorem is_37 {l : Launch} {g : oG} {own : String} {cc : ByteArray} {lam mc : Nat} {x : oCtx} {σ : oMem} {pc : Nat} {vs : List (Option Value)} {st : List Value} {k : Nat} {z v : Int} (C : oK l g own cc lam mc x) (h0 : 0 ≤ z) (h1 : z < 11) (hd : decode cc pc = .ok (.iastore, 1)) (kk : oW l g x (o_up σ 37 0 z.toNat v) (pc + 1) vs st k) : oW l g x σ pc vs (oi v :: oi z :: .ref (g.2.1 37 0) :: st) k := o_iast (K := 37) C (by decide) (fun _ => rfl) h0 h1 hd kk
theorem al_37 {l : Launch} {g : oG} {own : String} {cc : ByteArray} {lam mc : Nat} {x : oCtx} {σ : oMem} {pc : Nat} {vs : List (Option Value)} {st : List Value} {k : Nat} (C : oK l g own cc lam mc x) (hd : decode cc pc = .ok (.arraylength, 1)) (kk : oW l g x σ (pc + 1) vs (oi 11 :: st) k) : oW l g x σ pc vs (.ref (g.2.1 37 0) :: st) k := o_alen (K := 37) (n := 11) (t0 := 0) C (by decide) rfl rfl rfl hd kk
theorem ia_38 {l : Launch} {g : oG} {own : String} {cc : ByteArray} {lam mc : Nat} {x : oCtx} {σ : oMem} {pc : Nat} {vs : List (Option Value)} {st : List Value} {k : Nat} {z : Int} (C : oK l g own cc lam mc x) (h0 : 0 ≤ z) (h1 : z < 20) (hd : decode cc pc = .ok (.iaload, 1)) (kk : oW l g x σ (pc + 1) vs (oi (σ 38 0 z.toNat) :: st) k) : oW l g x σ pc vs (oi z :: .ref (g.2.1 38 0) :: st) k := o_iald (K := 38) C (by decide) (fun _ => rfl) h0 h1 hd kk
theorem is_38 {l : Launch} {g : oG} {own : String} {cc : ByteArray} {lam mc : Nat} {x : oCtx} {σ : oMem} {pc : Nat} {vs : List (Option Value)} {st : List Value} {k : Nat} {z v : Int} (C : oK l g own cc lam mc x) (h0 : 0 ≤ z) (h1 : z < 20) (hd : decode cc pc = .ok (.iastore, 1)) (kk : oW l g x (o_up σ 38 0 z.toNat v) (pc + 1) vs st k) : oW l g x σ pc vs (oi v :: oi z :: .ref (g.2.1 38 0) :: st) k := o_iast (K := 38) C (by decide) (fun _ => rfl) h0 h1 hd kk
theorem al_38 {l : Launch} {g : oG} {own : String} {cc : ByteArray} {lam mc : Nat} {x : oCtx} {σ : oMem} {pc : Nat} {vs : List (Option Value)} {st : List Value} {k : Nat} (C : oK l g own cc lam mc x) (hd : decode cc pc = .ok (.arraylength, 1)) (kk : oW l g x σ (pc + 1) vs (oi 20 :: st) k) : oW l g x σ pc vs (.ref (g.2.1 38 0) :: st) k := o_alen (K := 38) (n := 20) (t0 := 0) C (by decide) rfl rfl rfl hd kk
theorem ia_39 {l : Launch} {g : oG} {own : String} {cc : ByteArray} {lam mc : Nat} {x : oCtx} {σ : oMem} {pc : Nat} {vs : List (Option Value)} {st : List Value} {k : Nat} {z : Int} (C : oK l g own cc lam mc x) (h0 : 0 ≤ z) (h1 : z < 300) (hd : decode cc pc = .ok (.iaload, 1)) (kk : oW l g x σ (pc + 1) vs (oi (σ 39 0 z.toNat) :: st) k) : oW l g x σ pc vs (oi z :: .ref (g.2.1 39 0) :: st) k := o_iald (K := 39) C (by decide) (fun _ => rfl) h0 h1 hd kk
theorem is_39 {l : Launch} {g : oG} {own : String} {cc : ByteArray} {lam mc : Nat} {x : oCtx} {σ : oMem} {pc : Nat} {vs : List (Option Value)} {st : List Value} {k : Nat} {z v : Int} (C : oK l g own cc lam mc x) (h0 : 0 ≤ z) (h1 : z < 300) (hd : decode cc pc = .ok (.iastore, 1)) (kk : oW l g x (o_up σ 39 0 z.toNat v) (pc + 1) vs st k) : oW l g x σ pc vs (oi v :: oi z :: .ref (g.2.1 39 0) :: st) k := o_iast (K := 39) C (by decide) (fun _ => rfl) h0 h1 hd kk
theorem al_39 {l : Launch} {g : oG} {own : String} {cc : ByteArray} {lam mc : Nat} {x : oCtx} {σ : oMem} {pc : Nat} {vs : List (Option Value)} {st : List Value} {k : Nat} (C : oK l g own cc lam mc x) (hd : decode cc pc = .ok (.arraylength, 1)) (kk : oW l g x σ (pc + 1) vs (oi 300 :: st) k) : oW l g x σ pc vs (.ref (g.2.1 39 0) :: st) k := o_alen (K := 39) (n := 300) (t0 := 0) C (by decide) rfl rfl rfl hd kk
theorem ia_40 {l : Launch} {g : oG} {own : String} {cc : ByteArray} {lam mc : Nat} {x : oCtx} {σ : oMem} {pc : Nat} {vs : List (Option Value)} {st : List Value} {k : Nat} {z : Int} (C : oK l g own cc lam mc x) (h0 : 0 ≤ z) (h1 : z < 300) (hd : decode cc pc = .ok (.iaload, 1)) (kk : oW l g x σ (pc + 1) vs (oi (σ 40 0 z.toNat) :: st) k) : oW l g x σ pc vs (oi z :: .ref (g.2.1 40 0) :: st) k := o_iald (K := 40) C (by decide) (fun _ => rfl) h0 h1 hd kk
theorem is_40 {l : Launch} {g : oG} {own : String} {cc : ByteArray} {lam mc : Nat} {x : oCtx} {σ : oMem} {pc : Nat} {vs : List (Option Value)} {st : List Value} {k : Nat} {z v : Int} (C : oK l g own cc lam mc x) (h0 : 0 ≤ z) (h1 : z < 300) (hd : decode cc pc = .ok (.iastore, 1)) (kk : oW l g x (o_up σ 40 0 z.toNat v) (pc + 1) vs st k) : oW l g x σ pc vs (oi v :: oi z :: .ref (g.2.1 40 0) :: st) k := o_iast (K := 40) C (by decide) (fun _ => rfl) h0 h1 hd kk
theorem al_40 {l : Launch} {g : oG} {own : String} {cc : ByteArray} {lam mc : Nat} {x : oCtx} {σ : oMem} {pc : Nat} {vs : List (Option Value)} {st : List Value} {k : Nat} (C : oK l g own cc lam mc x) (hd : decode cc pc = .ok (.arraylength, 1)) (kk : oW l g x σ (pc + 1) vs (oi 300 :: st) k) : oW l g x σ pc vs (.ref (g.2.1 40 0) :: st) k := o_alen (K := 40) (n := 300) (t0 := 0) C (by decide) rfl rfl rfl hd kk
theorem ia_41 {l : Launch} {g : oG} {own : String} {cc : ByteArray} {lam mc : Nat} {x : oCtx} {σ : oMem} {pc : Nat} {vs : List (Option Value)} {st : List Value} {k : Nat} {z : Int} (C : oK l g own cc lam mc x) (h0 : 0 ≤ z) (h1 : z < 60) (hd : decode cc pc = .ok (.iaload, 1)) (kk : oW l g x σ (pc + 1) vs (oi (σ 41 0 z.toNat) :: st) k) : oW l g x σ pc vs (oi z :: .ref (g.2.1 41 0) :: st) k := o_iald (K := 41) C (by decide) (fun _ => rfl) h0 h1 hd kk
theorem is_41 {l : Launch} {g : oG} {own : String} {cc : ByteArray} {lam mc : Nat} {x : oCtx} {σ : oMem} {pc : Nat} {vs : List (Option Value)} {st : List Value} {k : Nat} {z v : Int} (C : oK l g own cc lam mc x) (h0 : 0 ≤ z) (h1 : z < 60) (hd : decode cc pc = .ok (.iastore, 1)) (kk : oW l g x (o_up σ 41 0 z.toNat v) (pc + 1) vs st k) : oW l g x σ pc vs (oi v :: oi z :: .ref (g.2.1 41 0) :: st) k := o_iast (K := 41) C (by decide) (fun _ => rfl) h0 h1 hd kk
theorem al_41 {l : Launch} {g : oG} {own : String} {cc : ByteArray} {lam mc : Nat} {x : oCtx} {σ : oMem} {pc : Nat} {vs : List (Option Value)} {st : List Value} {k : Nat} (C : oK l g own cc lam mc x) (hd : decode cc pc = .ok (.arraylength, 1)) (kk : oW l g x σ (pc + 1) vs (oi 60 :: st) k) : oW l g x σ pc vs (.ref (g.2.1 41 0) :: st) k := o_alen (K := 41) (n := 60) (t0 := 0) C (by decide) rfl rfl rfl hd kk
theorem ia_42 {l : Launch} {g : oG} {own : String} {cc : ByteArray} {lam mc : Nat} {x : oCtx} {σ : oMem} {pc : Nat} {vs : List (Option Value)} {st : List Value} {k : Nat} {z : Int} (C : oK l g own cc lam mc x) (h0 : 0 ≤ z) (h1 : z < 7) (hd : decode cc pc = .ok (.iaload, 1)) (kk : oW l g x σ (pc + 1) vs (oi (σ 42 0 z.toNat) :: st) k) : oW l g x σ pc vs (oi z :: .ref (g.2.1 42 0) :: st) k := o_iald (K := 42) C (by decide) (fun _ => rfl) h0 h1 hd kk
theorem is_42 {l : Launch} {g : oG} {own : String} {cc : ByteArray} {lam mc : Nat} {x : oCtx} {σ : oMem} {pc : Nat} {vs : List (Option Value)} {st : List Value} {k : Nat} {z v : Int} (C : oK l g own cc lam mc x) (h0 : 0 ≤ z) (h1 : z < 7) (hd : decode cc pc = .ok (.iastore, 1)) (kk : oW l g x (o_up σ 42 0 z.toNat v) (pc + 1) vs st k) : oW l g x σ pc vs (oi v :: oi z :: .ref (g.2.1 42 0) :: st) k := o_iast (K := 42) C (by decide) (fun _ => rfl) h0 h1 hd kk
theorem al_42 {l : Launch} {g : oG} {own : String} {cc : ByteArray} {lam mc : Nat} {x : oCtx} {σ : oMem} {pc : Nat} {vs : List (Option Value)} {st : List Value} {k : Nat} (C : oK l g own cc lam mc x) (hd : decode cc pc = .ok (.arraylength, 1)) (kk : oW l g x σ (pc + 1) vs (oi 7 :: st) k) : oW l g x σ pc vs (.ref (g.2.1 42 0) :: st) k := o_alen (K := 42) (n := 7) (t0 := 0) C (by decide) rfl rfl rfl hd kk
theorem ia_43 {l : Launch} {g : oG} {own : String} {cc : ByteArray} {lam mc : Nat} {x : oCtx} {σ : oMem} {pc : Nat} {vs : List (Option Value)} {st : List Value} {k : Nat} {z : Int} (C : oK l g own cc lam mc x) (h0 : 0 ≤ z) (h1 : z < 7) (hd : decode cc pc = .ok (.iaload, 1)) (kk : oW l g x σ (pc + 1) vs (oi (σ 43 0 z.toNat) :: st) k) : oW l g x σ pc vs (oi z :: .ref (g.2.1 43 0) :: st) k := o_iald (K := 43) C (by decide) (fun _ => rfl) h0 h1 hd kk
theorem is_43 {l : Launch} {g : oG} {own : String} {cc : ByteArray} {lam mc : Nat} {x : oCtx} {σ : oMem} {pc : Nat} {vs : List (Option Value)} {st : List Value} {k : Nat} {z v : Int} (C : oK l g own cc lam mc x) (h0 : 0 ≤ z) (h1 : z < 7) (hd : decode cc pc = .ok (.iastore, 1)) (kk : oW l g x (o_up σ 43 0 z.toNat v) (pc + 1) vs st k) : oW l g x σ pc vs (oi v :: oi z :: .ref (g.2.1 43 0) :: st) k := o_iast (K := 43) C (by decide) (fun _ => rfl) h0 h1 hd kk
theorem al_43 {l : Launch} {g : oG} {own : String} {cc : ByteArray} {lam mc : Nat} {x : oCtx} {σ : oMem} {pc : Nat} {vs : List (Option Value)} {st : List Value} {k : Nat} (C : oK l g own cc lam mc x) (hd : decode cc pc = .ok (.arraylength, 1)) (kk : oW l g x σ (pc + 1) vs (oi 7 :: st) k) : oW l g x σ pc vs (.ref (g.2.1 43 0) :: st) k := o_alen (K := 43) (n := 7) (t0 := 0) C (by decide) rfl rfl rfl hd kk
theorem ia_44 {l : Launch} {g : oG} {own : String} {cc : ByteArray} {lam mc : Nat} {x : oCtx} {σ : oMem} {pc : Nat} {vs : List (Option Value)} {st : List Value} {k : Nat} {z : Int} (C : oK l g own cc lam mc x) (h0 : 0 ≤ z) (h1 : z < 2001) (hd : decode cc pc = .ok (.iaload, 1)) (kk : oW l g x σ (pc + 1) vs (oi (σ 44 0 z.toNat) :: st) k) : oW l g x σ pc vs (oi z :: .ref (g.2.1 44 0) :: st) k := o_iald (K := 44) C (by decide) (fun _ => rfl) h0 h1 hd kk
theorem is_44 {l : Launch} {g : oG} {own : String} {cc : ByteArray} {lam mc : Nat} {x : oCtx} {σ : oMem} {pc : Nat} {vs : List (Option Value)} {st : List Value} {k : Nat} {z v : Int} (C : oK l g own cc lam mc x) (h0 : 0 ≤ z) (h1 : z < 2001) (hd : decode cc pc = .ok (.iastore, 1)) (kk : oW l g x (o_up σ 44 0 z.toNat v) (pc + 1) vs st k) : oW l g x σ pc vs (oi v :: oi z :: .ref (g.2.1 44 0) :: st) k := o_iast (K := 44) C (by decide) (fun _ => rfl) h0 h1 hd kk
theorem al_44 {l : Launch} {g : oG} {own : String} {cc : ByteArray} {lam mc : Nat} {x : oCtx} {σ : oMem} {pc : Nat} {vs : List (Option Value)} {st : List Value} {k : Nat} (C : oK l g own cc lam mc x) (hd : decode cc pc = .ok (.arraylength, 1)) (kk : oW l g x σ (pc + 1) vs (oi 2001 :: st) k) : oW l g x σ pc vs (.ref (g.2.1 44 0) :: st) k := o_alen (K := 44) (n := 2001) (t0 := 0) C (by decide) rfl rfl rfl hd kk
theorem ia_45 {l : Launch} {g : oG} {own : String} {cc : ByteArray} {lam mc : Nat} {x : oCtx} {σ : oMem} {pc : Nat} {vs : List (Option Value)} {st : List Value} {k : Nat} {z : Int} (C : oK l g own cc lam mc x) (h0 : 0 ≤ z) (h1 : z < 1024) (hd : decode cc pc = .ok (.iaload, 1)) (kk : oW l g x σ (pc + 1) vs (oi (σ 45 0 z.toNat) :: st) k) : oW l g x σ pc vs (oi z :: .ref (g.2.1 45 0) :: st) k := o_iald (K := 45) C (by decide) (fun _ => rfl) h0 h1 hd kk
theorem is_45 {l : Launch} {g : oG} {own : String} {cc : ByteArray} {lam mc : Nat} {x : oCtx} {σ : oMem} {pc : Nat} {vs : List (Option Value)} {st : List Value} {k : Nat} {z v : Int} (C : oK l g own cc lam mc x) (h0 : 0 ≤ z) (h1 : z < 1024) (hd : decode cc pc = .ok (.iastore, 1)) (kk : oW l g x (o_up σ 45 0 z.toNat v) (pc + 1) vs st k) : oW l g x σ pc vs (oi v :: oi z :: .ref (g.2.1 45 0) :: st) k := o_iast (K := 45) C (by decide) (fun _ => rfl) h0 h1 hd kk
theorem al_45 {l : Launch} {g : oG} {own : String} {cc : ByteArray} {lam mc : Nat} {x : oCtx} {σ : oMem} {pc : Nat} {vs : List (Option Value)} {st : List Value} {k : Nat} (C : oK l g own cc lam mc x) (hd : decode cc pc = .ok (.arraylength, 1)) (kk : oW l g x σ (pc + 1) vs (oi 1024 :: st) k) : oW l g x σ pc vs (.ref (g.2.1 45 0) :: st) k := o_alen (K := 45) (n := 1024) (t0 := 0) C (by decide) rfl rfl rfl hd kk
theorem ia_46 {l : Launch} {g : oG} {own : String} {cc : ByteArray} {lam mc : Nat} {x : oCtx} {σ : oMem} {pc : Nat} {vs : List (Option Value)} {st : List Value} {k : Nat} {z : Int} (C : oK l g own cc lam mc x) (h0 : 0 ≤ z) (h1 : z < 7) (hd : decode cc pc = .ok (.iaload, 1)) (kk : oW l g x σ (pc + 1) vs (oi (σ 46 0 z.toNat) :: st) k) : oW l g x σ pc vs (oi z :: .ref (g.2.1 46 0) :: st) k := o_iald (K := 46) C (by decide) (fun _ => rfl) h0 h1 hd kk
theorem is_46 {l : Launch} {g : oG} {own : String} {cc : ByteArray} {lam mc : Nat} {x : oCtx} {σ : oMem} {pc : Nat} {vs : List (Option Value)} {st : List Value} {k : Nat} {z v : Int} (C : oK l g own cc lam mc x) (h0 : 0 ≤ z) (h1 : z < 7) (hd : decode cc pc = .ok (.iastore, 1)) (kk : oW l g x (o_up σ 46 0 z.toNat v) (pc + 1) vs st k) : oW l g x σ pc vs (oi v :: oi z :: .ref (g.2.1 46 0) :: st) k := o_iast (K := 46) C (by decide) (fun _ => rfl) h0 h1 hd kk
theorem al_46 {l : Launch} {g : oG} {own : String} {cc : ByteArray} {lam mc : Nat} {x : oCtx} {σ : oMem} {pc : Nat} {vs : List (Option Value)} {st : List Value} {k : Nat} (C : oK l g own cc lam mc x) (hd : decode cc pc = .ok (.arraylength, 1)) (kk : oW l g x σ (pc + 1) vs (oi 7 :: st) k) : oW l g x σ pc vs (.ref (g.2.1 46 0) :: st) k := o_alen (K := 46) (n := 7) (t0 := 0) C (by decide) rfl rfl rfl hd kk
theorem cl_X5_83 {l : Launch} {g : oG} {cc : ByteArray} {lam mc : Nat} {x : oCtx} {σ : oMem} {pc : Nat} {vs : List (Option Value)} {rest : List Value} {k : Nat} {lam' mc' : Nat} {a0 : Int} {a1 : Int} {a2 : Int} {post : oMem → Prop} {px pxc : String → Prop} (T : oT l g RX5 cc mc σ px x) (C : oK l g RX5 cc lam mc x) (hM : oXv l g yX5_requireRange (.code yX5_requireRange cX5_requireRange 3 none) lam' mc' [oi a0, oi a1, oi a2] σ post pxc) (hpx : ∀ E, pxc E → px E) (hlm : lam' + 1 ≤ lam) (hk : k + mc' ≤ mc) (hW : (rest.map fun v => v.category).sum ≤ 8) (hd : decode cc pc = .ok (.invokestatic 83, 3)) (kk : ∀ σ' : oMem, post σ' → oW l g x σ' (pc + 3) vs rest (k + mc')) : oW l g x σ pc vs (oi a2 :: oi a1 :: oi a0 :: rest) k := o_callSxv (n := 3) (As := [oi a0, oi a1, oi a2]) T C hM hpx kw_6_10 kw_6_11 kw_1_2 kw_6_12 rfl (by decide +kernel) (by decide) hlm hk rfl hW hd kk
theorem cl_X6_95 {l : Launch} {g : oG} {cc : ByteArray} {lam mc : Nat} {x : oCtx} {σ : oMem} {pc : Nat} {vs : List (Option Value)} {rest : List Value} {k : Nat} {lam' mc' : Nat} {a0 : Int} {a1 : Int} {a2 : Int} {post : Int → oMem → Prop} (C : oK l g RX6 cc lam mc x) (hM : oMi l g yX6_in (.code yX6_in cX6_in 3 (some .boolean)) lam' mc' [oi a0, oi a1, oi a2] σ post) (hlm : lam' + 1 ≤ lam) (hk : k + mc' ≤ mc) (hW : (rest.map fun v => v.category).sum ≤ 8) (hd : decode cc pc = .ok (.invokestatic 95, 3)) (kk : ∀ (z : Int) (σ' : oMem), post z σ' → oW l g x σ' (pc + 3) vs (oi z :: rest) (k + mc')) : oW l g x σ pc vs (oi a2 :: oi a1 :: oi a0 :: rest) k := o_callSi (n := 3) (As := [oi a0, oi a1, oi a2]) C hM kw_6_23 kw_7_0 kw_1_5 kw_7_1 rfl (by decide +kernel) (by decide) hlm hk rfl hW hd kk
theorem cl_X6_102 {l : Launch} {g : oG} {cc : ByteArray} {lam mc : Nat} {x : oCtx} {σ : oMem} {pc : Nat} {vs : List (Option Value)} {rest : List Value} {k : Nat} {lam' mc' : Nat} {a0 : Int} {a1 : Int} {post : Int → oMem → Prop} (C : oK l g RX6 cc lam mc x) (hM : oMi l g yX6_asked_ (.code yX6_asked_ cX6_asked_ 3 (some .boolean)) lam' mc' [.ref (g.2.1 24 0), oi a0, oi a1] σ post) (hlm : lam' + 1 ≤ lam) (hk : k + mc' ≤ mc) (hW : (rest.map fun v => v.category).sum ≤ 8) (hd : decode cc pc = .ok (.invokevirtual 102, 3)) (kk : ∀ (z : Int) (σ' : oMem), post z σ' → oW l g x σ' (pc + 3) vs (oi z :: rest) (k + mc')) : oW l g x σ pc vs (oi a1 :: oi a0 :: .ref (g.2.1 24 0) :: rest) k := o_callVi (n := 2) (As := [oi a0, oi a1]) C hM kw_7_2 kw_7_3 kw_7_4 kw_1_5 kw_7_5 (by decide) ⟨_, _, _, rfl, rfl, rfl⟩ (by decide +kernel) (by decide) hlm hk rfl hW hd kk
theorem cl_X5_98 {l : Launch} {g : oG} {cc : ByteArray} {lam mc : Nat} {x : oCtx} {σ : oMem} {pc : Nat} {vs : List (Option Value)} {rest : List Value} {k : Nat} {lam' mc' : Nat} {a0 : Int} {post : oMem → Prop} {px pxc : String → Prop} (T : oT l g RX5 cc mc σ px x) (C : oK l g RX5 cc lam mc x) (hM : oXv l g yX5_requireCoil (.code yX5_requireCoil cX5_requireCoil 2 none) lam' mc' [.ref (g.2.1 0 0), oi a0] σ post pxc) (hpx : ∀ E, pxc E → px E) (hlm : lam' + 1 ≤ lam) (hk : k + mc' ≤ mc) (hW : (rest.map fun v => v.category).sum ≤ 8) (hd : decode cc pc = .ok (.invokevirtual 98, 3)) (kk : ∀ σ' : oMem, post σ' → oW l g x σ' (pc + 3) vs rest (k + mc')) : oW l g x σ pc vs (oi a0 :: .ref (g.2.1 0 0) :: rest) k := o_callVxv (n := 1) (As := [oi a0]) T C hM hpx kw_7_19 kw_7_20 kw_7_21 kw_1_2 kw_7_22 (by decide) ⟨_, _, _, rfl, rfl, rfl⟩ (by decide +kernel) (by decide) hlm hk rfl hW hd kk
theorem cl_X5_260 {l : Launch} {g : oG} {cc : ByteArray} {lam mc : Nat} {x : oCtx} {σ : oMem} {pc : Nat} {vs : List (Option Value)} {rest : List Value} {k : Nat} {lam' mc' : Nat} {a0 : Int} {post : Int → oMem → Prop} (C : oK l g RX5 cc lam mc x) (hM : oMi l g yX5_hasCoil (.code yX5_hasCoil cX5_hasCoil 2 (some .boolean)) lam' mc' [.ref (g.2.1 0 0), oi a0] σ post) (hlm : lam' + 1 ≤ lam) (hk : k + mc' ≤ mc) (hW : (rest.map fun v => v.category).sum ≤ 8) (hd : decode cc pc = .ok (.invokevirtual 260, 3)) (kk : ∀ (z : Int) (σ' : oMem), post z σ' → oW l g x σ' (pc + 3) vs (oi z :: rest) (k + mc')) : oW l g x σ pc vs (oi a0 :: .ref (g.2.1 0 0) :: rest) k := o_callVi (n := 1) (As := [oi a0]) C hM kw_8_1 kw_8_2 kw_8_3 kw_1_2 kw_8_4 (by decide) ⟨_, _, _, rfl, rfl, rfl⟩ (by decide +kernel) (by decide) hlm hk rfl hW hd kk
theorem cl_X0_55 {l : Launch} {g : oG} {cc : ByteArray} {lam mc : Nat} {x : oCtx} {σ : oMem} {pc : Nat} {vs : List (Option Value)} {rest : List Value} {k : Nat} {lam' mc' : Nat} {i : Nat}  {post : Int → oMem → Prop} (C : oK l g RX0 cc lam mc x) (hM : oMi l g yX0_hasMostDefects (.code yX0_hasMostDefects cX0_hasMostDefects 1 (some .boolean)) lam' mc' [.ref (g.2.1 1 i)] σ post) (hi : i < 20) (hlm : lam' + 1 ≤ lam) (hk : k + mc' ≤ mc) (hW : (rest.map fun v => v.category).sum ≤ 8) (hd : decode cc pc = .ok (.invokevirtual 55, 3)) (kk : ∀ (z : Int) (σ' : oMem), post z σ' → oW l g x σ' (pc + 3) vs (oi z :: rest) (k + mc')) : oW l g x σ pc vs (.ref (g.2.1 1 i) :: rest) k := o_callVi (n := 0) (As := []) C hM kw_8_14 kw_8_8 kw_8_9 kw_2_19 kw_8_10 hi ⟨_, _, _, rfl, rfl, rfl⟩ (by decide +kernel) (by decide) hlm hk rfl hW hd kk
theorem cl_X6_106 {l : Launch} {g : oG} {cc : ByteArray} {lam mc : Nat} {x : oCtx} {σ : oMem} {pc : Nat} {vs : List (Option Value)} {rest : List Value} {k : Nat} {lam' mc' : Nat} {a0 : Int} {post : Int → oMem → Prop} (C : oK l g RX6 cc lam mc x) (hM : oMi l g yX6_isCoil (.code yX6_isCoil cX6_isCoil 2 (some .boolean)) lam' mc' [.ref (g.2.1 24 0), oi a0] σ post) (hlm : lam' + 1 ≤ lam) (hk : k + mc' ≤ mc) (hW : (rest.map fun v => v.category).sum ≤ 8) (hd : decode cc pc = .ok (.invokevirtual 106, 3)) (kk : ∀ (z : Int) (σ' : oMem), post z σ' → oW l g x σ' (pc + 3) vs (oi z :: rest) (k + mc')) : oW l g x σ pc vs (oi a0 :: .ref (g.2.1 24 0) :: rest) k := o_callVi (n := 1) (As := [oi a0]) C hM kw_9_2 kw_9_3 kw_9_4 kw_1_5 kw_9_5 (by decide) ⟨_, _, _, rfl, rfl, rfl⟩ (by decide +kernel) (by decide) hlm hk rfl hW hd kk
theorem cl_X6_110 {l : Launch} {g : oG} {cc : ByteArray} {lam mc : Nat} {x : oCtx} {σ : oMem} {pc : Nat} {vs : List (Option Value)} {rest : List Value} {k : Nat} {lam' mc' : Nat} {a0 : Int} {a1 : Int} {a2 : Int} {post : Int → oMem → Prop} (C : oK l g RX6 cc lam mc x) (hM : oMi l g yX6_asked__ (.code yX6_asked__ cX6_asked__ 4 (some .boolean)) lam' mc' [.ref (g.2.1 24 0), oi a0, oi a1, oi a2] σ post) (hlm : lam' + 1 ≤ lam) (hk : k + mc' ≤ mc) (hW : (rest.map fun v => v.category).sum ≤ 8) (hd : decode cc pc = .ok (.invokevirtual 110, 3)) (kk : ∀ (z : Int) (σ' : oMem), post z σ' → oW l g x σ' (pc + 3) vs (oi z :: rest) (k + mc')) : oW l g x σ pc vs (oi a2 :: oi a1 :: oi a0 :: .ref (g.2.1 24 0) :: rest) k := o_callVi (n := 3) (As := [oi a0, oi a1, oi a2]) C hM kw_9_6 kw_9_7 kw_9_8 kw_1_5 kw_9_9 (by decide) ⟨_, _, _, rfl, rfl, rfl⟩ (by decide +kernel) (by decide) hlm hk rfl hW hd kk
theorem cl_X6_113 {l : Launch} {g : oG} {cc : ByteArray} {lam mc : Nat} {x : oCtx} {σ : oMem} {pc : Nat} {vs : List (Option Value)} {rest : List Value} {k : Nat} {lam' mc' : Nat} {a0 : Int} {post : Int → oMem → Prop} (C : oK l g RX6 cc lam mc x) (hM : oMi l g yX6_cutOut (.code yX6_cutOut cX6_cutOut 6 (some .int)) lam' mc' [.ref (g.2.1 24 0), oi a0] σ post) (hlm : lam' + 1 ≤ lam) (hk : k + mc' ≤ mc) (hW : (rest.map fun v => v.category).sum ≤ 8) (hd : decode cc pc = .ok (.invokevirtual 113, 3)) (kk : ∀ (z : Int) (σ' : oMem), post z σ' → oW l g x σ' (pc + 3) vs (oi z :: rest) (k + mc')) : oW l g x σ pc vs (oi a0 :: .ref (g.2.1 24 0) :: rest) k := o_callVi (n := 1) (As := [oi a0]) C hM kw_9_10 kw_9_11 kw_9_12 kw_1_5 kw_9_13 (by decide) ⟨_, _, _, rfl, rfl, rfl⟩ (by decide +kernel) (by decide) hlm hk rfl hW hd kk
theorem cl_X6_117 {l : Launch} {g : oG} {cc : ByteArray} {lam mc : Nat} {x : oCtx} {σ : oMem} {pc : Nat} {vs : List (Option Value)} {rest : List Value} {k : Nat} {lam' mc' : Nat} {a0 : Int} {post : Int → oMem → Prop} (C : oK l g RX6 cc lam mc x) (hM : oMi l g yX6_asked (.code yX6_asked cX6_asked 2 (some .boolean)) lam' mc' [.ref (g.2.1 24 0), oi a0] σ post) (hlm : lam' + 1 ≤ lam) (hk : k + mc' ≤ mc) (hW : (rest.map fun v => v.category).sum ≤ 8) (hd : decode cc pc = .ok (.invokevirtual 117, 3)) (kk : ∀ (z : Int) (σ' : oMem), post z σ' → oW l g x σ' (pc + 3) vs (oi z :: rest) (k + mc')) : oW l g x σ pc vs (oi a0 :: .ref (g.2.1 24 0) :: rest) k := o_callVi (n := 1) (As := [oi a0]) C hM kw_10_1 kw_10_2 kw_10_3 kw_1_5 kw_10_4 (by decide) ⟨_, _, _, rfl, rfl, rfl⟩ (by decide +kernel) (by decide) hlm hk rfl hW hd kk
theorem cl_X3_19 {l : Launch} {g : oG} {cc : ByteArray} {lam mc : Nat} {x : oCtx} {σ : oMem} {pc : Nat} {vs : List (Option Value)} {rest : List Value} {k : Nat} {lam' mc' : Nat} {i : Nat}  {post : Int → oMem → Prop} (C : oK l g RX3 cc lam mc x) (hM : oMi l g yX3_isFull (.code yX3_isFull cX3_isFull 1 (some .boolean)) lam' mc' [.ref (g.2.1 8 i)] σ post) (hi : i < 11) (hlm : lam' + 1 ≤ lam) (hk : k + mc' ≤ mc) (hW : (rest.map fun v => v.category).sum ≤ 8) (hd : decode cc pc = .ok (.invokevirtual 19, 3)) (kk : ∀ (z : Int) (σ' : oMem), post z σ' → oW l g x σ' (pc + 3) vs (oi z :: rest) (k + mc')) : oW l g x σ pc vs (.ref (g.2.1 8 i) :: rest) k := o_callVi (n := 0) (As := []) C hM kw_11_11 kw_11_5 kw_11_6 kw_1_23 kw_11_7 hi ⟨_, _, _, rfl, rfl, rfl⟩ (by decide +kernel) (by decide) hlm hk rfl hW hd kk
theorem cl_X6_124 {l : Launch} {g : oG} {cc : ByteArray} {lam mc : Nat} {x : oCtx} {σ : oMem} {pc : Nat} {vs : List (Option Value)} {rest : List Value} {k : Nat} {lam' mc' : Nat} {a0 : Int} {post : oMem → Prop} (C : oK l g RX6 cc lam mc x) (hM : oMv l g yX6_drafts (.code yX6_drafts cX6_drafts 2 none) lam' mc' [.ref (g.2.1 24 0), oi a0] σ post) (hlm : lam' + 1 ≤ lam) (hk : k + mc' ≤ mc) (hW : (rest.map fun v => v.category).sum ≤ 8) (hd : decode cc pc = .ok (.invokevirtual 124, 3)) (kk : ∀ σ' : oMem, post σ' → oW l g x σ' (pc + 3) vs rest (k + mc')) : oW l g x σ pc vs (oi a0 :: .ref (g.2.1 24 0) :: rest) k := o_callVv (n := 1) (As := [oi a0]) C hM kw_11_16 kw_11_17 kw_11_18 kw_1_5 kw_11_19 (by decide) ⟨_, _, _, rfl, rfl, rfl⟩ (by decide +kernel) (by decide) hlm hk rfl hW hd kk
theorem cl_X6_128 {l : Launch} {g : oG} {cc : ByteArray} {lam mc : Nat} {x : oCtx} {σ : oMem} {pc : Nat} {vs : List (Option Value)} {rest : List Value} {k : Nat} {lam' mc' : Nat} {a0 : Int} {post : Int → oMem → Prop} (C : oK l g RX6 cc lam mc x) (hM : oMi l g yX6_told (.code yX6_told cX6_told 2 (some .int)) lam' mc' [.ref (g.2.1 24 0), oi a0] σ post) (hlm : lam' + 1 ≤ lam) (hk : k + mc' ≤ mc) (hW : (rest.map fun v => v.category).sum ≤ 8) (hd : decode cc pc = .ok (.invokevirtual 128, 3)) (kk : ∀ (z : Int) (σ' : oMem), post z σ' → oW l g x σ' (pc + 3) vs (oi z :: rest) (k + mc')) : oW l g x σ pc vs (oi a0 :: .ref (g.2.1 24 0) :: rest) k := o_callVi (n := 1) (As := [oi a0]) C hM kw_12_7 kw_12_8 kw_12_9 kw_1_5 kw_12_10 (by decide) ⟨_, _, _, rfl, rfl, rfl⟩ (by decide +kernel) (by decide) hlm hk rfl hW hd kk
theorem cl_X3_23 {l : Launch} {g : oG} {cc : ByteArray} {lam mc : Nat} {x : oCtx} {σ : oMem} {pc : Nat} {vs : List (Option Value)} {rest : List Value} {k : Nat} {lam' mc' : Nat} {i : Nat}  {post : oMem → Prop} (C : oK l g RX3 cc lam mc x) (hM : oMv l g yX3_empty (.code yX3_empty cX3_empty 1 none) lam' mc' [.ref (g.2.1 8 i)] σ post) (hi : i < 11) (hlm : lam' + 1 ≤ lam) (hk : k + mc' ≤ mc) (hW : (rest.map fun v => v.category).sum ≤ 8) (hd : decode cc pc = .ok (.invokevirtual 23, 3)) (kk : ∀ σ' : oMem, post σ' → oW l g x σ' (pc + 3) vs rest (k + mc')) : oW l g x σ pc vs (.ref (g.2.1 8 i) :: rest) k := o_callVv (n := 0) (As := []) C hM kw_13_19 kw_12_0 kw_12_1 kw_1_23 kw_12_2 hi ⟨_, _, _, rfl, rfl, rfl⟩ (by decide +kernel) (by decide) hlm hk rfl hW hd kk
theorem cl_X3_26 {l : Launch} {g : oG} {cc : ByteArray} {lam mc : Nat} {x : oCtx} {σ : oMem} {pc : Nat} {vs : List (Option Value)} {rest : List Value} {k : Nat} {lam' mc' : Nat} {i : Nat} {a0 : Int} {post : oMem → Prop} (C : oK l g RX3 cc lam mc x) (hM : oMv l g yX3_append (.code yX3_append cX3_append 2 none) lam' mc' [.ref (g.2.1 8 i), oi a0] σ post) (hi : i < 11) (hlm : lam' + 1 ≤ lam) (hk : k + mc' ≤ mc) (hW : (rest.map fun v => v.category).sum ≤ 8) (hd : decode cc pc = .ok (.invokevirtual 26, 3)) (kk : ∀ σ' : oMem, post σ' → oW l g x σ' (pc + 3) vs rest (k + mc')) : oW l g x σ pc vs (oi a0 :: .ref (g.2.1 8 i) :: rest) k := o_callVv (n := 1) (As := [oi a0]) C hM kw_13_20 kw_11_8 kw_11_9 kw_1_23 kw_11_10 hi ⟨_, _, _, rfl, rfl, rfl⟩ (by decide +kernel) (by decide) hlm hk rfl hW hd kk
theorem cl_X5_159 {l : Launch} {g : oG} {cc : ByteArray} {lam mc : Nat} {x : oCtx} {σ : oMem} {pc : Nat} {vs : List (Option Value)} {rest : List Value} {k : Nat} {lam' mc' : Nat} {a0 : Int} {post : oMem → Prop} {px pxc : String → Prop} (T : oT l g RX5 cc mc σ px x) (C : oK l g RX5 cc lam mc x) (hM : oXv l g yX5_requirePattern (.code yX5_requirePattern cX5_requirePattern 2 none) lam' mc' [.ref (g.2.1 0 0), oi a0] σ post pxc) (hpx : ∀ E, pxc E → px E) (hlm : lam' + 1 ≤ lam) (hk : k + mc' ≤ mc) (hW : (rest.map fun v => v.category).sum ≤ 8) (hd : decode cc pc = .ok (.invokevirtual 159, 3)) (kk : ∀ σ' : oMem, post σ' → oW l g x σ' (pc + 3) vs rest (k + mc')) : oW l g x σ pc vs (oi a0 :: .ref (g.2.1 0 0) :: rest) k := o_callVxv (n := 1) (As := [oi a0]) T C hM hpx kw_14_9 kw_14_10 kw_14_11 kw_1_2 kw_14_12 (by decide) ⟨_, _, _, rfl, rfl, rfl⟩ (by decide +kernel) (by decide) hlm hk rfl hW hd kk
theorem cl_X5_265 {l : Launch} {g : oG} {cc : ByteArray} {lam mc : Nat} {x : oCtx} {σ : oMem} {pc : Nat} {vs : List (Option Value)} {rest : List Value} {k : Nat} {lam' mc' : Nat} {a0 : Int} {post : Int → oMem → Prop} (C : oK l g RX5 cc lam mc x) (hM : oMi l g yX5_hasPattern (.code yX5_hasPattern cX5_hasPattern 2 (some .boolean)) lam' mc' [.ref (g.2.1 0 0), oi a0] σ post) (hlm : lam' + 1 ≤ lam) (hk : k + mc' ≤ mc) (hW : (rest.map fun v => v.category).sum ≤ 8) (hd : decode cc pc = .ok (.invokevirtual 265, 3)) (kk : ∀ (z : Int) (σ' : oMem), post z σ' → oW l g x σ' (pc + 3) vs (oi z :: rest) (k + mc')) : oW l g x σ pc vs (oi a0 :: .ref (g.2.1 0 0) :: rest) k := o_callVi (n := 1) (As := [oi a0]) C hM kw_14_13 kw_14_14 kw_14_15 kw_1_2 kw_14_16 (by decide) ⟨_, _, _, rfl, rfl, rfl⟩ (by decide +kernel) (by decide) hlm hk rfl hW hd kk
theorem cl_X5_162 {l : Launch} {g : oG} {cc : ByteArray} {lam mc : Nat} {x : oCtx} {σ : oMem} {pc : Nat} {vs : List (Option Value)} {rest : List Value} {k : Nat} {lam' mc' : Nat} {a0 : Nat} {a1 : Nat} {post : Int → oMem → Prop} (C : oK l g RX5 cc lam mc x) (hM : oMi l g yX5_canBeCutFrom (.code yX5_canBeCutFrom cX5_canBeCutFrom 3 (some .boolean)) lam' mc' [.ref (g.2.1 0 0), .ref (g.2.1 8 a0), .ref (g.2.1 1 a1)] σ post) (hlm : lam' + 1 ≤ lam) (hk : k + mc' ≤ mc) (hW : (rest.map fun v => v.category).sum ≤ 8) (hd : decode cc pc = .ok (.invokevirtual 162, 3)) (kk : ∀ (z : Int) (σ' : oMem), post z σ' → oW l g x σ' (pc + 3) vs (oi z :: rest) (k + mc')) : oW l g x σ pc vs (.ref (g.2.1 1 a1) :: .ref (g.2.1 8 a0) :: .ref (g.2.1 0 0) :: rest) k := o_callVi (n := 2) (As := [.ref (g.2.1 8 a0), .ref (g.2.1 1 a1)]) C hM kw_14_17 kw_14_18 kw_14_19 kw_1_2 kw_14_20 (by decide) ⟨_, _, _, rfl, rfl, rfl⟩ (by decide +kernel) (by decide) hlm hk rfl hW hd kk
theorem cl_X5_170 {l : Launch} {g : oG} {cc : ByteArray} {lam mc : Nat} {x : oCtx} {σ : oMem} {pc : Nat} {vs : List (Option Value)} {rest : List Value} {k : Nat} {lam' mc' : Nat} {a0 : Nat} {post : Int → oMem → Prop} (C : oK l g RX5 cc lam mc x) (hM : oMi l g yX5_roomOf (.code yX5_roomOf cX5_roomOf 2 (some .int)) lam' mc' [.ref (g.2.1 0 0), .ref (g.2.1 1 a0)] σ post) (hlm : lam' + 1 ≤ lam) (hk : k + mc' ≤ mc) (hW : (rest.map fun v => v.category).sum ≤ 8) (hd : decode cc pc = .ok (.invokevirtual 170, 3)) (kk : ∀ (z : Int) (σ' : oMem), post z σ' → oW l g x σ' (pc + 3) vs (oi z :: rest) (k + mc')) : oW l g x σ pc vs (.ref (g.2.1 1 a0) :: .ref (g.2.1 0 0) :: rest) k := o_callVi (n := 1) (As := [.ref (g.2.1 1 a0)]) C hM kw_15_0 kw_15_1 kw_15_2 kw_1_2 kw_15_3 (by decide) ⟨_, _, _, rfl, rfl, rfl⟩ (by decide +kernel) (by decide) hlm hk rfl hW hd kk
theorem cl_X6_131 {l : Launch} {g : oG} {cc : ByteArray} {lam mc : Nat} {x : oCtx} {σ : oMem} {pc : Nat} {vs : List (Option Value)} {rest : List Value} {k : Nat} {lam' mc' : Nat} {a0 : Int} {post : Int → oMem → Prop} (C : oK l g RX6 cc lam mc x) (hM : oMi l g yX6_isPattern (.code yX6_isPattern cX6_isPattern 2 (some .boolean)) lam' mc' [.ref (g.2.1 24 0), oi a0] σ post) (hlm : lam' + 1 ≤ lam) (hk : k + mc' ≤ mc) (hW : (rest.map fun v => v.category).sum ≤ 8) (hd : decode cc pc = .ok (.invokevirtual 131, 3)) (kk : ∀ (z : Int) (σ' : oMem), post z σ' → oW l g x σ' (pc + 3) vs (oi z :: rest) (k + mc')) : oW l g x σ pc vs (oi a0 :: .ref (g.2.1 24 0) :: rest) k := o_callVi (n := 1) (As := [oi a0]) C hM kw_15_11 kw_15_12 kw_15_13 kw_1_5 kw_15_14 (by decide) ⟨_, _, _, rfl, rfl, rfl⟩ (by decide +kernel) (by decide) hlm hk rfl hW hd kk
theorem cl_X6_134 {l : Launch} {g : oG} {cc : ByteArray} {lam mc : Nat} {x : oCtx} {σ : oMem} {pc : Nat} {vs : List (Option Value)} {rest : List Value} {k : Nat} {lam' mc' : Nat} {a0 : Int} {a1 : Int} {post : Int → oMem → Prop} (C : oK l g RX6 cc lam mc x) (hM : oMi l g yX6_canRun (.code yX6_canRun cX6_canRun 5 (some .boolean)) lam' mc' [.ref (g.2.1 24 0), oi a0, oi a1] σ post) (hlm : lam' + 1 ≤ lam) (hk : k + mc' ≤ mc) (hW : (rest.map fun v => v.category).sum ≤ 8) (hd : decode cc pc = .ok (.invokevirtual 134, 3)) (kk : ∀ (z : Int) (σ' : oMem), post z σ' → oW l g x σ' (pc + 3) vs (oi z :: rest) (k + mc')) : oW l g x σ pc vs (oi a1 :: oi a0 :: .ref (g.2.1 24 0) :: rest) k := o_callVi (n := 2) (As := [oi a0, oi a1]) C hM kw_15_15 kw_15_16 kw_15_17 kw_1_5 kw_15_18 (by decide) ⟨_, _, _, rfl, rfl, rfl⟩ (by decide +kernel) (by decide) hlm hk rfl hW hd kk
theorem cl_X5_166 {l : Launch} {g : oG} {cc : ByteArray} {lam mc : Nat} {x : oCtx} {σ : oMem} {pc : Nat} {vs : List (Option Value)} {rest : List Value} {k : Nat} {lam' mc' : Nat} {a0 : Nat} {post : oMem → Prop} (C : oK l g RX5 cc lam mc x) (hM : oMv l g yX5_offerWidthsFor (.code yX5_offerWidthsFor cX5_offerWidthsFor 3 none) lam' mc' [.ref (g.2.1 0 0), .ref (g.2.1 1 a0)] σ post) (hlm : lam' + 1 ≤ lam) (hk : k + mc' ≤ mc) (hW : (rest.map fun v => v.category).sum ≤ 8) (hd : decode cc pc = .ok (.invokevirtual 166, 3)) (kk : ∀ σ' : oMem, post σ' → oW l g x σ' (pc + 3) vs rest (k + mc')) : oW l g x σ pc vs (.ref (g.2.1 1 a0) :: .ref (g.2.1 0 0) :: rest) k := o_callVv (n := 1) (As := [.ref (g.2.1 1 a0)]) C hM kw_16_2 kw_16_3 kw_16_4 kw_1_2 kw_16_5 (by decide) ⟨_, _, _, rfl, rfl, rfl⟩ (by decide +kernel) (by decide) hlm hk rfl hW hd kk
theorem cl_X1_22 {l : Launch} {g : oG} {cc : ByteArray} {lam mc : Nat} {x : oCtx} {σ : oMem} {pc : Nat} {vs : List (Option Value)} {rest : List Value} {k : Nat} {lam' mc' : Nat} {a0 : Int} {post : Int → oMem → Prop} (C : oK l g RX1 cc lam mc x) (hM : oMi l g yX1_fewestSlitsFor (.code yX1_fewestSlitsFor cX1_fewestSlitsFor 4 (some .int)) lam' mc' [.ref (g.2.1 10 0), oi a0] σ post) (hlm : lam' + 1 ≤ lam) (hk : k + mc' ≤ mc) (hW : (rest.map fun v => v.category).sum ≤ 8) (hd : decode cc pc = .ok (.invokevirtual 22, 3)) (kk : ∀ (z : Int) (σ' : oMem), post z σ' → oW l g x σ' (pc + 3) vs (oi z :: rest) (k + mc')) : oW l g x σ pc vs (oi a0 :: .ref (g.2.1 10 0) :: rest) k := o_callVi (n := 1) (As := [oi a0]) C hM kw_16_18 kw_16_19 kw_16_20 kw_2_12 kw_16_21 (by decide) ⟨_, _, _, rfl, rfl, rfl⟩ (by decide +kernel) (by decide) hlm hk rfl hW hd kk
theorem cl_X1_37 {l : Launch} {g : oG} {cc : ByteArray} {lam mc : Nat} {x : oCtx} {σ : oMem} {pc : Nat} {vs : List (Option Value)} {rest : List Value} {k : Nat} {lam' mc' : Nat} {a0 : Int} {a1 : Int} {post : Int → oMem → Prop} (C : oK l g RX1 cc lam mc x) (hM : oMi l g yX1_greatestBefore (.code yX1_greatestBefore cX1_greatestBefore 4 (some .int)) lam' mc' [.ref (g.2.1 10 0), oi a0, oi a1] σ post) (hlm : lam' + 1 ≤ lam) (hk : k + mc' ≤ mc) (hW : (rest.map fun v => v.category).sum ≤ 8) (hd : decode cc pc = .ok (.invokevirtual 37, 3)) (kk : ∀ (z : Int) (σ' : oMem), post z σ' → oW l g x σ' (pc + 3) vs (oi z :: rest) (k + mc')) : oW l g x σ pc vs (oi a1 :: oi a0 :: .ref (g.2.1 10 0) :: rest) k := o_callVi (n := 2) (As := [oi a0, oi a1]) C hM kw_17_4 kw_17_5 kw_17_6 kw_2_12 kw_17_7 (by decide) ⟨_, _, _, rfl, rfl, rfl⟩ (by decide +kernel) (by decide) hlm hk rfl hW hd kk
theorem cl_X6_141 {l : Launch} {g : oG} {cc : ByteArray} {lam mc : Nat} {x : oCtx} {σ : oMem} {pc : Nat} {vs : List (Option Value)} {rest : List Value} {k : Nat} {lam' mc' : Nat} {a0 : Int} {post : Int → oMem → Prop} (C : oK l g RX6 cc lam mc x) (hM : oMi l g yX6_fullest (.code yX6_fullest cX6_fullest 6 (some .int)) lam' mc' [.ref (g.2.1 24 0), oi a0] σ post) (hlm : lam' + 1 ≤ lam) (hk : k + mc' ≤ mc) (hW : (rest.map fun v => v.category).sum ≤ 8) (hd : decode cc pc = .ok (.invokevirtual 141, 3)) (kk : ∀ (z : Int) (σ' : oMem), post z σ' → oW l g x σ' (pc + 3) vs (oi z :: rest) (k + mc')) : oW l g x σ pc vs (oi a0 :: .ref (g.2.1 24 0) :: rest) k := o_callVi (n := 1) (As := [oi a0]) C hM kw_17_12 kw_17_13 kw_17_14 kw_1_5 kw_17_15 (by decide) ⟨_, _, _, rfl, rfl, rfl⟩ (by decide +kernel) (by decide) hlm hk rfl hW hd kk
theorem cl_X6_138 {l : Launch} {g : oG} {cc : ByteArray} {lam mc : Nat} {x : oCtx} {σ : oMem} {pc : Nat} {vs : List (Option Value)} {rest : List Value} {k : Nat} {lam' mc' : Nat} {a0 : Int} {a1 : Int} {post : Int → oMem → Prop} (C : oK l g RX6 cc lam mc x) (hM : oMi l g yX6_takes (.code yX6_takes cX6_takes 3 (some .boolean)) lam' mc' [.ref (g.2.1 24 0), oi a0, oi a1] σ post) (hlm : lam' + 1 ≤ lam) (hk : k + mc' ≤ mc) (hW : (rest.map fun v => v.category).sum ≤ 8) (hd : decode cc pc = .ok (.invokevirtual 138, 3)) (kk : ∀ (z : Int) (σ' : oMem), post z σ' → oW l g x σ' (pc + 3) vs (oi z :: rest) (k + mc')) : oW l g x σ pc vs (oi a1 :: oi a0 :: .ref (g.2.1 24 0) :: rest) k := o_callVi (n := 2) (As := [oi a0, oi a1]) C hM kw_17_16 kw_17_17 kw_17_18 kw_1_5 kw_17_19 (by decide) ⟨_, _, _, rfl, rfl, rfl⟩ (by decide +kernel) (by decide) hlm hk rfl hW hd kk
theorem cl_X1_44 {l : Launch} {g : oG} {cc : ByteArray} {lam mc : Nat} {x : oCtx} {σ : oMem} {pc : Nat} {vs : List (Option Value)} {rest : List Value} {k : Nat} {lam' mc' : Nat} {a1 : Int} {a2 : Int} {a3 : Int} {a4 : Int} {post : Int → oMem → Prop} (C : oK l g RX1 cc lam mc x) (hM : oMi l g yX1_tryFrom (.code yX1_tryFrom cX1_tryFrom 8 (some .int)) lam' mc' [.ref (g.2.1 11 0), oi a1, oi a2, oi a3, oi a4] σ post) (hlm : lam' + 1 ≤ lam) (hk : k + mc' ≤ mc) (hW : (rest.map fun v => v.category).sum ≤ 8) (hd : decode cc pc = .ok (.invokestatic 44, 3)) (kk : ∀ (z : Int) (σ' : oMem), post z σ' → oW l g x σ' (pc + 3) vs (oi z :: rest) (k + mc')) : oW l g x σ pc vs (oi a4 :: oi a3 :: oi a2 :: oi a1 :: .ref (g.2.1 11 0) :: rest) k := o_callSi (n := 5) (As := [.ref (g.2.1 11 0), oi a1, oi a2, oi a3, oi a4]) C hM kw_18_6 kw_18_7 kw_2_12 kw_18_8 rfl (by decide +kernel) (by decide) hlm hk rfl hW hd kk
theorem cl_X5_187 {l : Launch} {g : oG} {cc : ByteArray} {lam mc : Nat} {x : oCtx} {σ : oMem} {pc : Nat} {vs : List (Option Value)} {rest : List Value} {k : Nat} {lam' mc' : Nat} {a0 : Int} {a1 : Int} {post : Int → oMem → Prop} (C : oK l g RX5 cc lam mc x) (hM : oMi l g yX5_canBeRun (.code yX5_canBeRun cX5_canBeRun 3 (some .boolean)) lam' mc' [.ref (g.2.1 0 0), oi a0, oi a1] σ post) (hlm : lam' + 1 ≤ lam) (hk : k + mc' ≤ mc) (hW : (rest.map fun v => v.category).sum ≤ 8) (hd : decode cc pc = .ok (.invokevirtual 187, 3)) (kk : ∀ (z : Int) (σ' : oMem), post z σ' → oW l g x σ' (pc + 3) vs (oi z :: rest) (k + mc')) : oW l g x σ pc vs (oi a1 :: oi a0 :: .ref (g.2.1 0 0) :: rest) k := o_callVi (n := 2) (As := [oi a0, oi a1]) C hM kw_18_21 kw_18_22 kw_18_23 kw_1_2 kw_19_0 (by decide) ⟨_, _, _, rfl, rfl, rfl⟩ (by decide +kernel) (by decide) hlm hk rfl hW hd kk
theorem cl_X5_193 {l : Launch} {g : oG} {cc : ByteArray} {lam mc : Nat} {x : oCtx} {σ : oMem} {pc : Nat} {vs : List (Option Value)} {rest : List Value} {k : Nat} {lam' mc' : Nat} {a0 : Int} {a1 : Int} {post : Int → oMem → Prop} (C : oK l g RX5 cc lam mc x) (hM : oMi l g yX5_slitCoil (.code yX5_slitCoil cX5_slitCoil 3 (some .int)) lam' mc' [.ref (g.2.1 0 0), oi a0, oi a1] σ post) (hlm : lam' + 1 ≤ lam) (hk : k + mc' ≤ mc) (hW : (rest.map fun v => v.category).sum ≤ 8) (hd : decode cc pc = .ok (.invokevirtual 193, 3)) (kk : ∀ (z : Int) (σ' : oMem), post z σ' → oW l g x σ' (pc + 3) vs (oi z :: rest) (k + mc')) : oW l g x σ pc vs (oi a1 :: oi a0 :: .ref (g.2.1 0 0) :: rest) k := o_callVi (n := 2) (As := [oi a0, oi a1]) C hM kw_19_1 kw_19_2 kw_19_3 kw_1_2 kw_19_4 (by decide) ⟨_, _, _, rfl, rfl, rfl⟩ (by decide +kernel) (by decide) hlm hk rfl hW hd kk
theorem cl_X5_196 {l : Launch} {g : oG} {cc : ByteArray} {lam mc : Nat} {x : oCtx} {σ : oMem} {pc : Nat} {vs : List (Option Value)} {rest : List Value} {k : Nat} {lam' mc' : Nat} {a0 : Int} {a1 : Int} {post : Int → oMem → Prop} (C : oK l g RX5 cc lam mc x) (hM : oMi l g yX5_movesBetween (.code yX5_movesBetween cX5_movesBetween 3 (some .int)) lam' mc' [.ref (g.2.1 0 0), oi a0, oi a1] σ post) (hlm : lam' + 1 ≤ lam) (hk : k + mc' ≤ mc) (hW : (rest.map fun v => v.category).sum ≤ 8) (hd : decode cc pc = .ok (.invokevirtual 196, 3)) (kk : ∀ (z : Int) (σ' : oMem), post z σ' → oW l g x σ' (pc + 3) vs (oi z :: rest) (k + mc')) : oW l g x σ pc vs (oi a1 :: oi a0 :: .ref (g.2.1 0 0) :: rest) k := o_callVi (n := 2) (As := [oi a0, oi a1]) C hM kw_19_5 kw_19_6 kw_19_7 kw_1_2 kw_19_8 (by decide) ⟨_, _, _, rfl, rfl, rfl⟩ (by decide +kernel) (by decide) hlm hk rfl hW hd kk
theorem cl_X3_30 {l : Launch} {g : oG} {cc : ByteArray} {lam mc : Nat} {x : oCtx} {σ : oMem} {pc : Nat} {vs : List (Option Value)} {rest : List Value} {k : Nat} {lam' mc' : Nat} {i : Nat} {a0 : Int} {post : Int → oMem → Prop} (C : oK l g RX3 cc lam mc x) (hM : oMi l g yX3_hasKnifeAt (.code yX3_hasKnifeAt cX3_hasKnifeAt 4 (some .boolean)) lam' mc' [.ref (g.2.1 8 i), oi a0] σ post) (hi : i < 11) (hlm : lam' + 1 ≤ lam) (hk : k + mc' ≤ mc) (hW : (rest.map fun v => v.category).sum ≤ 8) (hd : decode cc pc = .ok (.invokevirtual 30, 3)) (kk : ∀ (z : Int) (σ' : oMem), post z σ' → oW l g x σ' (pc + 3) vs (oi z :: rest) (k + mc')) : oW l g x σ pc vs (oi a0 :: .ref (g.2.1 8 i) :: rest) k := o_callVi (n := 1) (As := [oi a0]) C hM kw_19_12 kw_19_13 kw_19_14 kw_1_23 kw_19_15 hi ⟨_, _, _, rfl, rfl, rfl⟩ (by decide +kernel) (by decide) hlm hk rfl hW hd kk
theorem cl_X0_68 {l : Launch} {g : oG} {cc : ByteArray} {lam mc : Nat} {x : oCtx} {σ : oMem} {pc : Nat} {vs : List (Option Value)} {rest : List Value} {k : Nat} {lam' mc' : Nat} {i : Nat}  {post : Int → oMem → Prop} (C : oK l g RX0 cc lam mc x) (hM : oMi l g yX0_cutOutLength (.code yX0_cutOutLength cX0_cutOutLength 5 (some .int)) lam' mc' [.ref (g.2.1 1 i)] σ post) (hi : i < 20) (hlm : lam' + 1 ≤ lam) (hk : k + mc' ≤ mc) (hW : (rest.map fun v => v.category).sum ≤ 8) (hd : decode cc pc = .ok (.invokevirtual 68, 3)) (kk : ∀ (z : Int) (σ' : oMem), post z σ' → oW l g x σ' (pc + 3) vs (oi z :: rest) (k + mc')) : oW l g x σ pc vs (.ref (g.2.1 1 i) :: rest) k := o_callVi (n := 0) (As := []) C hM kw_19_20 kw_8_15 kw_8_16 kw_2_19 kw_8_17 hi ⟨_, _, _, rfl, rfl, rfl⟩ (by decide +kernel) (by decide) hlm hk rfl hW hd kk
theorem cl_X0_72 {l : Launch} {g : oG} {cc : ByteArray} {lam mc : Nat} {x : oCtx} {σ : oMem} {pc : Nat} {vs : List (Option Value)} {rest : List Value} {k : Nat} {lam' mc' : Nat} {a0 : Int} {a1 : Int} {a2 : Int} {post : Int → oMem → Prop} (C : oK l g RX0 cc lam mc x) (hM : oMi l g yX0_share (.code yX0_share cX0_share 3 (some .int)) lam' mc' [oi a0, oi a1, oi a2] σ post) (hlm : lam' + 1 ≤ lam) (hk : k + mc' ≤ mc) (hW : (rest.map fun v => v.category).sum ≤ 8) (hd : decode cc pc = .ok (.invokestatic 72, 3)) (kk : ∀ (z : Int) (σ' : oMem), post z σ' → oW l g x σ' (pc + 3) vs (oi z :: rest) (k + mc')) : oW l g x σ pc vs (oi a2 :: oi a1 :: oi a0 :: rest) k := o_callSi (n := 3) (As := [oi a0, oi a1, oi a2]) C hM kw_19_21 kw_19_22 kw_2_19 kw_19_23 rfl (by decide +kernel) (by decide) hlm hk rfl hW hd kk
theorem cl_X5_299 {l : Launch} {g : oG} {cc : ByteArray} {lam mc : Nat} {x : oCtx} {σ : oMem} {pc : Nat} {vs : List (Option Value)} {rest : List Value} {k : Nat} {lam' mc' : Nat} {a0 : Nat} {post : Int → oMem → Prop} (C : oK l g RX5 cc lam mc x) (hM : oMi l g yX5_deliverSlits (.code yX5_deliverSlits cX5_deliverSlits 5 (some .int)) lam' mc' [.ref (g.2.1 0 0), .ref (g.2.1 1 a0)] σ post) (hlm : lam' + 1 ≤ lam) (hk : k + mc' ≤ mc) (hW : (rest.map fun v => v.category).sum ≤ 8) (hd : decode cc pc = .ok (.invokevirtual 299, 3)) (kk : ∀ (z : Int) (σ' : oMem), post z σ' → oW l g x σ' (pc + 3) vs (oi z :: rest) (k + mc')) : oW l g x σ pc vs (.ref (g.2.1 1 a0) :: .ref (g.2.1 0 0) :: rest) k := o_callVi (n := 1) (As := [.ref (g.2.1 1 a0)]) C hM kw_20_0 kw_20_1 kw_20_2 kw_1_2 kw_20_3 (by decide) ⟨_, _, _, rfl, rfl, rfl⟩ (by decide +kernel) (by decide) hlm hk rfl hW hd kk
theorem cl_X5_305 {l : Launch} {g : oG} {cc : ByteArray} {lam mc : Nat} {x : oCtx} {σ : oMem} {pc : Nat} {vs : List (Option Value)} {rest : List Value} {k : Nat} {lam' mc' : Nat} {a0 : Int} {a1 : Int} {post : Int → oMem → Prop} (C : oK l g RX5 cc lam mc x) (hM : oMi l g yX5_takerOf (.code yX5_takerOf cX5_takerOf 4 (some .int)) lam' mc' [.ref (g.2.1 0 0), oi a0, oi a1] σ post) (hlm : lam' + 1 ≤ lam) (hk : k + mc' ≤ mc) (hW : (rest.map fun v => v.category).sum ≤ 8) (hd : decode cc pc = .ok (.invokevirtual 305, 3)) (kk : ∀ (z : Int) (σ' : oMem), post z σ' → oW l g x σ' (pc + 3) vs (oi z :: rest) (k + mc')) : oW l g x σ pc vs (oi a1 :: oi a0 :: .ref (g.2.1 0 0) :: rest) k := o_callVi (n := 2) (As := [oi a0, oi a1]) C hM kw_20_4 kw_20_5 kw_20_6 kw_1_2 kw_20_7 (by decide) ⟨_, _, _, rfl, rfl, rfl⟩ (by decide +kernel) (by decide) hlm hk rfl hW hd kk
theorem cl_X6_154 {l : Launch} {g : oG} {cc : ByteArray} {lam mc : Nat} {x : oCtx} {σ : oMem} {pc : Nat} {vs : List (Option Value)} {rest : List Value} {k : Nat} {lam' mc' : Nat} {a0 : Int} {a1 : Int} {post : Int → oMem → Prop} (C : oK l g RX6 cc lam mc x) (hM : oMi l g yX6_runs (.code yX6_runs cX6_runs 14 (some .int)) lam' mc' [.ref (g.2.1 24 0), oi a0, oi a1] σ post) (hlm : lam' + 1 ≤ lam) (hk : k + mc' ≤ mc) (hW : (rest.map fun v => v.category).sum ≤ 8) (hd : decode cc pc = .ok (.invokevirtual 154, 3)) (kk : ∀ (z : Int) (σ' : oMem), post z σ' → oW l g x σ' (pc + 3) vs (oi z :: rest) (k + mc')) : oW l g x σ pc vs (oi a1 :: oi a0 :: .ref (g.2.1 24 0) :: rest) k := o_callVi (n := 2) (As := [oi a0, oi a1]) C hM kw_20_15 kw_20_16 kw_20_17 kw_1_5 kw_20_18 (by decide) ⟨_, _, _, rfl, rfl, rfl⟩ (by decide +kernel) (by decide) hlm hk rfl hW hd kk
theorem cl_X6_150 {l : Launch} {g : oG} {cc : ByteArray} {lam mc : Nat} {x : oCtx} {σ : oMem} {pc : Nat} {vs : List (Option Value)} {rest : List Value} {k : Nat} {lam' mc' : Nat} {a0 : Int} {a1 : Int} {post : Int → oMem → Prop} (C : oK l g RX6 cc lam mc x) (hM : oMi l g yX6_movesFrom (.code yX6_movesFrom cX6_movesFrom 6 (some .int)) lam' mc' [.ref (g.2.1 24 0), oi a0, oi a1] σ post) (hlm : lam' + 1 ≤ lam) (hk : k + mc' ≤ mc) (hW : (rest.map fun v => v.category).sum ≤ 8) (hd : decode cc pc = .ok (.invokevirtual 150, 3)) (kk : ∀ (z : Int) (σ' : oMem), post z σ' → oW l g x σ' (pc + 3) vs (oi z :: rest) (k + mc')) : oW l g x σ pc vs (oi a1 :: oi a0 :: .ref (g.2.1 24 0) :: rest) k := o_callVi (n := 2) (As := [oi a0, oi a1]) C hM kw_20_20 kw_20_21 kw_20_22 kw_1_5 kw_20_23 (by decide) ⟨_, _, _, rfl, rfl, rfl⟩ (by decide +kernel) (by decide) hlm hk rfl hW hd kk
theorem cl_X6_144 {l : Launch} {g : oG} {cc : ByteArray} {lam mc : Nat} {x : oCtx} {σ : oMem} {pc : Nat} {vs : List (Option Value)} {rest : List Value} {k : Nat} {lam' mc' : Nat} {a0 : Int} {a1 : Int} {post : Int → oMem → Prop} (C : oK l g RX6 cc lam mc x) (hM : oMi l g yX6_isPosition (.code yX6_isPosition cX6_isPosition 6 (some .boolean)) lam' mc' [.ref (g.2.1 24 0), oi a0, oi a1] σ post) (hlm : lam' + 1 ≤ lam) (hk : k + mc' ≤ mc) (hW : (rest.map fun v => v.category).sum ≤ 8) (hd : decode cc pc = .ok (.invokevirtual 144, 3)) (kk : ∀ (z : Int) (σ' : oMem), post z σ' → oW l g x σ' (pc + 3) vs (oi z :: rest) (k + mc')) : oW l g x σ pc vs (oi a1 :: oi a0 :: .ref (g.2.1 24 0) :: rest) k := o_callVi (n := 2) (As := [oi a0, oi a1]) C hM kw_21_0 kw_21_1 kw_21_2 kw_1_5 kw_21_3 (by decide) ⟨_, _, _, rfl, rfl, rfl⟩ (by decide +kernel) (by decide) hlm hk rfl hW hd kk
theorem cl_X5_199 {l : Launch} {g : oG} {cc : ByteArray} {lam mc : Nat} {x : oCtx} {σ : oMem} {pc : Nat} {vs : List (Option Value)} {rest : List Value} {k : Nat} {lam' mc' : Nat} {a0 : Int} {post : Int → oMem → Prop} (C : oK l g RX5 cc lam mc x) (hM : oMi l g yX5_coilWaits (.code yX5_coilWaits cX5_coilWaits 3 (some .boolean)) lam' mc' [.ref (g.2.1 0 0), oi a0] σ post) (hlm : lam' + 1 ≤ lam) (hk : k + mc' ≤ mc) (hW : (rest.map fun v => v.category).sum ≤ 8) (hd : decode cc pc = .ok (.invokevirtual 199, 3)) (kk : ∀ (z : Int) (σ' : oMem), post z σ' → oW l g x σ' (pc + 3) vs (oi z :: rest) (k + mc')) : oW l g x σ pc vs (oi a0 :: .ref (g.2.1 0 0) :: rest) k := o_callVi (n := 1) (As := [oi a0]) C hM kw_22_6 kw_22_7 kw_22_8 kw_1_2 kw_22_9 (by decide) ⟨_, _, _, rfl, rfl, rfl⟩ (by decide +kernel) (by decide) hlm hk rfl hW hd kk
theorem cl_X5_204 {l : Launch} {g : oG} {cc : ByteArray} {lam mc : Nat} {x : oCtx} {σ : oMem} {pc : Nat} {vs : List (Option Value)} {rest : List Value} {k : Nat} {lam' mc' : Nat}  {post : oMem → Prop} (C : oK l g RX5 cc lam mc x) (hM : oMv l g yX5_readMoves (.code yX5_readMoves cX5_readMoves 3 none) lam' mc' [.ref (g.2.1 0 0)] σ post) (hlm : lam' + 1 ≤ lam) (hk : k + mc' ≤ mc) (hW : (rest.map fun v => v.category).sum ≤ 8) (hd : decode cc pc = .ok (.invokevirtual 204, 3)) (kk : ∀ σ' : oMem, post σ' → oW l g x σ' (pc + 3) vs rest (k + mc')) : oW l g x σ pc vs (.ref (g.2.1 0 0) :: rest) k := o_callVv (n := 0) (As := []) C hM kw_23_3 kw_23_4 kw_23_5 kw_1_2 kw_23_6 (by decide) ⟨_, _, _, rfl, rfl, rfl⟩ (by decide +kernel) (by decide) hlm hk rfl hW hd kk
theorem cl_X4_23 {l : Launch} {g : oG} {cc : ByteArray} {lam mc : Nat} {x : oCtx} {σ : oMem} {pc : Nat} {vs : List (Option Value)} {rest : List Value} {k : Nat} {lam' mc' : Nat} {a0 : Int} {a1 : Int} {a2 : Int} {post : Int → oMem → Prop} (C : oK l g RX4 cc lam mc x) (hM : oMi l g yX4_fewestAfter (.code yX4_fewestAfter cX4_fewestAfter 6 (some .int)) lam' mc' [.ref (g.2.1 13 0), oi a0, oi a1, oi a2] σ post) (hlm : lam' + 1 ≤ lam) (hk : k + mc' ≤ mc) (hW : (rest.map fun v => v.category).sum ≤ 8) (hd : decode cc pc = .ok (.invokevirtual 23, 3)) (kk : ∀ (z : Int) (σ' : oMem), post z σ' → oW l g x σ' (pc + 3) vs (oi z :: rest) (k + mc')) : oW l g x σ pc vs (oi a2 :: oi a1 :: oi a0 :: .ref (g.2.1 13 0) :: rest) k := o_callVi (n := 3) (As := [oi a0, oi a1, oi a2]) C hM kw_23_10 kw_23_11 kw_23_12 kw_2_16 kw_23_13 (by decide) ⟨_, _, _, rfl, rfl, rfl⟩ (by decide +kernel) (by decide) hlm hk rfl hW hd kk
theorem cl_X4_27 {l : Launch} {g : oG} {cc : ByteArray} {lam mc : Nat} {x : oCtx} {σ : oMem} {pc : Nat} {vs : List (Option Value)} {rest : List Value} {k : Nat} {lam' mc' : Nat} {a0 : Int} {a1 : Int} {post : Int → oMem → Prop} (C : oK l g RX4 cc lam mc x) (hM : oMi l g yX4_holds (.code yX4_holds cX4_holds 2 (some .boolean)) lam' mc' [oi a0, oi a1] σ post) (hlm : lam' + 1 ≤ lam) (hk : k + mc' ≤ mc) (hW : (rest.map fun v => v.category).sum ≤ 8) (hd : decode cc pc = .ok (.invokestatic 27, 3)) (kk : ∀ (z : Int) (σ' : oMem), post z σ' → oW l g x σ' (pc + 3) vs (oi z :: rest) (k + mc')) : oW l g x σ pc vs (oi a1 :: oi a0 :: rest) k := o_callSi (n := 2) (As := [oi a0, oi a1]) C hM kw_23_15 kw_23_16 kw_2_16 kw_23_17 rfl (by decide +kernel) (by decide) hlm hk rfl hW hd kk
theorem cl_X4_31 {l : Launch} {g : oG} {cc : ByteArray} {lam mc : Nat} {x : oCtx} {σ : oMem} {pc : Nat} {vs : List (Option Value)} {rest : List Value} {k : Nat} {lam' mc' : Nat} {a0 : Int} {a1 : Int} {a2 : Int} {post : Int → oMem → Prop} (C : oK l g RX4 cc lam mc x) (hM : oMi l g yX4_movesThrough (.code yX4_movesThrough cX4_movesThrough 4 (some .int)) lam' mc' [.ref (g.2.1 13 0), oi a0, oi a1, oi a2] σ post) (hlm : lam' + 1 ≤ lam) (hk : k + mc' ≤ mc) (hW : (rest.map fun v => v.category).sum ≤ 8) (hd : decode cc pc = .ok (.invokevirtual 31, 3)) (kk : ∀ (z : Int) (σ' : oMem), post z σ' → oW l g x σ' (pc + 3) vs (oi z :: rest) (k + mc')) : oW l g x σ pc vs (oi a2 :: oi a1 :: oi a0 :: .ref (g.2.1 13 0) :: rest) k := o_callVi (n := 3) (As := [oi a0, oi a1, oi a2]) C hM kw_23_18 kw_23_19 kw_23_20 kw_2_16 kw_23_21 (by decide) ⟨_, _, _, rfl, rfl, rfl⟩ (by decide +kernel) (by decide) hlm hk rfl hW hd kk
theorem cl_X4_40 {l : Launch} {g : oG} {cc : ByteArray} {lam mc : Nat} {x : oCtx} {σ : oMem} {pc : Nat} {vs : List (Option Value)} {rest : List Value} {k : Nat} {lam' mc' : Nat} {a0 : Int} {a1 : Int} {post : Int → oMem → Prop} (C : oK l g RX4 cc lam mc x) (hM : oMi l g yX4_without (.code yX4_without cX4_without 2 (some .int)) lam' mc' [oi a0, oi a1] σ post) (hlm : lam' + 1 ≤ lam) (hk : k + mc' ≤ mc) (hW : (rest.map fun v => v.category).sum ≤ 8) (hd : decode cc pc = .ok (.invokestatic 40, 3)) (kk : ∀ (z : Int) (σ' : oMem), post z σ' → oW l g x σ' (pc + 3) vs (oi z :: rest) (k + mc')) : oW l g x σ pc vs (oi a1 :: oi a0 :: rest) k := o_callSi (n := 2) (As := [oi a0, oi a1]) C hM kw_23_22 kw_23_23 kw_2_16 kw_24_0 rfl (by decide +kernel) (by decide) hlm hk rfl hW hd kk
theorem cl_X6_163 {l : Launch} {g : oG} {cc : ByteArray} {lam mc : Nat} {x : oCtx} {σ : oMem} {pc : Nat} {vs : List (Option Value)} {rest : List Value} {k : Nat} {lam' mc' : Nat}  {post : Int → oMem → Prop} (C : oK l g RX6 cc lam mc x) (hM : oMi l g yX6_best (.code yX6_best cX6_best 8 (some .int)) lam' mc' [.ref (g.2.1 24 0)] σ post) (hlm : lam' + 1 ≤ lam) (hk : k + mc' ≤ mc) (hW : (rest.map fun v => v.category).sum ≤ 8) (hd : decode cc pc = .ok (.invokevirtual 163, 3)) (kk : ∀ (z : Int) (σ' : oMem), post z σ' → oW l g x σ' (pc + 3) vs (oi z :: rest) (k + mc')) : oW l g x σ pc vs (.ref (g.2.1 24 0) :: rest) k := o_callVi (n := 0) (As := []) C hM kw_24_5 kw_24_6 kw_24_7 kw_1_5 kw_24_8 (by decide) ⟨_, _, _, rfl, rfl, rfl⟩ (by decide +kernel) (by decide) hlm hk rfl hW hd kk
theorem cl_X6_160 {l : Launch} {g : oG} {cc : ByteArray} {lam mc : Nat} {x : oCtx} {σ : oMem} {pc : Nat} {vs : List (Option Value)} {rest : List Value} {k : Nat} {lam' mc' : Nat} {a0 : Int} {a1 : Int} {post : Int → oMem → Prop} (C : oK l g RX6 cc lam mc x) (hM : oMi l g yX6_between (.code yX6_between cX6_between 3 (some .int)) lam' mc' [.ref (g.2.1 24 0), oi a0, oi a1] σ post) (hlm : lam' + 1 ≤ lam) (hk : k + mc' ≤ mc) (hW : (rest.map fun v => v.category).sum ≤ 8) (hd : decode cc pc = .ok (.invokevirtual 160, 3)) (kk : ∀ (z : Int) (σ' : oMem), post z σ' → oW l g x σ' (pc + 3) vs (oi z :: rest) (k + mc')) : oW l g x σ pc vs (oi a1 :: oi a0 :: .ref (g.2.1 24 0) :: rest) k := o_callVi (n := 2) (As := [oi a0, oi a1]) C hM kw_24_9 kw_24_10 kw_24_11 kw_1_5 kw_24_12 (by decide) ⟨_, _, _, rfl, rfl, rfl⟩ (by decide +kernel) (by decide) hlm hk rfl hW hd kk
theorem cl_X4_50 {l : Launch} {g : oG} {cc : ByteArray} {lam mc : Nat} {x : oCtx} {σ : oMem} {pc : Nat} {vs : List (Option Value)} {rest : List Value} {k : Nat} {lam' mc' : Nat} {a1 : Int} {a2 : Int} {a3 : Int} {a4 : Int} {post : Int → oMem → Prop} (C : oK l g RX4 cc lam mc x) (hM : oMi l g yX4_tryOrders (.code yX4_tryOrders cX4_tryOrders 8 (some .int)) lam' mc' [.ref (g.2.1 22 0), oi a1, oi a2, oi a3, oi a4] σ post) (hlm : lam' + 1 ≤ lam) (hk : k + mc' ≤ mc) (hW : (rest.map fun v => v.category).sum ≤ 8) (hd : decode cc pc = .ok (.invokestatic 50, 3)) (kk : ∀ (z : Int) (σ' : oMem), post z σ' → oW l g x σ' (pc + 3) vs (oi z :: rest) (k + mc')) : oW l g x σ pc vs (oi a4 :: oi a3 :: oi a2 :: oi a1 :: .ref (g.2.1 22 0) :: rest) k := o_callSi (n := 5) (As := [.ref (g.2.1 22 0), oi a1, oi a2, oi a3, oi a4]) C hM kw_24_20 kw_24_21 kw_2_16 kw_24_22 rfl (by decide +kernel) (by decide) hlm hk rfl hW hd kk
theorem cl_X4_43 {l : Launch} {g : oG} {cc : ByteArray} {lam mc : Nat} {x : oCtx} {σ : oMem} {pc : Nat} {vs : List (Option Value)} {rest : List Value} {k : Nat} {lam' mc' : Nat} {a0 : Int} {post : Int → oMem → Prop} (C : oK l g RX4 cc lam mc x) (hM : oMi l g yX4_fewestBySets (.code yX4_fewestBySets cX4_fewestBySets 5 (some .int)) lam' mc' [.ref (g.2.1 13 0), oi a0] σ post) (hlm : lam' + 1 ≤ lam) (hk : k + mc' ≤ mc) (hW : (rest.map fun v => v.category).sum ≤ 8) (hd : decode cc pc = .ok (.invokevirtual 43, 3)) (kk : ∀ (z : Int) (σ' : oMem), post z σ' → oW l g x σ' (pc + 3) vs (oi z :: rest) (k + mc')) : oW l g x σ pc vs (oi a0 :: .ref (g.2.1 13 0) :: rest) k := o_callVi (n := 1) (As := [oi a0]) C hM kw_25_13 kw_23_7 kw_23_8 kw_2_16 kw_23_9 (by decide) ⟨_, _, _, rfl, rfl, rfl⟩ (by decide +kernel) (by decide) hlm hk rfl hW hd kk
theorem cl_X4_47 {l : Launch} {g : oG} {cc : ByteArray} {lam mc : Nat} {x : oCtx} {σ : oMem} {pc : Nat} {vs : List (Option Value)} {rest : List Value} {k : Nat} {lam' mc' : Nat} {a0 : Int} {a1 : Int} {a2 : Int} {post : Int → oMem → Prop} (C : oK l g RX4 cc lam mc x) (hM : oMi l g yX4_leastNext (.code yX4_leastNext cX4_leastNext 5 (some .int)) lam' mc' [.ref (g.2.1 13 0), oi a0, oi a1, oi a2] σ post) (hlm : lam' + 1 ≤ lam) (hk : k + mc' ≤ mc) (hW : (rest.map fun v => v.category).sum ≤ 8) (hd : decode cc pc = .ok (.invokevirtual 47, 3)) (kk : ∀ (z : Int) (σ' : oMem), post z σ' → oW l g x σ' (pc + 3) vs (oi z :: rest) (k + mc')) : oW l g x σ pc vs (oi a2 :: oi a1 :: oi a0 :: .ref (g.2.1 13 0) :: rest) k := o_callVi (n := 3) (As := [oi a0, oi a1, oi a2]) C hM kw_25_14 kw_25_15 kw_25_16 kw_2_16 kw_25_17 (by decide) ⟨_, _, _, rfl, rfl, rfl⟩ (by decide +kernel) (by decide) hlm hk rfl hW hd kk
theorem cl_X5_225 {l : Launch} {g : oG} {cc : ByteArray} {lam mc : Nat} {x : oCtx} {σ : oMem} {pc : Nat} {vs : List (Option Value)} {rest : List Value} {k : Nat} {lam' mc' : Nat} {a0 : Int} {a1 : Int} {post : oMem → Prop} {px pxc : String → Prop} (T : oT l g RX5 cc mc σ px x) (C : oK l g RX5 cc lam mc x) (hM : oXv l g yX5_requireSlit (.code yX5_requireSlit cX5_requireSlit 3 none) lam' mc' [.ref (g.2.1 0 0), oi a0, oi a1] σ post pxc) (hpx : ∀ E, pxc E → px E) (hlm : lam' + 1 ≤ lam) (hk : k + mc' ≤ mc) (hW : (rest.map fun v => v.category).sum ≤ 8) (hd : decode cc pc = .ok (.invokevirtual 225, 3)) (kk : ∀ σ' : oMem, post σ' → oW l g x σ' (pc + 3) vs rest (k + mc')) : oW l g x σ pc vs (oi a1 :: oi a0 :: .ref (g.2.1 0 0) :: rest) k := o_callVxv (n := 2) (As := [oi a0, oi a1]) T C hM hpx kw_27_0 kw_27_1 kw_27_2 kw_1_2 kw_27_3 (by decide) ⟨_, _, _, rfl, rfl, rfl⟩ (by decide +kernel) (by decide) hlm hk rfl hW hd kk
theorem cl_X6_167 {l : Launch} {g : oG} {cc : ByteArray} {lam mc : Nat} {x : oCtx} {σ : oMem} {pc : Nat} {vs : List (Option Value)} {rest : List Value} {k : Nat} {lam' mc' : Nat} {a0 : Int} {a1 : Int} {post : Int → oMem → Prop} (C : oK l g RX6 cc lam mc x) (hM : oMi l g yX6_isSlit (.code yX6_isSlit cX6_isSlit 4 (some .boolean)) lam' mc' [.ref (g.2.1 24 0), oi a0, oi a1] σ post) (hlm : lam' + 1 ≤ lam) (hk : k + mc' ≤ mc) (hW : (rest.map fun v => v.category).sum ≤ 8) (hd : decode cc pc = .ok (.invokevirtual 167, 3)) (kk : ∀ (z : Int) (σ' : oMem), post z σ' → oW l g x σ' (pc + 3) vs (oi z :: rest) (k + mc')) : oW l g x σ pc vs (oi a1 :: oi a0 :: .ref (g.2.1 24 0) :: rest) k := o_callVi (n := 2) (As := [oi a0, oi a1]) C hM kw_27_11 kw_27_12 kw_27_13 kw_1_5 kw_27_14 (by decide) ⟨_, _, _, rfl, rfl, rfl⟩ (by decide +kernel) (by decide) hlm hk rfl hW hd kk
theorem cl_X5_243 {l : Launch} {g : oG} {cc : ByteArray} {lam mc : Nat} {x : oCtx} {σ : oMem} {pc : Nat} {vs : List (Option Value)} {rest : List Value} {k : Nat} {lam' mc' : Nat} {a0 : Int} {post : oMem → Prop} {px pxc : String → Prop} (T : oT l g RX5 cc mc σ px x) (C : oK l g RX5 cc lam mc x) (hM : oXv l g yX5_requireOrder (.code yX5_requireOrder cX5_requireOrder 2 none) lam' mc' [.ref (g.2.1 0 0), oi a0] σ post pxc) (hpx : ∀ E, pxc E → px E) (hlm : lam' + 1 ≤ lam) (hk : k + mc' ≤ mc) (hW : (rest.map fun v => v.category).sum ≤ 8) (hd : decode cc pc = .ok (.invokevirtual 243, 3)) (kk : ∀ σ' : oMem, post σ' → oW l g x σ' (pc + 3) vs rest (k + mc')) : oW l g x σ pc vs (oi a0 :: .ref (g.2.1 0 0) :: rest) k := o_callVxv (n := 1) (As := [oi a0]) T C hM hpx kw_28_20 kw_28_21 kw_28_22 kw_1_2 kw_28_23 (by decide) ⟨_, _, _, rfl, rfl, rfl⟩ (by decide +kernel) (by decide) hlm hk rfl hW hd kk
theorem cl_X6_170 {l : Launch} {g : oG} {cc : ByteArray} {lam mc : Nat} {x : oCtx} {σ : oMem} {pc : Nat} {vs : List (Option Value)} {rest : List Value} {k : Nat} {lam' mc' : Nat} {a0 : Int} {post : Int → oMem → Prop} (C : oK l g RX6 cc lam mc x) (hM : oMi l g yX6_isOrder (.code yX6_isOrder cX6_isOrder 2 (some .boolean)) lam' mc' [.ref (g.2.1 24 0), oi a0] σ post) (hlm : lam' + 1 ≤ lam) (hk : k + mc' ≤ mc) (hW : (rest.map fun v => v.category).sum ≤ 8) (hd : decode cc pc = .ok (.invokevirtual 170, 3)) (kk : ∀ (z : Int) (σ' : oMem), post z σ' → oW l g x σ' (pc + 3) vs (oi z :: rest) (k + mc')) : oW l g x σ pc vs (oi a0 :: .ref (g.2.1 24 0) :: rest) k := o_callVi (n := 1) (As := [oi a0]) C hM kw_29_4 kw_29_5 kw_29_6 kw_1_5 kw_29_7 (by decide) ⟨_, _, _, rfl, rfl, rfl⟩ (by decide +kernel) (by decide) hlm hk rfl hW hd kk
theorem cl_X5_105 {l : Launch} {g : oG} {cc : ByteArray} {lam mc : Nat} {x : oCtx} {σ : oMem} {pc : Nat} {vs : List (Option Value)} {rest : List Value} {k : Nat} {lam' mc' : Nat} {i : Nat}  {post : Int → oMem → Prop} (C : oK l g RX5 cc lam mc x) (hM : oMi l g yX0_isSlit (.code yX0_isSlit cX0_isSlit 1 (some .boolean)) lam' mc' [.ref (g.2.1 1 i)] σ post) (hi : i < 20) (hlm : lam' + 1 ≤ lam) (hk : k + mc' ≤ mc) (hW : (rest.map fun v => v.category).sum ≤ 8) (hd : decode cc pc = .ok (.invokevirtual 105, 3)) (kk : ∀ (z : Int) (σ' : oMem), post z σ' → oW l g x σ' (pc + 3) vs (oi z :: rest) (k + mc')) : oW l g x σ pc vs (.ref (g.2.1 1 i) :: rest) k := o_callNi (n := 0) (As := []) C hM (List.mem_of_getElem? (i := 0) rfl) kw_8_5 kw_8_6 kw_2_19 kw_8_7 hi ⟨_, _, _, rfl, rfl, rfl⟩ (by decide +kernel) (by decide) hlm hk rfl hW hd kk
theorem cl_X5_109 {l : Launch} {g : oG} {cc : ByteArray} {lam mc : Nat} {x : oCtx} {σ : oMem} {pc : Nat} {vs : List (Option Value)} {rest : List Value} {k : Nat} {lam' mc' : Nat} {i : Nat}  {post : Int → oMem → Prop} (C : oK l g RX5 cc lam mc x) (hM : oMi l g yX0_hasMostDefects (.code yX0_hasMostDefects cX0_hasMostDefects 1 (some .boolean)) lam' mc' [.ref (g.2.1 1 i)] σ post) (hi : i < 20) (hlm : lam' + 1 ≤ lam) (hk : k + mc' ≤ mc) (hW : (rest.map fun v => v.category).sum ≤ 8) (hd : decode cc pc = .ok (.invokevirtual 109, 3)) (kk : ∀ (z : Int) (σ' : oMem), post z σ' → oW l g x σ' (pc + 3) vs (oi z :: rest) (k + mc')) : oW l g x σ pc vs (.ref (g.2.1 1 i) :: rest) k := o_callNi (n := 0) (As := []) C hM (List.mem_of_getElem? (i := 1) rfl) kw_8_8 kw_8_9 kw_2_19 kw_8_10 hi ⟨_, _, _, rfl, rfl, rfl⟩ (by decide +kernel) (by decide) hlm hk rfl hW hd kk
theorem cl_X5_114 {l : Launch} {g : oG} {cc : ByteArray} {lam mc : Nat} {x : oCtx} {σ : oMem} {pc : Nat} {vs : List (Option Value)} {rest : List Value} {k : Nat} {lam' mc' : Nat} {i : Nat} {a0 : Int} {a1 : Int} {post : oMem → Prop} (C : oK l g RX5 cc lam mc x) (hM : oMv l g yX0_addDefect (.code yX0_addDefect cX0_addDefect 4 none) lam' mc' [.ref (g.2.1 1 i), oi a0, oi a1] σ post) (hi : i < 20) (hlm : lam' + 1 ≤ lam) (hk : k + mc' ≤ mc) (hW : (rest.map fun v => v.category).sum ≤ 8) (hd : decode cc pc = .ok (.invokevirtual 114, 3)) (kk : ∀ σ' : oMem, post σ' → oW l g x σ' (pc + 3) vs rest (k + mc')) : oW l g x σ pc vs (oi a1 :: oi a0 :: .ref (g.2.1 1 i) :: rest) k := o_callNv (n := 2) (As := [oi a0, oi a1]) C hM (List.mem_of_getElem? (i := 2) rfl) kw_8_11 kw_8_12 kw_2_19 kw_8_13 hi ⟨_, _, _, rfl, rfl, rfl⟩ (by decide +kernel) (by decide) hlm hk rfl hW hd kk
theorem cl_X5_118 {l : Launch} {g : oG} {cc : ByteArray} {lam mc : Nat} {x : oCtx} {σ : oMem} {pc : Nat} {vs : List (Option Value)} {rest : List Value} {k : Nat} {lam' mc' : Nat} {i : Nat}  {post : Int → oMem → Prop} (C : oK l g RX5 cc lam mc x) (hM : oMi l g yX0_cutOutLength (.code yX0_cutOutLength cX0_cutOutLength 5 (some .int)) lam' mc' [.ref (g.2.1 1 i)] σ post) (hi : i < 20) (hlm : lam' + 1 ≤ lam) (hk : k + mc' ≤ mc) (hW : (rest.map fun v => v.category).sum ≤ 8) (hd : decode cc pc = .ok (.invokevirtual 118, 3)) (kk : ∀ (z : Int) (σ' : oMem), post z σ' → oW l g x σ' (pc + 3) vs (oi z :: rest) (k + mc')) : oW l g x σ pc vs (.ref (g.2.1 1 i) :: rest) k := o_callNi (n := 0) (As := []) C hM (List.mem_of_getElem? (i := 3) rfl) kw_8_15 kw_8_16 kw_2_19 kw_8_17 hi ⟨_, _, _, rfl, rfl, rfl⟩ (by decide +kernel) (by decide) hlm hk rfl hW hd kk
theorem cl_X5_125 {l : Launch} {g : oG} {cc : ByteArray} {lam mc : Nat} {x : oCtx} {σ : oMem} {pc : Nat} {vs : List (Option Value)} {rest : List Value} {k : Nat} {lam' mc' : Nat} {i : Nat} {a0 : Int} {a1 : Int} {post : oMem → Prop} (C : oK l g RX5 cc lam mc x) (hM : oMv l g yX2_describe (.code yX2_describe cX2_describe 3 none) lam' mc' [.ref (g.2.1 7 i), oi a0, oi a1] σ post) (hi : i < 12) (hlm : lam' + 1 ≤ lam) (hk : k + mc' ≤ mc) (hW : (rest.map fun v => v.category).sum ≤ 8) (hd : decode cc pc = .ok (.invokevirtual 125, 3)) (kk : ∀ σ' : oMem, post σ' → oW l g x σ' (pc + 3) vs rest (k + mc')) : oW l g x σ pc vs (oi a1 :: oi a0 :: .ref (g.2.1 7 i) :: rest) k := o_callNv (n := 2) (As := [oi a0, oi a1]) C hM (List.mem_of_getElem? (i := 4) rfl) kw_10_13 kw_10_14 kw_2_21 kw_10_15 hi ⟨_, _, _, rfl, rfl, rfl⟩ (by decide +kernel) (by decide) hlm hk rfl hW hd kk
theorem cl_X5_127 {l : Launch} {g : oG} {cc : ByteArray} {lam mc : Nat} {x : oCtx} {σ : oMem} {pc : Nat} {vs : List (Option Value)} {rest : List Value} {k : Nat} {lam' mc' : Nat} {i : Nat}  {post : Int → oMem → Prop} (C : oK l g RX5 cc lam mc x) (hM : oMi l g yX3_isFull (.code yX3_isFull cX3_isFull 1 (some .boolean)) lam' mc' [.ref (g.2.1 8 i)] σ post) (hi : i < 11) (hlm : lam' + 1 ≤ lam) (hk : k + mc' ≤ mc) (hW : (rest.map fun v => v.category).sum ≤ 8) (hd : decode cc pc = .ok (.invokevirtual 127, 3)) (kk : ∀ (z : Int) (σ' : oMem), post z σ' → oW l g x σ' (pc + 3) vs (oi z :: rest) (k + mc')) : oW l g x σ pc vs (.ref (g.2.1 8 i) :: rest) k := o_callNi (n := 0) (As := []) C hM (List.mem_of_getElem? (i := 5) rfl) kw_11_5 kw_11_6 kw_1_23 kw_11_7 hi ⟨_, _, _, rfl, rfl, rfl⟩ (by decide +kernel) (by decide) hlm hk rfl hW hd kk
theorem cl_X5_132 {l : Launch} {g : oG} {cc : ByteArray} {lam mc : Nat} {x : oCtx} {σ : oMem} {pc : Nat} {vs : List (Option Value)} {rest : List Value} {k : Nat} {lam' mc' : Nat} {i : Nat} {a0 : Int} {post : oMem → Prop} (C : oK l g RX5 cc lam mc x) (hM : oMv l g yX3_append (.code yX3_append cX3_append 2 none) lam' mc' [.ref (g.2.1 8 i), oi a0] σ post) (hi : i < 11) (hlm : lam' + 1 ≤ lam) (hk : k + mc' ≤ mc) (hW : (rest.map fun v => v.category).sum ≤ 8) (hd : decode cc pc = .ok (.invokevirtual 132, 3)) (kk : ∀ σ' : oMem, post σ' → oW l g x σ' (pc + 3) vs rest (k + mc')) : oW l g x σ pc vs (oi a0 :: .ref (g.2.1 8 i) :: rest) k := o_callNv (n := 1) (As := [oi a0]) C hM (List.mem_of_getElem? (i := 6) rfl) kw_11_8 kw_11_9 kw_1_23 kw_11_10 hi ⟨_, _, _, rfl, rfl, rfl⟩ (by decide +kernel) (by decide) hlm hk rfl hW hd kk
theorem cl_X5_138 {l : Launch} {g : oG} {cc : ByteArray} {lam mc : Nat} {x : oCtx} {σ : oMem} {pc : Nat} {vs : List (Option Value)} {rest : List Value} {k : Nat} {lam' mc' : Nat} {i : Nat}  {post : oMem → Prop} (C : oK l g RX5 cc lam mc x) (hM : oMv l g yX3_empty (.code yX3_empty cX3_empty 1 none) lam' mc' [.ref (g.2.1 8 i)] σ post) (hi : i < 11) (hlm : lam' + 1 ≤ lam) (hk : k + mc' ≤ mc) (hW : (rest.map fun v => v.category).sum ≤ 8) (hd : decode cc pc = .ok (.invokevirtual 138, 3)) (kk : ∀ σ' : oMem, post σ' → oW l g x σ' (pc + 3) vs rest (k + mc')) : oW l g x σ pc vs (.ref (g.2.1 8 i) :: rest) k := o_callNv (n := 0) (As := []) C hM (List.mem_of_getElem? (i := 7) rfl) kw_12_0 kw_12_1 kw_1_23 kw_12_2 hi ⟨_, _, _, rfl, rfl, rfl⟩ (by decide +kernel) (by decide) hlm hk rfl hW hd kk
theorem cl_X5_141 {l : Launch} {g : oG} {cc : ByteArray} {lam mc : Nat} {x : oCtx} {σ : oMem} {pc : Nat} {vs : List (Option Value)} {rest : List Value} {k : Nat} {lam' mc' : Nat} {i : Nat} {a0 : Int} {post : Int → oMem → Prop} (C : oK l g RX5 cc lam mc x) (hM : oMi l g yX3_hasSlitAt (.code yX3_hasSlitAt cX3_hasSlitAt 2 (some .boolean)) lam' mc' [.ref (g.2.1 8 i), oi a0] σ post) (hi : i < 11) (hlm : lam' + 1 ≤ lam) (hk : k + mc' ≤ mc) (hW : (rest.map fun v => v.category).sum ≤ 8) (hd : decode cc pc = .ok (.invokevirtual 141, 3)) (kk : ∀ (z : Int) (σ' : oMem), post z σ' → oW l g x σ' (pc + 3) vs (oi z :: rest) (k + mc')) : oW l g x σ pc vs (oi a0 :: .ref (g.2.1 8 i) :: rest) k := o_callNi (n := 1) (As := [oi a0]) C hM (List.mem_of_getElem? (i := 8) rfl) kw_13_2 kw_13_3 kw_1_23 kw_13_4 hi ⟨_, _, _, rfl, rfl, rfl⟩ (by decide +kernel) (by decide) hlm hk rfl hW hd kk
theorem cl_X5_155 {l : Launch} {g : oG} {cc : ByteArray} {lam mc : Nat} {x : oCtx} {σ : oMem} {pc : Nat} {vs : List (Option Value)} {rest : List Value} {k : Nat} {lam' mc' : Nat} {i : Nat} {a0 : Nat} {post : oMem → Prop} (C : oK l g RX5 cc lam mc x) (hM : oMv l g yX3_becomeCopyOf (.code yX3_becomeCopyOf cX3_becomeCopyOf 3 none) lam' mc' [.ref (g.2.1 8 i), .ref (g.2.1 8 a0)] σ post) (hi : i < 11) (hlm : lam' + 1 ≤ lam) (hk : k + mc' ≤ mc) (hW : (rest.map fun v => v.category).sum ≤ 8) (hd : decode cc pc = .ok (.invokevirtual 155, 3)) (kk : ∀ σ' : oMem, post σ' → oW l g x σ' (pc + 3) vs rest (k + mc')) : oW l g x σ pc vs (.ref (g.2.1 8 a0) :: .ref (g.2.1 8 i) :: rest) k := o_callNv (n := 1) (As := [.ref (g.2.1 8 a0)]) C hM (List.mem_of_getElem? (i := 9) rfl) kw_13_16 kw_13_17 kw_1_23 kw_13_18 hi ⟨_, _, _, rfl, rfl, rfl⟩ (by decide +kernel) (by decide) hlm hk rfl hW hd kk
theorem cl_X5_174 {l : Launch} {g : oG} {cc : ByteArray} {lam mc : Nat} {x : oCtx} {σ : oMem} {pc : Nat} {vs : List (Option Value)} {rest : List Value} {k : Nat} {lam' mc' : Nat} {a0 : Int} {a1 : Int} {post : Int → oMem → Prop} (C : oK l g RX5 cc lam mc x) (hM : oMi l g yX1_greatestTotal (.code yX1_greatestTotal cX1_greatestTotal 5 (some .int)) lam' mc' [.ref (g.2.1 10 0), oi a0, oi a1] σ post) (hlm : lam' + 1 ≤ lam) (hk : k + mc' ≤ mc) (hW : (rest.map fun v => v.category).sum ≤ 8) (hd : decode cc pc = .ok (.invokevirtual 174, 3)) (kk : ∀ (z : Int) (σ' : oMem), post z σ' → oW l g x σ' (pc + 3) vs (oi z :: rest) (k + mc')) : oW l g x σ pc vs (oi a1 :: oi a0 :: .ref (g.2.1 10 0) :: rest) k := o_callNi (n := 2) (As := [oi a0, oi a1]) C hM (List.mem_of_getElem? (i := 10) rfl) kw_16_15 kw_16_16 kw_2_12 kw_16_17 (by decide) ⟨_, _, _, rfl, rfl, rfl⟩ (by decide +kernel) (by decide) hlm hk rfl hW hd kk
theorem cl_X5_178 {l : Launch} {g : oG} {cc : ByteArray} {lam mc : Nat} {x : oCtx} {σ : oMem} {pc : Nat} {vs : List (Option Value)} {rest : List Value} {k : Nat} {lam' mc' : Nat} {a0 : Int} {a1 : Nat} {post : oMem → Prop} (C : oK l g RX5 cc lam mc x) (hM : oMv l g yX1_layOut (.code yX1_layOut cX1_layOut 6 none) lam' mc' [.ref (g.2.1 10 0), oi a0, .ref (g.2.1 8 a1)] σ post) (hlm : lam' + 1 ≤ lam) (hk : k + mc' ≤ mc) (hW : (rest.map fun v => v.category).sum ≤ 8) (hd : decode cc pc = .ok (.invokevirtual 178, 3)) (kk : ∀ σ' : oMem, post σ' → oW l g x σ' (pc + 3) vs rest (k + mc')) : oW l g x σ pc vs (.ref (g.2.1 8 a1) :: oi a0 :: .ref (g.2.1 10 0) :: rest) k := o_callNv (n := 2) (As := [oi a0, .ref (g.2.1 8 a1)]) C hM (List.mem_of_getElem? (i := 11) rfl) kw_17_1 kw_17_2 kw_2_12 kw_17_3 (by decide) ⟨_, _, _, rfl, rfl, rfl⟩ (by decide +kernel) (by decide) hlm hk rfl hW hd kk
theorem cl_X5_184 {l : Launch} {g : oG} {cc : ByteArray} {lam mc : Nat} {x : oCtx} {σ : oMem} {pc : Nat} {vs : List (Option Value)} {rest : List Value} {k : Nat} {lam' mc' : Nat} {a0 : Int} {a1 : Int} {post : Int → oMem → Prop} (C : oK l g RX5 cc lam mc x) (hM : oMi l g yX1_greatestTotalByTrying (.code yX1_greatestTotalByTrying cX1_greatestTotalByTrying 3 (some .int)) lam' mc' [.ref (g.2.1 10 0), oi a0, oi a1] σ post) (hlm : lam' + 1 ≤ lam) (hk : k + mc' ≤ mc) (hW : (rest.map fun v => v.category).sum ≤ 8) (hd : decode cc pc = .ok (.invokevirtual 184, 3)) (kk : ∀ (z : Int) (σ' : oMem), post z σ' → oW l g x σ' (pc + 3) vs (oi z :: rest) (k + mc')) : oW l g x σ pc vs (oi a1 :: oi a0 :: .ref (g.2.1 10 0) :: rest) k := o_callNi (n := 2) (As := [oi a0, oi a1]) C hM (List.mem_of_getElem? (i := 12) rfl) kw_18_3 kw_18_4 kw_2_12 kw_18_5 (by decide) ⟨_, _, _, rfl, rfl, rfl⟩ (by decide +kernel) (by decide) hlm hk rfl hW hd kk
theorem cl_X5_207 {l : Launch} {g : oG} {cc : ByteArray} {lam mc : Nat} {x : oCtx} {σ : oMem} {pc : Nat} {vs : List (Option Value)} {rest : List Value} {k : Nat} {lam' mc' : Nat} {a0 : Int} {post : Int → oMem → Prop} (C : oK l g RX5 cc lam mc x) (hM : oMi l g yX4_fewestBySets (.code yX4_fewestBySets cX4_fewestBySets 5 (some .int)) lam' mc' [.ref (g.2.1 13 0), oi a0] σ post) (hlm : lam' + 1 ≤ lam) (hk : k + mc' ≤ mc) (hW : (rest.map fun v => v.category).sum ≤ 8) (hd : decode cc pc = .ok (.invokevirtual 207, 3)) (kk : ∀ (z : Int) (σ' : oMem), post z σ' → oW l g x σ' (pc + 3) vs (oi z :: rest) (k + mc')) : oW l g x σ pc vs (oi a0 :: .ref (g.2.1 13 0) :: rest) k := o_callNi (n := 1) (As := [oi a0]) C hM (List.mem_of_getElem? (i := 13) rfl) kw_23_7 kw_23_8 kw_2_16 kw_23_9 (by decide) ⟨_, _, _, rfl, rfl, rfl⟩ (by decide +kernel) (by decide) hlm hk rfl hW hd kk
theorem cl_X5_211 {l : Launch} {g : oG} {cc : ByteArray} {lam mc : Nat} {x : oCtx} {σ : oMem} {pc : Nat} {vs : List (Option Value)} {rest : List Value} {k : Nat} {lam' mc' : Nat} {a0 : Int} {post : Int → oMem → Prop} (C : oK l g RX5 cc lam mc x) (hM : oMi l g yX4_fewestByOrders (.code yX4_fewestByOrders cX4_fewestByOrders 2 (some .int)) lam' mc' [.ref (g.2.1 13 0), oi a0] σ post) (hlm : lam' + 1 ≤ lam) (hk : k + mc' ≤ mc) (hW : (rest.map fun v => v.category).sum ≤ 8) (hd : decode cc pc = .ok (.invokevirtual 211, 3)) (kk : ∀ (z : Int) (σ' : oMem), post z σ' → oW l g x σ' (pc + 3) vs (oi z :: rest) (k + mc')) : oW l g x σ pc vs (oi a0 :: .ref (g.2.1 13 0) :: rest) k := o_callNi (n := 1) (As := [oi a0]) C hM (List.mem_of_getElem? (i := 14) rfl) kw_24_17 kw_24_18 kw_2_16 kw_24_19 (by decide) ⟨_, _, _, rfl, rfl, rfl⟩ (by decide +kernel) (by decide) hlm hk rfl hW hd kk
theorem cl_X5_216 {l : Launch} {g : oG} {cc : ByteArray} {lam mc : Nat} {x : oCtx} {σ : oMem} {pc : Nat} {vs : List (Option Value)} {rest : List Value} {k : Nat} {lam' mc' : Nat} {a0 : Int} {post : oMem → Prop} (C : oK l g RX5 cc lam mc x) (hM : oMv l g yX4_findBest (.code yX4_findBest cX4_findBest 6 none) lam' mc' [.ref (g.2.1 13 0), oi a0] σ post) (hlm : lam' + 1 ≤ lam) (hk : k + mc' ≤ mc) (hW : (rest.map fun v => v.category).sum ≤ 8) (hd : decode cc pc = .ok (.invokevirtual 216, 3)) (kk : ∀ σ' : oMem, post σ' → oW l g x σ' (pc + 3) vs rest (k + mc')) : oW l g x σ pc vs (oi a0 :: .ref (g.2.1 13 0) :: rest) k := o_callNv (n := 1) (As := [oi a0]) C hM (List.mem_of_getElem? (i := 15) rfl) kw_25_10 kw_25_11 kw_2_16 kw_25_12 (by decide) ⟨_, _, _, rfl, rfl, rfl⟩ (by decide +kernel) (by decide) hlm hk rfl hW hd kk
theorem cl_X5_252 {l : Launch} {g : oG} {cc : ByteArray} {lam mc : Nat} {x : oCtx} {σ : oMem} {pc : Nat} {vs : List (Option Value)} {rest : List Value} {k : Nat} {lam' mc' : Nat} {i : Nat} {a0 : Int} {post : Int → oMem → Prop} (C : oK l g RX5 cc lam mc x) (hM : oMi l g yX0_stockOf (.code yX0_stockOf cX0_stockOf 4 (some .int)) lam' mc' [.ref (g.2.1 1 i), oi a0] σ post) (hi : i < 20) (hlm : lam' + 1 ≤ lam) (hk : k + mc' ≤ mc) (hW : (rest.map fun v => v.category).sum ≤ 8) (hd : decode cc pc = .ok (.invokevirtual 252, 3)) (kk : ∀ (z : Int) (σ' : oMem), post z σ' → oW l g x σ' (pc + 3) vs (oi z :: rest) (k + mc')) : oW l g x σ pc vs (oi a0 :: .ref (g.2.1 1 i) :: rest) k := o_callNi (n := 1) (As := [oi a0]) C hM (List.mem_of_getElem? (i := 16) rfl) kw_29_23 kw_30_0 kw_2_19 kw_30_1 hi ⟨_, _, _, rfl, rfl, rfl⟩ (by decide +kernel) (by decide) hlm hk rfl hW hd kk
theorem cl_X5_272 {l : Launch} {g : oG} {cc : ByteArray} {lam mc : Nat} {x : oCtx} {σ : oMem} {pc : Nat} {vs : List (Option Value)} {rest : List Value} {k : Nat} {lam' mc' : Nat} {i : Nat} {a0 : Int} {post : Int → oMem → Prop} (C : oK l g RX5 cc lam mc x) (hM : oMi l g yX0_hasSlitAt (.code yX0_hasSlitAt cX0_hasSlitAt 2 (some .boolean)) lam' mc' [.ref (g.2.1 1 i), oi a0] σ post) (hi : i < 20) (hlm : lam' + 1 ≤ lam) (hk : k + mc' ≤ mc) (hW : (rest.map fun v => v.category).sum ≤ 8) (hd : decode cc pc = .ok (.invokevirtual 272, 3)) (kk : ∀ (z : Int) (σ' : oMem), post z σ' → oW l g x σ' (pc + 3) vs (oi z :: rest) (k + mc')) : oW l g x σ pc vs (oi a0 :: .ref (g.2.1 1 i) :: rest) k := o_callNi (n := 1) (As := [oi a0]) C hM (List.mem_of_getElem? (i := 17) rfl) kw_27_4 kw_27_5 kw_2_19 kw_27_6 hi ⟨_, _, _, rfl, rfl, rfl⟩ (by decide +kernel) (by decide) hlm hk rfl hW hd kk
theorem cl_X5_278 {l : Launch} {g : oG} {cc : ByteArray} {lam mc : Nat} {x : oCtx} {σ : oMem} {pc : Nat} {vs : List (Option Value)} {rest : List Value} {k : Nat} {lam' mc' : Nat} {i : Nat}  {post : Int → oMem → Prop} (C : oK l g RX5 cc lam mc x) (hM : oMi l g yX3_totalWidth (.code yX3_totalWidth cX3_totalWidth 3 (some .int)) lam' mc' [.ref (g.2.1 8 i)] σ post) (hi : i < 11) (hlm : lam' + 1 ≤ lam) (hk : k + mc' ≤ mc) (hW : (rest.map fun v => v.category).sum ≤ 8) (hd : decode cc pc = .ok (.invokevirtual 278, 3)) (kk : ∀ (z : Int) (σ' : oMem), post z σ' → oW l g x σ' (pc + 3) vs (oi z :: rest) (k + mc')) : oW l g x σ pc vs (.ref (g.2.1 8 i) :: rest) k := o_callNi (n := 0) (As := []) C hM (List.mem_of_getElem? (i := 18) rfl) kw_14_21 kw_14_22 kw_1_23 kw_14_23 hi ⟨_, _, _, rfl, rfl, rfl⟩ (by decide +kernel) (by decide) hlm hk rfl hW hd kk
theorem cl_X5_281 {l : Launch} {g : oG} {cc : ByteArray} {lam mc : Nat} {x : oCtx} {σ : oMem} {pc : Nat} {vs : List (Option Value)} {rest : List Value} {k : Nat} {lam' mc' : Nat} {i : Nat}  {post : Int → oMem → Prop} (C : oK l g RX5 cc lam mc x) (hM : oMi l g yX3_knivesNeeded (.code yX3_knivesNeeded cX3_knivesNeeded 1 (some .int)) lam' mc' [.ref (g.2.1 8 i)] σ post) (hi : i < 11) (hlm : lam' + 1 ≤ lam) (hk : k + mc' ≤ mc) (hW : (rest.map fun v => v.category).sum ≤ 8) (hd : decode cc pc = .ok (.invokevirtual 281, 3)) (kk : ∀ (z : Int) (σ' : oMem), post z σ' → oW l g x σ' (pc + 3) vs (oi z :: rest) (k + mc')) : oW l g x σ pc vs (.ref (g.2.1 8 i) :: rest) k := o_callNi (n := 0) (As := []) C hM (List.mem_of_getElem? (i := 19) rfl) kw_15_4 kw_15_5 kw_1_23 kw_15_6 hi ⟨_, _, _, rfl, rfl, rfl⟩ (by decide +kernel) (by decide) hlm hk rfl hW hd kk
theorem cl_X5_284 {l : Launch} {g : oG} {cc : ByteArray} {lam mc : Nat} {x : oCtx} {σ : oMem} {pc : Nat} {vs : List (Option Value)} {rest : List Value} {k : Nat} {lam' mc' : Nat}  {post : oMem → Prop} (C : oK l g RX5 cc lam mc x) (hM : oMv l g yX1_forgetWidths (.code yX1_forgetWidths cX1_forgetWidths 1 none) lam' mc' [.ref (g.2.1 10 0)] σ post) (hlm : lam' + 1 ≤ lam) (hk : k + mc' ≤ mc) (hW : (rest.map fun v => v.category).sum ≤ 8) (hd : decode cc pc = .ok (.invokevirtual 284, 3)) (kk : ∀ σ' : oMem, post σ' → oW l g x σ' (pc + 3) vs rest (k + mc')) : oW l g x σ pc vs (.ref (g.2.1 10 0) :: rest) k := o_callNv (n := 0) (As := []) C hM (List.mem_of_getElem? (i := 20) rfl) kw_16_6 kw_16_7 kw_2_12 kw_16_8 (by decide) ⟨_, _, _, rfl, rfl, rfl⟩ (by decide +kernel) (by decide) hlm hk rfl hW hd kk
theorem cl_X5_288 {l : Launch} {g : oG} {cc : ByteArray} {lam mc : Nat} {x : oCtx} {σ : oMem} {pc : Nat} {vs : List (Option Value)} {rest : List Value} {k : Nat} {lam' mc' : Nat} {i : Nat} {a0 : Int} {post : Int → oMem → Prop} (C : oK l g RX5 cc lam mc x) (hM : oMi l g yX2_wouldTakeHeat (.code yX2_wouldTakeHeat cX2_wouldTakeHeat 2 (some .boolean)) lam' mc' [.ref (g.2.1 7 i), oi a0] σ post) (hi : i < 12) (hlm : lam' + 1 ≤ lam) (hk : k + mc' ≤ mc) (hW : (rest.map fun v => v.category).sum ≤ 8) (hd : decode cc pc = .ok (.invokevirtual 288, 3)) (kk : ∀ (z : Int) (σ' : oMem), post z σ' → oW l g x σ' (pc + 3) vs (oi z :: rest) (k + mc')) : oW l g x σ pc vs (oi a0 :: .ref (g.2.1 7 i) :: rest) k := o_callNi (n := 1) (As := [oi a0]) C hM (List.mem_of_getElem? (i := 21) rfl) kw_16_9 kw_16_10 kw_2_21 kw_16_11 hi ⟨_, _, _, rfl, rfl, rfl⟩ (by decide +kernel) (by decide) hlm hk rfl hW hd kk
theorem cl_X5_292 {l : Launch} {g : oG} {cc : ByteArray} {lam mc : Nat} {x : oCtx} {σ : oMem} {pc : Nat} {vs : List (Option Value)} {rest : List Value} {k : Nat} {lam' mc' : Nat} {a0 : Int} {post : oMem → Prop} (C : oK l g RX5 cc lam mc x) (hM : oMv l g yX1_offerWidth (.code yX1_offerWidth cX1_offerWidth 5 none) lam' mc' [.ref (g.2.1 10 0), oi a0] σ post) (hlm : lam' + 1 ≤ lam) (hk : k + mc' ≤ mc) (hW : (rest.map fun v => v.category).sum ≤ 8) (hd : decode cc pc = .ok (.invokevirtual 292, 3)) (kk : ∀ σ' : oMem, post σ' → oW l g x σ' (pc + 3) vs rest (k + mc')) : oW l g x σ pc vs (oi a0 :: .ref (g.2.1 10 0) :: rest) k := o_callNv (n := 1) (As := [oi a0]) C hM (List.mem_of_getElem? (i := 22) rfl) kw_16_12 kw_16_13 kw_2_12 kw_16_14 (by decide) ⟨_, _, _, rfl, rfl, rfl⟩ (by decide +kernel) (by decide) hlm hk rfl hW hd kk
theorem cl_X5_295 {l : Launch} {g : oG} {cc : ByteArray} {lam mc : Nat} {x : oCtx} {σ : oMem} {pc : Nat} {vs : List (Option Value)} {rest : List Value} {k : Nat} {lam' mc' : Nat} {i : Nat} {a0 : Nat} {a1 : Int} {post : oMem → Prop} (C : oK l g RX5 cc lam mc x) (hM : oMv l g yX0_slitBy (.code yX0_slitBy cX0_slitBy 6 none) lam' mc' [.ref (g.2.1 1 i), .ref (g.2.1 8 a0), oi a1] σ post) (hi : i < 20) (hlm : lam' + 1 ≤ lam) (hk : k + mc' ≤ mc) (hW : (rest.map fun v => v.category).sum ≤ 8) (hd : decode cc pc = .ok (.invokevirtual 295, 3)) (kk : ∀ σ' : oMem, post σ' → oW l g x σ' (pc + 3) vs rest (k + mc')) : oW l g x σ pc vs (oi a1 :: .ref (g.2.1 8 a0) :: .ref (g.2.1 1 i) :: rest) k := o_callNv (n := 2) (As := [.ref (g.2.1 8 a0), oi a1]) C hM (List.mem_of_getElem? (i := 23) rfl) kw_19_16 kw_19_17 kw_2_19 kw_19_18 hi ⟨_, _, _, rfl, rfl, rfl⟩ (by decide +kernel) (by decide) hlm hk rfl hW hd kk
theorem cl_X5_308 {l : Launch} {g : oG} {cc : ByteArray} {lam mc : Nat} {x : oCtx} {σ : oMem} {pc : Nat} {vs : List (Option Value)} {rest : List Value} {k : Nat} {lam' mc' : Nat} {i : Nat} {a0 : Int} {a1 : Int} {post : oMem → Prop} (C : oK l g RX5 cc lam mc x) (hM : oMv l g yX2_receive (.code yX2_receive cX2_receive 3 none) lam' mc' [.ref (g.2.1 7 i), oi a0, oi a1] σ post) (hi : i < 12) (hlm : lam' + 1 ≤ lam) (hk : k + mc' ≤ mc) (hW : (rest.map fun v => v.category).sum ≤ 8) (hd : decode cc pc = .ok (.invokevirtual 308, 3)) (kk : ∀ σ' : oMem, post σ' → oW l g x σ' (pc + 3) vs rest (k + mc')) : oW l g x σ pc vs (oi a1 :: oi a0 :: .ref (g.2.1 7 i) :: rest) k := o_callNv (n := 2) (As := [oi a0, oi a1]) C hM (List.mem_of_getElem? (i := 24) rfl) kw_20_8 kw_20_9 kw_2_21 kw_20_10 hi ⟨_, _, _, rfl, rfl, rfl⟩ (by decide +kernel) (by decide) hlm hk rfl hW hd kk
theorem cl_X5_311 {l : Launch} {g : oG} {cc : ByteArray} {lam mc : Nat} {x : oCtx} {σ : oMem} {pc : Nat} {vs : List (Option Value)} {rest : List Value} {k : Nat} {lam' mc' : Nat} {i : Nat} {a0 : Nat} {post : Int → oMem → Prop} (C : oK l g RX5 cc lam mc x) (hM : oMi l g yX3_knivesNotIn (.code yX3_knivesNotIn cX3_knivesNotIn 5 (some .int)) lam' mc' [.ref (g.2.1 8 i), .ref (g.2.1 8 a0)] σ post) (hi : i < 11) (hlm : lam' + 1 ≤ lam) (hk : k + mc' ≤ mc) (hW : (rest.map fun v => v.category).sum ≤ 8) (hd : decode cc pc = .ok (.invokevirtual 311, 3)) (kk : ∀ (z : Int) (σ' : oMem), post z σ' → oW l g x σ' (pc + 3) vs (oi z :: rest) (k + mc')) : oW l g x σ pc vs (.ref (g.2.1 8 a0) :: .ref (g.2.1 8 i) :: rest) k := o_callNi (n := 1) (As := [.ref (g.2.1 8 a0)]) C hM (List.mem_of_getElem? (i := 25) rfl) kw_19_9 kw_19_10 kw_1_23 kw_19_11 hi ⟨_, _, _, rfl, rfl, rfl⟩ (by decide +kernel) (by decide) hlm hk rfl hW hd kk
theorem cl_X5_94 {l : Launch} {g : oG} {cc : ByteArray} {lam mc : Nat} {x : oCtx} {σ : oMem} {pc : Nat} {vs : List (Option Value)} {rest : List Value} {k : Nat} {lam' mc' : Nat} {i : Nat} {a0 : Int} {a1 : Int} {a2 : Int} {a3 : Int} {post : oMem → Prop} (C : oK l g RX5 cc lam mc x) (hM : oMv l g yX0_describe (.code yX0_describe cX0_describe 5 none) lam' mc' [.ref (g.2.1 1 i), oi a0, oi a1, oi a2, oi a3] σ post) (hi : i < 20) (hlm : lam' + 1 ≤ lam) (hk : k + mc' ≤ mc) (hW : (rest.map fun v => v.category).sum ≤ 8) (hd : decode cc pc = .ok (.invokevirtual 94, 3)) (kk : ∀ σ' : oMem, post σ' → oW l g x σ' (pc + 3) vs rest (k + mc')) : oW l g x σ pc vs (oi a3 :: oi a2 :: oi a1 :: oi a0 :: .ref (g.2.1 1 i) :: rest) k := o_callNv (n := 4) (As := [oi a0, oi a1, oi a2, oi a3]) C hM (List.mem_of_getElem? (i := 31) rfl) kw_6_15 kw_6_16 kw_2_19 kw_6_17 hi ⟨_, _, _, rfl, rfl, rfl⟩ (by decide +kernel) (by decide) hlm hk rfl hW hd kk
theorem cl_X1_32 {l : Launch} {g : oG} {cc : ByteArray} {lam mc : Nat} {x : oCtx} {σ : oMem} {pc : Nat} {vs : List (Option Value)} {rest : List Value} {k : Nat} {lam' mc' : Nat} {i : Nat}  {post : oMem → Prop} (C : oK l g RX1 cc lam mc x) (hM : oMv l g yX3_empty (.code yX3_empty cX3_empty 1 none) lam' mc' [.ref (g.2.1 8 i)] σ post) (hi : i < 11) (hlm : lam' + 1 ≤ lam) (hk : k + mc' ≤ mc) (hW : (rest.map fun v => v.category).sum ≤ 8) (hd : decode cc pc = .ok (.invokevirtual 32, 3)) (kk : ∀ σ' : oMem, post σ' → oW l g x σ' (pc + 3) vs rest (k + mc')) : oW l g x σ pc vs (.ref (g.2.1 8 i) :: rest) k := o_callNv (n := 0) (As := []) C hM (List.mem_of_getElem? (i := 32) rfl) kw_12_0 kw_12_1 kw_1_23 kw_12_2 hi ⟨_, _, _, rfl, rfl, rfl⟩ (by decide +kernel) (by decide) hlm hk rfl hW hd kk
theorem cl_X1_40 {l : Launch} {g : oG} {cc : ByteArray} {lam mc : Nat} {x : oCtx} {σ : oMem} {pc : Nat} {vs : List (Option Value)} {rest : List Value} {k : Nat} {lam' mc' : Nat} {i : Nat} {a0 : Int} {post : oMem → Prop} (C : oK l g RX1 cc lam mc x) (hM : oMv l g yX3_append (.code yX3_append cX3_append 2 none) lam' mc' [.ref (g.2.1 8 i), oi a0] σ post) (hi : i < 11) (hlm : lam' + 1 ≤ lam) (hk : k + mc' ≤ mc) (hW : (rest.map fun v => v.category).sum ≤ 8) (hd : decode cc pc = .ok (.invokevirtual 40, 3)) (kk : ∀ σ' : oMem, post σ' → oW l g x σ' (pc + 3) vs rest (k + mc')) : oW l g x σ pc vs (oi a0 :: .ref (g.2.1 8 i) :: rest) k := o_callNv (n := 1) (As := [oi a0]) C hM (List.mem_of_getElem? (i := 33) rfl) kw_11_8 kw_11_9 kw_1_23 kw_11_10 hi ⟨_, _, _, rfl, rfl, rfl⟩ (by decide +kernel) (by decide) hlm hk rfl hW hd kk
theorem sti_0 {l : Launch} {g : oG} {own : String} {cc : ByteArray} {lam mc : Nat} {x : oCtx} {σ : oMem} {pc : Nat} {st : List Value} {k : Nat} {b0 : Option Value} {r : List (Option Value)} {z : Int} (C : oK l g own cc lam mc x) (hd : decode cc pc = .ok (.istore_n 0, 1)) (kk : oW l g x σ (pc + 1) (some (oi z) :: r) st k) : oW l g x σ pc (b0 :: r) (oi z :: st) k := o_istore_n (i := 0) C hd (by show 0 < List.length _; simp only [List.length_cons]; omega) kk
theorem sta_0 {l : Launch} {g : oG} {own : String} {cc : ByteArray} {lam mc : Nat} {x : oCtx} {σ : oMem} {pc : Nat} {st : List Value} {k : Nat} {b0 : Option Value} {r : List (Option Value)} {a : Nat} (C : oK l g own cc lam mc x) (hd : decode cc pc = .ok (.astore_n 0, 1)) (kk : oW l g x σ (pc + 1) (some (.ref a) :: r) st k) : oW l g x σ pc (b0 :: r) (.ref a :: st) k := o_astore_n (i := 0) C hd (by show 0 < List.length _; simp only [List.length_cons]; omega) kk
theorem inc_0 {l : Launch} {g : oG} {own : String} {cc : ByteArray} {lam mc : Nat} {x : oCtx} {σ : oMem} {pc : Nat} {st : List Value} {k : Nat} {r : List (Option Value)} {n z : Int} (C : oK l g own cc lam mc x) (hd : decode cc pc = .ok (.iinc 0 n, 3)) (kk : oW l g x σ (pc + 3) (some (oi (z + n)) :: r) st k) : oW l g x σ pc (some (oi z) :: r) st k := o_iinc (i := 0) C hd rfl kk
theorem sti_1 {l : Launch} {g : oG} {own : String} {cc : ByteArray} {lam mc : Nat} {x : oCtx} {σ : oMem} {pc : Nat} {st : List Value} {k : Nat} {b0 b1 : Option Value} {r : List (Option Value)} {z : Int} (C : oK l g own cc lam mc x) (hd : decode cc pc = .ok (.istore_n 1, 1)) (kk : oW l g x σ (pc + 1) (b0 :: some (oi z) :: r) st k) : oW l g x σ pc (b0 :: b1 :: r) (oi z :: st) k := o_istore_n (i := 1) C hd (by show 1 < List.length _; simp only [List.length_cons]; omega) kk
theorem sta_1 {l : Launch} {g : oG} {own : String} {cc : ByteArray} {lam mc : Nat} {x : oCtx} {σ : oMem} {pc : Nat} {st : List Value} {k : Nat} {b0 b1 : Option Value} {r : List (Option Value)} {a : Nat} (C : oK l g own cc lam mc x) (hd : decode cc pc = .ok (.astore_n 1, 1)) (kk : oW l g x σ (pc + 1) (b0 :: some (.ref a) :: r) st k) : oW l g x σ pc (b0 :: b1 :: r) (.ref a :: st) k := o_astore_n (i := 1) C hd (by show 1 < List.length _; simp only [List.length_cons]; omega) kk
theorem inc_1 {l : Launch} {g : oG} {own : String} {cc : ByteArray} {lam mc : Nat} {x : oCtx} {σ : oMem} {pc : Nat} {st : List Value} {k : Nat} {b0 : Option Value} {r : List (Option Value)} {n z : Int} (C : oK l g own cc lam mc x) (hd : decode cc pc = .ok (.iinc 1 n, 3)) (kk : oW l g x σ (pc + 3) (b0 :: some (oi (z + n)) :: r) st k) : oW l g x σ pc (b0 :: some (oi z) :: r) st k := o_iinc (i := 1) C hd rfl kk
theorem sti_2 {l : Launch} {g : oG} {own : String} {cc : ByteArray} {lam mc : Nat} {x : oCtx} {σ : oMem} {pc : Nat} {st : List Value} {k : Nat} {b0 b1 b2 : Option Value} {r : List (Option Value)} {z : Int} (C : oK l g own cc lam mc x) (hd : decode cc pc = .ok (.istore_n 2, 1)) (kk : oW l g x σ (pc + 1) (b0 :: b1 :: some (oi z) :: r) st k) : oW l g x σ pc (b0 :: b1 :: b2 :: r) (oi z :: st) k := o_istore_n (i := 2) C hd (by show 2 < List.length _; simp only [List.length_cons]; omega) kk
theorem sta_2 {l : Launch} {g : oG} {own : String} {cc : ByteArray} {lam mc : Nat} {x : oCtx} {σ : oMem} {pc : Nat} {st : List Value} {k : Nat} {b0 b1 b2 : Option Value} {r : List (Option Value)} {a : Nat} (C : oK l g own cc lam mc x) (hd : decode cc pc = .ok (.astore_n 2, 1)) (kk : oW l g x σ (pc + 1) (b0 :: b1 :: some (.ref a) :: r) st k) : oW l g x σ pc (b0 :: b1 :: b2 :: r) (.ref a :: st) k := o_astore_n (i := 2) C hd (by show 2 < List.length _; simp only [List.length_cons]; omega) kk
theorem inc_2 {l : Launch} {g : oG} {own : String} {cc : ByteArray} {lam mc : Nat} {x : oCtx} {σ : oMem} {pc : Nat} {st : List Value} {k : Nat} {b0 b1 : Option Value} {r : List (Option Value)} {n z : Int} (C : oK l g own cc lam mc x) (hd : decode cc pc = .ok (.iinc 2 n, 3)) (kk : oW l g x σ (pc + 3) (b0 :: b1 :: some (oi (z + n)) :: r) st k) : oW l g x σ pc (b0 :: b1 :: some (oi z) :: r) st k := o_iinc (i := 2) C hd rfl kk
theorem sti_3 {l : Launch} {g : oG} {own : String} {cc : ByteArray} {lam mc : Nat} {x : oCtx} {σ : oMem} {pc : Nat} {st : List Value} {k : Nat} {b0 b1 b2 b3 : Option Value} {r : List (Option Value)} {z : Int} (C : oK l g own cc lam mc x) (hd : decode cc pc = .ok (.istore_n 3, 1)) (kk : oW l g x σ (pc + 1) (b0 :: b1 :: b2 :: some (oi z) :: r) st k) : oW l g x σ pc (b0 :: b1 :: b2 :: b3 :: r) (oi z :: st) k := o_istore_n (i := 3) C hd (by show 3 < List.length _; simp only [List.length_cons]; omega) kk
theorem sta_3 {l : Launch} {g : oG} {own : String} {cc : ByteArray} {lam mc : Nat} {x : oCtx} {σ : oMem} {pc : Nat} {st : List Value} {k : Nat} {b0 b1 b2 b3 : Option Value} {r : List (Option Value)} {a : Nat} (C : oK l g own cc lam mc x) (hd : decode cc pc = .ok (.astore_n 3, 1)) (kk : oW l g x σ (pc + 1) (b0 :: b1 :: b2 :: some (.ref a) :: r) st k) : oW l g x σ pc (b0 :: b1 :: b2 :: b3 :: r) (.ref a :: st) k := o_astore_n (i := 3) C hd (by show 3 < List.length _; simp only [List.length_cons]; omega) kk
theorem inc_3 {l : Launch} {g : oG} {own : String} {cc : ByteArray} {lam mc : Nat} {x : oCtx} {σ : oMem} {pc : Nat} {st : List Value} {k : Nat} {b0 b1 b2 : Option Value} {r : List (Option Value)} {n z : Int} (C : oK l g own cc lam mc x) (hd : decode cc pc = .ok (.iinc 3 n, 3)) (kk : oW l g x σ (pc + 3) (b0 :: b1 :: b2 :: some (oi (z + n)) :: r) st k) : oW l g x σ pc (b0 :: b1 :: b2 :: some (oi z) :: r) st k := o_iinc (i := 3) C hd rfl kk
theorem sti_4 {l : Launch} {g : oG} {own : String} {cc : ByteArray} {lam mc : Nat} {x : oCtx} {σ : oMem} {pc : Nat} {st : List Value} {k : Nat} {b0 b1 b2 b3 b4 : Option Value} {r : List (Option Value)} {z : Int} (C : oK l g own cc lam mc x) (hd : decode cc pc = .ok (.istore 4, 2)) (kk : oW l g x σ (pc + 2) (b0 :: b1 :: b2 :: b3 :: some (oi z) :: r) st k) : oW l g x σ pc (b0 :: b1 :: b2 :: b3 :: b4 :: r) (oi z :: st) k := o_istore (i := 4) C hd (by show 4 < List.length _; simp only [List.length_cons]; omega) kk
theorem sta_4 {l : Launch} {g : oG} {own : String} {cc : ByteArray} {lam mc : Nat} {x : oCtx} {σ : oMem} {pc : Nat} {st : List Value} {k : Nat} {b0 b1 b2 b3 b4 : Option Value} {r : List (Option Value)} {a : Nat} (C : oK l g own cc lam mc x) (hd : decode cc pc = .ok (.astore 4, 2)) (kk : oW l g x σ (pc + 2) (b0 :: b1 :: b2 :: b3 :: some (.ref a) :: r) st k) : oW l g x σ pc (b0 :: b1 :: b2 :: b3 :: b4 :: r) (.ref a :: st) k := o_astore (i := 4) C hd (by show 4 < List.length _; simp only [List.length_cons]; omega) kk
theorem inc_4 {l : Launch} {g : oG} {own : String} {cc : ByteArray} {lam mc : Nat} {x : oCtx} {σ : oMem} {pc : Nat} {st : List Value} {k : Nat} {b0 b1 b2 b3 : Option Value} {r : List (Option Value)} {n z : Int} (C : oK l g own cc lam mc x) (hd : decode cc pc = .ok (.iinc 4 n, 3)) (kk : oW l g x σ (pc + 3) (b0 :: b1 :: b2 :: b3 :: some (oi (z + n)) :: r) st k) : oW l g x σ pc (b0 :: b1 :: b2 :: b3 :: some (oi z) :: r) st k := o_iinc (i := 4) C hd rfl kk
theorem sti_5 {l : Launch} {g : oG} {own : String} {cc : ByteArray} {lam mc : Nat} {x : oCtx} {σ : oMem} {pc : Nat} {st : List Value} {k : Nat} {b0 b1 b2 b3 b4 b5 : Option Value} {r : List (Option Value)} {z : Int} (C : oK l g own cc lam mc x) (hd : decode cc pc = .ok (.istore 5, 2)) (kk : oW l g x σ (pc + 2) (b0 :: b1 :: b2 :: b3 :: b4 :: some (oi z) :: r) st k) : oW l g x σ pc (b0 :: b1 :: b2 :: b3 :: b4 :: b5 :: r) (oi z :: st) k := o_istore (i := 5) C hd (by show 5 < List.length _; simp only [List.length_cons]; omega) kk
theorem sta_5 {l : Launch} {g : oG} {own : String} {cc : ByteArray} {lam mc : Nat} {x : oCtx} {σ : oMem} {pc : Nat} {st : List Value} {k : Nat} {b0 b1 b2 b3 b4 b5 : Option Value} {r : List (Option Value)} {a : Nat} (C : oK l g own cc lam mc x) (hd : decode cc pc = .ok (.astore 5, 2)) (kk : oW l g x σ (pc + 2) (b0 :: b1 :: b2 :: b3 :: b4 :: some (.ref a) :: r) st k) : oW l g x σ pc (b0 :: b1 :: b2 :: b3 :: b4 :: b5 :: r) (.ref a :: st) k := o_astore (i := 5) C hd (by show 5 < List.length _; simp only [List.length_cons]; omega) kk
theorem inc_5 {l : Launch} {g : oG} {own : String} {cc : ByteArray} {lam mc : Nat} {x : oCtx} {σ : oMem} {pc : Nat} {st : List Value} {k : Nat} {b0 b1 b2 b3 b4 : Option Value} {r : List (Option Value)} {n z : Int} (C : oK l g own cc lam mc x) (hd : decode cc pc = .ok (.iinc 5 n, 3)) (kk : oW l g x σ (pc + 3) (b0 :: b1 :: b2 :: b3 :: b4 :: some (oi (z + n)) :: r) st k) : oW l g x σ pc (b0 :: b1 :: b2 :: b3 :: b4 :: some (oi z) :: r) st k := o_iinc (i := 5) C hd rfl kk
theorem sti_6 {l : Launch} {g : oG} {own : String} {cc : ByteArray} {lam mc : Nat} {x : oCtx} {σ : oMem} {pc : Nat} {st : List Value} {k : Nat} {b0 b1 b2 b3 b4 b5 b6 : Option Value} {r : List (Option Value)} {z : Int} (C : oK l g own cc lam mc x) (hd : decode cc pc = .ok (.istore 6, 2)) (kk : oW l g x σ (pc + 2) (b0 :: b1 :: b2 :: b3 :: b4 :: b5 :: some (oi z) :: r) st k) : oW l g x σ pc (b0 :: b1 :: b2 :: b3 :: b4 :: b5 :: b6 :: r) (oi z :: st) k := o_istore (i := 6) C hd (by show 6 < List.length _; simp only [List.length_cons]; omega) kk
theorem sta_6 {l : Launch} {g : oG} {own : String} {cc : ByteArray} {lam mc : Nat} {x : oCtx} {σ : oMem} {pc : Nat} {st : List Value} {k : Nat} {b0 b1 b2 b3 b4 b5 b6 : Option Value} {r : List (Option Value)} {a : Nat} (C : oK l g own cc lam mc x) (hd : decode cc pc = .ok (.astore 6, 2)) (kk : oW l g x σ (pc + 2) (b0 :: b1 :: b2 :: b3 :: b4 :: b5 :: some (.ref a) :: r) st k) : oW l g x σ pc (b0 :: b1 :: b2 :: b3 :: b4 :: b5 :: b6 :: r) (.ref a :: st) k := o_astore (i := 6) C hd (by show 6 < List.length _; simp only [List.length_cons]; omega) kk
theorem inc_6 {l : Launch} {g : oG} {own : String} {cc : ByteArray} {lam mc : Nat} {x : oCtx} {σ : oMem} {pc : Nat} {st : List Value} {k : Nat} {b0 b1 b2 b3 b4 b5 : Option Value} {r : List (Option Value)} {n z : Int} (C : oK l g own cc lam mc x) (hd : decode cc pc = .ok (.iinc 6 n, 3)) (kk : oW l g x σ (pc + 3) (b0 :: b1 :: b2 :: b3 :: b4 :: b5 :: some (oi (z + n)) :: r) st k) : oW l g x σ pc (b0 :: b1 :: b2 :: b3 :: b4 :: b5 :: some (oi z) :: r) st k := o_iinc (i := 6) C hd rfl kk
theorem sti_7 {l : Launch} {g : oG} {own : String} {cc : ByteArray} {lam mc : Nat} {x : oCtx} {σ : oMem} {pc : Nat} {st : List Value} {k : Nat} {b0 b1 b2 b3 b4 b5 b6 b7 : Option Value} {r : List (Option Value)} {z : Int} (C : oK l g own cc lam mc x) (hd : decode cc pc = .ok (.istore 7, 2)) (kk : oW l g x σ (pc + 2) (b0 :: b1 :: b2 :: b3 :: b4 :: b5 :: b6 :: some (oi z) :: r) st k) : oW l g x σ pc (b0 :: b1 :: b2 :: b3 :: b4 :: b5 :: b6 :: b7 :: r) (oi z :: st) k := o_istore (i := 7) C hd (by show 7 < List.length _; simp only [List.length_cons]; omega) kk
theorem sta_7 {l : Launch} {g : oG} {own : String} {cc : ByteArray} {lam mc : Nat} {x : oCtx} {σ : oMem} {pc : Nat} {st : List Value} {k : Nat} {b0 b1 b2 b3 b4 b5 b6 b7 : Option Value} {r : List (Option Value)} {a : Nat} (C : oK l g own cc lam mc x) (hd : decode cc pc = .ok (.astore 7, 2)) (kk : oW l g x σ (pc + 2) (b0 :: b1 :: b2 :: b3 :: b4 :: b5 :: b6 :: some (.ref a) :: r) st k) : oW l g x σ pc (b0 :: b1 :: b2 :: b3 :: b4 :: b5 :: b6 :: b7 :: r) (.ref a :: st) k := o_astore (i := 7) C hd (by show 7 < List.length _; simp only [List.length_cons]; omega) kk
theorem inc_7 {l : Launch} {g : oG} {own : String} {cc : ByteArray} {lam mc : Nat} {x : oCtx} {σ : oMem} {pc : Nat} {st : List Value} {k : Nat} {b0 b1 b2 b3 b4 b5 b6 : Option Value} {r : List (Option Value)} {n z : Int} (C : oK l g own cc lam mc x) (hd : decode cc pc = .ok (.iinc 7 n, 3)) (kk : oW l g x σ (pc + 3) (b0 :: b1 :: b2 :: b3 :: b4 :: b5 :: b6 :: some (oi (z + n)) :: r) st k) : oW l g x σ pc (b0 :: b1 :: b2 :: b3 :: b4 :: b5 :: b6 :: some (oi z) :: r) st k := o_iinc (i := 7) C hd rfl kk
theorem sti_8 {l : Launch} {g : oG} {own : String} {cc : ByteArray} {lam mc : Nat} {x : oCtx} {σ : oMem} {pc : Nat} {st : List Value} {k : Nat} {b0 b1 b2 b3 b4 b5 b6 b7 b8 : Option Value} {r : List (Option Value)} {z : Int} (C : oK l g own cc lam mc x) (hd : decode cc pc = .ok (.istore 8, 2)) (kk : oW l g x σ (pc + 2) (b0 :: b1 :: b2 :: b3 :: b4 :: b5 :: b6 :: b7 :: some (oi z) :: r) st k) : oW l g x σ pc (b0 :: b1 :: b2 :: b3 :: b4 :: b5 :: b6 :: b7 :: b8 :: r) (oi z :: st) k := o_istore (i := 8) C hd (by show 8 < List.length _; simp only [List.length_cons]; omega) kk
theorem sta_8 {l : Launch} {g : oG} {own : String} {cc : ByteArray} {lam mc : Nat} {x : oCtx} {σ : oMem} {pc : Nat} {st : List Value} {k : Nat} {b0 b1 b2 b3 b4 b5 b6 b7 b8 : Option Value} {r : List (Option Value)} {a : Nat} (C : oK l g own cc lam mc x) (hd : decode cc pc = .ok (.astore 8, 2)) (kk : oW l g x σ (pc + 2) (b0 :: b1 :: b2 :: b3 :: b4 :: b5 :: b6 :: b7 :: some (.ref a) :: r) st k) : oW l g x σ pc (b0 :: b1 :: b2 :: b3 :: b4 :: b5 :: b6 :: b7 :: b8 :: r) (.ref a :: st) k := o_astore (i := 8) C hd (by show 8 < List.length _; simp only [List.length_cons]; omega) kk
theorem inc_8 {l : Launch} {g : oG} {own : String} {cc : ByteArray} {lam mc : Nat} {x : oCtx} {σ : oMem} {pc : Nat} {st : List Value} {k : Nat} {b0 b1 b2 b3 b4 b5 b6 b7 : Option Value} {r : List (Option Value)} {n z : Int} (C : oK l g own cc lam mc x) (hd : decode cc pc = .ok (.iinc 8 n, 3)) (kk : oW l g x σ (pc + 3) (b0 :: b1 :: b2 :: b3 :: b4 :: b5 :: b6 :: b7 :: some (oi (z + n)) :: r) st k) : oW l g x σ pc (b0 :: b1 :: b2 :: b3 :: b4 :: b5 :: b6 :: b7 :: some (oi z) :: r) st k := o_iinc (i := 8) C hd rfl kk
theorem sti_9 {l : Launch} {g : oG} {own : String} {cc : ByteArray} {lam mc : Nat} {x : oCtx} {σ : oMem} {pc : Nat} {st : List Value} {k : Nat} {b0 b1 b2 b3 b4 b5 b6 b7 b8 b9 : Option Value} {r : List (Option Value)} {z : Int} (C : oK l g own cc lam mc x) (hd : decode cc pc = .ok (.istore 9, 2)) (kk : oW l g x σ (pc + 2) (b0 :: b1 :: b2 :: b3 :: b4 :: b5 :: b6 :: b7 :: b8 :: some (oi z) :: r) st k) : oW l g x σ pc (b0 :: b1 :: b2 :: b3 :: b4 :: b5 :: b6 :: b7 :: b8 :: b9 :: r) (oi z :: st) k := o_istore (i := 9) C hd (by show 9 < List.length _; simp only [List.length_cons]; omega) kk
theorem sta_9 {l : Launch} {g : oG} {own : String} {cc : ByteArray} {lam mc : Nat} {x : oCtx} {σ : oMem} {pc : Nat} {st : List Value} {k : Nat} {b0 b1 b2 b3 b4 b5 b6 b7 b8 b9 : Option Value} {r : List (Option Value)} {a : Nat} (C : oK l g own cc lam mc x) (hd : decode cc pc = .ok (.astore 9, 2)) (kk : oW l g x σ (pc + 2) (b0 :: b1 :: b2 :: b3 :: b4 :: b5 :: b6 :: b7 :: b8 :: some (.ref a) :: r) st k) : oW l g x σ pc (b0 :: b1 :: b2 :: b3 :: b4 :: b5 :: b6 :: b7 :: b8 :: b9 :: r) (.ref a :: st) k := o_astore (i := 9) C hd (by show 9 < List.length _; simp only [List.length_cons]; omega) kk
theorem inc_9 {l : Launch} {g : oG} {own : String} {cc : ByteArray} {lam mc : Nat} {x : oCtx} {σ : oMem} {pc : Nat} {st : List Value} {k : Nat} {b0 b1 b2 b3 b4 b5 b6 b7 b8 : Option Value} {r : List (Option Value)} {n z : Int} (C : oK l g own cc lam mc x) (hd : decode cc pc = .ok (.iinc 9 n, 3)) (kk : oW l g x σ (pc + 3) (b0 :: b1 :: b2 :: b3 :: b4 :: b5 :: b6 :: b7 :: b8 :: some (oi (z + n)) :: r) st k) : oW l g x σ pc (b0 :: b1 :: b2 :: b3 :: b4 :: b5 :: b6 :: b7 :: b8 :: some (oi z) :: r) st k := o_iinc (i := 9) C hd rfl kk
theorem hb_91 : ∀ w ∈ (vx_atS RX5 91 "java/lang/IllegalStateException" ["java/lang/RuntimeException", "java/lang/Exception"]).filter (fun w => !goodWord w), w ∈ Cond.castable "java/lang/IllegalStateException" "java/lang/IllegalStateException" :: o_de.map Cond.declares := by decide +kernel
theorem ho_91 : ∀ w ∈ Cond.classLink RX5 87 "java/lang/IllegalStateException" :: Cond.initialized "java/lang/IllegalStateException" :: vx_atS RX5 91 "java/lang/IllegalStateException" ["java/lang/RuntimeException", "java/lang/Exception"], vx_ot w = true := by decide +kernel
theorem th_87 {l : Launch} {g : oG} {cc : ByteArray} {mc : Nat} {x : oCtx} {σ : oMem} {pc is : Nat} {text : String} {vs : List (Option Value)} {k : Nat} {px : String → Prop} (T : oT l g RX5 cc mc σ px x) (htx : (RX5, is, text) ∈ o_tx) (d0 : decode cc pc = .ok (.new 87, 3)) (d3 : decode cc (pc + 3) = .ok (.dup, 1)) (d4 : decode cc (pc + 4) = .ok (.ldc is, 2)) (d6 : decode cc (pc + 6) = .ok (.invokespecial 91, 3)) (d9 : decode cc (pc + 9) = .ok (.athrow, 1)) (hk : k + 1 ≤ mc) (hp : px "java/lang/IllegalStateException") : oW l g x σ pc vs [] k := T.2 pc 87 is 91 "java/lang/IllegalStateException" text vs k hp (by decide +kernel) (by decide) kw_6_8 kw_6_9 htx wsL_x0 hb_91 ho_91 d0 d3 d4 d6 d9 hk
theorem hb_259 : ∀ w ∈ (vx_atS RX5 259 "java/lang/IllegalArgumentException" ["java/lang/RuntimeException", "java/lang/Exception"]).filter (fun w => !goodWord w), w ∈ Cond.castable "java/lang/IllegalArgumentException" "java/lang/IllegalArgumentException" :: o_de.map Cond.declares := by decide +kernel
theorem ho_259 : ∀ w ∈ Cond.classLink RX5 255 "java/lang/IllegalArgumentException" :: Cond.initialized "java/lang/IllegalArgumentException" :: vx_atS RX5 259 "java/lang/IllegalArgumentException" ["java/lang/RuntimeException", "java/lang/Exception"], vx_ot w = true := by decide +kernel
theorem th_255 {l : Launch} {g : oG} {cc : ByteArray} {mc : Nat} {x : oCtx} {σ : oMem} {pc is : Nat} {text : String} {vs : List (Option Value)} {k : Nat} {px : String → Prop} (T : oT l g RX5 cc mc σ px x) (htx : (RX5, is, text) ∈ o_tx) (d0 : decode cc pc = .ok (.new 255, 3)) (d3 : decode cc (pc + 3) = .ok (.dup, 1)) (d4 : decode cc (pc + 4) = .ok (.ldc is, 2)) (d6 : decode cc (pc + 6) = .ok (.invokespecial 259, 3)) (d9 : decode cc (pc + 9) = .ok (.athrow, 1)) (hk : k + 1 ≤ mc) (hp : px "java/lang/IllegalArgumentException") : oW l g x σ pc vs [] k := T.2 pc 255 is 259 "java/lang/IllegalArgumentException" text vs k hp (by decide +kernel) (by decide) kw_6_13 kw_6_14 htx wsL_x1 hb_259 ho_259 d0 d3 d4 d6 d9 hk
theorem hb_149 : ∀ w ∈ (vx_atS RX5 149 "java/lang/IndexOutOfBoundsException" ["java/lang/RuntimeException", "java/lang/Exception"]).filter (fun w => !goodWord w), w ∈ Cond.castable "java/lang/IndexOutOfBoundsException" "java/lang/IndexOutOfBoundsException" :: o_de.map Cond.declares := by decide +kernel
theorem ho_149 : ∀ w ∈ Cond.classLink RX5 145 "java/lang/IndexOutOfBoundsException" :: Cond.initialized "java/lang/IndexOutOfBoundsException" :: vx_atS RX5 149 "java/lang/IndexOutOfBoundsException" ["java/lang/RuntimeException", "java/lang/Exception"], vx_ot w = true := by decide +kernel
theorem th_145 {l : Launch} {g : oG} {cc : ByteArray} {mc : Nat} {x : oCtx} {σ : oMem} {pc is : Nat} {text : String} {vs : List (Option Value)} {k : Nat} {px : String → Prop} (T : oT l g RX5 cc mc σ px x) (htx : (RX5, is, text) ∈ o_tx) (d0 : decode cc pc = .ok (.new 145, 3)) (d3 : decode cc (pc + 3) = .ok (.dup, 1)) (d4 : decode cc (pc + 4) = .ok (.ldc is, 2)) (d6 : decode cc (pc + 6) = .ok (.invokespecial 149, 3)) (d9 : decode cc (pc + 9) = .ok (.athrow, 1)) (hk : k + 1 ≤ mc) (hp : px "java/lang/IndexOutOfBoundsException") : oW l g x σ pc vs [] k := T.2 pc 145 is 149 "java/lang/IndexOutOfBoundsException" text vs k hp (by decide +kernel) (by decide) kw_7_23 kw_8_0 htx wsL_x2 hb_149 ho_149 d0 d3 d4 d6 d9 hk
end
section
/-! sums, pictures of patterns, coils and orders -/
def o_sum (f : Nat → Int) : Nat → Int
  | 0 => 0
  | n + 1 => o_sum f n + f n
def o_bl (σ : oMem) (K i n : Nat) (f : Nat → Int) : oMem := fun K' i' j' => if K' = K ∧ i' = i ∧ j' < n then f j' else σ K' i' j'
def o_rw (σ : oMem) (K i : Nat) (f : Nat → Int) : oMem := fun K' i' j' => if K' = K ∧ i' = i then f j' else σ K' i' j'
def o_has (f : Nat → Int) (n : Nat) (a : Int) : Bool := (List.range (n + 1)).any (fun k => o_sum f k == a)
theorem o_has_iff {f : Nat → Int} {n : Nat} {a : Int} : o_has f n a = true ↔ ∃ k : Nat, k ≤ n ∧ o_sum f k = a := by
  simp only [o_has, List.any_eq_true, List.mem_range, beq_iff_eq]
  constructor
  · rintro ⟨k, h1, h2⟩; exact ⟨k, by omega, h2⟩
  · rintro ⟨k, h1, h2⟩; exact ⟨k, by omega, h2⟩
/-- a pattern: how many slits, and how wide they are -/
def PB (σ : oMem) (p : Nat) : Prop := 0 ≤ σ 8 p 1 ∧ σ 8 p 1 ≤ 15 ∧ ∀ j : Nat, (j : Int) < σ 8 p 1 → 20 ≤ σ 9 p j ∧ σ 9 p j ≤ 1000
theorem PB.sum {σ : oMem} {p : Nat} (h : PB σ p) (t : Nat) (ht : (t : Int) ≤ σ 8 p 1) : 20 * (t : Int) ≤ o_sum (σ 9 p) t ∧ o_sum (σ 9 p) t ≤ 1000 * t := by
  induction t with
  | zero => simp [o_sum]
  | succ t ih =>
    have h1 := ih (by omega)
    have h2 := h.2.2 t (by omega)
    rw [o_sum]
    omega
theorem PB.mono {σ : oMem} {p : Nat} (h : PB σ p) {k t : Nat} (hk : k < t) (ht : (t : Int) ≤ σ 8 p 1) : o_sum (σ 9 p) k < o_sum (σ 9 p) t := by
  induction t with
  | zero => omega
  | succ t ih =>
    have h2 := h.2.2 t (by omega)
    rw [o_sum]
    by_cases e : k = t
    · subst e; omega
    · have h3 := ih (by omega) (by omega)
      omega
set_option maxRecDepth 100000 in
set_option maxHeartbeats 4000000 in
theorem c_X3_isFull {l : Launch} {g : oG} {σ : oMem} {p : Nat} (hp : p < 11) (h1 : InR (σ 8 p 1)) : oMi l g yX3_isFull (.code yX3_isFull cX3_isFull 1 (some .boolean)) 1 0 [.ref (g.2.1 8 p)] σ (fun z σ' => z = (if 15 ≤ σ 8 p 1 then 1 else 0) ∧ σ' = σ) := by
  refine oMi_of (own := RX3) (by decide +kernel) rfl (by simp [oi, Value.category]) (by simp) (fun x C E => ?_)
  show oW l g x σ 0 [some (.ref (g.2.1 8 p))] [] 0
  refine o_aload_n (pc := 0) C dX3_isFull_0 rfl ?_
  refine gf_X3_15 (pc := 1) C (by omega) dX3_isFull_1 ?_
  refine o_aload_n (pc := 4) C dX3_isFull_4 rfl ?_
  refine gf_X3_9 (pc := 5) C (by omega) dX3_isFull_5 ?_
  refine al_9 (pc := 8) C (by omega) dX3_isFull_8 ?_
  refine o_icmp_lt (pc := 9) C (tgt := 16) dX3_isFull_9 (by decide) (by omega) (by omega) (fun h9 => ?_) (fun h9 => ?_)
  · refine o_iconst (pc := 16) C dX3_isFull_16 ?_
    exact E _ _ _ _ _ dX3_isFull_17 rfl ⟨by split <;> omega, rfl⟩ (by omega)
  · refine o_iconst (pc := 12) C dX3_isFull_12 ?_
    refine o_goto (pc := 13) C (tgt := 17) dX3_isFull_13 (by decide) ?_
    exact E _ _ _ _ _ dX3_isFull_17 rfl ⟨by split <;> omega, rfl⟩ (by omega)
set_option maxRecDepth 100000 in
set_option maxHeartbeats 4000000 in
theorem c_X3_hasSlitAt {l : Launch} {g : oG} {σ : oMem} {p : Nat} {a : Int} (hp : p < 11) (h1 : InR (σ 8 p 1)) (ha : InR a) : oMi l g yX3_hasSlitAt (.code yX3_hasSlitAt cX3_hasSlitAt 2 (some .boolean)) 1 0 [.ref (g.2.1 8 p), oi a] σ (fun z σ' => z = (if 0 ≤ a ∧ a < σ 8 p 1 then 1 else 0) ∧ σ' = σ) := by
  refine oMi_of (own := RX3) (by decide +kernel) rfl (by simp [oi, Value.category]) (by simp) (fun x C E => ?_)
  show oW l g x σ 0 [some (.ref (g.2.1 8 p)), some (oi a)] [] 0
  refine o_iload_n (pc := 0) C dX3_hasSlitAt_0 rfl ?_
  refine o_if_lt (pc := 1) C (tgt := 16) dX3_hasSlitAt_1 (by decide) (by omega) (fun h1 => ?_) (fun h1 => ?_)
  · refine o_iconst (pc := 16) C dX3_hasSlitAt_16 ?_
    exact E _ _ _ _ _ dX3_hasSlitAt_17 rfl ⟨by split <;> omega, rfl⟩ (by omega)
  · refine o_iload_n (pc := 4) C dX3_hasSlitAt_4 rfl ?_
    refine o_aload_n (pc := 5) C dX3_hasSlitAt_5 rfl ?_
    refine gf_X3_15 (pc := 6) C (by omega) dX3_hasSlitAt_6 ?_
    refine o_icmp_ge (pc := 9) C (tgt := 16) dX3_hasSlitAt_9 (by decide) (by omega) (by omega) (fun h9 => ?_) (fun h9 => ?_)
    · refine o_iconst (pc := 16) C dX3_hasSlitAt_16 ?_
      exact E _ _ _ _ _ dX3_hasSlitAt_17 rfl ⟨by split <;> omega, rfl⟩ (by omega)
    · refine o_iconst (pc := 12) C dX3_hasSlitAt_12 ?_
      refine o_goto (pc := 13) C (tgt := 17) dX3_hasSlitAt_13 (by decide) ?_
      exact E _ _ _ _ _ dX3_hasSlitAt_17 rfl ⟨by split <;> omega, rfl⟩ (by omega)
set_option maxRecDepth 100000 in
set_option maxHeartbeats 4000000 in
theorem c_X3_empty {l : Launch} {g : oG} {σ : oMem} {p : Nat} (hp : p < 11) : oMv l g yX3_empty (.code yX3_empty cX3_empty 1 none) 1 0 [.ref (g.2.1 8 p)] σ (fun σ' => σ' = o_up σ 8 p 1 0) := by
  refine oMv_of (own := RX3) (by decide +kernel) rfl (by simp [oi, Value.category]) (by simp) (fun x C E => ?_)
  show oW l g x σ 0 [some (.ref (g.2.1 8 p))] [] 0
  refine o_aload_n (pc := 0) C dX3_empty_0 rfl ?_
  refine o_iconst (pc := 1) C dX3_empty_1 ?_
  refine pf_X3_15 (pc := 2) C (by omega) dX3_empty_2 ?_
  exact E _ _ _ _ dX3_empty_5 rfl (by omega)
set_option maxRecDepth 100000 in
set_option maxHeartbeats 4000000 in
theorem c_X3_append {l : Launch} {g : oG} {σ : oMem} {p : Nat} {a : Int} (hp : p < 11) (h1 : 0 ≤ σ 8 p 1) (h2 : InR (σ 8 p 1)) : oMv l g yX3_append (.code yX3_append cX3_append 2 none) 2 0 [.ref (g.2.1 8 p), oi a] σ (fun σ' => σ' = if σ 8 p 1 < 15 then o_up (o_up σ 9 p (σ 8 p 1).toNat a) 8 p 1 (σ 8 p 1 + 1) else σ) := by
  refine oMv_of (own := RX3) (by decide +kernel) rfl (by simp [oi, Value.category]) (by simp) (fun x C E => ?_)
  show oW l g x σ 0 [some (.ref (g.2.1 8 p)), some (oi a)] [] 0
  refine o_aload_n (pc := 0) C dX3_append_0 rfl ?_
  refine cl_X3_19 (pc := 1) C (c_X3_isFull hp h2) (by omega) (by omega) (by omega) (Nat.le_of_ble_eq_true rfl) dX3_append_1 (fun z σ2 hq => ?_)
  obtain ⟨rfl, rfl⟩ := hq
  refine o_if_ne (pc := 4) C (tgt := 27) dX3_append_4 (by decide) (by split <;> omega) (fun h4 => ?_) (fun h4 => ?_)
  · exact E _ _ _ _ dX3_append_27 (by simp_all [o_up] <;> omega) (by omega)
  · refine o_aload_n (pc := 7) C dX3_append_7 rfl ?_
    refine gf_X3_9 (pc := 8) C (by omega) dX3_append_8 ?_
    refine o_aload_n (pc := 11) C dX3_append_11 rfl ?_
    refine gf_X3_15 (pc := 12) C (by omega) dX3_append_12 ?_
    refine o_iload_n (pc := 15) C dX3_append_15 rfl ?_
    refine is_9 (pc := 16) C (by omega) (by omega) (by split at h4 <;> omega) dX3_append_16 ?_
    refine o_aload_n (pc := 17) C dX3_append_17 rfl ?_
    refine o_dup (pc := 18) C dX3_append_18 rfl ?_
    refine gf_X3_15 (pc := 19) C (by omega) dX3_append_19 ?_
    refine o_iconst (pc := 22) C dX3_append_22 ?_
    refine o_iadd (pc := 23) C dX3_append_23 ?_
    refine pf_X3_15 (pc := 24) C (by omega) dX3_append_24 ?_
    exact E _ _ _ _ dX3_append_27 (by simp_all [o_up] <;> omega) (by omega)
set_option maxRecDepth 100000 in
set_option maxHeartbeats 4000000 in
theorem c_X3_knivesNeeded {l : Launch} {g : oG} {σ : oMem} {p : Nat} (hp : p < 11) : oMi l g yX3_knivesNeeded (.code yX3_knivesNeeded cX3_knivesNeeded 1 (some .int)) 1 0 [.ref (g.2.1 8 p)] σ (fun z σ' => z = σ 8 p 1 + 1 ∧ σ' = σ) := by
  refine oMi_of (own := RX3) (by decide +kernel) rfl (by simp [oi, Value.category]) (by simp) (fun x C E => ?_)
  show oW l g x σ 0 [some (.ref (g.2.1 8 p))] [] 0
  refine o_aload_n (pc := 0) C dX3_knivesNeeded_0 rfl ?_
  refine gf_X3_15 (pc := 1) C (by omega) dX3_knivesNeeded_1 ?_
  refine o_iconst (pc := 4) C dX3_knivesNeeded_4 ?_
  refine o_iadd (pc := 5) C dX3_knivesNeeded_5 ?_
  exact E _ _ _ _ _ dX3_knivesNeeded_6 rfl ⟨rfl, rfl⟩ (by omega)
set_option maxRecDepth 100000 in
set_option maxHeartbeats 4000000 in
theorem c_X3_totalWidth {l : Launch} {g : oG} {σ : oMem} {p : Nat} (hp : p < 11) (hB : PB σ p) : oMi l g yX3_totalWidth (.code yX3_totalWidth cX3_totalWidth 3 (some .int)) 1 0 [.ref (g.2.1 8 p)] σ (fun z σ' => z = o_sum (σ 9 p) (σ 8 p 1).toNat ∧ σ' = σ) := by
  refine oMi_of (own := RX3) (by decide +kernel) rfl (by simp [oi, Value.category]) (by simp) (fun x C E => ?_)
  show oW l g x σ 0 [some (.ref (g.2.1 8 p)), none, none] [] 0
  obtain ⟨h0, h1, h2⟩ := id hB
  have L : ∀ (n t : Nat) (s b : Int), σ 8 p 1 < t + n → (t : Int) ≤ σ 8 p 1 → s = o_sum (σ 9 p) t → b = t → oW l g x σ 4 [some (.ref (g.2.1 8 p)), some (oi s), some (oi b)] [] 0 := by
    intro n
    induction n with
    | zero => intro t s b a1 a2; omega
    | succ n ih =>
      intro t s b a1 a2 a3 a4
      refine o_iload_n (pc := 4) C dX3_totalWidth_4 rfl ?_
      refine o_aload_n (pc := 5) C dX3_totalWidth_5 rfl ?_
      refine gf_X3_15 (pc := 6) C (by omega) dX3_totalWidth_6 ?_
      refine o_icmp_ge (pc := 9) C (tgt := 27) dX3_totalWidth_9 (by decide) (by omega) (by omega) (fun h9 => ?_) (fun h9 => ?_)
      · refine o_iload_n (pc := 27) C dX3_totalWidth_27 rfl ?_
        exact E _ _ _ _ _ dX3_totalWidth_28 rfl ⟨by rw [a3, show (σ 8 p 1).toNat = t by omega], rfl⟩ (by omega)
      · refine o_iload_n (pc := 12) C dX3_totalWidth_12 rfl ?_
        refine o_aload_n (pc := 13) C dX3_totalWidth_13 rfl ?_
        refine gf_X3_9 (pc := 14) C (by omega) dX3_totalWidth_14 ?_
        refine o_iload_n (pc := 17) C dX3_totalWidth_17 rfl ?_
        refine ia_9 (pc := 18) C (by omega) (by omega) (by omega) dX3_totalWidth_18 ?_
        refine o_iadd (pc := 19) C dX3_totalWidth_19 ?_
        refine sti_1 (pc := 20) C dX3_totalWidth_20 ?_
        refine inc_2 (pc := 21) C dX3_totalWidth_21 ?_
        refine o_goto (pc := 24) C (tgt := 4) dX3_totalWidth_24 (by decide) ?_
        exact ih (t + 1) _ _ (by omega) (by omega) (by rw [o_sum, a3, a4]; rfl) (by omega)
  refine o_iconst (pc := 0) C dX3_totalWidth_0 ?_
  refine sti_1 (pc := 1) C dX3_totalWidth_1 ?_
  refine o_iconst (pc := 2) C dX3_totalWidth_2 ?_
  refine sti_2 (pc := 3) C dX3_totalWidth_3 ?_
  exact L 16 0 _ _ (by omega) (by omega) rfl rfl
set_option maxRecDepth 100000 in
set_option maxHeartbeats 4000000 in
theorem c_X3_becomeCopyOf {l : Launch} {g : oG} {σ : oMem} {p q : Nat} (hp : p < 11) (hq : q < 11) (hne : q ≠ p) (h0 : 0 ≤ σ 8 q 1) (h1 : σ 8 q 1 ≤ 15) : oMv l g yX3_becomeCopyOf (.code yX3_becomeCopyOf cX3_becomeCopyOf 3 none) 3 0 [.ref (g.2.1 8 p), .ref (g.2.1 8 q)] σ (fun σ' => σ' = o_up (o_bl σ 9 p (σ 8 q 1).toNat (σ 9 q)) 8 p 1 (σ 8 q 1)) := by
  refine oMv_of (own := RX3) (by decide +kernel) rfl (by simp [oi, Value.category]) (by simp) (fun x C E => ?_)
  show oW l g x σ 0 [some (.ref (g.2.1 8 p)), some (.ref (g.2.1 8 q)), none] [] 0
  have L : ∀ (n t : Nat) (b : Int), σ 8 q 1 < t + n → (t : Int) ≤ σ 8 q 1 → b = t → oW l g x (o_up (o_bl σ 9 p t (σ 9 q)) 8 p 1 t) 6 [some (.ref (g.2.1 8 p)), some (.ref (g.2.1 8 q)), some (oi b)] [] 0 := by
    intro n
    induction n with
    | zero => intro t b a1 a2; omega
    | succ n ih =>
      intro t b a1 a2 a3
      have e1 : o_up (o_bl σ 9 p t (σ 9 q)) 8 p 1 t 8 q 1 = σ 8 q 1 := by simp [o_up, o_bl, hne]
      have e2 : o_up (o_bl σ 9 p t (σ 9 q)) 8 p 1 t 8 p 1 = t := by simp [o_up]
      have e3 : o_up (o_bl σ 9 p t (σ 9 q)) 8 p 1 t 9 q b.toNat = σ 9 q t := by simp [o_up, o_bl, hne, a3]
      refine o_iload_n (pc := 6) C dX3_becomeCopyOf_6 rfl ?_
      refine o_aload_n (pc := 7) C dX3_becomeCopyOf_7 rfl ?_
      refine gf_X3_15 (pc := 8) C (by omega) dX3_becomeCopyOf_8 ?_
      rw [e1]
      refine o_icmp_ge (pc := 11) C (tgt := 30) dX3_becomeCopyOf_11 (by decide) (by omega) (by omega) (fun h11 => ?_) (fun h11 => ?_)
      · exact E _ _ _ _ dX3_becomeCopyOf_30 (by rw [show (σ 8 q 1).toNat = t by omega, show σ 8 q 1 = t by omega]) (by omega)
      · refine o_aload_n (pc := 14) C dX3_becomeCopyOf_14 rfl ?_
        refine o_aload_n (pc := 15) C dX3_becomeCopyOf_15 rfl ?_
        refine gf_X3_9 (pc := 16) C (by omega) dX3_becomeCopyOf_16 ?_
        refine o_iload_n (pc := 19) C dX3_becomeCopyOf_19 rfl ?_
        refine ia_9 (pc := 20) C (by omega) (by omega) (by omega) dX3_becomeCopyOf_20 ?_
        rw [e3]
        refine cl_X3_26 (pc := 21) C (c_X3_append hp (by rw [e2]; omega) (by rw [e2]; omega)) (by omega) (by omega) (by omega) (Nat.le_of_ble_eq_true rfl) dX3_becomeCopyOf_21 (fun σ2 hq => ?_)
        rw [e2, if_pos (by omega)] at hq
        subst hq
        rw [show ((t : Int)).toNat = t by omega]
        refine inc_2 (pc := 24) C dX3_becomeCopyOf_24 ?_
        refine o_goto (pc := 27) C (tgt := 6) dX3_becomeCopyOf_27 (by decide) ?_
        rw [show o_up (o_up (o_up (o_bl σ 9 p t (σ 9 q)) 8 p 1 t) 9 p t (σ 9 q t)) 8 p 1 (t + 1) = o_up (o_bl σ 9 p (t + 1) (σ 9 q)) 8 p 1 ((t + 1 : Nat) : Int) from by funext K i j; simp only [o_up, o_bl]; grind]
        exact ih (t + 1) _ (by omega) (by omega) (by omega)
  refine o_aload_n (pc := 0) C dX3_becomeCopyOf_0 rfl ?_
  refine cl_X3_23 (pc := 1) C (c_X3_empty hp) (by omega) (by omega) (by omega) (Nat.le_of_ble_eq_true rfl) dX3_becomeCopyOf_1 (fun σ2 hq => ?_)
  subst hq
  refine o_iconst (pc := 4) C dX3_becomeCopyOf_4 ?_
  refine sti_2 (pc := 5) C dX3_becomeCopyOf_5 ?_
  rw [show o_up σ 8 p 1 0 = o_up (o_bl σ 9 p 0 (σ 9 q)) 8 p 1 ((0 : Nat) : Int) from by funext K i j; simp [o_up, o_bl]]
  exact L 16 0 _ (by omega) (by omega) rfl
set_option maxRecDepth 100000 in
set_option maxHeartbeats 4000000 in
theorem c_X3_hasKnifeAt {l : Launch} {g : oG} {σ : oMem} {p : Nat} {a : Int} (hp : p < 11) (hB : PB σ p) (ha0 : 0 ≤ a) (ha1 : a ≤ 20000) : oMi l g yX3_hasKnifeAt (.code yX3_hasKnifeAt cX3_hasKnifeAt 4 (some .boolean)) 1 0 [.ref (g.2.1 8 p), oi a] σ (fun z σ' => z = (if o_has (σ 9 p) (σ 8 p 1).toNat a = true then 1 else 0) ∧ σ' = σ) := by
  refine oMi_of (own := RX3) (by decide +kernel) rfl (by simp [oi, Value.category]) (by simp) (fun x C E => ?_)
  show oW l g x σ 0 [some (.ref (g.2.1 8 p)), some (oi a), none, none] [] 0
  obtain ⟨h0, h1, h2⟩ := id hB
  have L : ∀ (n t : Nat) (s b : Int), σ 8 p 1 < t + n → (t : Int) ≤ σ 8 p 1 → s = o_sum (σ 9 p) t → b = t → (∀ k, k < t → o_sum (σ 9 p) k < a) → oW l g x σ 4 [some (.ref (g.2.1 8 p)), some (oi a), some (oi s), some (oi b)] [] 0 := by
    intro n
    induction n with
    | zero => intro t s b a1 a2; omega
    | succ n ih =>
      intro t s b a1 a2 a3 a4 a5
      have hs := hB.sum t a2
      rw [← a3] at hs
      have hfin : (σ 8 p 1 ≤ t ∨ a ≤ s) → (o_has (σ 9 p) (σ 8 p 1).toNat a = true ↔ s = a) := by
        intro h
        rw [o_has_iff]
        constructor
        · rintro ⟨k, k1, k2⟩
          rcases Nat.lt_trichotomy k t with q | q | q
          · have := a5 k q; omega
          · subst q; omega
          · have := hB.mono q (by omega); omega
        · intro e; exact ⟨t, by omega, by omega⟩
      refine o_iload_n (pc := 4) C dX3_hasKnifeAt_4 rfl ?_
      refine o_aload_n (pc := 5) C dX3_hasKnifeAt_5 rfl ?_
      refine gf_X3_15 (pc := 6) C (by omega) dX3_hasKnifeAt_6 ?_
      refine o_icmp_ge (pc := 9) C (tgt := 32) dX3_hasKnifeAt_9 (by decide) (by omega) (by omega) (fun h9 => ?_) (fun h9 => ?_)
      · refine o_iload_n (pc := 32) C dX3_hasKnifeAt_32 rfl ?_
        refine o_iload_n (pc := 33) C dX3_hasKnifeAt_33 rfl ?_
        refine o_icmp_ne (pc := 34) C (tgt := 41) dX3_hasKnifeAt_34 (by decide) (by omega) (by omega) (fun h34 => ?_) (fun h34 => ?_)
        · refine o_iconst (pc := 41) C dX3_hasKnifeAt_41 ?_
          exact E _ _ _ _ _ dX3_hasKnifeAt_42 rfl ⟨by have h9 := hfin (by omega); split <;> rename_i h8 <;> first | rfl | (exfalso; rw [h9] at h8; omega), rfl⟩ (by omega)
        · refine o_iconst (pc := 37) C dX3_hasKnifeAt_37 ?_
          refine o_goto (pc := 38) C (tgt := 42) dX3_hasKnifeAt_38 (by decide) ?_
          exact E _ _ _ _ _ dX3_hasKnifeAt_42 rfl ⟨by have h9 := hfin (by omega); split <;> rename_i h8 <;> first | rfl | (exfalso; rw [h9] at h8; omega), rfl⟩ (by omega)
      · refine o_iload_n (pc := 12) C dX3_hasKnifeAt_12 rfl ?_
        refine o_iload_n (pc := 13) C dX3_hasKnifeAt_13 rfl ?_
        refine o_icmp_ge (pc := 14) C (tgt := 32) dX3_hasKnifeAt_14 (by decide) (by omega) (by omega) (fun h14 => ?_) (fun h14 => ?_)
        · refine o_iload_n (pc := 32) C dX3_hasKnifeAt_32 rfl ?_
          refine o_iload_n (pc := 33) C dX3_hasKnifeAt_33 rfl ?_
          refine o_icmp_ne (pc := 34) C (tgt := 41) dX3_hasKnifeAt_34 (by decide) (by omega) (by omega) (fun h34 => ?_) (fun h34 => ?_)
          · refine o_iconst (pc := 41) C dX3_hasKnifeAt_41 ?_
            exact E _ _ _ _ _ dX3_hasKnifeAt_42 rfl ⟨by have h9 := hfin (by omega); split <;> rename_i h8 <;> first | rfl | (exfalso; rw [h9] at h8; omega), rfl⟩ (by omega)
          · refine o_iconst (pc := 37) C dX3_hasKnifeAt_37 ?_
            refine o_goto (pc := 38) C (tgt := 42) dX3_hasKnifeAt_38 (by decide) ?_
            exact E _ _ _ _ _ dX3_hasKnifeAt_42 rfl ⟨by have h9 := hfin (by omega); split <;> rename_i h8 <;> first | rfl | (exfalso; rw [h9] at h8; omega), rfl⟩ (by omega)
        · refine o_iload_n (pc := 17) C dX3_hasKnifeAt_17 rfl ?_
          refine o_aload_n (pc := 18) C dX3_hasKnifeAt_18 rfl ?_
          refine gf_X3_9 (pc := 19) C (by omega) dX3_hasKnifeAt_19 ?_
          refine o_iload_n (pc := 22) C dX3_hasKnifeAt_22 rfl ?_
          refine ia_9 (pc := 23) C (by omega) (by omega) (by omega) dX3_hasKnifeAt_23 ?_
          refine o_iadd (pc := 24) C dX3_hasKnifeAt_24 ?_
          refine sti_2 (pc := 25) C dX3_hasKnifeAt_25 ?_
          refine inc_3 (pc := 26) C dX3_hasKnifeAt_26 ?_
          refine o_goto (pc := 29) C (tgt := 4) dX3_hasKnifeAt_29 (by decide) ?_
          exact ih (t + 1) _ _ (by omega) (by omega) (by rw [o_sum, a3, a4]; rfl) (by omega) (fun k hk => by rcases Nat.lt_succ_iff_lt_or_eq.mp hk with q | q; exact a5 k q; subst q; omega)
  refine o_iconst (pc := 0) C dX3_hasKnifeAt_0 ?_
  refine sti_2 (pc := 1) C dX3_hasKnifeAt_1 ?_
  refine o_iconst (pc := 2) C dX3_hasKnifeAt_2 ?_
  refine sti_3 (pc := 3) C dX3_hasKnifeAt_3 ?_
  exact L 16 0 _ _ (by omega) (by omega) rfl rfl (fun k hk => absurd hk (Nat.not_lt_zero k))
set_option maxRecDepth 100000 in
set_option maxHeartbeats 4000000 in
theorem c_X3_knivesNotIn {l : Launch} {g : oG} {σ : oMem} {p q : Nat} (hp : p < 11) (hq : q < 11) (hB : PB σ p) (hB2 : PB σ q) : oMi l g yX3_knivesNotIn (.code yX3_knivesNotIn cX3_knivesNotIn 5 (some .int)) 2 0 [.ref (g.2.1 8 p), .ref (g.2.1 8 q)] σ (fun z σ' => z = o_sum (fun j => if o_has (σ 9 q) (σ 8 q 1).toNat (o_sum (σ 9 p) (j + 1)) = true then 0 else 1) (σ 8 p 1).toNat ∧ σ' = σ) := by
  refine oMi_of (own := RX3) (by decide +kernel) rfl (by simp [oi, Value.category]) (by simp) (fun x C E => ?_)
  show oW l g x σ 0 [some (.ref (g.2.1 8 p)), some (.ref (g.2.1 8 q)), none, none, none] [] 0
  obtain ⟨h0, h1, h2⟩ := id hB
  have L : ∀ (n t : Nat) (s b m : Int), σ 8 p 1 < t + n → (t : Int) ≤ σ 8 p 1 → s = o_sum (σ 9 p) t → b = t → m = o_sum (fun j => if o_has (σ 9 q) (σ 8 q 1).toNat (o_sum (σ 9 p) (j + 1)) = true then 0 else 1) t → oW l g x σ 7 [some (.ref (g.2.1 8 p)), some (.ref (g.2.1 8 q)), some (oi m), some (oi s), some (oi b)] [] 0 := by
    intro n
    induction n with
    | zero => intro t s b m a1 a2; omega
    | succ n ih =>
      intro t s b m a1 a2 a3 a4 a5
      refine o_iload (pc := 7) C dX3_knivesNotIn_7 rfl ?_
      refine o_aload_n (pc := 9) C dX3_knivesNotIn_9 rfl ?_
      refine gf_X3_15 (pc := 10) C (by omega) dX3_knivesNotIn_10 ?_
      refine o_icmp_ge (pc := 13) C (tgt := 43) dX3_knivesNotIn_13 (by decide) (by omega) (by omega) (fun h13 => ?_) (fun h13 => ?_)
      · refine o_iload_n (pc := 43) C dX3_knivesNotIn_43 rfl ?_
        exact E _ _ _ _ _ dX3_knivesNotIn_44 rfl ⟨by rw [a5, show (σ 8 p 1).toNat = t by omega], rfl⟩ (by omega)
      · have e1 : s + σ 9 p b.toNat = o_sum (σ 9 p) (t + 1) := by rw [o_sum, a3, a4]; rfl
        have hs := hB.sum (t + 1) (by omega)
        refine o_iload_n (pc := 16) C dX3_knivesNotIn_16 rfl ?_
        refine o_aload_n (pc := 17) C dX3_knivesNotIn_17 rfl ?_
        refine gf_X3_9 (pc := 18) C (by omega) dX3_knivesNotIn_18 ?_
        refine o_iload (pc := 21) C dX3_knivesNotIn_21 rfl ?_
        refine ia_9 (pc := 23) C (by omega) (by omega) (by omega) dX3_knivesNotIn_23 ?_
        refine o_iadd (pc := 24) C dX3_knivesNotIn_24 ?_
        rw [e1]
        refine sti_3 (pc := 25) C dX3_knivesNotIn_25 ?_
        refine o_aload_n (pc := 26) C dX3_knivesNotIn_26 rfl ?_
        refine o_iload_n (pc := 27) C dX3_knivesNotIn_27 rfl ?_
        refine cl_X3_30 (pc := 28) C (c_X3_hasKnifeAt hq hB2 (by omega) (by omega)) (by omega) (by omega) (by omega) (Nat.le_of_ble_eq_true rfl) dX3_knivesNotIn_28 (fun z σ2 hq => ?_)
        obtain ⟨rfl, rfl⟩ := hq
        refine o_if_ne (pc := 31) C (tgt := 37) dX3_knivesNotIn_31 (by decide) (by split <;> omega) (fun h31 => ?_) (fun h31 => ?_)
        · refine inc_4 (pc := 37) C dX3_knivesNotIn_37 ?_
          refine o_goto (pc := 40) C (tgt := 7) dX3_knivesNotIn_40 (by decide) ?_
          exact ih (t + 1) _ _ _ (by omega) (by omega) rfl (by omega) (by rw [o_sum, a5]; simp_all)
        · refine inc_2 (pc := 34) C dX3_knivesNotIn_34 ?_
          refine inc_4 (pc := 37) C dX3_knivesNotIn_37 ?_
          refine o_goto (pc := 40) C (tgt := 7) dX3_knivesNotIn_40 (by decide) ?_
          exact ih (t + 1) _ _ _ (by omega) (by omega) rfl (by omega) (by rw [o_sum, a5]; simp_all)
  refine o_iconst (pc := 0) C dX3_knivesNotIn_0 ?_
  refine sti_2 (pc := 1) C dX3_knivesNotIn_1 ?_
  refine o_iconst (pc := 2) C dX3_knivesNotIn_2 ?_
  refine sti_3 (pc := 3) C dX3_knivesNotIn_3 ?_
  refine o_iconst (pc := 4) C dX3_knivesNotIn_4 ?_
  refine sti_4 (pc := 5) C dX3_knivesNotIn_5 ?_
  exact L 16 0 _ _ _ (by omega) (by omega) rfl rfl rfl
end
