section
-- ===== PART A: goes FIRST, ahead of the names: the tables' words, and 'selects' of the private methods out of them =====
/-- a private method of a class that the tables say can be made, by its rows of tables_1 -/
def lw_okq (q : MethodName × Nat) : Prop := (q.1.cls ≠ "java/lang/invoke/MethodHandle" ∧ q.1.cls ≠ "java/lang/invoke/VarHandle") ∧ Cond.instantiable q.1.cls q.2 ∈ tables_1 ∧ Cond.privateMethod q.1 ∈ tables_1 ∧ Cond.instanceMethod q.1 ∈ tables_1
theorem lw_p0 : lw_okq (⟨"LivingNumbers", "refusalOfCells", "(IIZIII)I"⟩, 9) := ⟨⟨by decide +kernel, by decide +kernel⟩, List.mem_of_getElem? (i := 15) (by decide +kernel), List.mem_of_getElem? (i := 133) (by decide +kernel), List.mem_of_getElem? (i := 134) (by decide +kernel)⟩
theorem lw_p1 : lw_okq (⟨"LivingNumbers", "faultAs", "(II)I"⟩, 9) := ⟨⟨by decide +kernel, by decide +kernel⟩, List.mem_of_getElem? (i := 15) (by decide +kernel), List.mem_of_getElem? (i := 146) (by decide +kernel), List.mem_of_getElem? (i := 147) (by decide +kernel)⟩
theorem lw_p2 : lw_okq (⟨"LivingNumbers", "faulted", "(I)I"⟩, 9) := ⟨⟨by decide +kernel, by decide +kernel⟩, List.mem_of_getElem? (i := 15) (by decide +kernel), List.mem_of_getElem? (i := 159) (by decide +kernel), List.mem_of_getElem? (i := 160) (by decide +kernel)⟩
theorem lw_p3 : lw_okq (⟨"LivingNumbers$Sheets", "sizeOf", "(I)I"⟩, 3) := ⟨⟨by decide +kernel, by decide +kernel⟩, List.mem_of_getElem? (i := 23) (by decide +kernel), List.mem_of_getElem? (i := 167) (by decide +kernel), List.mem_of_getElem? (i := 168) (by decide +kernel)⟩
theorem lw_p4 : lw_okq (⟨"LivingNumbers$Sheets", "standOf", "(II)I"⟩, 3) := ⟨⟨by decide +kernel, by decide +kernel⟩, List.mem_of_getElem? (i := 23) (by decide +kernel), List.mem_of_getElem? (i := 182) (by decide +kernel), List.mem_of_getElem? (i := 183) (by decide +kernel)⟩
theorem lw_p5 : lw_okq (⟨"LivingNumbers$RollText", "goesOn", "(I)Z"⟩, 2) := ⟨⟨by decide +kernel, by decide +kernel⟩, List.mem_of_getElem? (i := 40) (by decide +kernel), List.mem_of_getElem? (i := 190) (by decide +kernel), List.mem_of_getElem? (i := 191) (by decide +kernel)⟩
theorem lw_p6 : lw_okq (⟨"LivingNumbers$RollText", "code", "(I)I"⟩, 2) := ⟨⟨by decide +kernel, by decide +kernel⟩, List.mem_of_getElem? (i := 40) (by decide +kernel), List.mem_of_getElem? (i := 194) (by decide +kernel), List.mem_of_getElem? (i := 195) (by decide +kernel)⟩
theorem lw_p7 : lw_okq (⟨"LivingNumbers$RollText", "digit", "(I)I"⟩, 2) := ⟨⟨by decide +kernel, by decide +kernel⟩, List.mem_of_getElem? (i := 40) (by decide +kernel), List.mem_of_getElem? (i := 198) (by decide +kernel), List.mem_of_getElem? (i := 199) (by decide +kernel)⟩
theorem lw_p8 : lw_okq (⟨"LivingNumbers$RollText", "isPairGoingOn", "(II)Z"⟩, 2) := ⟨⟨by decide +kernel, by decide +kernel⟩, List.mem_of_getElem? (i := 40) (by decide +kernel), List.mem_of_getElem? (i := 202) (by decide +kernel), List.mem_of_getElem? (i := 203) (by decide +kernel)⟩
theorem lw_p9 : lw_okq (⟨"LivingNumbers$RollText", "pair", "(I)I"⟩, 2) := ⟨⟨by decide +kernel, by decide +kernel⟩, List.mem_of_getElem? (i := 40) (by decide +kernel), List.mem_of_getElem? (i := 206) (by decide +kernel), List.mem_of_getElem? (i := 207) (by decide +kernel)⟩
theorem lw_p10 : lw_okq (⟨"LivingNumbers$RollText", "isSecondDigit", "(I)Z"⟩, 2) := ⟨⟨by decide +kernel, by decide +kernel⟩, List.mem_of_getElem? (i := 40) (by decide +kernel), List.mem_of_getElem? (i := 210) (by decide +kernel), List.mem_of_getElem? (i := 211) (by decide +kernel)⟩
theorem lw_p11 : lw_okq (⟨"LivingNumbers", "refusalOfRow", "(IIZIII)I"⟩, 9) := ⟨⟨by decide +kernel, by decide +kernel⟩, List.mem_of_getElem? (i := 15) (by decide +kernel), List.mem_of_getElem? (i := 355) (by decide +kernel), List.mem_of_getElem? (i := 356) (by decide +kernel)⟩
theorem lw_p12 : lw_okq (⟨"LivingNumbers", "meaning", "(IIIII)I"⟩, 9) := ⟨⟨by decide +kernel, by decide +kernel⟩, List.mem_of_getElem? (i := 15) (by decide +kernel), List.mem_of_getElem? (i := 360) (by decide +kernel), List.mem_of_getElem? (i := 361) (by decide +kernel)⟩
theorem lw_p13 : lw_okq (⟨"LivingNumbers", "fewestWords", "(III)I"⟩, 9) := ⟨⟨by decide +kernel, by decide +kernel⟩, List.mem_of_getElem? (i := 15) (by decide +kernel), List.mem_of_getElem? (i := 372) (by decide +kernel), List.mem_of_getElem? (i := 373) (by decide +kernel)⟩
theorem lw_p14 : lw_okq (⟨"LivingNumbers", "numberAt", "(IIII)I"⟩, 9) := ⟨⟨by decide +kernel, by decide +kernel⟩, List.mem_of_getElem? (i := 15) (by decide +kernel), List.mem_of_getElem? (i := 395) (by decide +kernel), List.mem_of_getElem? (i := 396) (by decide +kernel)⟩
theorem lw_p15 : lw_okq (⟨"LivingNumbers", "areBargains", "(III)Z"⟩, 9) := ⟨⟨by decide +kernel, by decide +kernel⟩, List.mem_of_getElem? (i := 15) (by decide +kernel), List.mem_of_getElem? (i := 415) (by decide +kernel), List.mem_of_getElem? (i := 416) (by decide +kernel)⟩
def lw_privs_1 : List (MethodName × Nat) := [(⟨"LivingNumbers", "refusalOfCells", "(IIZIII)I"⟩, 9), (⟨"LivingNumbers", "faultAs", "(II)I"⟩, 9), (⟨"LivingNumbers", "faulted", "(I)I"⟩, 9), (⟨"LivingNumbers$Sheets", "sizeOf", "(I)I"⟩, 3), (⟨"LivingNumbers$Sheets", "standOf", "(II)I"⟩, 3), (⟨"LivingNumbers$RollText", "goesOn", "(I)Z"⟩, 2), (⟨"LivingNumbers$RollText", "code", "(I)I"⟩, 2), (⟨"LivingNumbers$RollText", "digit", "(I)I"⟩, 2), (⟨"LivingNumbers$RollText", "isPairGoingOn", "(II)Z"⟩, 2), (⟨"LivingNumbers$RollText", "pair", "(I)I"⟩, 2), (⟨"LivingNumbers$RollText", "isSecondDigit", "(I)Z"⟩, 2), (⟨"LivingNumbers", "refusalOfRow", "(IIZIII)I"⟩, 9), (⟨"LivingNumbers", "meaning", "(IIIII)I"⟩, 9), (⟨"LivingNumbers", "fewestWords", "(III)I"⟩, 9), (⟨"LivingNumbers", "numberAt", "(IIII)I"⟩, 9), (⟨"LivingNumbers", "areBargains", "(III)Z"⟩, 9)]
theorem lw_r1 : ∀ q ∈ lw_privs_1, lw_okq q := List.forall_mem_cons.mpr ⟨lw_p0, List.forall_mem_cons.mpr ⟨lw_p1, List.forall_mem_cons.mpr ⟨lw_p2, List.forall_mem_cons.mpr ⟨lw_p3, List.forall_mem_cons.mpr ⟨lw_p4, List.forall_mem_cons.mpr ⟨lw_p5, List.forall_mem_cons.mpr ⟨lw_p6, List.forall_mem_cons.mpr ⟨lw_p7, List.forall_mem_cons.mpr ⟨lw_p8, List.forall_mem_cons.mpr ⟨lw_p9, List.forall_mem_cons.mpr ⟨lw_p10, List.forall_mem_cons.mpr ⟨lw_p11, List.forall_mem_cons.mpr ⟨lw_p12, List.forall_mem_cons.mpr ⟨lw_p13, List.forall_mem_cons.mpr ⟨lw_p14, List.forall_mem_cons.mpr ⟨lw_p15, fun _ h => absurd h List.not_mem_nil⟩⟩⟩⟩⟩⟩⟩⟩⟩⟩⟩⟩⟩⟩⟩⟩
theorem lw_p16 : lw_okq (⟨"LivingNumbers", "bargainsSaid", "(IIIII)I"⟩, 9) := ⟨⟨by decide +kernel, by decide +kernel⟩, List.mem_of_getElem? (i := 15) (by decide +kernel), List.mem_of_getElem? (i := 419) (by decide +kernel), List.mem_of_getElem? (i := 420) (by decide +kernel)⟩
theorem lw_p17 : lw_okq (⟨"LivingNumbers$Recall", "chooseFrom", "(III)V"⟩, 2) := ⟨⟨by decide +kernel, by decide +kernel⟩, List.mem_of_getElem? (i := 88) (by decide +kernel), List.mem_of_getElem? (i := 457) (by decide +kernel), List.mem_of_getElem? (i := 458) (by decide +kernel)⟩
theorem lw_p18 : lw_okq (⟨"LivingNumbers$Recall", "readNumbers", "(LLivingNumbers$People;I)V"⟩, 2) := ⟨⟨by decide +kernel, by decide +kernel⟩, List.mem_of_getElem? (i := 88) (by decide +kernel), List.mem_of_getElem? (i := 461) (by decide +kernel), List.mem_of_getElem? (i := 462) (by decide +kernel)⟩
theorem lw_p19 : lw_okq (⟨"LivingNumbers$Recall", "chooseNext", "(II)Z"⟩, 2) := ⟨⟨by decide +kernel, by decide +kernel⟩, List.mem_of_getElem? (i := 88) (by decide +kernel), List.mem_of_getElem? (i := 468) (by decide +kernel), List.mem_of_getElem? (i := 469) (by decide +kernel)⟩
theorem lw_p20 : lw_okq (⟨"LivingNumbersModel", "barred", "(IIIJZ)I"⟩, 22) := ⟨⟨by decide +kernel, by decide +kernel⟩, List.mem_of_getElem? (i := 601) (by decide +kernel), List.mem_of_getElem? (i := 679) (by decide +kernel), List.mem_of_getElem? (i := 680) (by decide +kernel)⟩
theorem lw_p21 : lw_okq (⟨"LivingNumbersModel", "refused", "(I)I"⟩, 22) := ⟨⟨by decide +kernel, by decide +kernel⟩, List.mem_of_getElem? (i := 601) (by decide +kernel), List.mem_of_getElem? (i := 690) (by decide +kernel), List.mem_of_getElem? (i := 691) (by decide +kernel)⟩
theorem lw_p22 : lw_okq (⟨"LivingNumbersModel", "failed", "(I)I"⟩, 22) := ⟨⟨by decide +kernel, by decide +kernel⟩, List.mem_of_getElem? (i := 601) (by decide +kernel), List.mem_of_getElem? (i := 695) (by decide +kernel), List.mem_of_getElem? (i := 696) (by decide +kernel)⟩
theorem lw_p23 : lw_okq (⟨"LivingNumbersModel", "readsRoll", "(II)Z"⟩, 22) := ⟨⟨by decide +kernel, by decide +kernel⟩, List.mem_of_getElem? (i := 601) (by decide +kernel), List.mem_of_getElem? (i := 702) (by decide +kernel), List.mem_of_getElem? (i := 703) (by decide +kernel)⟩
theorem lw_p24 : lw_okq (⟨"LivingNumbersModel", "readsOne", "(II)Z"⟩, 22) := ⟨⟨by decide +kernel, by decide +kernel⟩, List.mem_of_getElem? (i := 601) (by decide +kernel), List.mem_of_getElem? (i := 706) (by decide +kernel), List.mem_of_getElem? (i := 707) (by decide +kernel)⟩
theorem lw_p25 : lw_okq (⟨"LivingNumbersModel", "figureAt", "(III)I"⟩, 22) := ⟨⟨by decide +kernel, by decide +kernel⟩, List.mem_of_getElem? (i := 601) (by decide +kernel), List.mem_of_getElem? (i := 710) (by decide +kernel), List.mem_of_getElem? (i := 711) (by decide +kernel)⟩
theorem lw_p26 : lw_okq (⟨"LivingNumbersModel", "two", "(IIII)I"⟩, 22) := ⟨⟨by decide +kernel, by decide +kernel⟩, List.mem_of_getElem? (i := 601) (by decide +kernel), List.mem_of_getElem? (i := 715) (by decide +kernel), List.mem_of_getElem? (i := 716) (by decide +kernel)⟩
theorem lw_p27 : lw_okq (⟨"LivingNumbersModel", "noOne", "(I)Z"⟩, 22) := ⟨⟨by decide +kernel, by decide +kernel⟩, List.mem_of_getElem? (i := 601) (by decide +kernel), List.mem_of_getElem? (i := 724) (by decide +kernel), List.mem_of_getElem? (i := 725) (by decide +kernel)⟩
theorem lw_p28 : lw_okq (⟨"LivingNumbersModel", "doesLive", "(III)Z"⟩, 22) := ⟨⟨by decide +kernel, by decide +kernel⟩, List.mem_of_getElem? (i := 601) (by decide +kernel), List.mem_of_getElem? (i := 739) (by decide +kernel), List.mem_of_getElem? (i := 740) (by decide +kernel)⟩
theorem lw_p29 : lw_okq (⟨"LivingNumbersModel", "saidBy", "(III)I"⟩, 22) := ⟨⟨by decide +kernel, by decide +kernel⟩, List.mem_of_getElem? (i := 601) (by decide +kernel), List.mem_of_getElem? (i := 748) (by decide +kernel), List.mem_of_getElem? (i := 749) (by decide +kernel)⟩
theorem lw_p30 : lw_okq (⟨"LivingNumbersModel", "rowBarred", "(IIIIIZ)I"⟩, 22) := ⟨⟨by decide +kernel, by decide +kernel⟩, List.mem_of_getElem? (i := 601) (by decide +kernel), List.mem_of_getElem? (i := 760) (by decide +kernel), List.mem_of_getElem? (i := 761) (by decide +kernel)⟩
theorem lw_p31 : lw_okq (⟨"LivingNumbersModel", "arePeople", "(II)Z"⟩, 22) := ⟨⟨by decide +kernel, by decide +kernel⟩, List.mem_of_getElem? (i := 601) (by decide +kernel), List.mem_of_getElem? (i := 764) (by decide +kernel), List.mem_of_getElem? (i := 765) (by decide +kernel)⟩
def lw_privs_2 : List (MethodName × Nat) := [(⟨"LivingNumbers", "bargainsSaid", "(IIIII)I"⟩, 9), (⟨"LivingNumbers$Recall", "chooseFrom", "(III)V"⟩, 2), (⟨"LivingNumbers$Recall", "readNumbers", "(LLivingNumbers$People;I)V"⟩, 2), (⟨"LivingNumbers$Recall", "chooseNext", "(II)Z"⟩, 2), (⟨"LivingNumbersModel", "barred", "(IIIJZ)I"⟩, 22), (⟨"LivingNumbersModel", "refused", "(I)I"⟩, 22), (⟨"LivingNumbersModel", "failed", "(I)I"⟩, 22), (⟨"LivingNumbersModel", "readsRoll", "(II)Z"⟩, 22), (⟨"LivingNumbersModel", "readsOne", "(II)Z"⟩, 22), (⟨"LivingNumbersModel", "figureAt", "(III)I"⟩, 22), (⟨"LivingNumbersModel", "two", "(IIII)I"⟩, 22), (⟨"LivingNumbersModel", "noOne", "(I)Z"⟩, 22), (⟨"LivingNumbersModel", "doesLive", "(III)Z"⟩, 22), (⟨"LivingNumbersModel", "saidBy", "(III)I"⟩, 22), (⟨"LivingNumbersModel", "rowBarred", "(IIIIIZ)I"⟩, 22), (⟨"LivingNumbersModel", "arePeople", "(II)Z"⟩, 22)]
theorem lw_r2 : ∀ q ∈ lw_privs_2, lw_okq q := List.forall_mem_cons.mpr ⟨lw_p16, List.forall_mem_cons.mpr ⟨lw_p17, List.forall_mem_cons.mpr ⟨lw_p18, List.forall_mem_cons.mpr ⟨lw_p19, List.forall_mem_cons.mpr ⟨lw_p20, List.forall_mem_cons.mpr ⟨lw_p21, List.forall_mem_cons.mpr ⟨lw_p22, List.forall_mem_cons.mpr ⟨lw_p23, List.forall_mem_cons.mpr ⟨lw_p24, List.forall_mem_cons.mpr ⟨lw_p25, List.forall_mem_cons.mpr ⟨lw_p26, List.forall_mem_cons.mpr ⟨lw_p27, List.forall_mem_cons.mpr ⟨lw_p28, List.forall_mem_cons.mpr ⟨lw_p29, List.forall_mem_cons.mpr ⟨lw_p30, List.forall_mem_cons.mpr ⟨lw_p31, fun _ h => absurd h List.not_mem_nil⟩⟩⟩⟩⟩⟩⟩⟩⟩⟩⟩⟩⟩⟩⟩⟩
theorem lw_p32 : lw_okq (⟨"LivingNumbersModel", "meant", "(IIII)I"⟩, 22) := ⟨⟨by decide +kernel, by decide +kernel⟩, List.mem_of_getElem? (i := 601) (by decide +kernel), List.mem_of_getElem? (i := 768) (by decide +kernel), List.mem_of_getElem? (i := 769) (by decide +kernel)⟩
theorem lw_p33 : lw_okq (⟨"LivingNumbersModel", "laySaid", "(III)V"⟩, 22) := ⟨⟨by decide +kernel, by decide +kernel⟩, List.mem_of_getElem? (i := 601) (by decide +kernel), List.mem_of_getElem? (i := 777) (by decide +kernel), List.mem_of_getElem? (i := 778) (by decide +kernel)⟩
theorem lw_p34 : lw_okq (⟨"LivingNumbersModel", "layCan", "(III)V"⟩, 22) := ⟨⟨by decide +kernel, by decide +kernel⟩, List.mem_of_getElem? (i := 601) (by decide +kernel), List.mem_of_getElem? (i := 781) (by decide +kernel), List.mem_of_getElem? (i := 782) (by decide +kernel)⟩
theorem lw_p35 : lw_okq (⟨"LivingNumbersModel", "layFewest", "(I)V"⟩, 22) := ⟨⟨by decide +kernel, by decide +kernel⟩, List.mem_of_getElem? (i := 601) (by decide +kernel), List.mem_of_getElem? (i := 785) (by decide +kernel), List.mem_of_getElem? (i := 786) (by decide +kernel)⟩
theorem lw_p36 : lw_okq (⟨"LivingNumbersModel", "saidOf", "(I)I"⟩, 22) := ⟨⟨by decide +kernel, by decide +kernel⟩, List.mem_of_getElem? (i := 601) (by decide +kernel), List.mem_of_getElem? (i := 815) (by decide +kernel), List.mem_of_getElem? (i := 816) (by decide +kernel)⟩
theorem lw_p37 : lw_okq (⟨"LivingNumbersModel", "setOf", "(III)I"⟩, 22) := ⟨⟨by decide +kernel, by decide +kernel⟩, List.mem_of_getElem? (i := 601) (by decide +kernel), List.mem_of_getElem? (i := 824) (by decide +kernel), List.mem_of_getElem? (i := 825) (by decide +kernel)⟩
theorem lw_p38 : lw_okq (⟨"LivingNumbersModel", "isSaidBy", "(IIIII)Z"⟩, 22) := ⟨⟨by decide +kernel, by decide +kernel⟩, List.mem_of_getElem? (i := 601) (by decide +kernel), List.mem_of_getElem? (i := 831) (by decide +kernel), List.mem_of_getElem? (i := 832) (by decide +kernel)⟩
theorem lw_p39 : lw_okq (⟨"LivingNumbersModel", "noCell", "(II)I"⟩, 22) := ⟨⟨by decide +kernel, by decide +kernel⟩, List.mem_of_getElem? (i := 601) (by decide +kernel), List.mem_of_getElem? (i := 858) (by decide +kernel), List.mem_of_getElem? (i := 859) (by decide +kernel)⟩
theorem lw_p40 : lw_okq (⟨"LivingNumbersModel", "failedLong", "(I)J"⟩, 22) := ⟨⟨by decide +kernel, by decide +kernel⟩, List.mem_of_getElem? (i := 601) (by decide +kernel), List.mem_of_getElem? (i := 866) (by decide +kernel), List.mem_of_getElem? (i := 867) (by decide +kernel)⟩
theorem lw_p41 : lw_okq (⟨"LivingNumbersModel", "traced", "(I)V"⟩, 22) := ⟨⟨by decide +kernel, by decide +kernel⟩, List.mem_of_getElem? (i := 601) (by decide +kernel), List.mem_of_getElem? (i := 878) (by decide +kernel), List.mem_of_getElem? (i := 879) (by decide +kernel)⟩
def lw_privs_3 : List (MethodName × Nat) := [(⟨"LivingNumbersModel", "meant", "(IIII)I"⟩, 22), (⟨"LivingNumbersModel", "laySaid", "(III)V"⟩, 22), (⟨"LivingNumbersModel", "layCan", "(III)V"⟩, 22), (⟨"LivingNumbersModel", "layFewest", "(I)V"⟩, 22), (⟨"LivingNumbersModel", "saidOf", "(I)I"⟩, 22), (⟨"LivingNumbersModel", "setOf", "(III)I"⟩, 22), (⟨"LivingNumbersModel", "isSaidBy", "(IIIII)Z"⟩, 22), (⟨"LivingNumbersModel", "noCell", "(II)I"⟩, 22), (⟨"LivingNumbersModel", "failedLong", "(I)J"⟩, 22), (⟨"LivingNumbersModel", "traced", "(I)V"⟩, 22)]
theorem lw_r3 : ∀ q ∈ lw_privs_3, lw_okq q := List.forall_mem_cons.mpr ⟨lw_p32, List.forall_mem_cons.mpr ⟨lw_p33, List.forall_mem_cons.mpr ⟨lw_p34, List.forall_mem_cons.mpr ⟨lw_p35, List.forall_mem_cons.mpr ⟨lw_p36, List.forall_mem_cons.mpr ⟨lw_p37, List.forall_mem_cons.mpr ⟨lw_p38, List.forall_mem_cons.mpr ⟨lw_p39, List.forall_mem_cons.mpr ⟨lw_p40, List.forall_mem_cons.mpr ⟨lw_p41, fun _ h => absurd h List.not_mem_nil⟩⟩⟩⟩⟩⟩⟩⟩⟩⟩
def lw_privs : List (MethodName × Nat) := lw_privs_1 ++ (lw_privs_2 ++ (lw_privs_3))
def lw_tbl : List Cond := k2_sels lw_privs ++ tables_1
theorem lw_privs_ok : ∀ q ∈ lw_privs, lw_okq q := by
  show ∀ q ∈ lw_privs_1 ++ (lw_privs_2 ++ (lw_privs_3)), lw_okq q
  exact List.forall_mem_append.mpr ⟨lw_r1, List.forall_mem_append.mpr ⟨lw_r2, lw_r3⟩⟩
end
section
/-! ===== BEGIN words of one list among another's, by their places ===== -/
theorem goodIn_r {big : List Cond} (ws : List Cond) (ps : List Nat) (hp : ws = ps.filterMap (fun i => big[i]?)) (h : ws.all goodWord = true) : GoodIn big ws := by
  intro w hw
  have h1 := List.all_eq_true.mp h w hw
  rw [hp] at hw
  obtain ⟨i, -, hi⟩ := List.mem_filterMap.mp hw
  have hm : w ∈ big := by first | exact List.mem_of_getElem? hi | exact List.getElem?_mem hi
  exact ⟨hm, good_of_word h1⟩
theorem goodIn_app {big a b : List Cond} (ha : GoodIn big a) (hb : GoodIn big b) : GoodIn big (a ++ b) := fun w h => (List.mem_append.mp h).elim (ha w) (hb w)
theorem goodIn_ca {big a b : List Cond} {c : Cond} (ha : GoodIn big (c :: a)) (hb : GoodIn big b) : GoodIn big (c :: (a ++ b)) := fun w h => (List.mem_cons.mp h).elim (fun e => ha w (List.mem_cons.mpr (Or.inl e))) (fun h => (List.mem_append.mp h).elim (fun h => ha w (List.mem_cons.mpr (Or.inr h))) (hb w))
theorem goodIn_sub {big ws : List Cond} (hm : ∀ w ∈ ws, w ∈ big) (h : ws.all goodWord = true) : GoodIn big ws := fun w hw => ⟨hm w hw, good_of_word (List.all_eq_true.mp h w hw)⟩
/-! ===== END ===== -/
/-! ===== BEGIN printed: names, fields, word lists, decode rows ===== -/
def RX0 : String := "LivingNumbers$Fewest"
def TX0 : u_T := fun k => match k with
  | _ => ("LivingNumbers$Fewest", "words", "[I", true)
def tyX0 : Nat → FieldType := fun k => match k with
  | _ => .array .int
abbrev wsX00 : List Cond := u_ws RX0 TX0 1
theorem nmX0 : ∀ a, a < 1 → ∀ b, b < 1 → a ≠ b → (TX0 a).2.1 ≠ (TX0 b).2.1 := by decide +kernel
theorem tyX0_ok : ∀ k, k < 1 → parseFieldDescriptor (TX0 k).2.2.1 = some (tyX0 k) := by decide +kernel
abbrev cX0_init : ByteArray := prog_2_method_1_code
def yX0_init : MethodName := ⟨RX0, "<init>", "()V"⟩
abbrev cX0_clear : ByteArray := prog_2_method_2_code
def yX0_clear : MethodName := ⟨RX0, "clear", "()V"⟩
abbrev cX0_add : ByteArray := prog_2_method_3_code
def yX0_add : MethodName := ⟨RX0, "add", "(I)V"⟩
abbrev cX0_of : ByteArray := prog_2_method_4_code
def yX0_of : MethodName := ⟨RX0, "of", "(I)I"⟩
abbrev cX0_within : ByteArray := prog_2_method_5_code
def yX0_within : MethodName := ⟨RX0, "within", "(II)Z"⟩
abbrev cX0_withinBy : ByteArray := prog_2_method_6_code
def yX0_withinBy : MethodName := ⟨RX0, "withinBy", "([IIII)Z"⟩
abbrev cX0_isReached : ByteArray := prog_2_method_7_code
def yX0_isReached : MethodName := ⟨RX0, "isReached", "(LLivingNumbers$Fewest;[IIII)Z"⟩
def RX1 : String := "LivingNumbers$Foreign"
def TX1 : u_T := fun k => match k with
  | 0 => ("LivingNumbers$Named", "village", "I", true)
  | 1 => ("LivingNumbers$Named", "number", "I", true)
  | 2 => ("LivingNumbers$Named", "from", "I", true)
  | _ => ("LivingNumbers$Named", "till", "I", true)
def tyX1 : Nat → FieldType := fun k => match k with
  | 0 => .int
  | 1 => .int
  | 2 => .int
  | _ => .int
abbrev wsX10 : List Cond := u_ws RX1 TX1 4
theorem nmX1 : ∀ a, a < 4 → ∀ b, b < 4 → a ≠ b → (TX1 a).2.1 ≠ (TX1 b).2.1 := by decide +kernel
theorem tyX1_ok : ∀ k, k < 4 → parseFieldDescriptor (TX1 k).2.2.1 = some (tyX1 k) := by decide +kernel
abbrev cX1_init : ByteArray := prog_3_method_1_code
def yX1_init : MethodName := ⟨RX1, "<init>", "(IIII)V"⟩
abbrev cX1_kind : ByteArray := prog_3_method_2_code
def yX1_kind : MethodName := ⟨RX1, "kind", "()I"⟩
abbrev cX1_isKnown : ByteArray := prog_3_method_3_code
def yX1_isKnown : MethodName := ⟨RX1, "isKnown", "(I)Z"⟩
abbrev cX1_telling : ByteArray := prog_3_method_4_code
def yX1_telling : MethodName := ⟨RX1, "telling", "(LLivingNumbers$Trace;)I"⟩
abbrev cX1_mourning : ByteArray := prog_3_method_5_code
def yX1_mourning : MethodName := ⟨RX1, "mourning", "(LLivingNumbers$Trace;I)I"⟩
def RX2 : String := "LivingNumbers$Lent"
def TX2 : u_T := fun k => match k with
  | 0 => ("LivingNumbers$Named", "village", "I", true)
  | 1 => ("LivingNumbers$Named", "number", "I", true)
  | 2 => ("LivingNumbers$Named", "from", "I", true)
  | _ => ("LivingNumbers$Named", "till", "I", true)
def tyX2 : Nat → FieldType := fun k => match k with
  | 0 => .int
  | 1 => .int
  | 2 => .int
  | _ => .int
abbrev wsX20 : List Cond := u_ws RX2 TX2 4
theorem nmX2 : ∀ a, a < 4 → ∀ b, b < 4 → a ≠ b → (TX2 a).2.1 ≠ (TX2 b).2.1 := by decide +kernel
theorem tyX2_ok : ∀ k, k < 4 → parseFieldDescriptor (TX2 k).2.2.1 = some (tyX2 k) := by decide +kernel
abbrev cX2_init : ByteArray := prog_4_method_1_code
def yX2_init : MethodName := ⟨RX2, "<init>", "(IIII)V"⟩
abbrev cX2_kind : ByteArray := prog_4_method_2_code
def yX2_kind : MethodName := ⟨RX2, "kind", "()I"⟩
abbrev cX2_longer : ByteArray := prog_4_method_3_code
def yX2_longer : MethodName := ⟨RX2, "longer", "()I"⟩
abbrev cX2_telling : ByteArray := prog_4_method_4_code
def yX2_telling : MethodName := ⟨RX2, "telling", "(LLivingNumbers$Trace;)I"⟩
def RX3 : String := "LivingNumbers$Named"
def TX3 : u_T := fun k => match k with
  | 0 => ("LivingNumbers$Named", "village", "I", true)
  | 1 => ("LivingNumbers$Named", "number", "I", true)
  | 2 => ("LivingNumbers$Named", "from", "I", true)
  | _ => ("LivingNumbers$Named", "till", "I", true)
def tyX3 : Nat → FieldType := fun k => match k with
  | 0 => .int
  | 1 => .int
  | 2 => .int
  | _ => .int
abbrev wsX30 : List Cond := u_ws RX3 TX3 4
theorem nmX3 : ∀ a, a < 4 → ∀ b, b < 4 → a ≠ b → (TX3 a).2.1 ≠ (TX3 b).2.1 := by decide +kernel
theorem tyX3_ok : ∀ k, k < 4 → parseFieldDescriptor (TX3 k).2.2.1 = some (tyX3 k) := by decide +kernel
abbrev cX3_init : ByteArray := prog_5_method_1_code
def yX3_init : MethodName := ⟨RX3, "<init>", "(IIII)V"⟩
abbrev cX3_kind : ByteArray := prog_5_method_2_code
def yX3_kind : MethodName := ⟨RX3, "kind", "()I"⟩
abbrev cX3_number : ByteArray := prog_5_method_3_code
def yX3_number : MethodName := ⟨RX3, "number", "()I"⟩
abbrev cX3_part : ByteArray := prog_5_method_4_code
def yX3_part : MethodName := ⟨RX3, "part", "(I)I"⟩
abbrev cX3_isHeard : ByteArray := prog_5_method_5_code
def yX3_isHeard : MethodName := ⟨RX3, "isHeard", "(II)Z"⟩
abbrev cX3_isKnown : ByteArray := prog_5_method_6_code
def yX3_isKnown : MethodName := ⟨RX3, "isKnown", "(I)Z"⟩
abbrev cX3_longer : ByteArray := prog_5_method_7_code
def yX3_longer : MethodName := ⟨RX3, "longer", "()I"⟩
abbrev cX3_telling : ByteArray := prog_5_method_8_code
def yX3_telling : MethodName := ⟨RX3, "telling", "(LLivingNumbers$Trace;)I"⟩
abbrev cX3_namedTelling : ByteArray := prog_5_method_9_code
def yX3_namedTelling : MethodName := ⟨RX3, "namedTelling", "(LLivingNumbers$Trace;)I"⟩
abbrev cX3_mourning : ByteArray := prog_5_method_10_code
def yX3_mourning : MethodName := ⟨RX3, "mourning", "(LLivingNumbers$Trace;I)I"⟩
def RX4 : String := "LivingNumbers$People"
def TX4 : u_T := fun k => match k with
  | 0 => ("LivingNumbers$People", "ones", "[LLivingNumbers$Named;", true)
  | _ => ("LivingNumbers$People", "size", "I", false)
def tyX4 : Nat → FieldType := fun k => match k with
  | 0 => .array (.object "LivingNumbers$Named")
  | _ => .int
abbrev wsX40 : List Cond := u_ws RX4 TX4 2
theorem nmX4 : ∀ a, a < 2 → ∀ b, b < 2 → a ≠ b → (TX4 a).2.1 ≠ (TX4 b).2.1 := by decide +kernel
theorem tyX4_ok : ∀ k, k < 2 → parseFieldDescriptor (TX4 k).2.2.1 = some (tyX4 k) := by decide +kernel
abbrev cX4_init : ByteArray := prog_6_method_1_code
def yX4_init : MethodName := ⟨RX4, "<init>", "()V"⟩
abbrev cX4_size : ByteArray := prog_6_method_2_code
def yX4_size : MethodName := ⟨RX4, "size", "()I"⟩
abbrev cX4_one : ByteArray := prog_6_method_3_code
def yX4_one : MethodName := ⟨RX4, "one", "(I)LLivingNumbers$Named;"⟩
abbrev cX4_takeFrom : ByteArray := prog_6_method_4_code
def yX4_takeFrom : MethodName := ⟨RX4, "takeFrom", "(LLivingNumbers$RollText;)V"⟩
abbrev cX4_bearer : ByteArray := prog_6_method_5_code
def yX4_bearer : MethodName := ⟨RX4, "bearer", "(III)I"⟩
abbrev cX4_teach : ByteArray := prog_6_method_6_code
def yX4_teach : MethodName := ⟨RX4, "teach", "(LLivingNumbers$Fewest;III)V"⟩
abbrev cX4_greatestStep : ByteArray := prog_6_method_7_code
def yX4_greatestStep : MethodName := ⟨RX4, "greatestStep", "(LLivingNumbers$Fewest;III)I"⟩
def RX5 : String := "LivingNumbers$Recall"
def TX5 : u_T := fun k => match k with
  | 0 => ("LivingNumbers$Recall", "chosen", "[I", true)
  | _ => ("LivingNumbers$Recall", "numbers", "[I", true)
def tyX5 : Nat → FieldType := fun k => match k with
  | 0 => .array .int
  | _ => .array .int
abbrev wsX50 : List Cond := u_ws RX5 TX5 2
theorem nmX5 : ∀ a, a < 2 → ∀ b, b < 2 → a ≠ b → (TX5 a).2.1 ≠ (TX5 b).2.1 := by decide +kernel
theorem tyX5_ok : ∀ k, k < 2 → parseFieldDescriptor (TX5 k).2.2.1 = some (tyX5 k) := by decide +kernel
abbrev cX5_init : ByteArray := prog_7_method_1_code
def yX5_init : MethodName := ⟨RX5, "<init>", "()V"⟩
abbrev cX5_search : ByteArray := prog_7_method_2_code
def yX5_search : MethodName := ⟨RX5, "search", "(LLivingNumbers$People;LLivingNumbers$Fewest;II)I"⟩
abbrev cX5_calledAt : ByteArray := prog_7_method_3_code
def yX5_calledAt : MethodName := ⟨RX5, "calledAt", "(I)I"⟩
abbrev cX5_chooseFrom : ByteArray := prog_7_method_4_code
def yX5_chooseFrom : MethodName := ⟨RX5, "chooseFrom", "(III)V"⟩
abbrev cX5_chooseNext : ByteArray := prog_7_method_5_code
def yX5_chooseNext : MethodName := ⟨RX5, "chooseNext", "(II)Z"⟩
abbrev cX5_readNumbers : ByteArray := prog_7_method_6_code
def yX5_readNumbers : MethodName := ⟨RX5, "readNumbers", "(LLivingNumbers$People;I)V"⟩
def RX6 : String := "LivingNumbers$RollText"
def TX6 : u_T := fun k => match k with
  | 0 => ("LivingNumbers$RollText", "codes", "[I", true)
  | _ => ("LivingNumbers$RollText", "length", "I", false)
def tyX6 : Nat → FieldType := fun k => match k with
  | 0 => .array .int
  | _ => .int
abbrev wsX60 : List Cond := u_ws RX6 TX6 2
theorem nmX6 : ∀ a, a < 2 → ∀ b, b < 2 → a ≠ b → (TX6 a).2.1 ≠ (TX6 b).2.1 := by decide +kernel
theorem tyX6_ok : ∀ k, k < 2 → parseFieldDescriptor (TX6 k).2.2.1 = some (tyX6 k) := by decide +kernel
abbrev cX6_init : ByteArray := prog_8_method_1_code
def yX6_init : MethodName := ⟨RX6, "<init>", "()V"⟩
abbrev cX6_read : ByteArray := prog_8_method_2_code
def yX6_read : MethodName := ⟨RX6, "read", "(LLivingNumbers$Sheets;III)V"⟩
abbrev cX6_firstFault : ByteArray := prog_8_method_3_code
def yX6_firstFault : MethodName := ⟨RX6, "firstFault", "()I"⟩
abbrev cX6_people : ByteArray := prog_8_method_4_code
def yX6_people : MethodName := ⟨RX6, "people", "()I"⟩
abbrev cX6_one : ByteArray := prog_8_method_5_code
def yX6_one : MethodName := ⟨RX6, "one", "(I)LLivingNumbers$Named;"⟩
abbrev cX6_code : ByteArray := prog_8_method_6_code
def yX6_code : MethodName := ⟨RX6, "code", "(I)I"⟩
abbrev cX6_digit : ByteArray := prog_8_method_7_code
def yX6_digit : MethodName := ⟨RX6, "digit", "(I)I"⟩
abbrev cX6_pair : ByteArray := prog_8_method_8_code
def yX6_pair : MethodName := ⟨RX6, "pair", "(I)I"⟩
abbrev cX6_goesOn : ByteArray := prog_8_method_9_code
def yX6_goesOn : MethodName := ⟨RX6, "goesOn", "(I)Z"⟩
abbrev cX6_isPairGoingOn : ByteArray := prog_8_method_10_code
def yX6_isPairGoingOn : MethodName := ⟨RX6, "isPairGoingOn", "(II)Z"⟩
abbrev cX6_isSecondDigit : ByteArray := prog_8_method_11_code
def yX6_isSecondDigit : MethodName := ⟨RX6, "isSecondDigit", "(I)Z"⟩
def RX7 : String := "LivingNumbers$Sheets"
def TX7 : u_T := fun k => match k with
  | 0 => ("LivingNumbers$Sheets", "cells", "[I", true)
  | 1 => ("LivingNumbers$Sheets", "lanes", "[I", true)
  | _ => ("LivingNumbers$Sheets", "sizes", "[I", true)
def tyX7 : Nat → FieldType := fun k => match k with
  | 0 => .array .int
  | 1 => .array .int
  | _ => .array .int
abbrev wsX70 : List Cond := u_ws RX7 TX7 3
theorem nmX7 : ∀ a, a < 3 → ∀ b, b < 3 → a ≠ b → (TX7 a).2.1 ≠ (TX7 b).2.1 := by decide +kernel
theorem tyX7_ok : ∀ k, k < 3 → parseFieldDescriptor (TX7 k).2.2.1 = some (tyX7 k) := by decide +kernel
abbrev cX7_init : ByteArray := prog_9_method_1_code
def yX7_init : MethodName := ⟨RX7, "<init>", "()V"⟩
abbrev cX7_laneOf : ByteArray := prog_9_method_2_code
def yX7_laneOf : MethodName := ⟨RX7, "laneOf", "(I)I"⟩
abbrev cX7_hasRow : ByteArray := prog_9_method_3_code
def yX7_hasRow : MethodName := ⟨RX7, "hasRow", "(I)Z"⟩
abbrev cX7_sizeOf : ByteArray := prog_9_method_4_code
def yX7_sizeOf : MethodName := ⟨RX7, "sizeOf", "(I)I"⟩
abbrev cX7_hasCells : ByteArray := prog_9_method_5_code
def yX7_hasCells : MethodName := ⟨RX7, "hasCells", "(III)Z"⟩
abbrev cX7_standOf : ByteArray := prog_9_method_6_code
def yX7_standOf : MethodName := ⟨RX7, "standOf", "(II)I"⟩
abbrev cX7_hasCell : ByteArray := prog_9_method_7_code
def yX7_hasCell : MethodName := ⟨RX7, "hasCell", "(II)Z"⟩
abbrev cX7_at : ByteArray := prog_9_method_8_code
def yX7_at : MethodName := ⟨RX7, "at", "(II)I"⟩
abbrev cX7_set : ByteArray := prog_9_method_9_code
def yX7_set : MethodName := ⟨RX7, "set", "(III)V"⟩
abbrev cX7_cut : ByteArray := prog_9_method_10_code
def yX7_cut : MethodName := ⟨RX7, "cut", "(II)I"⟩
abbrev cX7_clear : ByteArray := prog_9_method_11_code
def yX7_clear : MethodName := ⟨RX7, "clear", "(I)V"⟩
abbrev cX7_renew : ByteArray := prog_9_method_12_code
def yX7_renew : MethodName := ⟨RX7, "renew", "(III)V"⟩
abbrev cX7_move : ByteArray := prog_9_method_13_code
def yX7_move : MethodName := ⟨RX7, "move", "(IIIII)V"⟩
def RX8 : String := "LivingNumbers$Trace"
def TX8 : u_T := fun k => match k with
  | _ => ("LivingNumbers$Trace", "value", "I", false)
def tyX8 : Nat → FieldType := fun k => match k with
  | _ => .int
abbrev wsX80 : List Cond := u_ws RX8 TX8 1
theorem nmX8 : ∀ a, a < 1 → ∀ b, b < 1 → a ≠ b → (TX8 a).2.1 ≠ (TX8 b).2.1 := by decide +kernel
theorem tyX8_ok : ∀ k, k < 1 → parseFieldDescriptor (TX8 k).2.2.1 = some (tyX8 k) := by decide +kernel
abbrev cX8_init : ByteArray := prog_10_method_1_code
def yX8_init : MethodName := ⟨RX8, "<init>", "()V"⟩
abbrev cX8_leave : ByteArray := prog_10_method_2_code
def yX8_leave : MethodName := ⟨RX8, "leave", "(I)V"⟩
abbrev cX8_left : ByteArray := prog_10_method_3_code
def yX8_left : MethodName := ⟨RX8, "left", "()I"⟩
def RX9 : String := "LivingNumbers"
def TX9 : u_T := fun k => match k with
  | 0 => ("LivingNumbers", "sheets", "LLivingNumbers$Sheets;", true)
  | 1 => ("LivingNumbers", "text", "LLivingNumbers$RollText;", true)
  | 2 => ("LivingNumbers", "people", "LLivingNumbers$People;", true)
  | 3 => ("LivingNumbers", "traced", "LLivingNumbers$Trace;", true)
  | 4 => ("LivingNumbers", "fewest", "LLivingNumbers$Fewest;", true)
  | 5 => ("LivingNumbers", "compared", "LLivingNumbers$Fewest;", true)
  | 6 => ("LivingNumbers", "recall", "LLivingNumbers$Recall;", true)
  | 7 => ("LivingNumbers", "given", "[I", true)
  | _ => ("LivingNumbers", "latestFault", "I", false)
def tyX9 : Nat → FieldType := fun k => match k with
  | 0 => .object "LivingNumbers$Sheets"
  | 1 => .object "LivingNumbers$RollText"
  | 2 => .object "LivingNumbers$People"
  | 3 => .object "LivingNumbers$Trace"
  | 4 => .object "LivingNumbers$Fewest"
  | 5 => .object "LivingNumbers$Fewest"
  | 6 => .object "LivingNumbers$Recall"
  | 7 => .array .int
  | _ => .int
abbrev wsX90 : List Cond := u_ws RX9 TX9 9
theorem nmX9 : ∀ a, a < 9 → ∀ b, b < 9 → a ≠ b → (TX9 a).2.1 ≠ (TX9 b).2.1 := by decide +kernel
theorem tyX9_ok : ∀ k, k < 9 → parseFieldDescriptor (TX9 k).2.2.1 = some (tyX9 k) := by decide +kernel
abbrev cX9_init : ByteArray := prog_1_method_1_code
def yX9_init : MethodName := ⟨RX9, "<init>", "()V"⟩
abbrev cX9_roll : ByteArray := prog_1_method_2_code
def yX9_roll : MethodName := ⟨RX9, "roll", "(IIII)I"⟩
abbrev cX9_ofOne : ByteArray := prog_1_method_3_code
def yX9_ofOne : MethodName := ⟨RX9, "ofOne", "(II)I"⟩
abbrev cX9_lives : ByteArray := prog_1_method_4_code
def yX9_lives : MethodName := ⟨RX9, "lives", "(III)I"⟩
abbrev cX9_word : ByteArray := prog_1_method_5_code
def yX9_word : MethodName := ⟨RX9, "word", "(III)I"⟩
abbrev cX9_sayable : ByteArray := prog_1_method_6_code
def yX9_sayable : MethodName := ⟨RX9, "sayable", "(III)I"⟩
abbrev cX9_means : ByteArray := prog_1_method_7_code
def yX9_means : MethodName := ⟨RX9, "means", "(IIIIII)I"⟩
abbrev cX9_say : ByteArray := prog_1_method_8_code
def yX9_say : MethodName := ⟨RX9, "say", "(IIII)I"⟩
abbrev cX9_turned : ByteArray := prog_1_method_9_code
def yX9_turned : MethodName := ⟨RX9, "turned", "(IIIIIII)I"⟩
abbrev cX9_child : ByteArray := prog_1_method_10_code
def yX9_child : MethodName := ⟨RX9, "child", "(IIIIIIII)I"⟩
abbrev cX9_both : ByteArray := prog_1_method_11_code
def yX9_both : MethodName := ⟨RX9, "both", "(III)I"⟩
abbrev cX9_written : ByteArray := prog_1_method_12_code
def yX9_written : MethodName := ⟨RX9, "written", "(IIIIII)I"⟩
abbrev cX9_lost : ByteArray := prog_1_method_13_code
def yX9_lost : MethodName := ⟨RX9, "lost", "(IIII)I"⟩
abbrev cX9_back : ByteArray := prog_1_method_14_code
def yX9_back : MethodName := ⟨RX9, "back", "(IIIII)I"⟩
abbrev cX9_told : ByteArray := prog_1_method_15_code
def yX9_told : MethodName := ⟨RX9, "told", "(IIII)J"⟩
abbrev cX9_sheet : ByteArray := prog_1_method_16_code
def yX9_sheet : MethodName := ⟨RX9, "sheet", "(III)I"⟩
abbrev cX9_lose : ByteArray := prog_1_method_17_code
def yX9_lose : MethodName := ⟨RX9, "lose", "(I)I"⟩
abbrev cX9_put : ByteArray := prog_1_method_18_code
def yX9_put : MethodName := ⟨RX9, "put", "(III)I"⟩
abbrev cX9_cell : ByteArray := prog_1_method_19_code
def yX9_cell : MethodName := ⟨RX9, "cell", "(III)J"⟩
abbrev cX9_copy : ByteArray := prog_1_method_20_code
def yX9_copy : MethodName := ⟨RX9, "copy", "(IIIII)I"⟩
abbrev cX9_tell : ByteArray := prog_1_method_21_code
def yX9_tell : MethodName := ⟨RX9, "tell", "(I)I"⟩
abbrev cX9_mourn : ByteArray := prog_1_method_22_code
def yX9_mourn : MethodName := ⟨RX9, "mourn", "(I)I"⟩
abbrev cX9_as : ByteArray := prog_1_method_23_code
def yX9_as : MethodName := ⟨RX9, "as", "(II)I"⟩
abbrev cX9_trace : ByteArray := prog_1_method_24_code
def yX9_trace : MethodName := ⟨RX9, "trace", "()I"⟩
abbrev cX9_fault : ByteArray := prog_1_method_25_code
def yX9_fault : MethodName := ⟨RX9, "fault", "()I"⟩
abbrev cX9_many : ByteArray := prog_1_method_26_code
def yX9_many : MethodName := ⟨RX9, "many", "()I"⟩
abbrev cX9_isVillage : ByteArray := prog_1_method_27_code
def yX9_isVillage : MethodName := ⟨RX9, "isVillage", "(I)Z"⟩
abbrev cX9_isDay : ByteArray := prog_1_method_28_code
def yX9_isDay : MethodName := ⟨RX9, "isDay", "(I)Z"⟩
abbrev cX9_isQuantity : ByteArray := prog_1_method_29_code
def yX9_isQuantity : MethodName := ⟨RX9, "isQuantity", "(I)Z"⟩
abbrev cX9_isWords : ByteArray := prog_1_method_30_code
def yX9_isWords : MethodName := ⟨RX9, "isWords", "(I)Z"⟩
abbrev cX9_isSheet : ByteArray := prog_1_method_31_code
def yX9_isSheet : MethodName := ⟨RX9, "isSheet", "(I)Z"⟩
abbrev cX9_isLane : ByteArray := prog_1_method_32_code
def yX9_isLane : MethodName := ⟨RX9, "isLane", "(I)Z"⟩
abbrev cX9_faulted : ByteArray := prog_1_method_33_code
def yX9_faulted : MethodName := ⟨RX9, "faulted", "(I)I"⟩
abbrev cX9_faultAs : ByteArray := prog_1_method_34_code
def yX9_faultAs : MethodName := ⟨RX9, "faultAs", "(II)I"⟩
abbrev cX9_refusalOfCells : ByteArray := prog_1_method_35_code
def yX9_refusalOfCells : MethodName := ⟨RX9, "refusalOfCells", "(IIZIII)I"⟩
abbrev cX9_refusalOfRow : ByteArray := prog_1_method_36_code
def yX9_refusalOfRow : MethodName := ⟨RX9, "refusalOfRow", "(IIZIII)I"⟩
abbrev cX9_areBargains : ByteArray := prog_1_method_37_code
def yX9_areBargains : MethodName := ⟨RX9, "areBargains", "(III)Z"⟩
abbrev cX9_meaning : ByteArray := prog_1_method_38_code
def yX9_meaning : MethodName := ⟨RX9, "meaning", "(IIIII)I"⟩
abbrev cX9_fewestWords : ByteArray := prog_1_method_39_code
def yX9_fewestWords : MethodName := ⟨RX9, "fewestWords", "(III)I"⟩
abbrev cX9_numberAt : ByteArray := prog_1_method_40_code
def yX9_numberAt : MethodName := ⟨RX9, "numberAt", "(IIII)I"⟩
abbrev cX9_bargainsSaid : ByteArray := prog_1_method_41_code
def yX9_bargainsSaid : MethodName := ⟨RX9, "bargainsSaid", "(IIIII)I"⟩
abbrev cX9_reduced : ByteArray := prog_1_method_42_code
def yX9_reduced : MethodName := ⟨RX9, "reduced", "(II)I"⟩
def RX10 : String := "LivingNumbersModel"
def TX10 : u_T := fun k => match k with
  | 0 => ("LivingNumbersModel", "fault", "I", false)
  | 1 => ("LivingNumbersModel", "people", "I", false)
  | 2 => ("LivingNumbersModel", "kindOf", "[I", true)
  | 3 => ("LivingNumbersModel", "villageOf", "[I", true)
  | 4 => ("LivingNumbersModel", "numberOf", "[I", true)
  | 5 => ("LivingNumbersModel", "fromOf", "[I", true)
  | 6 => ("LivingNumbersModel", "tillOf", "[I", true)
  | 7 => ("LivingNumbersModel", "readAt", "I", false)
  | 8 => ("LivingNumbersModel", "readPeople", "I", false)
  | 9 => ("LivingNumbersModel", "readKind", "[I", true)
  | 10 => ("LivingNumbersModel", "readVillage", "[I", true)
  | 11 => ("LivingNumbersModel", "readNumber", "[I", true)
  | 12 => ("LivingNumbersModel", "readFrom", "[I", true)
  | 13 => ("LivingNumbersModel", "readTill", "[I", true)
  | 14 => ("LivingNumbersModel", "can", "[Z", true)
  | 15 => ("LivingNumbersModel", "fewest", "[I", true)
  | 16 => ("LivingNumbersModel", "first", "[Z", true)
  | 17 => ("LivingNumbersModel", "sheetSize", "[I", true)
  | 18 => ("LivingNumbersModel", "sheetLane", "[I", true)
  | 19 => ("LivingNumbersModel", "sheet", "[I", true)
  | 20 => ("LivingNumbersModel", "hands", "[I", true)
  | _ => ("LivingNumbersModel", "traceNow", "I", false)
def tyX10 : Nat → FieldType := fun k => match k with
  | 0 => .int
  | 1 => .int
  | 2 => .array .int
  | 3 => .array .int
  | 4 => .array .int
  | 5 => .array .int
  | 6 => .array .int
  | 7 => .int
  | 8 => .int
  | 9 => .array .int
  | 10 => .array .int
  | 11 => .array .int
  | 12 => .array .int
  | 13 => .array .int
  | 14 => .array .boolean
  | 15 => .array .int
  | 16 => .array .boolean
  | 17 => .array .int
  | 18 => .array .int
  | 19 => .array .int
  | 20 => .array .int
  | _ => .int
abbrev wsX100 : List Cond := u_ws RX10 TX10 22
theorem nmX10 : ∀ a, a < 22 → ∀ b, b < 22 → a ≠ b → (TX10 a).2.1 ≠ (TX10 b).2.1 := by decide +kernel
theorem tyX10_ok : ∀ k, k < 22 → parseFieldDescriptor (TX10 k).2.2.1 = some (tyX10 k) := by decide +kernel
abbrev cX10_init : ByteArray := prog_12_method_1_code
def yX10_init : MethodName := ⟨RX10, "<init>", "()V"⟩
abbrev cX10_in : ByteArray := prog_12_method_2_code
def yX10_in : MethodName := ⟨RX10, "in", "(JJJ)Z"⟩
abbrev cX10_nothing : ByteArray := prog_12_method_3_code
def yX10_nothing : MethodName := ⟨RX10, "nothing", "()J"⟩
abbrev cX10_lesser : ByteArray := prog_12_method_4_code
def yX10_lesser : MethodName := ⟨RX10, "lesser", "(II)I"⟩
abbrev cX10_shared : ByteArray := prog_12_method_5_code
def yX10_shared : MethodName := ⟨RX10, "shared", "(JJI)J"⟩
abbrev cX10_refused : ByteArray := prog_12_method_6_code
def yX10_refused : MethodName := ⟨RX10, "refused", "(I)I"⟩
abbrev cX10_failed : ByteArray := prog_12_method_7_code
def yX10_failed : MethodName := ⟨RX10, "failed", "(I)I"⟩
abbrev cX10_failedLong : ByteArray := prog_12_method_8_code
def yX10_failedLong : MethodName := ⟨RX10, "failedLong", "(I)J"⟩
abbrev cX10_barred : ByteArray := prog_12_method_9_code
def yX10_barred : MethodName := ⟨RX10, "barred", "(IIIJZ)I"⟩
abbrev cX10_noOne : ByteArray := prog_12_method_10_code
def yX10_noOne : MethodName := ⟨RX10, "noOne", "(I)Z"⟩
abbrev cX10_noVillage : ByteArray := prog_12_method_11_code
def yX10_noVillage : MethodName := ⟨RX10, "noVillage", "(I)Z"⟩
abbrev cX10_isDay : ByteArray := prog_12_method_12_code
def yX10_isDay : MethodName := ⟨RX10, "isDay", "(I)Z"⟩
abbrev cX10_isFew : ByteArray := prog_12_method_13_code
def yX10_isFew : MethodName := ⟨RX10, "isFew", "(I)Z"⟩
abbrev cX10_figureAt : ByteArray := prog_12_method_14_code
def yX10_figureAt : MethodName := ⟨RX10, "figureAt", "(III)I"⟩
abbrev cX10_two : ByteArray := prog_12_method_15_code
def yX10_two : MethodName := ⟨RX10, "two", "(IIII)I"⟩
abbrev cX10_readsOne : ByteArray := prog_12_method_16_code
def yX10_readsOne : MethodName := ⟨RX10, "readsOne", "(II)Z"⟩
abbrev cX10_readsRoll : ByteArray := prog_12_method_17_code
def yX10_readsRoll : MethodName := ⟨RX10, "readsRoll", "(II)Z"⟩
abbrev cX10_roll : ByteArray := prog_12_method_18_code
def yX10_roll : MethodName := ⟨RX10, "roll", "(IIII)I"⟩
abbrev cX10_ofOne : ByteArray := prog_12_method_19_code
def yX10_ofOne : MethodName := ⟨RX10, "ofOne", "(II)I"⟩
abbrev cX10_doesLive : ByteArray := prog_12_method_20_code
def yX10_doesLive : MethodName := ⟨RX10, "doesLive", "(III)Z"⟩
abbrev cX10_lives : ByteArray := prog_12_method_21_code
def yX10_lives : MethodName := ⟨RX10, "lives", "(III)I"⟩
abbrev cX10_saidBy : ByteArray := prog_12_method_22_code
def yX10_saidBy : MethodName := ⟨RX10, "saidBy", "(III)I"⟩
abbrev cX10_word : ByteArray := prog_12_method_23_code
def yX10_word : MethodName := ⟨RX10, "word", "(III)I"⟩
abbrev cX10_sayable : ByteArray := prog_12_method_24_code
def yX10_sayable : MethodName := ⟨RX10, "sayable", "(III)I"⟩
abbrev cX10_layCan : ByteArray := prog_12_method_25_code
def yX10_layCan : MethodName := ⟨RX10, "layCan", "(III)V"⟩
abbrev cX10_layFewest : ByteArray := prog_12_method_26_code
def yX10_layFewest : MethodName := ⟨RX10, "layFewest", "(I)V"⟩
abbrev cX10_laySaid : ByteArray := prog_12_method_27_code
def yX10_laySaid : MethodName := ⟨RX10, "laySaid", "(III)V"⟩
abbrev cX10_arePeople : ByteArray := prog_12_method_28_code
def yX10_arePeople : MethodName := ⟨RX10, "arePeople", "(II)Z"⟩
abbrev cX10_meant : ByteArray := prog_12_method_29_code
def yX10_meant : MethodName := ⟨RX10, "meant", "(IIII)I"⟩
abbrev cX10_rowBarred : ByteArray := prog_12_method_30_code
def yX10_rowBarred : MethodName := ⟨RX10, "rowBarred", "(IIIIIZ)I"⟩
abbrev cX10_means : ByteArray := prog_12_method_31_code
def yX10_means : MethodName := ⟨RX10, "means", "(IIIIII)I"⟩
abbrev cX10_say : ByteArray := prog_12_method_32_code
def yX10_say : MethodName := ⟨RX10, "say", "(IIII)I"⟩
abbrev cX10_turned : ByteArray := prog_12_method_33_code
def yX10_turned : MethodName := ⟨RX10, "turned", "(IIIIIII)I"⟩
abbrev cX10_child : ByteArray := prog_12_method_34_code
def yX10_child : MethodName := ⟨RX10, "child", "(IIIIIIII)I"⟩
abbrev cX10_both : ByteArray := prog_12_method_35_code
def yX10_both : MethodName := ⟨RX10, "both", "(III)I"⟩
abbrev cX10_written : ByteArray := prog_12_method_36_code
def yX10_written : MethodName := ⟨RX10, "written", "(IIIIII)I"⟩
abbrev cX10_saidOf : ByteArray := prog_12_method_37_code
def yX10_saidOf : MethodName := ⟨RX10, "saidOf", "(I)I"⟩
abbrev cX10_lost : ByteArray := prog_12_method_38_code
def yX10_lost : MethodName := ⟨RX10, "lost", "(IIII)I"⟩
abbrev cX10_isSaidBy : ByteArray := prog_12_method_39_code
def yX10_isSaidBy : MethodName := ⟨RX10, "isSaidBy", "(IIIII)Z"⟩
abbrev cX10_setOf : ByteArray := prog_12_method_40_code
def yX10_setOf : MethodName := ⟨RX10, "setOf", "(III)I"⟩
abbrev cX10_bits : ByteArray := prog_12_method_41_code
def yX10_bits : MethodName := ⟨RX10, "bits", "(I)I"⟩
abbrev cX10_back : ByteArray := prog_12_method_42_code
def yX10_back : MethodName := ⟨RX10, "back", "(IIIII)I"⟩
abbrev cX10_told : ByteArray := prog_12_method_43_code
def yX10_told : MethodName := ⟨RX10, "told", "(IIII)J"⟩
abbrev cX10_noSheet : ByteArray := prog_12_method_44_code
def yX10_noSheet : MethodName := ⟨RX10, "noSheet", "(I)Z"⟩
abbrev cX10_sheet : ByteArray := prog_12_method_45_code
def yX10_sheet : MethodName := ⟨RX10, "sheet", "(III)I"⟩
abbrev cX10_lose : ByteArray := prog_12_method_46_code
def yX10_lose : MethodName := ⟨RX10, "lose", "(I)I"⟩
abbrev cX10_noCell : ByteArray := prog_12_method_47_code
def yX10_noCell : MethodName := ⟨RX10, "noCell", "(II)I"⟩
abbrev cX10_put : ByteArray := prog_12_method_48_code
def yX10_put : MethodName := ⟨RX10, "put", "(III)I"⟩
abbrev cX10_cell : ByteArray := prog_12_method_49_code
def yX10_cell : MethodName := ⟨RX10, "cell", "(III)J"⟩
abbrev cX10_isBeyond : ByteArray := prog_12_method_50_code
def yX10_isBeyond : MethodName := ⟨RX10, "isBeyond", "(IJI)Z"⟩
abbrev cX10_copy : ByteArray := prog_12_method_51_code
def yX10_copy : MethodName := ⟨RX10, "copy", "(IIIII)I"⟩
abbrev cX10_traced : ByteArray := prog_12_method_52_code
def yX10_traced : MethodName := ⟨RX10, "traced", "(I)V"⟩
abbrev cX10_tell : ByteArray := prog_12_method_53_code
def yX10_tell : MethodName := ⟨RX10, "tell", "(I)I"⟩
abbrev cX10_mourn : ByteArray := prog_12_method_54_code
def yX10_mourn : MethodName := ⟨RX10, "mourn", "(I)I"⟩
abbrev cX10_as : ByteArray := prog_12_method_55_code
def yX10_as : MethodName := ⟨RX10, "as", "(II)I"⟩
abbrev cX10_trace : ByteArray := prog_12_method_56_code
def yX10_trace : MethodName := ⟨RX10, "trace", "()I"⟩
abbrev cX10_fault : ByteArray := prog_12_method_57_code
def yX10_fault : MethodName := ⟨RX10, "fault", "()I"⟩
abbrev cX10_many : ByteArray := prog_12_method_58_code
def yX10_many : MethodName := ⟨RX10, "many", "()I"⟩
def RJ9 : String := "java/lang/Math"
def TJ9 : u_T := fun k => match k with
  | _ => ("", "", "", false)
def tyJ9 : Nat → FieldType := fun k => match k with
  | _ => .int
abbrev wsJ90 : List Cond := u_ws RJ9 TJ9 0
theorem nmJ9 : ∀ a, a < 0 → ∀ b, b < 0 → a ≠ b → (TJ9 a).2.1 ≠ (TJ9 b).2.1 := by decide +kernel
theorem tyJ9_ok : ∀ k, k < 0 → parseFieldDescriptor (TJ9 k).2.2.1 = some (tyJ9 k) := by decide +kernel
abbrev cJ9_min_7cf53 : ByteArray := prog_13_method_69_code
def yJ9_min_7cf53 : MethodName := ⟨RJ9, "min", "(II)I"⟩
def RJ10 : String := "java/lang/System"
def TJ10 : u_T := fun k => match k with
  | _ => ("", "", "", false)
def tyJ10 : Nat → FieldType := fun k => match k with
  | _ => .int
abbrev wsJ100 : List Cond := u_ws RJ10 TJ10 0
theorem nmJ10 : ∀ a, a < 0 → ∀ b, b < 0 → a ≠ b → (TJ10 a).2.1 ≠ (TJ10 b).2.1 := by decide +kernel
theorem tyJ10_ok : ∀ k, k < 0 → parseFieldDescriptor (TJ10 k).2.2.1 = some (tyJ10 k) := by decide +kernel
def RL : String := "LivingNumbersLaw"
def wsX0_init : List Cond := .code yX0_init cX0_init 1 none :: ([.methodLink RX0 3 objectInit, .instanceMethod objectInit, .code objectInit ⟨#[0xb1]⟩ 1 none, .arrayClass .int, .fieldLink RX0 9 "LivingNumbers$Fewest" "words" "[I"] ++ wsX00)
def wsX0_clear : List Cond := .code yX0_clear cX0_clear 2 none :: ([.fieldLink RX0 9 "LivingNumbers$Fewest" "words" "[I", .constant RX0 15 (1000000)] ++ wsX00)
def wsX0_add : List Cond := .code yX0_add cX0_add 3 none :: ([.fieldLink RX0 9 "LivingNumbers$Fewest" "words" "[I", .methodLink RX0 16 Lib.Math.min.name, .static Lib.Math.min.name, .initialized "java/lang/Math", .code Lib.Math.min.name Lib.Math.min.code 2 (some .int)] ++ wsX00)
def wsX0_of : List Cond := .code yX0_of cX0_of 2 (some .int) :: ([.fieldLink RX0 9 "LivingNumbers$Fewest" "words" "[I", .constant RX0 15 (1000000)] ++ wsX00)
def wsX0_within : List Cond := .code yX0_within cX0_within 3 (some .boolean) :: ([.methodLink RX0 22 yX0_of, .instanceMethod yX0_of, .selects RX0 yX0_of yX0_of, .initialized RX0, .code yX0_of cX0_of 2 (some .int), .fieldLink RX0 9 "LivingNumbers$Fewest" "words" "[I", .constant RX0 15 (1000000)] ++ wsX00)
def wsX0_isReached : List Cond := .code yX0_isReached cX0_isReached 6 (some .boolean) :: ([.methodLink RX0 30 yX0_within, .instanceMethod yX0_within, .selects RX0 yX0_within yX0_within, .initialized RX0, .code yX0_within cX0_within 3 (some .boolean), .methodLink RX0 22 yX0_of, .instanceMethod yX0_of, .selects RX0 yX0_of yX0_of, .code yX0_of cX0_of 2 (some .int), .fieldLink RX0 9 "LivingNumbers$Fewest" "words" "[I", .constant RX0 15 (1000000), .methodLink RX0 26 yX0_isReached, .static yX0_isReached] ++ wsX00)
def wsX0_withinBy : List Cond := .code yX0_withinBy cX0_withinBy 5 (some .boolean) :: ([.methodLink RX0 16 Lib.Math.min.name, .static Lib.Math.min.name, .initialized "java/lang/Math", .code Lib.Math.min.name Lib.Math.min.code 2 (some .int), .methodLink RX0 26 yX0_isReached, .static yX0_isReached, .initialized RX0, .code yX0_isReached cX0_isReached 6 (some .boolean), .methodLink RX0 30 yX0_within, .instanceMethod yX0_within, .selects RX0 yX0_within yX0_within, .code yX0_within cX0_within 3 (some .boolean), .methodLink RX0 22 yX0_of, .instanceMethod yX0_of, .selects RX0 yX0_of yX0_of, .code yX0_of cX0_of 2 (some .int), .fieldLink RX0 9 "LivingNumbers$Fewest" "words" "[I", .constant RX0 15 (1000000)] ++ wsX00)
def wsX3_init : List Cond := .code yX3_init cX3_init 5 none :: ([.methodLink RX3 1 objectInit, .instanceMethod objectInit, .code objectInit ⟨#[0xb1]⟩ 1 none, .fieldLink RX3 7 "LivingNumbers$Named" "village" "I", .fieldLink RX3 13 "LivingNumbers$Named" "number" "I", .fieldLink RX3 16 "LivingNumbers$Named" "from" "I", .fieldLink RX3 19 "LivingNumbers$Named" "till" "I"] ++ wsX10 ++ wsX20 ++ wsX30)
def wsX2_init : List Cond := .code yX2_init cX2_init 5 none :: ([.methodLink RX2 1 yX3_init, .instanceMethod yX3_init, .initialized RX3, .code yX3_init cX3_init 5 none, .methodLink RX3 1 objectInit, .instanceMethod objectInit, .code objectInit ⟨#[0xb1]⟩ 1 none, .fieldLink RX3 7 "LivingNumbers$Named" "village" "I", .fieldLink RX3 13 "LivingNumbers$Named" "number" "I", .fieldLink RX3 16 "LivingNumbers$Named" "from" "I", .fieldLink RX3 19 "LivingNumbers$Named" "till" "I"] ++ wsX10 ++ wsX20 ++ wsX30)
def wsX1_init : List Cond := .code yX1_init cX1_init 5 none :: ([.methodLink RX1 1 yX2_init, .instanceMethod yX2_init, .initialized RX2, .code yX2_init cX2_init 5 none, .methodLink RX2 1 yX3_init, .instanceMethod yX3_init, .initialized RX3, .code yX3_init cX3_init 5 none, .methodLink RX3 1 objectInit, .instanceMethod objectInit, .code objectInit ⟨#[0xb1]⟩ 1 none, .fieldLink RX3 7 "LivingNumbers$Named" "village" "I", .fieldLink RX3 13 "LivingNumbers$Named" "number" "I", .fieldLink RX3 16 "LivingNumbers$Named" "from" "I", .fieldLink RX3 19 "LivingNumbers$Named" "till" "I"] ++ wsX10 ++ wsX20 ++ wsX30)
def wsX1_kind : List Cond := .code yX1_kind cX1_kind 1 (some .int) :: ([])
def wsX1_isKnown : List Cond := .code yX1_isKnown cX1_isKnown 2 (some .boolean) :: ([])
def wsX8_leave : List Cond := .code yX8_leave cX8_leave 2 none :: ([.fieldLink RX8 7 "LivingNumbers$Trace" "value" "I"] ++ wsX80)
def wsX3_namedTelling : List Cond := .code yX3_namedTelling cX3_namedTelling 2 (some .int) :: ([.fieldLink RX3 13 "LivingNumbers$Named" "number" "I", .methodLink RX3 37 yX8_leave, .instanceMethod yX8_leave, .selects RX8 yX8_leave yX8_leave, .initialized RX8, .code yX8_leave cX8_leave 2 none, .fieldLink RX8 7 "LivingNumbers$Trace" "value" "I"] ++ wsX10 ++ wsX20 ++ wsX30 ++ wsX80)
def wsX2_telling : List Cond := .code yX2_telling cX2_telling 2 (some .int) :: ([.methodLink RX2 7 yX8_leave, .instanceMethod yX8_leave, .selects RX8 yX8_leave yX8_leave, .initialized RX8, .code yX8_leave cX8_leave 2 none, .fieldLink RX8 7 "LivingNumbers$Trace" "value" "I", .methodLink RX2 13 ⟨"LivingNumbers$Lent", "namedTelling", "(LLivingNumbers$Trace;)I"⟩, .sameMethod "LivingNumbers$Lent" "LivingNumbers$Named" "namedTelling" "(LLivingNumbers$Trace;)I", .selects RX1 ⟨"LivingNumbers$Lent", "namedTelling", "(LLivingNumbers$Trace;)I"⟩ yX3_namedTelling, .instanceMethod yX3_namedTelling, .initialized RX3, .code yX3_namedTelling cX3_namedTelling 2 (some .int), .fieldLink RX3 13 "LivingNumbers$Named" "number" "I", .methodLink RX3 37 yX8_leave, .selects RX2 ⟨"LivingNumbers$Lent", "namedTelling", "(LLivingNumbers$Trace;)I"⟩ yX3_namedTelling] ++ wsX80 ++ wsX10 ++ wsX20 ++ wsX30)
def wsX1_telling_r1 : List Cond := [Cond.methodLink RX1 7 yX8_leave, Cond.instanceMethod yX8_leave, Cond.selects RX8 yX8_leave yX8_leave, Cond.initialized RX8, Cond.code yX8_leave cX8_leave 2 none, Cond.fieldLink RX8 7 "LivingNumbers$Trace" "value" "I", Cond.methodLink RX1 13 yX2_telling, Cond.sameMethod "LivingNumbers$Lent" "LivingNumbers$Lent" "telling" "(LLivingNumbers$Trace;)I", Cond.superclass RX1 RX2, Cond.instanceMethod yX2_telling, Cond.initialized RX2, Cond.code yX2_telling cX2_telling 2 (some .int), Cond.methodLink RX2 7 yX8_leave, Cond.methodLink RX2 13 ⟨"LivingNumbers$Lent", "namedTelling", "(LLivingNumbers$Trace;)I"⟩, Cond.sameMethod "LivingNumbers$Lent" "LivingNumbers$Named" "namedTelling" "(LLivingNumbers$Trace;)I", Cond.selects RX1 ⟨"LivingNumbers$Lent", "namedTelling", "(LLivingNumbers$Trace;)I"⟩ yX3_namedTelling, Cond.instanceMethod yX3_namedTelling, Cond.initialized RX3, Cond.code yX3_namedTelling cX3_namedTelling 2 (some .int), Cond.fieldLink RX3 13 "LivingNumbers$Named" "number" "I", Cond.methodLink RX3 37 yX8_leave, Cond.selects RX2 ⟨"LivingNumbers$Lent", "namedTelling", "(LLivingNumbers$Trace;)I"⟩ yX3_namedTelling, Cond.methodLink RX1 17 ⟨"LivingNumbers$Foreign", "namedTelling", "(LLivingNumbers$Trace;)I"⟩, Cond.sameMethod "LivingNumbers$Foreign" "LivingNumbers$Named" "namedTelling" "(LLivingNumbers$Trace;)I"]
def wsX1_telling_r2 : List Cond := [Cond.selects RX1 ⟨"LivingNumbers$Foreign", "namedTelling", "(LLivingNumbers$Trace;)I"⟩ yX3_namedTelling]
def wsX1_telling : List Cond := .code yX1_telling cX1_telling 3 (some .int) :: ((wsX1_telling_r1 ++ wsX1_telling_r2) ++ wsX80 ++ wsX10 ++ wsX20 ++ wsX30)
def wsX1_mourning : List Cond := .code yX1_mourning cX1_mourning 3 (some .int) :: ([.methodLink RX1 7 yX8_leave, .instanceMethod yX8_leave, .selects RX8 yX8_leave yX8_leave, .initialized RX8, .code yX8_leave cX8_leave 2 none, .fieldLink RX8 7 "LivingNumbers$Trace" "value" "I"] ++ wsX80)
def wsX2_kind : List Cond := .code yX2_kind cX2_kind 1 (some .int) :: ([])
def wsX2_longer : List Cond := .code yX2_longer cX2_longer 1 (some .int) :: ([])
def wsX3_kind : List Cond := .code yX3_kind cX3_kind 1 (some .int) :: ([])
def wsX3_number : List Cond := .code yX3_number cX3_number 1 (some .int) :: ([.fieldLink RX3 13 "LivingNumbers$Named" "number" "I"] ++ wsX10 ++ wsX20 ++ wsX30)
def wsX3_part : List Cond := .code yX3_part cX3_part 2 (some .int) :: ([.fieldLink RX3 7 "LivingNumbers$Named" "village" "I", .fieldLink RX3 13 "LivingNumbers$Named" "number" "I", .fieldLink RX3 16 "LivingNumbers$Named" "from" "I", .fieldLink RX3 19 "LivingNumbers$Named" "till" "I", .methodLink RX3 22 ⟨"LivingNumbers$Named", "kind", "()I"⟩, .sameMethod "LivingNumbers$Named" "LivingNumbers$Named" "kind" "()I", .instanceMethod ⟨"LivingNumbers$Named", "kind", "()I"⟩, .selects RX1 ⟨"LivingNumbers$Named", "kind", "()I"⟩ yX1_kind, .instanceMethod yX1_kind, .initialized RX1, .code yX1_kind cX1_kind 1 (some .int), .code yX3_kind cX3_kind 1 (some .int), .selects RX2 ⟨"LivingNumbers$Named", "kind", "()I"⟩ yX2_kind, .instanceMethod yX2_kind, .initialized RX2, .code yX2_kind cX2_kind 1 (some .int), .methodLink RX3 22 yX3_kind, .instanceMethod yX3_kind, .selects RX3 yX3_kind yX3_kind, .initialized RX3] ++ wsX10 ++ wsX20 ++ wsX30)
def wsX3_isKnown : List Cond := .code yX3_isKnown cX3_isKnown 2 (some .boolean) :: ([.fieldLink RX3 7 "LivingNumbers$Named" "village" "I"] ++ wsX10 ++ wsX20 ++ wsX30)
def wsX3_longer : List Cond := .code yX3_longer cX3_longer 1 (some .int) :: ([])
def wsX3_isHeard_r1 : List Cond := [Cond.fieldLink RX3 16 "LivingNumbers$Named" "from" "I", Cond.fieldLink RX3 19 "LivingNumbers$Named" "till" "I", Cond.methodLink RX3 26 ⟨"LivingNumbers$Named", "isKnown", "(I)Z"⟩, Cond.sameMethod "LivingNumbers$Named" "LivingNumbers$Named" "isKnown" "(I)Z", Cond.instanceMethod ⟨"LivingNumbers$Named", "isKnown", "(I)Z"⟩, Cond.selects RX1 ⟨"LivingNumbers$Named", "isKnown", "(I)Z"⟩ yX1_isKnown, Cond.instanceMethod yX1_isKnown, Cond.initialized RX1, Cond.code yX1_isKnown cX1_isKnown 2 (some .boolean), Cond.code yX3_isKnown cX3_isKnown 2 (some .boolean), Cond.selects RX2 ⟨"LivingNumbers$Named", "isKnown", "(I)Z"⟩ yX3_isKnown, Cond.instanceMethod yX3_isKnown, Cond.initialized RX3, Cond.fieldLink RX3 7 "LivingNumbers$Named" "village" "I", Cond.methodLink RX3 26 yX3_isKnown, Cond.selects RX3 yX3_isKnown yX3_isKnown, Cond.methodLink RX3 30 ⟨"LivingNumbers$Named", "longer", "()I"⟩, Cond.sameMethod "LivingNumbers$Named" "LivingNumbers$Named" "longer" "()I", Cond.instanceMethod ⟨"LivingNumbers$Named", "longer", "()I"⟩, Cond.selects RX1 ⟨"LivingNumbers$Named", "longer", "()I"⟩ yX2_longer, Cond.instanceMethod yX2_longer, Cond.initialized RX2, Cond.code yX2_longer cX2_longer 1 (some .int), Cond.code yX3_longer cX3_longer 1 (some .int)]
def wsX3_isHeard_r2 : List Cond := [Cond.selects RX2 ⟨"LivingNumbers$Named", "longer", "()I"⟩ yX2_longer, Cond.methodLink RX3 30 yX3_longer, Cond.instanceMethod yX3_longer, Cond.selects RX3 yX3_longer yX3_longer]
def wsX3_isHeard : List Cond := .code yX3_isHeard cX3_isHeard 3 (some .boolean) :: ((wsX3_isHeard_r1 ++ wsX3_isHeard_r2) ++ wsX10 ++ wsX20 ++ wsX30)
def wsX3_telling : List Cond := .code yX3_telling cX3_telling 2 (some .int) :: ([.methodLink RX3 33 ⟨"LivingNumbers$Named", "namedTelling", "(LLivingNumbers$Trace;)I"⟩, .sameMethod "LivingNumbers$Named" "LivingNumbers$Named" "namedTelling" "(LLivingNumbers$Trace;)I", .selects RX1 ⟨"LivingNumbers$Named", "namedTelling", "(LLivingNumbers$Trace;)I"⟩ yX3_namedTelling, .instanceMethod yX3_namedTelling, .initialized RX3, .code yX3_namedTelling cX3_namedTelling 2 (some .int), .fieldLink RX3 13 "LivingNumbers$Named" "number" "I", .methodLink RX3 37 yX8_leave, .instanceMethod yX8_leave, .selects RX8 yX8_leave yX8_leave, .initialized RX8, .code yX8_leave cX8_leave 2 none, .fieldLink RX8 7 "LivingNumbers$Trace" "value" "I", .selects RX2 ⟨"LivingNumbers$Named", "namedTelling", "(LLivingNumbers$Trace;)I"⟩ yX3_namedTelling, .methodLink RX3 33 yX3_namedTelling, .selects RX3 yX3_namedTelling yX3_namedTelling] ++ wsX10 ++ wsX20 ++ wsX30 ++ wsX80)
def wsX3_mourning : List Cond := .code yX3_mourning cX3_mourning 3 (some .int) :: ([.methodLink RX3 37 yX8_leave, .instanceMethod yX8_leave, .selects RX8 yX8_leave yX8_leave, .initialized RX8, .code yX8_leave cX8_leave 2 none, .fieldLink RX8 7 "LivingNumbers$Trace" "value" "I"] ++ wsX80)
def wsX4_init : List Cond := .code yX4_init cX4_init 1 none :: ([.methodLink RX4 3 objectInit, .instanceMethod objectInit, .code objectInit ⟨#[0xb1]⟩ 1 none, .classLink RX4 9 RX3, .fieldLink RX4 11 "LivingNumbers$People" "ones" "[LLivingNumbers$Named;", .fieldLink RX4 17 "LivingNumbers$People" "size" "I"] ++ wsX40)
def wsX4_size : List Cond := .code yX4_size cX4_size 1 (some .int) :: ([.fieldLink RX4 17 "LivingNumbers$People" "size" "I"] ++ wsX40)
def wsX4_one : List Cond := .code yX4_one cX4_one 2 (some (.object "LivingNumbers$Named")) :: ([.fieldLink RX4 17 "LivingNumbers$People" "size" "I", .fieldLink RX4 11 "LivingNumbers$People" "ones" "[LLivingNumbers$Named;"] ++ wsX40)
def wsX6_people : List Cond := .code yX6_people cX6_people 1 (some .int) :: ([.fieldLink RX6 15 "LivingNumbers$RollText" "length" "I"] ++ wsX60)
def wsX6_code : List Cond := .code yX6_code cX6_code 2 (some .int) :: ([.fieldLink RX6 15 "LivingNumbers$RollText" "length" "I", .fieldLink RX6 9 "LivingNumbers$RollText" "codes" "[I"] ++ wsX60)
def wsX6_digit : List Cond := .code yX6_digit cX6_digit 3 (some .int) :: ([.methodLink RX6 44 yX6_code, .instanceMethod yX6_code, .selects RX6 yX6_code yX6_code, .initialized RX6, .code yX6_code cX6_code 2 (some .int), .fieldLink RX6 15 "LivingNumbers$RollText" "length" "I", .fieldLink RX6 9 "LivingNumbers$RollText" "codes" "[I"] ++ wsX60)
def wsX6_pair : List Cond := .code yX6_pair cX6_pair 2 (some .int) :: ([.methodLink RX6 37 yX6_digit, .instanceMethod yX6_digit, .selects RX6 yX6_digit yX6_digit, .initialized RX6, .code yX6_digit cX6_digit 3 (some .int), .methodLink RX6 44 yX6_code, .instanceMethod yX6_code, .selects RX6 yX6_code yX6_code, .code yX6_code cX6_code 2 (some .int), .fieldLink RX6 15 "LivingNumbers$RollText" "length" "I", .fieldLink RX6 9 "LivingNumbers$RollText" "codes" "[I"] ++ wsX60)
def wsX6_one_r1 : List Cond := [Cond.classLink RX6 47 RX1, Cond.instantiable RX1 4, Cond.initialized RX1, Cond.classLink RX6 52 RX2, Cond.instantiable RX2 4, Cond.initialized RX2, Cond.classLink RX6 55 RX3, Cond.instantiable RX3 4, Cond.initialized RX3, Cond.methodLink RX6 37 yX6_digit, Cond.instanceMethod yX6_digit, Cond.selects RX6 yX6_digit yX6_digit, Cond.initialized RX6, Cond.code yX6_digit cX6_digit 3 (some .int), Cond.methodLink RX6 44 yX6_code, Cond.instanceMethod yX6_code, Cond.selects RX6 yX6_code yX6_code, Cond.code yX6_code cX6_code 2 (some .int), Cond.fieldLink RX6 15 "LivingNumbers$RollText" "length" "I", Cond.fieldLink RX6 9 "LivingNumbers$RollText" "codes" "[I", Cond.methodLink RX6 41 yX6_pair, Cond.instanceMethod yX6_pair, Cond.selects RX6 yX6_pair yX6_pair, Cond.code yX6_pair cX6_pair 2 (some .int)]
def wsX6_one_r2 : List Cond := [Cond.methodLink RX6 49 yX1_init, Cond.instanceMethod yX1_init, Cond.code yX1_init cX1_init 5 none, Cond.methodLink RX1 1 yX2_init, Cond.instanceMethod yX2_init, Cond.code yX2_init cX2_init 5 none, Cond.methodLink RX2 1 yX3_init, Cond.instanceMethod yX3_init, Cond.code yX3_init cX3_init 5 none, Cond.methodLink RX3 1 objectInit, Cond.instanceMethod objectInit, Cond.code objectInit ⟨#[0xb1]⟩ 1 none, Cond.fieldLink RX3 7 "LivingNumbers$Named" "village" "I", Cond.fieldLink RX3 13 "LivingNumbers$Named" "number" "I", Cond.fieldLink RX3 16 "LivingNumbers$Named" "from" "I", Cond.fieldLink RX3 19 "LivingNumbers$Named" "till" "I", Cond.methodLink RX6 54 yX2_init, Cond.methodLink RX6 57 yX3_init]
def wsX6_one : List Cond := .code yX6_one cX6_one 7 (some (.object "LivingNumbers$Named")) :: ((wsX6_one_r1 ++ wsX6_one_r2) ++ wsX10 ++ wsX20 ++ wsX30 ++ wsX60)
def wsX4_takeFrom_r1 : List Cond := [Cond.fieldLink RX4 11 "LivingNumbers$People" "ones" "[LLivingNumbers$Named;", Cond.methodLink RX4 27 Lib.Math.min.name, Cond.static Lib.Math.min.name, Cond.initialized "java/lang/Math", Cond.code Lib.Math.min.name Lib.Math.min.code 2 (some .int), Cond.fieldLink RX4 17 "LivingNumbers$People" "size" "I", Cond.methodLink RX4 21 yX6_people, Cond.instanceMethod yX6_people, Cond.selects RX6 yX6_people yX6_people, Cond.initialized RX6, Cond.code yX6_people cX6_people 1 (some .int), Cond.fieldLink RX6 15 "LivingNumbers$RollText" "length" "I", Cond.methodLink RX4 33 yX6_one, Cond.instanceMethod yX6_one, Cond.selects RX6 yX6_one yX6_one, Cond.code yX6_one cX6_one 7 (some (.object "LivingNumbers$Named")), Cond.classLink RX6 47 RX1, Cond.instantiable RX1 4, Cond.initialized RX1, Cond.classLink RX6 52 RX2, Cond.instantiable RX2 4, Cond.initialized RX2, Cond.classLink RX6 55 RX3, Cond.instantiable RX3 4]
def wsX4_takeFrom_r2 : List Cond := [Cond.initialized RX3, Cond.methodLink RX6 37 yX6_digit, Cond.instanceMethod yX6_digit, Cond.selects RX6 yX6_digit yX6_digit, Cond.code yX6_digit cX6_digit 3 (some .int), Cond.methodLink RX6 44 yX6_code, Cond.instanceMethod yX6_code, Cond.selects RX6 yX6_code yX6_code, Cond.code yX6_code cX6_code 2 (some .int), Cond.fieldLink RX6 9 "LivingNumbers$RollText" "codes" "[I", Cond.methodLink RX6 41 yX6_pair, Cond.instanceMethod yX6_pair, Cond.selects RX6 yX6_pair yX6_pair, Cond.code yX6_pair cX6_pair 2 (some .int), Cond.methodLink RX6 49 yX1_init, Cond.instanceMethod yX1_init, Cond.code yX1_init cX1_init 5 none, Cond.methodLink RX1 1 yX2_init, Cond.instanceMethod yX2_init, Cond.code yX2_init cX2_init 5 none, Cond.methodLink RX2 1 yX3_init, Cond.instanceMethod yX3_init, Cond.code yX3_init cX3_init 5 none, Cond.methodLink RX3 1 objectInit]
def wsX4_takeFrom_r3 : List Cond := [Cond.instanceMethod objectInit, Cond.code objectInit ⟨#[0xb1]⟩ 1 none, Cond.fieldLink RX3 7 "LivingNumbers$Named" "village" "I", Cond.fieldLink RX3 13 "LivingNumbers$Named" "number" "I", Cond.fieldLink RX3 16 "LivingNumbers$Named" "from" "I", Cond.fieldLink RX3 19 "LivingNumbers$Named" "till" "I", Cond.methodLink RX6 54 yX2_init, Cond.methodLink RX6 57 yX3_init]
def wsX4_takeFrom : List Cond := .code yX4_takeFrom cX4_takeFrom 3 none :: ((wsX4_takeFrom_r1 ++ (wsX4_takeFrom_r2 ++ wsX4_takeFrom_r3)) ++ wsX40 ++ wsX60 ++ wsX10 ++ wsX20 ++ wsX30)
def wsX4_bearer_r1 : List Cond := [Cond.fieldLink RX4 17 "LivingNumbers$People" "size" "I", Cond.methodLink RX4 37 yX4_one, Cond.instanceMethod yX4_one, Cond.selects RX4 yX4_one yX4_one, Cond.initialized RX4, Cond.code yX4_one cX4_one 2 (some (.object "LivingNumbers$Named")), Cond.fieldLink RX4 11 "LivingNumbers$People" "ones" "[LLivingNumbers$Named;", Cond.methodLink RX4 38 ⟨"LivingNumbers$Named", "number", "()I"⟩, Cond.sameMethod "LivingNumbers$Named" "LivingNumbers$Named" "number" "()I", Cond.selects RX1 ⟨"LivingNumbers$Named", "number", "()I"⟩ yX3_number, Cond.instanceMethod yX3_number, Cond.initialized RX3, Cond.code yX3_number cX3_number 1 (some .int), Cond.fieldLink RX3 13 "LivingNumbers$Named" "number" "I", Cond.selects RX2 ⟨"LivingNumbers$Named", "number", "()I"⟩ yX3_number, Cond.methodLink RX4 38 yX3_number, Cond.selects RX3 yX3_number yX3_number, Cond.methodLink RX4 41 ⟨"LivingNumbers$Named", "isHeard", "(II)Z"⟩, Cond.sameMethod "LivingNumbers$Named" "LivingNumbers$Named" "isHeard" "(II)Z", Cond.selects RX1 ⟨"LivingNumbers$Named", "isHeard", "(II)Z"⟩ yX3_isHeard, Cond.instanceMethod yX3_isHeard, Cond.code yX3_isHeard cX3_isHeard 3 (some .boolean), Cond.fieldLink RX3 16 "LivingNumbers$Named" "from" "I", Cond.fieldLink RX3 19 "LivingNumbers$Named" "till" "I"]
def wsX4_bearer_r2 : List Cond := [Cond.methodLink RX3 26 ⟨"LivingNumbers$Named", "isKnown", "(I)Z"⟩, Cond.sameMethod "LivingNumbers$Named" "LivingNumbers$Named" "isKnown" "(I)Z", Cond.instanceMethod ⟨"LivingNumbers$Named", "isKnown", "(I)Z"⟩, Cond.selects RX1 ⟨"LivingNumbers$Named", "isKnown", "(I)Z"⟩ yX1_isKnown, Cond.instanceMethod yX1_isKnown, Cond.initialized RX1, Cond.code yX1_isKnown cX1_isKnown 2 (some .boolean), Cond.code yX3_isKnown cX3_isKnown 2 (some .boolean), Cond.selects RX2 ⟨"LivingNumbers$Named", "isKnown", "(I)Z"⟩ yX3_isKnown, Cond.instanceMethod yX3_isKnown, Cond.fieldLink RX3 7 "LivingNumbers$Named" "village" "I", Cond.methodLink RX3 26 yX3_isKnown, Cond.selects RX3 yX3_isKnown yX3_isKnown, Cond.methodLink RX3 30 ⟨"LivingNumbers$Named", "longer", "()I"⟩, Cond.sameMethod "LivingNumbers$Named" "LivingNumbers$Named" "longer" "()I", Cond.instanceMethod ⟨"LivingNumbers$Named", "longer", "()I"⟩, Cond.selects RX1 ⟨"LivingNumbers$Named", "longer", "()I"⟩ yX2_longer, Cond.instanceMethod yX2_longer, Cond.initialized RX2, Cond.code yX2_longer cX2_longer 1 (some .int), Cond.code yX3_longer cX3_longer 1 (some .int), Cond.selects RX2 ⟨"LivingNumbers$Named", "longer", "()I"⟩ yX2_longer, Cond.methodLink RX3 30 yX3_longer, Cond.instanceMethod yX3_longer]
def wsX4_bearer_r3 : List Cond := [Cond.selects RX3 yX3_longer yX3_longer, Cond.selects RX2 ⟨"LivingNumbers$Named", "isHeard", "(II)Z"⟩ yX3_isHeard, Cond.methodLink RX4 41 yX3_isHeard, Cond.selects RX3 yX3_isHeard yX3_isHeard]
def wsX4_bearer : List Cond := .code yX4_bearer cX4_bearer 6 (some .int) :: ((wsX4_bearer_r1 ++ (wsX4_bearer_r2 ++ wsX4_bearer_r3)) ++ wsX40 ++ wsX10 ++ wsX20 ++ wsX30)
def wsX4_teach_r1 : List Cond := [Cond.fieldLink RX4 17 "LivingNumbers$People" "size" "I", Cond.methodLink RX4 45 yX0_clear, Cond.instanceMethod yX0_clear, Cond.selects RX0 yX0_clear yX0_clear, Cond.initialized RX0, Cond.code yX0_clear cX0_clear 2 none, Cond.fieldLink RX0 9 "LivingNumbers$Fewest" "words" "[I", Cond.constant RX0 15 (1000000), Cond.methodLink RX4 37 yX4_one, Cond.instanceMethod yX4_one, Cond.selects RX4 yX4_one yX4_one, Cond.initialized RX4, Cond.code yX4_one cX4_one 2 (some (.object "LivingNumbers$Named")), Cond.fieldLink RX4 11 "LivingNumbers$People" "ones" "[LLivingNumbers$Named;", Cond.methodLink RX4 41 ⟨"LivingNumbers$Named", "isHeard", "(II)Z"⟩, Cond.sameMethod "LivingNumbers$Named" "LivingNumbers$Named" "isHeard" "(II)Z", Cond.selects RX1 ⟨"LivingNumbers$Named", "isHeard", "(II)Z"⟩ yX3_isHeard, Cond.instanceMethod yX3_isHeard, Cond.initialized RX3, Cond.code yX3_isHeard cX3_isHeard 3 (some .boolean), Cond.fieldLink RX3 16 "LivingNumbers$Named" "from" "I", Cond.fieldLink RX3 19 "LivingNumbers$Named" "till" "I", Cond.methodLink RX3 26 ⟨"LivingNumbers$Named", "isKnown", "(I)Z"⟩, Cond.sameMethod "LivingNumbers$Named" "LivingNumbers$Named" "isKnown" "(I)Z"]
def wsX4_teach_r2 : List Cond := [Cond.instanceMethod ⟨"LivingNumbers$Named", "isKnown", "(I)Z"⟩, Cond.selects RX1 ⟨"LivingNumbers$Named", "isKnown", "(I)Z"⟩ yX1_isKnown, Cond.instanceMethod yX1_isKnown, Cond.initialized RX1, Cond.code yX1_isKnown cX1_isKnown 2 (some .boolean), Cond.code yX3_isKnown cX3_isKnown 2 (some .boolean), Cond.selects RX2 ⟨"LivingNumbers$Named", "isKnown", "(I)Z"⟩ yX3_isKnown, Cond.instanceMethod yX3_isKnown, Cond.fieldLink RX3 7 "LivingNumbers$Named" "village" "I", Cond.methodLink RX3 26 yX3_isKnown, Cond.selects RX3 yX3_isKnown yX3_isKnown, Cond.methodLink RX3 30 ⟨"LivingNumbers$Named", "longer", "()I"⟩, Cond.sameMethod "LivingNumbers$Named" "LivingNumbers$Named" "longer" "()I", Cond.instanceMethod ⟨"LivingNumbers$Named", "longer", "()I"⟩, Cond.selects RX1 ⟨"LivingNumbers$Named", "longer", "()I"⟩ yX2_longer, Cond.instanceMethod yX2_longer, Cond.initialized RX2, Cond.code yX2_longer cX2_longer 1 (some .int), Cond.code yX3_longer cX3_longer 1 (some .int), Cond.selects RX2 ⟨"LivingNumbers$Named", "longer", "()I"⟩ yX2_longer, Cond.methodLink RX3 30 yX3_longer, Cond.instanceMethod yX3_longer, Cond.selects RX3 yX3_longer yX3_longer, Cond.selects RX2 ⟨"LivingNumbers$Named", "isHeard", "(II)Z"⟩ yX3_isHeard]
def wsX4_teach_r3 : List Cond := [Cond.methodLink RX4 41 yX3_isHeard, Cond.selects RX3 yX3_isHeard yX3_isHeard, Cond.methodLink RX4 38 ⟨"LivingNumbers$Named", "number", "()I"⟩, Cond.sameMethod "LivingNumbers$Named" "LivingNumbers$Named" "number" "()I", Cond.selects RX1 ⟨"LivingNumbers$Named", "number", "()I"⟩ yX3_number, Cond.instanceMethod yX3_number, Cond.code yX3_number cX3_number 1 (some .int), Cond.fieldLink RX3 13 "LivingNumbers$Named" "number" "I", Cond.selects RX2 ⟨"LivingNumbers$Named", "number", "()I"⟩ yX3_number, Cond.methodLink RX4 38 yX3_number, Cond.selects RX3 yX3_number yX3_number, Cond.methodLink RX4 50 yX0_add, Cond.instanceMethod yX0_add, Cond.selects RX0 yX0_add yX0_add, Cond.code yX0_add cX0_add 3 none, Cond.methodLink RX0 16 Lib.Math.min.name, Cond.static Lib.Math.min.name, Cond.initialized "java/lang/Math", Cond.code Lib.Math.min.name Lib.Math.min.code 2 (some .int)]
def wsX4_teach : List Cond := .code yX4_teach cX4_teach 7 none :: ((wsX4_teach_r1 ++ (wsX4_teach_r2 ++ wsX4_teach_r3)) ++ wsX40 ++ wsX00 ++ wsX10 ++ wsX20 ++ wsX30)
def wsX4_greatestStep_r1 : List Cond := [Cond.fieldLink RX4 17 "LivingNumbers$People" "size" "I", Cond.methodLink RX4 37 yX4_one, Cond.instanceMethod yX4_one, Cond.selects RX4 yX4_one yX4_one, Cond.initialized RX4, Cond.code yX4_one cX4_one 2 (some (.object "LivingNumbers$Named")), Cond.fieldLink RX4 11 "LivingNumbers$People" "ones" "[LLivingNumbers$Named;", Cond.methodLink RX4 38 ⟨"LivingNumbers$Named", "number", "()I"⟩, Cond.sameMethod "LivingNumbers$Named" "LivingNumbers$Named" "number" "()I", Cond.selects RX1 ⟨"LivingNumbers$Named", "number", "()I"⟩ yX3_number, Cond.instanceMethod yX3_number, Cond.initialized RX3, Cond.code yX3_number cX3_number 1 (some .int), Cond.fieldLink RX3 13 "LivingNumbers$Named" "number" "I", Cond.selects RX2 ⟨"LivingNumbers$Named", "number", "()I"⟩ yX3_number, Cond.methodLink RX4 38 yX3_number, Cond.selects RX3 yX3_number yX3_number, Cond.methodLink RX4 41 ⟨"LivingNumbers$Named", "isHeard", "(II)Z"⟩, Cond.sameMethod "LivingNumbers$Named" "LivingNumbers$Named" "isHeard" "(II)Z", Cond.selects RX1 ⟨"LivingNumbers$Named", "isHeard", "(II)Z"⟩ yX3_isHeard, Cond.instanceMethod yX3_isHeard, Cond.code yX3_isHeard cX3_isHeard 3 (some .boolean), Cond.fieldLink RX3 16 "LivingNumbers$Named" "from" "I", Cond.fieldLink RX3 19 "LivingNumbers$Named" "till" "I"]
def wsX4_greatestStep_r2 : List Cond := [Cond.methodLink RX3 26 ⟨"LivingNumbers$Named", "isKnown", "(I)Z"⟩, Cond.sameMethod "LivingNumbers$Named" "LivingNumbers$Named" "isKnown" "(I)Z", Cond.instanceMethod ⟨"LivingNumbers$Named", "isKnown", "(I)Z"⟩, Cond.selects RX1 ⟨"LivingNumbers$Named", "isKnown", "(I)Z"⟩ yX1_isKnown, Cond.instanceMethod yX1_isKnown, Cond.initialized RX1, Cond.code yX1_isKnown cX1_isKnown 2 (some .boolean), Cond.code yX3_isKnown cX3_isKnown 2 (some .boolean), Cond.selects RX2 ⟨"LivingNumbers$Named", "isKnown", "(I)Z"⟩ yX3_isKnown, Cond.instanceMethod yX3_isKnown, Cond.fieldLink RX3 7 "LivingNumbers$Named" "village" "I", Cond.methodLink RX3 26 yX3_isKnown, Cond.selects RX3 yX3_isKnown yX3_isKnown, Cond.methodLink RX3 30 ⟨"LivingNumbers$Named", "longer", "()I"⟩, Cond.sameMethod "LivingNumbers$Named" "LivingNumbers$Named" "longer" "()I", Cond.instanceMethod ⟨"LivingNumbers$Named", "longer", "()I"⟩, Cond.selects RX1 ⟨"LivingNumbers$Named", "longer", "()I"⟩ yX2_longer, Cond.instanceMethod yX2_longer, Cond.initialized RX2, Cond.code yX2_longer cX2_longer 1 (some .int), Cond.code yX3_longer cX3_longer 1 (some .int), Cond.selects RX2 ⟨"LivingNumbers$Named", "longer", "()I"⟩ yX2_longer, Cond.methodLink RX3 30 yX3_longer, Cond.instanceMethod yX3_longer]
def wsX4_greatestStep_r3 : List Cond := [Cond.selects RX3 yX3_longer yX3_longer, Cond.selects RX2 ⟨"LivingNumbers$Named", "isHeard", "(II)Z"⟩ yX3_isHeard, Cond.methodLink RX4 41 yX3_isHeard, Cond.selects RX3 yX3_isHeard yX3_isHeard, Cond.methodLink RX4 54 yX0_of, Cond.instanceMethod yX0_of, Cond.selects RX0 yX0_of yX0_of, Cond.initialized RX0, Cond.code yX0_of cX0_of 2 (some .int), Cond.fieldLink RX0 9 "LivingNumbers$Fewest" "words" "[I", Cond.constant RX0 15 (1000000)]
def wsX4_greatestStep : List Cond := .code yX4_greatestStep cX4_greatestStep 8 (some .int) :: ((wsX4_greatestStep_r1 ++ (wsX4_greatestStep_r2 ++ wsX4_greatestStep_r3)) ++ wsX40 ++ wsX10 ++ wsX20 ++ wsX30 ++ wsX00)
def wsX5_init : List Cond := .code yX5_init cX5_init 1 none :: ([.methodLink RX5 3 objectInit, .instanceMethod objectInit, .code objectInit ⟨#[0xb1]⟩ 1 none, .arrayClass .int, .fieldLink RX5 9 "LivingNumbers$Recall" "chosen" "[I", .fieldLink RX5 15 "LivingNumbers$Recall" "numbers" "[I"] ++ wsX50)
def wsX5_chooseFrom : List Cond := .code yX5_chooseFrom cX5_chooseFrom 5 none :: ([.fieldLink RX5 9 "LivingNumbers$Recall" "chosen" "[I"] ++ wsX50)
def wsX5_readNumbers : List Cond := .code yX5_readNumbers cX5_readNumbers 5 none :: ([.fieldLink RX5 9 "LivingNumbers$Recall" "chosen" "[I", .fieldLink RX5 15 "LivingNumbers$Recall" "numbers" "[I", .methodLink RX5 48 yX4_one, .instanceMethod yX4_one, .selects RX4 yX4_one yX4_one, .initialized RX4, .code yX4_one cX4_one 2 (some (.object "LivingNumbers$Named")), .fieldLink RX4 17 "LivingNumbers$People" "size" "I", .fieldLink RX4 11 "LivingNumbers$People" "ones" "[LLivingNumbers$Named;", .methodLink RX5 52 ⟨"LivingNumbers$Named", "number", "()I"⟩, .sameMethod "LivingNumbers$Named" "LivingNumbers$Named" "number" "()I", .selects RX1 ⟨"LivingNumbers$Named", "number", "()I"⟩ yX3_number, .instanceMethod yX3_number, .initialized RX3, .code yX3_number cX3_number 1 (some .int), .fieldLink RX3 13 "LivingNumbers$Named" "number" "I", .selects RX2 ⟨"LivingNumbers$Named", "number", "()I"⟩ yX3_number, .methodLink RX5 52 yX3_number, .selects RX3 yX3_number yX3_number] ++ wsX50 ++ wsX40 ++ wsX10 ++ wsX20 ++ wsX30)
def wsX5_chooseNext : List Cond := .code yX5_chooseNext cX5_chooseNext 4 (some .boolean) :: ([.fieldLink RX5 9 "LivingNumbers$Recall" "chosen" "[I", .methodLink RX5 42 Lib.Math.min.name, .static Lib.Math.min.name, .initialized "java/lang/Math", .code Lib.Math.min.name Lib.Math.min.code 2 (some .int), .methodLink RX5 24 yX5_chooseFrom, .instanceMethod yX5_chooseFrom, .selects RX5 yX5_chooseFrom yX5_chooseFrom, .initialized RX5, .code yX5_chooseFrom cX5_chooseFrom 5 none] ++ wsX50)
def wsX5_search_r1 : List Cond := [Cond.fieldLink RX5 15 "LivingNumbers$Recall" "numbers" "[I", Cond.methodLink RX5 18 yX4_size, Cond.instanceMethod yX4_size, Cond.selects RX4 yX4_size yX4_size, Cond.initialized RX4, Cond.code yX4_size cX4_size 1 (some .int), Cond.fieldLink RX4 17 "LivingNumbers$People" "size" "I", Cond.methodLink RX5 24 yX5_chooseFrom, Cond.instanceMethod yX5_chooseFrom, Cond.selects RX5 yX5_chooseFrom yX5_chooseFrom, Cond.initialized RX5, Cond.code yX5_chooseFrom cX5_chooseFrom 5 none, Cond.fieldLink RX5 9 "LivingNumbers$Recall" "chosen" "[I", Cond.methodLink RX5 28 yX5_readNumbers, Cond.instanceMethod yX5_readNumbers, Cond.selects RX5 yX5_readNumbers yX5_readNumbers, Cond.code yX5_readNumbers cX5_readNumbers 5 none, Cond.methodLink RX5 48 yX4_one, Cond.instanceMethod yX4_one, Cond.selects RX4 yX4_one yX4_one, Cond.code yX4_one cX4_one 2 (some (.object "LivingNumbers$Named")), Cond.fieldLink RX4 11 "LivingNumbers$People" "ones" "[LLivingNumbers$Named;", Cond.methodLink RX5 52 ⟨"LivingNumbers$Named", "number", "()I"⟩, Cond.sameMethod "LivingNumbers$Named" "LivingNumbers$Named" "number" "()I"]
def wsX5_search_r2 : List Cond := [Cond.selects RX1 ⟨"LivingNumbers$Named", "number", "()I"⟩ yX3_number, Cond.instanceMethod yX3_number, Cond.initialized RX3, Cond.code yX3_number cX3_number 1 (some .int), Cond.fieldLink RX3 13 "LivingNumbers$Named" "number" "I", Cond.selects RX2 ⟨"LivingNumbers$Named", "number", "()I"⟩ yX3_number, Cond.methodLink RX5 52 yX3_number, Cond.selects RX3 yX3_number yX3_number, Cond.methodLink RX5 32 yX0_withinBy, Cond.instanceMethod yX0_withinBy, Cond.selects RX0 yX0_withinBy yX0_withinBy, Cond.initialized RX0, Cond.code yX0_withinBy cX0_withinBy 5 (some .boolean), Cond.methodLink RX0 16 Lib.Math.min.name, Cond.static Lib.Math.min.name, Cond.initialized "java/lang/Math", Cond.code Lib.Math.min.name Lib.Math.min.code 2 (some .int), Cond.methodLink RX0 26 yX0_isReached, Cond.static yX0_isReached, Cond.code yX0_isReached cX0_isReached 6 (some .boolean), Cond.methodLink RX0 30 yX0_within, Cond.instanceMethod yX0_within, Cond.selects RX0 yX0_within yX0_within, Cond.code yX0_within cX0_within 3 (some .boolean)]
def wsX5_search_r3 : List Cond := [Cond.methodLink RX0 22 yX0_of, Cond.instanceMethod yX0_of, Cond.selects RX0 yX0_of yX0_of, Cond.code yX0_of cX0_of 2 (some .int), Cond.fieldLink RX0 9 "LivingNumbers$Fewest" "words" "[I", Cond.constant RX0 15 (1000000), Cond.methodLink RX5 38 yX5_chooseNext, Cond.instanceMethod yX5_chooseNext, Cond.selects RX5 yX5_chooseNext yX5_chooseNext, Cond.code yX5_chooseNext cX5_chooseNext 4 (some .boolean), Cond.methodLink RX5 42 Lib.Math.min.name]
def wsX5_search : List Cond := .code yX5_search cX5_search 8 (some .int) :: ((wsX5_search_r1 ++ (wsX5_search_r2 ++ wsX5_search_r3)) ++ wsX50 ++ wsX40 ++ wsX10 ++ wsX20 ++ wsX30 ++ wsX00)
def wsX5_calledAt : List Cond := .code yX5_calledAt cX5_calledAt 2 (some .int) :: ([.fieldLink RX5 9 "LivingNumbers$Recall" "chosen" "[I"] ++ wsX50)
def wsX6_init : List Cond := .code yX6_init cX6_init 1 none :: ([.methodLink RX6 3 objectInit, .instanceMethod objectInit, .code objectInit ⟨#[0xb1]⟩ 1 none, .arrayClass .int, .fieldLink RX6 9 "LivingNumbers$RollText" "codes" "[I", .fieldLink RX6 15 "LivingNumbers$RollText" "length" "I"] ++ wsX60)
def wsX7_sizeOf : List Cond := .code yX7_sizeOf cX7_sizeOf 2 (some .int) :: ([.fieldLink RX7 18 "LivingNumbers$Sheets" "sizes" "[I"] ++ wsX70)
def wsX7_standOf : List Cond := .code yX7_standOf cX7_standOf 4 (some .int) :: ([.fieldLink RX7 9 "LivingNumbers$Sheets" "cells" "[I", .methodLink RX7 25 yX7_sizeOf, .instanceMethod yX7_sizeOf, .selects RX7 yX7_sizeOf yX7_sizeOf, .initialized RX7, .code yX7_sizeOf cX7_sizeOf 2 (some .int), .fieldLink RX7 18 "LivingNumbers$Sheets" "sizes" "[I"] ++ wsX70)
def wsX7_at : List Cond := .code yX7_at cX7_at 4 (some .int) :: ([.fieldLink RX7 9 "LivingNumbers$Sheets" "cells" "[I", .methodLink RX7 28 yX7_standOf, .instanceMethod yX7_standOf, .selects RX7 yX7_standOf yX7_standOf, .initialized RX7, .code yX7_standOf cX7_standOf 4 (some .int), .methodLink RX7 25 yX7_sizeOf, .instanceMethod yX7_sizeOf, .selects RX7 yX7_sizeOf yX7_sizeOf, .code yX7_sizeOf cX7_sizeOf 2 (some .int), .fieldLink RX7 18 "LivingNumbers$Sheets" "sizes" "[I"] ++ wsX70)
def wsX6_read : List Cond := .code yX6_read cX6_read 6 none :: ([.fieldLink RX6 9 "LivingNumbers$RollText" "codes" "[I", .methodLink RX6 19 Lib.Math.min.name, .static Lib.Math.min.name, .initialized "java/lang/Math", .code Lib.Math.min.name Lib.Math.min.code 2 (some .int), .fieldLink RX6 15 "LivingNumbers$RollText" "length" "I", .methodLink RX6 25 yX7_at, .instanceMethod yX7_at, .selects RX7 yX7_at yX7_at, .initialized RX7, .code yX7_at cX7_at 4 (some .int), .fieldLink RX7 9 "LivingNumbers$Sheets" "cells" "[I", .methodLink RX7 28 yX7_standOf, .instanceMethod yX7_standOf, .selects RX7 yX7_standOf yX7_standOf, .code yX7_standOf cX7_standOf 4 (some .int), .methodLink RX7 25 yX7_sizeOf, .instanceMethod yX7_sizeOf, .selects RX7 yX7_sizeOf yX7_sizeOf, .code yX7_sizeOf cX7_sizeOf 2 (some .int), .fieldLink RX7 18 "LivingNumbers$Sheets" "sizes" "[I"] ++ wsX60 ++ wsX70)
def wsX6_isPairGoingOn : List Cond := .code yX6_isPairGoingOn cX6_isPairGoingOn 7 (some .boolean) :: ([.methodLink RX6 37 yX6_digit, .instanceMethod yX6_digit, .selects RX6 yX6_digit yX6_digit, .initialized RX6, .code yX6_digit cX6_digit 3 (some .int), .methodLink RX6 44 yX6_code, .instanceMethod yX6_code, .selects RX6 yX6_code yX6_code, .code yX6_code cX6_code 2 (some .int), .fieldLink RX6 15 "LivingNumbers$RollText" "length" "I", .fieldLink RX6 9 "LivingNumbers$RollText" "codes" "[I", .methodLink RX6 41 yX6_pair, .instanceMethod yX6_pair, .selects RX6 yX6_pair yX6_pair, .code yX6_pair cX6_pair 2 (some .int)] ++ wsX60)
def wsX6_goesOn : List Cond := .code yX6_goesOn cX6_goesOn 4 (some .boolean) :: ([.methodLink RX6 44 yX6_code, .instanceMethod yX6_code, .selects RX6 yX6_code yX6_code, .initialized RX6, .code yX6_code cX6_code 2 (some .int), .fieldLink RX6 15 "LivingNumbers$RollText" "length" "I", .fieldLink RX6 9 "LivingNumbers$RollText" "codes" "[I", .methodLink RX6 37 yX6_digit, .instanceMethod yX6_digit, .selects RX6 yX6_digit yX6_digit, .code yX6_digit cX6_digit 3 (some .int), .methodLink RX6 58 yX6_isPairGoingOn, .instanceMethod yX6_isPairGoingOn, .selects RX6 yX6_isPairGoingOn yX6_isPairGoingOn, .code yX6_isPairGoingOn cX6_isPairGoingOn 7 (some .boolean), .methodLink RX6 41 yX6_pair, .instanceMethod yX6_pair, .selects RX6 yX6_pair yX6_pair, .code yX6_pair cX6_pair 2 (some .int)] ++ wsX60)
def wsX6_isSecondDigit : List Cond := .code yX6_isSecondDigit cX6_isSecondDigit 3 (some .boolean) :: ([.methodLink RX6 37 yX6_digit, .instanceMethod yX6_digit, .selects RX6 yX6_digit yX6_digit, .initialized RX6, .code yX6_digit cX6_digit 3 (some .int), .methodLink RX6 44 yX6_code, .instanceMethod yX6_code, .selects RX6 yX6_code yX6_code, .code yX6_code cX6_code 2 (some .int), .fieldLink RX6 15 "LivingNumbers$RollText" "length" "I", .fieldLink RX6 9 "LivingNumbers$RollText" "codes" "[I"] ++ wsX60)
def wsX6_firstFault_r1 : List Cond := [Cond.fieldLink RX6 15 "LivingNumbers$RollText" "length" "I", Cond.methodLink RX6 30 yX6_goesOn, Cond.instanceMethod yX6_goesOn, Cond.selects RX6 yX6_goesOn yX6_goesOn, Cond.initialized RX6, Cond.code yX6_goesOn cX6_goesOn 4 (some .boolean), Cond.methodLink RX6 44 yX6_code, Cond.instanceMethod yX6_code, Cond.selects RX6 yX6_code yX6_code, Cond.code yX6_code cX6_code 2 (some .int), Cond.fieldLink RX6 9 "LivingNumbers$RollText" "codes" "[I", Cond.methodLink RX6 37 yX6_digit, Cond.instanceMethod yX6_digit, Cond.selects RX6 yX6_digit yX6_digit, Cond.code yX6_digit cX6_digit 3 (some .int), Cond.methodLink RX6 58 yX6_isPairGoingOn, Cond.instanceMethod yX6_isPairGoingOn, Cond.selects RX6 yX6_isPairGoingOn yX6_isPairGoingOn, Cond.code yX6_isPairGoingOn cX6_isPairGoingOn 7 (some .boolean), Cond.methodLink RX6 41 yX6_pair, Cond.instanceMethod yX6_pair, Cond.selects RX6 yX6_pair yX6_pair, Cond.code yX6_pair cX6_pair 2 (some .int), Cond.methodLink RX6 34 yX6_isSecondDigit]
def wsX6_firstFault_r2 : List Cond := [Cond.instanceMethod yX6_isSecondDigit, Cond.selects RX6 yX6_isSecondDigit yX6_isSecondDigit, Cond.code yX6_isSecondDigit cX6_isSecondDigit 3 (some .boolean)]
def wsX6_firstFault : List Cond := .code yX6_firstFault cX6_firstFault 2 (some .int) :: ((wsX6_firstFault_r1 ++ wsX6_firstFault_r2) ++ wsX60)
def wsX7_init : List Cond := .code yX7_init cX7_init 2 none :: ([.methodLink RX7 3 objectInit, .instanceMethod objectInit, .code objectInit ⟨#[0xb1]⟩ 1 none, .arrayClass .int, .fieldLink RX7 9 "LivingNumbers$Sheets" "cells" "[I", .fieldLink RX7 15 "LivingNumbers$Sheets" "lanes" "[I", .fieldLink RX7 18 "LivingNumbers$Sheets" "sizes" "[I"] ++ wsX70)
def wsX7_laneOf : List Cond := .code yX7_laneOf cX7_laneOf 2 (some .int) :: ([.fieldLink RX7 15 "LivingNumbers$Sheets" "lanes" "[I"] ++ wsX70)
def wsX7_hasRow : List Cond := .code yX7_hasRow cX7_hasRow 2 (some .boolean) :: ([.methodLink RX7 21 yX7_laneOf, .instanceMethod yX7_laneOf, .selects RX7 yX7_laneOf yX7_laneOf, .initialized RX7, .code yX7_laneOf cX7_laneOf 2 (some .int), .fieldLink RX7 15 "LivingNumbers$Sheets" "lanes" "[I"] ++ wsX70)
def wsX7_hasCells : List Cond := .code yX7_hasCells cX7_hasCells 5 (some .boolean) :: ([.methodLink RX7 25 yX7_sizeOf, .instanceMethod yX7_sizeOf, .selects RX7 yX7_sizeOf yX7_sizeOf, .initialized RX7, .code yX7_sizeOf cX7_sizeOf 2 (some .int), .fieldLink RX7 18 "LivingNumbers$Sheets" "sizes" "[I"] ++ wsX70)
def wsX7_hasCell : List Cond := .code yX7_hasCell cX7_hasCell 3 (some .boolean) :: ([.methodLink RX7 28 yX7_standOf, .instanceMethod yX7_standOf, .selects RX7 yX7_standOf yX7_standOf, .initialized RX7, .code yX7_standOf cX7_standOf 4 (some .int), .fieldLink RX7 9 "LivingNumbers$Sheets" "cells" "[I", .methodLink RX7 25 yX7_sizeOf, .instanceMethod yX7_sizeOf, .selects RX7 yX7_sizeOf yX7_sizeOf, .code yX7_sizeOf cX7_sizeOf 2 (some .int), .fieldLink RX7 18 "LivingNumbers$Sheets" "sizes" "[I"] ++ wsX70)
def wsX7_cut : List Cond := .code yX7_cut cX7_cut 2 (some .int) :: ([])
def wsX7_set : List Cond := .code yX7_set cX7_set 5 none :: ([.fieldLink RX7 9 "LivingNumbers$Sheets" "cells" "[I", .methodLink RX7 28 yX7_standOf, .instanceMethod yX7_standOf, .selects RX7 yX7_standOf yX7_standOf, .initialized RX7, .code yX7_standOf cX7_standOf 4 (some .int), .methodLink RX7 25 yX7_sizeOf, .instanceMethod yX7_sizeOf, .selects RX7 yX7_sizeOf yX7_sizeOf, .code yX7_sizeOf cX7_sizeOf 2 (some .int), .fieldLink RX7 18 "LivingNumbers$Sheets" "sizes" "[I", .methodLink RX7 21 yX7_laneOf, .instanceMethod yX7_laneOf, .selects RX7 yX7_laneOf yX7_laneOf, .code yX7_laneOf cX7_laneOf 2 (some .int), .fieldLink RX7 15 "LivingNumbers$Sheets" "lanes" "[I", .methodLink RX7 32 yX7_cut, .static yX7_cut, .code yX7_cut cX7_cut 2 (some .int)] ++ wsX70)
def wsX7_renew : List Cond := .code yX7_renew cX7_renew 5 none :: ([.fieldLink RX7 15 "LivingNumbers$Sheets" "lanes" "[I", .fieldLink RX7 18 "LivingNumbers$Sheets" "sizes" "[I", .methodLink RX7 39 yX7_set, .instanceMethod yX7_set, .selects RX7 yX7_set yX7_set, .initialized RX7, .code yX7_set cX7_set 5 none, .fieldLink RX7 9 "LivingNumbers$Sheets" "cells" "[I", .methodLink RX7 28 yX7_standOf, .instanceMethod yX7_standOf, .selects RX7 yX7_standOf yX7_standOf, .code yX7_standOf cX7_standOf 4 (some .int), .methodLink RX7 25 yX7_sizeOf, .instanceMethod yX7_sizeOf, .selects RX7 yX7_sizeOf yX7_sizeOf, .code yX7_sizeOf cX7_sizeOf 2 (some .int), .methodLink RX7 21 yX7_laneOf, .instanceMethod yX7_laneOf, .selects RX7 yX7_laneOf yX7_laneOf, .code yX7_laneOf cX7_laneOf 2 (some .int), .methodLink RX7 32 yX7_cut, .static yX7_cut, .code yX7_cut cX7_cut 2 (some .int)] ++ wsX70)
def wsX7_clear_r1 : List Cond := [Cond.methodLink RX7 35 yX7_renew, Cond.instanceMethod yX7_renew, Cond.selects RX7 yX7_renew yX7_renew, Cond.initialized RX7, Cond.code yX7_renew cX7_renew 5 none, Cond.fieldLink RX7 15 "LivingNumbers$Sheets" "lanes" "[I", Cond.fieldLink RX7 18 "LivingNumbers$Sheets" "sizes" "[I", Cond.methodLink RX7 39 yX7_set, Cond.instanceMethod yX7_set, Cond.selects RX7 yX7_set yX7_set, Cond.code yX7_set cX7_set 5 none, Cond.fieldLink RX7 9 "LivingNumbers$Sheets" "cells" "[I", Cond.methodLink RX7 28 yX7_standOf, Cond.instanceMethod yX7_standOf, Cond.selects RX7 yX7_standOf yX7_standOf, Cond.code yX7_standOf cX7_standOf 4 (some .int), Cond.methodLink RX7 25 yX7_sizeOf, Cond.instanceMethod yX7_sizeOf, Cond.selects RX7 yX7_sizeOf yX7_sizeOf, Cond.code yX7_sizeOf cX7_sizeOf 2 (some .int), Cond.methodLink RX7 21 yX7_laneOf, Cond.instanceMethod yX7_laneOf, Cond.selects RX7 yX7_laneOf yX7_laneOf, Cond.code yX7_laneOf cX7_laneOf 2 (some .int)]
def wsX7_clear_r2 : List Cond := [Cond.methodLink RX7 32 yX7_cut, Cond.static yX7_cut, Cond.code yX7_cut cX7_cut 2 (some .int)]
def wsX7_clear : List Cond := .code yX7_clear cX7_clear 2 none :: ((wsX7_clear_r1 ++ wsX7_clear_r2) ++ wsX70)
def wsX7_move : List Cond := .code yX7_move cX7_move 6 none :: ([.fieldLink RX7 9 "LivingNumbers$Sheets" "cells" "[I", .methodLink RX7 46 arraycopyName, .native arraycopyName, .static arraycopyName, .initialized "java/lang/System", .methodLink RX7 42 yX7_hasCells, .instanceMethod yX7_hasCells, .selects RX7 yX7_hasCells yX7_hasCells, .initialized RX7, .code yX7_hasCells cX7_hasCells 5 (some .boolean), .methodLink RX7 25 yX7_sizeOf, .instanceMethod yX7_sizeOf, .selects RX7 yX7_sizeOf yX7_sizeOf, .code yX7_sizeOf cX7_sizeOf 2 (some .int), .fieldLink RX7 18 "LivingNumbers$Sheets" "sizes" "[I"] ++ wsX70)
def wsX8_init : List Cond := .code yX8_init cX8_init 1 none :: ([.methodLink RX8 1 objectInit, .instanceMethod objectInit, .code objectInit ⟨#[0xb1]⟩ 1 none, .fieldLink RX8 7 "LivingNumbers$Trace" "value" "I"] ++ wsX80)
def wsX8_left : List Cond := .code yX8_left cX8_left 1 (some .int) :: ([.fieldLink RX8 7 "LivingNumbers$Trace" "value" "I"] ++ wsX80)
def wsX9_init_r1 : List Cond := [Cond.methodLink RX9 3 objectInit, Cond.instanceMethod objectInit, Cond.code objectInit ⟨#[0xb1]⟩ 1 none, Cond.classLink RX9 9 RX7, Cond.instantiable RX7 3, Cond.initialized RX7, Cond.fieldLink RX9 12 "LivingNumbers" "sheets" "LLivingNumbers$Sheets;", Cond.classLink RX9 18 RX6, Cond.instantiable RX6 2, Cond.initialized RX6, Cond.fieldLink RX9 21 "LivingNumbers" "text" "LLivingNumbers$RollText;", Cond.classLink RX9 25 RX4, Cond.instantiable RX4 2, Cond.initialized RX4, Cond.fieldLink RX9 28 "LivingNumbers" "people" "LLivingNumbers$People;", Cond.classLink RX9 32 RX8, Cond.instantiable RX8 1, Cond.initialized RX8, Cond.fieldLink RX9 35 "LivingNumbers" "traced" "LLivingNumbers$Trace;", Cond.classLink RX9 39 RX0, Cond.instantiable RX0 1, Cond.initialized RX0, Cond.fieldLink RX9 42 "LivingNumbers" "fewest" "LLivingNumbers$Fewest;", Cond.fieldLink RX9 46 "LivingNumbers" "compared" "LLivingNumbers$Fewest;"]
def wsX9_init_r2 : List Cond := [Cond.classLink RX9 49 RX5, Cond.instantiable RX5 2, Cond.initialized RX5, Cond.fieldLink RX9 52 "LivingNumbers" "recall" "LLivingNumbers$Recall;", Cond.arrayClass .int, Cond.fieldLink RX9 56 "LivingNumbers" "given" "[I", Cond.fieldLink RX9 60 "LivingNumbers" "latestFault" "I", Cond.methodLink RX9 11 yX7_init, Cond.instanceMethod yX7_init, Cond.code yX7_init cX7_init 2 none, Cond.methodLink RX7 3 objectInit, Cond.fieldLink RX7 9 "LivingNumbers$Sheets" "cells" "[I", Cond.fieldLink RX7 15 "LivingNumbers$Sheets" "lanes" "[I", Cond.fieldLink RX7 18 "LivingNumbers$Sheets" "sizes" "[I", Cond.instanceMethod yX6_init, Cond.code yX6_init cX6_init 1 none, Cond.methodLink RX6 3 objectInit, Cond.fieldLink RX6 9 "LivingNumbers$RollText" "codes" "[I", Cond.fieldLink RX6 15 "LivingNumbers$RollText" "length" "I", Cond.instanceMethod yX4_init, Cond.code yX4_init cX4_init 1 none, Cond.methodLink RX4 3 objectInit, Cond.classLink RX4 9 RX3, Cond.fieldLink RX4 11 "LivingNumbers$People" "ones" "[LLivingNumbers$Named;"]
def wsX9_init_r3 : List Cond := [Cond.fieldLink RX4 17 "LivingNumbers$People" "size" "I", Cond.instanceMethod yX8_init, Cond.code yX8_init cX8_init 1 none, Cond.methodLink RX8 1 objectInit, Cond.fieldLink RX8 7 "LivingNumbers$Trace" "value" "I", Cond.instanceMethod yX0_init, Cond.code yX0_init cX0_init 1 none, Cond.methodLink RX0 3 objectInit, Cond.fieldLink RX0 9 "LivingNumbers$Fewest" "words" "[I", Cond.instanceMethod yX5_init, Cond.code yX5_init cX5_init 1 none, Cond.methodLink RX5 3 objectInit, Cond.fieldLink RX5 9 "LivingNumbers$Recall" "chosen" "[I", Cond.fieldLink RX5 15 "LivingNumbers$Recall" "numbers" "[I"]
def wsX9_init : List Cond := .code yX9_init cX9_init 1 none :: ((wsX9_init_r1 ++ (wsX9_init_r2 ++ wsX9_init_r3)) ++ wsX70 ++ wsX90 ++ wsX60 ++ wsX40 ++ wsX80 ++ wsX00 ++ wsX50)
def wsX9_isVillage : List Cond := .code yX9_isVillage cX9_isVillage 1 (some .boolean) :: ([])
def wsX9_isSheet : List Cond := .code yX9_isSheet cX9_isSheet 1 (some .boolean) :: ([])
def wsX9_isLane : List Cond := .code yX9_isLane cX9_isLane 1 (some .boolean) :: ([])
def wsX9_faultAs : List Cond := .code yX9_faultAs cX9_faultAs 3 (some .int) :: ([.fieldLink RX9 12 "LivingNumbers" "sheets" "LLivingNumbers$Sheets;", .methodLink RX9 168 yX7_hasRow, .instanceMethod yX7_hasRow, .selects RX7 yX7_hasRow yX7_hasRow, .initialized RX7, .code yX7_hasRow cX7_hasRow 2 (some .boolean), .methodLink RX7 21 yX7_laneOf, .instanceMethod yX7_laneOf, .selects RX7 yX7_laneOf yX7_laneOf, .code yX7_laneOf cX7_laneOf 2 (some .int), .fieldLink RX7 15 "LivingNumbers$Sheets" "lanes" "[I", .methodLink RX9 187 yX7_laneOf] ++ wsX90 ++ wsX70)
def wsX9_faulted : List Cond := .code yX9_faulted cX9_faulted 2 (some .int) :: ([.fieldLink RX9 60 "LivingNumbers" "latestFault" "I"] ++ wsX90)
def wsX9_refusalOfCells_r1 : List Cond := [Cond.fieldLink RX9 60 "LivingNumbers" "latestFault" "I", Cond.fieldLink RX9 12 "LivingNumbers" "sheets" "LLivingNumbers$Sheets;", Cond.methodLink RX9 93 yX9_isVillage, Cond.static yX9_isVillage, Cond.initialized RX9, Cond.code yX9_isVillage cX9_isVillage 1 (some .boolean), Cond.methodLink RX9 155 yX9_isSheet, Cond.static yX9_isSheet, Cond.code yX9_isSheet cX9_isSheet 1 (some .boolean), Cond.methodLink RX9 158 yX9_isLane, Cond.static yX9_isLane, Cond.code yX9_isLane cX9_isLane 1 (some .boolean), Cond.methodLink RX9 181 yX9_faultAs, Cond.instanceMethod yX9_faultAs, Cond.selects RX9 yX9_faultAs yX9_faultAs, Cond.code yX9_faultAs cX9_faultAs 3 (some .int), Cond.methodLink RX9 168 yX7_hasRow, Cond.instanceMethod yX7_hasRow, Cond.selects RX7 yX7_hasRow yX7_hasRow, Cond.initialized RX7, Cond.code yX7_hasRow cX7_hasRow 2 (some .boolean), Cond.methodLink RX7 21 yX7_laneOf, Cond.instanceMethod yX7_laneOf, Cond.selects RX7 yX7_laneOf yX7_laneOf]
def wsX9_refusalOfCells_r2 : List Cond := [Cond.code yX7_laneOf cX7_laneOf 2 (some .int), Cond.fieldLink RX7 15 "LivingNumbers$Sheets" "lanes" "[I", Cond.methodLink RX9 187 yX7_laneOf, Cond.methodLink RX9 161 yX9_faulted, Cond.instanceMethod yX9_faulted, Cond.selects RX9 yX9_faulted yX9_faulted, Cond.code yX9_faulted cX9_faulted 2 (some .int), Cond.methodLink RX9 190 yX7_hasCells, Cond.instanceMethod yX7_hasCells, Cond.selects RX7 yX7_hasCells yX7_hasCells, Cond.code yX7_hasCells cX7_hasCells 5 (some .boolean), Cond.methodLink RX7 25 yX7_sizeOf, Cond.instanceMethod yX7_sizeOf, Cond.selects RX7 yX7_sizeOf yX7_sizeOf, Cond.code yX7_sizeOf cX7_sizeOf 2 (some .int), Cond.fieldLink RX7 18 "LivingNumbers$Sheets" "sizes" "[I"]
def wsX9_refusalOfCells : List Cond := .code yX9_refusalOfCells cX9_refusalOfCells 8 (some .int) :: ((wsX9_refusalOfCells_r1 ++ wsX9_refusalOfCells_r2) ++ wsX90 ++ wsX70)
def wsX9_roll_r1 : List Cond := [Cond.fieldLink RX9 21 "LivingNumbers" "text" "LLivingNumbers$RollText;", Cond.fieldLink RX9 12 "LivingNumbers" "sheets" "LLivingNumbers$Sheets;", Cond.fieldLink RX9 28 "LivingNumbers" "people" "LLivingNumbers$People;", Cond.methodLink RX9 64 yX9_refusalOfCells, Cond.instanceMethod yX9_refusalOfCells, Cond.selects RX9 yX9_refusalOfCells yX9_refusalOfCells, Cond.initialized RX9, Cond.code yX9_refusalOfCells cX9_refusalOfCells 8 (some .int), Cond.fieldLink RX9 60 "LivingNumbers" "latestFault" "I", Cond.methodLink RX9 93 yX9_isVillage, Cond.static yX9_isVillage, Cond.code yX9_isVillage cX9_isVillage 1 (some .boolean), Cond.methodLink RX9 155 yX9_isSheet, Cond.static yX9_isSheet, Cond.code yX9_isSheet cX9_isSheet 1 (some .boolean), Cond.methodLink RX9 158 yX9_isLane, Cond.static yX9_isLane, Cond.code yX9_isLane cX9_isLane 1 (some .boolean), Cond.methodLink RX9 181 yX9_faultAs, Cond.instanceMethod yX9_faultAs, Cond.selects RX9 yX9_faultAs yX9_faultAs, Cond.code yX9_faultAs cX9_faultAs 3 (some .int), Cond.methodLink RX9 168 yX7_hasRow, Cond.instanceMethod yX7_hasRow]
def wsX9_roll_r2 : List Cond := [Cond.selects RX7 yX7_hasRow yX7_hasRow, Cond.initialized RX7, Cond.code yX7_hasRow cX7_hasRow 2 (some .boolean), Cond.methodLink RX7 21 yX7_laneOf, Cond.instanceMethod yX7_laneOf, Cond.selects RX7 yX7_laneOf yX7_laneOf, Cond.code yX7_laneOf cX7_laneOf 2 (some .int), Cond.fieldLink RX7 15 "LivingNumbers$Sheets" "lanes" "[I", Cond.methodLink RX9 187 yX7_laneOf, Cond.methodLink RX9 161 yX9_faulted, Cond.instanceMethod yX9_faulted, Cond.selects RX9 yX9_faulted yX9_faulted, Cond.code yX9_faulted cX9_faulted 2 (some .int), Cond.methodLink RX9 190 yX7_hasCells, Cond.instanceMethod yX7_hasCells, Cond.selects RX7 yX7_hasCells yX7_hasCells, Cond.code yX7_hasCells cX7_hasCells 5 (some .boolean), Cond.methodLink RX7 25 yX7_sizeOf, Cond.instanceMethod yX7_sizeOf, Cond.selects RX7 yX7_sizeOf yX7_sizeOf, Cond.code yX7_sizeOf cX7_sizeOf 2 (some .int), Cond.fieldLink RX7 18 "LivingNumbers$Sheets" "sizes" "[I", Cond.methodLink RX9 68 yX6_read, Cond.instanceMethod yX6_read]
def wsX9_roll_r3 : List Cond := [Cond.selects RX6 yX6_read yX6_read, Cond.initialized RX6, Cond.code yX6_read cX6_read 6 none, Cond.fieldLink RX6 9 "LivingNumbers$RollText" "codes" "[I", Cond.methodLink RX6 19 Lib.Math.min.name, Cond.static Lib.Math.min.name, Cond.initialized "java/lang/Math", Cond.code Lib.Math.min.name Lib.Math.min.code 2 (some .int), Cond.fieldLink RX6 15 "LivingNumbers$RollText" "length" "I", Cond.methodLink RX6 25 yX7_at, Cond.instanceMethod yX7_at, Cond.selects RX7 yX7_at yX7_at, Cond.code yX7_at cX7_at 4 (some .int), Cond.fieldLink RX7 9 "LivingNumbers$Sheets" "cells" "[I", Cond.methodLink RX7 28 yX7_standOf, Cond.instanceMethod yX7_standOf, Cond.selects RX7 yX7_standOf yX7_standOf, Cond.code yX7_standOf cX7_standOf 4 (some .int), Cond.methodLink RX9 72 yX6_firstFault, Cond.instanceMethod yX6_firstFault, Cond.selects RX6 yX6_firstFault yX6_firstFault, Cond.code yX6_firstFault cX6_firstFault 2 (some .int), Cond.methodLink RX6 30 yX6_goesOn, Cond.instanceMethod yX6_goesOn]
def wsX9_roll_r4 : List Cond := [Cond.selects RX6 yX6_goesOn yX6_goesOn, Cond.code yX6_goesOn cX6_goesOn 4 (some .boolean), Cond.methodLink RX6 44 yX6_code, Cond.instanceMethod yX6_code, Cond.selects RX6 yX6_code yX6_code, Cond.code yX6_code cX6_code 2 (some .int), Cond.methodLink RX6 37 yX6_digit, Cond.instanceMethod yX6_digit, Cond.selects RX6 yX6_digit yX6_digit, Cond.code yX6_digit cX6_digit 3 (some .int), Cond.methodLink RX6 58 yX6_isPairGoingOn, Cond.instanceMethod yX6_isPairGoingOn, Cond.selects RX6 yX6_isPairGoingOn yX6_isPairGoingOn, Cond.code yX6_isPairGoingOn cX6_isPairGoingOn 7 (some .boolean), Cond.methodLink RX6 41 yX6_pair, Cond.instanceMethod yX6_pair, Cond.selects RX6 yX6_pair yX6_pair, Cond.code yX6_pair cX6_pair 2 (some .int), Cond.methodLink RX6 34 yX6_isSecondDigit, Cond.instanceMethod yX6_isSecondDigit, Cond.selects RX6 yX6_isSecondDigit yX6_isSecondDigit, Cond.code yX6_isSecondDigit cX6_isSecondDigit 3 (some .boolean), Cond.methodLink RX9 76 yX4_takeFrom, Cond.instanceMethod yX4_takeFrom]
def wsX9_roll_r5 : List Cond := [Cond.selects RX4 yX4_takeFrom yX4_takeFrom, Cond.initialized RX4, Cond.code yX4_takeFrom cX4_takeFrom 3 none, Cond.fieldLink RX4 11 "LivingNumbers$People" "ones" "[LLivingNumbers$Named;", Cond.methodLink RX4 27 Lib.Math.min.name, Cond.fieldLink RX4 17 "LivingNumbers$People" "size" "I", Cond.methodLink RX4 21 yX6_people, Cond.instanceMethod yX6_people, Cond.selects RX6 yX6_people yX6_people, Cond.code yX6_people cX6_people 1 (some .int), Cond.methodLink RX4 33 yX6_one, Cond.instanceMethod yX6_one, Cond.selects RX6 yX6_one yX6_one, Cond.code yX6_one cX6_one 7 (some (.object "LivingNumbers$Named")), Cond.classLink RX6 47 RX1, Cond.instantiable RX1 4, Cond.initialized RX1, Cond.classLink RX6 52 RX2, Cond.instantiable RX2 4, Cond.initialized RX2, Cond.classLink RX6 55 RX3, Cond.instantiable RX3 4, Cond.initialized RX3, Cond.methodLink RX6 49 yX1_init]
def wsX9_roll_r6 : List Cond := [Cond.instanceMethod yX1_init, Cond.code yX1_init cX1_init 5 none, Cond.methodLink RX1 1 yX2_init, Cond.instanceMethod yX2_init, Cond.code yX2_init cX2_init 5 none, Cond.methodLink RX2 1 yX3_init, Cond.instanceMethod yX3_init, Cond.code yX3_init cX3_init 5 none, Cond.methodLink RX3 1 objectInit, Cond.instanceMethod objectInit, Cond.code objectInit ⟨#[0xb1]⟩ 1 none, Cond.fieldLink RX3 7 "LivingNumbers$Named" "village" "I", Cond.fieldLink RX3 13 "LivingNumbers$Named" "number" "I", Cond.fieldLink RX3 16 "LivingNumbers$Named" "from" "I", Cond.fieldLink RX3 19 "LivingNumbers$Named" "till" "I", Cond.methodLink RX6 54 yX2_init, Cond.methodLink RX6 57 yX3_init, Cond.methodLink RX9 80 yX4_size, Cond.instanceMethod yX4_size, Cond.selects RX4 yX4_size yX4_size, Cond.code yX4_size cX4_size 1 (some .int)]
def wsX9_roll : List Cond := .code yX9_roll cX9_roll 7 (some .int) :: ((wsX9_roll_r1 ++ (wsX9_roll_r2 ++ (wsX9_roll_r3 ++ (wsX9_roll_r4 ++ (wsX9_roll_r5 ++ wsX9_roll_r6))))) ++ wsX90 ++ wsX70 ++ wsX60 ++ wsX40 ++ wsX10 ++ wsX20 ++ wsX30)
def wsX9_ofOne_r1 : List Cond := [Cond.fieldLink RX9 28 "LivingNumbers" "people" "LLivingNumbers$People;", Cond.methodLink RX9 83 yX4_one, Cond.instanceMethod yX4_one, Cond.selects RX4 yX4_one yX4_one, Cond.initialized RX4, Cond.code yX4_one cX4_one 2 (some (.object "LivingNumbers$Named")), Cond.fieldLink RX4 17 "LivingNumbers$People" "size" "I", Cond.fieldLink RX4 11 "LivingNumbers$People" "ones" "[LLivingNumbers$Named;", Cond.methodLink RX9 87 ⟨"LivingNumbers$Named", "part", "(I)I"⟩, Cond.sameMethod "LivingNumbers$Named" "LivingNumbers$Named" "part" "(I)I", Cond.selects RX1 ⟨"LivingNumbers$Named", "part", "(I)I"⟩ yX3_part, Cond.instanceMethod yX3_part, Cond.initialized RX3, Cond.code yX3_part cX3_part 2 (some .int), Cond.fieldLink RX3 7 "LivingNumbers$Named" "village" "I", Cond.fieldLink RX3 13 "LivingNumbers$Named" "number" "I", Cond.fieldLink RX3 16 "LivingNumbers$Named" "from" "I", Cond.fieldLink RX3 19 "LivingNumbers$Named" "till" "I", Cond.methodLink RX3 22 ⟨"LivingNumbers$Named", "kind", "()I"⟩, Cond.sameMethod "LivingNumbers$Named" "LivingNumbers$Named" "kind" "()I", Cond.instanceMethod ⟨"LivingNumbers$Named", "kind", "()I"⟩, Cond.selects RX1 ⟨"LivingNumbers$Named", "kind", "()I"⟩ yX1_kind, Cond.instanceMethod yX1_kind, Cond.initialized RX1]
def wsX9_ofOne_r2 : List Cond := [Cond.code yX1_kind cX1_kind 1 (some .int), Cond.code yX3_kind cX3_kind 1 (some .int), Cond.selects RX2 ⟨"LivingNumbers$Named", "kind", "()I"⟩ yX2_kind, Cond.instanceMethod yX2_kind, Cond.initialized RX2, Cond.code yX2_kind cX2_kind 1 (some .int), Cond.methodLink RX3 22 yX3_kind, Cond.instanceMethod yX3_kind, Cond.selects RX3 yX3_kind yX3_kind, Cond.selects RX2 ⟨"LivingNumbers$Named", "part", "(I)I"⟩ yX3_part, Cond.methodLink RX9 87 yX3_part, Cond.selects RX3 yX3_part yX3_part]
def wsX9_ofOne : List Cond := .code yX9_ofOne cX9_ofOne 4 (some .int) :: ((wsX9_ofOne_r1 ++ wsX9_ofOne_r2) ++ wsX90 ++ wsX40 ++ wsX10 ++ wsX20 ++ wsX30)
def wsX9_isDay : List Cond := .code yX9_isDay cX9_isDay 1 (some .boolean) :: ([])
def wsX9_lives_r1 : List Cond := [Cond.fieldLink RX9 28 "LivingNumbers" "people" "LLivingNumbers$People;", Cond.methodLink RX9 83 yX4_one, Cond.instanceMethod yX4_one, Cond.selects RX4 yX4_one yX4_one, Cond.initialized RX4, Cond.code yX4_one cX4_one 2 (some (.object "LivingNumbers$Named")), Cond.fieldLink RX4 17 "LivingNumbers$People" "size" "I", Cond.fieldLink RX4 11 "LivingNumbers$People" "ones" "[LLivingNumbers$Named;", Cond.methodLink RX9 93 yX9_isVillage, Cond.static yX9_isVillage, Cond.initialized RX9, Cond.code yX9_isVillage cX9_isVillage 1 (some .boolean), Cond.methodLink RX9 97 yX9_isDay, Cond.static yX9_isDay, Cond.code yX9_isDay cX9_isDay 1 (some .boolean), Cond.methodLink RX9 100 ⟨"LivingNumbers$Named", "isHeard", "(II)Z"⟩, Cond.sameMethod "LivingNumbers$Named" "LivingNumbers$Named" "isHeard" "(II)Z", Cond.selects RX1 ⟨"LivingNumbers$Named", "isHeard", "(II)Z"⟩ yX3_isHeard, Cond.instanceMethod yX3_isHeard, Cond.initialized RX3, Cond.code yX3_isHeard cX3_isHeard 3 (some .boolean), Cond.fieldLink RX3 16 "LivingNumbers$Named" "from" "I", Cond.fieldLink RX3 19 "LivingNumbers$Named" "till" "I", Cond.methodLink RX3 26 ⟨"LivingNumbers$Named", "isKnown", "(I)Z"⟩]
def wsX9_lives_r2 : List Cond := [Cond.sameMethod "LivingNumbers$Named" "LivingNumbers$Named" "isKnown" "(I)Z", Cond.instanceMethod ⟨"LivingNumbers$Named", "isKnown", "(I)Z"⟩, Cond.selects RX1 ⟨"LivingNumbers$Named", "isKnown", "(I)Z"⟩ yX1_isKnown, Cond.instanceMethod yX1_isKnown, Cond.initialized RX1, Cond.code yX1_isKnown cX1_isKnown 2 (some .boolean), Cond.code yX3_isKnown cX3_isKnown 2 (some .boolean), Cond.selects RX2 ⟨"LivingNumbers$Named", "isKnown", "(I)Z"⟩ yX3_isKnown, Cond.instanceMethod yX3_isKnown, Cond.fieldLink RX3 7 "LivingNumbers$Named" "village" "I", Cond.methodLink RX3 26 yX3_isKnown, Cond.selects RX3 yX3_isKnown yX3_isKnown, Cond.methodLink RX3 30 ⟨"LivingNumbers$Named", "longer", "()I"⟩, Cond.sameMethod "LivingNumbers$Named" "LivingNumbers$Named" "longer" "()I", Cond.instanceMethod ⟨"LivingNumbers$Named", "longer", "()I"⟩, Cond.selects RX1 ⟨"LivingNumbers$Named", "longer", "()I"⟩ yX2_longer, Cond.instanceMethod yX2_longer, Cond.initialized RX2, Cond.code yX2_longer cX2_longer 1 (some .int), Cond.code yX3_longer cX3_longer 1 (some .int), Cond.selects RX2 ⟨"LivingNumbers$Named", "longer", "()I"⟩ yX2_longer, Cond.methodLink RX3 30 yX3_longer, Cond.instanceMethod yX3_longer, Cond.selects RX3 yX3_longer yX3_longer]
def wsX9_lives_r3 : List Cond := [Cond.selects RX2 ⟨"LivingNumbers$Named", "isHeard", "(II)Z"⟩ yX3_isHeard, Cond.methodLink RX9 100 yX3_isHeard, Cond.selects RX3 yX3_isHeard yX3_isHeard]
def wsX9_lives : List Cond := .code yX9_lives cX9_lives 5 (some .int) :: ((wsX9_lives_r1 ++ (wsX9_lives_r2 ++ wsX9_lives_r3)) ++ wsX90 ++ wsX40 ++ wsX10 ++ wsX20 ++ wsX30)
def wsX9_word_r1 : List Cond := [Cond.fieldLink RX9 28 "LivingNumbers" "people" "LLivingNumbers$People;", Cond.methodLink RX9 93 yX9_isVillage, Cond.static yX9_isVillage, Cond.initialized RX9, Cond.code yX9_isVillage cX9_isVillage 1 (some .boolean), Cond.methodLink RX9 97 yX9_isDay, Cond.static yX9_isDay, Cond.code yX9_isDay cX9_isDay 1 (some .boolean), Cond.methodLink RX9 104 yX4_bearer, Cond.instanceMethod yX4_bearer, Cond.selects RX4 yX4_bearer yX4_bearer, Cond.initialized RX4, Cond.code yX4_bearer cX4_bearer 6 (some .int), Cond.fieldLink RX4 17 "LivingNumbers$People" "size" "I", Cond.methodLink RX4 37 yX4_one, Cond.instanceMethod yX4_one, Cond.selects RX4 yX4_one yX4_one, Cond.code yX4_one cX4_one 2 (some (.object "LivingNumbers$Named")), Cond.fieldLink RX4 11 "LivingNumbers$People" "ones" "[LLivingNumbers$Named;", Cond.methodLink RX4 38 ⟨"LivingNumbers$Named", "number", "()I"⟩, Cond.sameMethod "LivingNumbers$Named" "LivingNumbers$Named" "number" "()I", Cond.selects RX1 ⟨"LivingNumbers$Named", "number", "()I"⟩ yX3_number, Cond.instanceMethod yX3_number, Cond.initialized RX3]
def wsX9_word_r2 : List Cond := [Cond.code yX3_number cX3_number 1 (some .int), Cond.fieldLink RX3 13 "LivingNumbers$Named" "number" "I", Cond.selects RX2 ⟨"LivingNumbers$Named", "number", "()I"⟩ yX3_number, Cond.methodLink RX4 38 yX3_number, Cond.selects RX3 yX3_number yX3_number, Cond.methodLink RX4 41 ⟨"LivingNumbers$Named", "isHeard", "(II)Z"⟩, Cond.sameMethod "LivingNumbers$Named" "LivingNumbers$Named" "isHeard" "(II)Z", Cond.selects RX1 ⟨"LivingNumbers$Named", "isHeard", "(II)Z"⟩ yX3_isHeard, Cond.instanceMethod yX3_isHeard, Cond.code yX3_isHeard cX3_isHeard 3 (some .boolean), Cond.fieldLink RX3 16 "LivingNumbers$Named" "from" "I", Cond.fieldLink RX3 19 "LivingNumbers$Named" "till" "I", Cond.methodLink RX3 26 ⟨"LivingNumbers$Named", "isKnown", "(I)Z"⟩, Cond.sameMethod "LivingNumbers$Named" "LivingNumbers$Named" "isKnown" "(I)Z", Cond.instanceMethod ⟨"LivingNumbers$Named", "isKnown", "(I)Z"⟩, Cond.selects RX1 ⟨"LivingNumbers$Named", "isKnown", "(I)Z"⟩ yX1_isKnown, Cond.instanceMethod yX1_isKnown, Cond.initialized RX1, Cond.code yX1_isKnown cX1_isKnown 2 (some .boolean), Cond.code yX3_isKnown cX3_isKnown 2 (some .boolean), Cond.selects RX2 ⟨"LivingNumbers$Named", "isKnown", "(I)Z"⟩ yX3_isKnown, Cond.instanceMethod yX3_isKnown, Cond.fieldLink RX3 7 "LivingNumbers$Named" "village" "I", Cond.methodLink RX3 26 yX3_isKnown]
def wsX9_word_r3 : List Cond := [Cond.selects RX3 yX3_isKnown yX3_isKnown, Cond.methodLink RX3 30 ⟨"LivingNumbers$Named", "longer", "()I"⟩, Cond.sameMethod "LivingNumbers$Named" "LivingNumbers$Named" "longer" "()I", Cond.instanceMethod ⟨"LivingNumbers$Named", "longer", "()I"⟩, Cond.selects RX1 ⟨"LivingNumbers$Named", "longer", "()I"⟩ yX2_longer, Cond.instanceMethod yX2_longer, Cond.initialized RX2, Cond.code yX2_longer cX2_longer 1 (some .int), Cond.code yX3_longer cX3_longer 1 (some .int), Cond.selects RX2 ⟨"LivingNumbers$Named", "longer", "()I"⟩ yX2_longer, Cond.methodLink RX3 30 yX3_longer, Cond.instanceMethod yX3_longer, Cond.selects RX3 yX3_longer yX3_longer, Cond.selects RX2 ⟨"LivingNumbers$Named", "isHeard", "(II)Z"⟩ yX3_isHeard, Cond.methodLink RX4 41 yX3_isHeard, Cond.selects RX3 yX3_isHeard yX3_isHeard]
def wsX9_word : List Cond := .code yX9_word cX9_word 4 (some .int) :: ((wsX9_word_r1 ++ (wsX9_word_r2 ++ wsX9_word_r3)) ++ wsX90 ++ wsX40 ++ wsX10 ++ wsX20 ++ wsX30)
def wsX9_sayable_r1 : List Cond := [Cond.fieldLink RX9 28 "LivingNumbers" "people" "LLivingNumbers$People;", Cond.methodLink RX9 93 yX9_isVillage, Cond.static yX9_isVillage, Cond.initialized RX9, Cond.code yX9_isVillage cX9_isVillage 1 (some .boolean), Cond.methodLink RX9 97 yX9_isDay, Cond.static yX9_isDay, Cond.code yX9_isDay cX9_isDay 1 (some .boolean), Cond.methodLink RX9 104 yX4_bearer, Cond.instanceMethod yX4_bearer, Cond.selects RX4 yX4_bearer yX4_bearer, Cond.initialized RX4, Cond.code yX4_bearer cX4_bearer 6 (some .int), Cond.fieldLink RX4 17 "LivingNumbers$People" "size" "I", Cond.methodLink RX4 37 yX4_one, Cond.instanceMethod yX4_one, Cond.selects RX4 yX4_one yX4_one, Cond.code yX4_one cX4_one 2 (some (.object "LivingNumbers$Named")), Cond.fieldLink RX4 11 "LivingNumbers$People" "ones" "[LLivingNumbers$Named;", Cond.methodLink RX4 38 ⟨"LivingNumbers$Named", "number", "()I"⟩, Cond.sameMethod "LivingNumbers$Named" "LivingNumbers$Named" "number" "()I", Cond.selects RX1 ⟨"LivingNumbers$Named", "number", "()I"⟩ yX3_number, Cond.instanceMethod yX3_number, Cond.initialized RX3]
def wsX9_sayable_r2 : List Cond := [Cond.code yX3_number cX3_number 1 (some .int), Cond.fieldLink RX3 13 "LivingNumbers$Named" "number" "I", Cond.selects RX2 ⟨"LivingNumbers$Named", "number", "()I"⟩ yX3_number, Cond.methodLink RX4 38 yX3_number, Cond.selects RX3 yX3_number yX3_number, Cond.methodLink RX4 41 ⟨"LivingNumbers$Named", "isHeard", "(II)Z"⟩, Cond.sameMethod "LivingNumbers$Named" "LivingNumbers$Named" "isHeard" "(II)Z", Cond.selects RX1 ⟨"LivingNumbers$Named", "isHeard", "(II)Z"⟩ yX3_isHeard, Cond.instanceMethod yX3_isHeard, Cond.code yX3_isHeard cX3_isHeard 3 (some .boolean), Cond.fieldLink RX3 16 "LivingNumbers$Named" "from" "I", Cond.fieldLink RX3 19 "LivingNumbers$Named" "till" "I", Cond.methodLink RX3 26 ⟨"LivingNumbers$Named", "isKnown", "(I)Z"⟩, Cond.sameMethod "LivingNumbers$Named" "LivingNumbers$Named" "isKnown" "(I)Z", Cond.instanceMethod ⟨"LivingNumbers$Named", "isKnown", "(I)Z"⟩, Cond.selects RX1 ⟨"LivingNumbers$Named", "isKnown", "(I)Z"⟩ yX1_isKnown, Cond.instanceMethod yX1_isKnown, Cond.initialized RX1, Cond.code yX1_isKnown cX1_isKnown 2 (some .boolean), Cond.code yX3_isKnown cX3_isKnown 2 (some .boolean), Cond.selects RX2 ⟨"LivingNumbers$Named", "isKnown", "(I)Z"⟩ yX3_isKnown, Cond.instanceMethod yX3_isKnown, Cond.fieldLink RX3 7 "LivingNumbers$Named" "village" "I", Cond.methodLink RX3 26 yX3_isKnown]
def wsX9_sayable_r3 : List Cond := [Cond.selects RX3 yX3_isKnown yX3_isKnown, Cond.methodLink RX3 30 ⟨"LivingNumbers$Named", "longer", "()I"⟩, Cond.sameMethod "LivingNumbers$Named" "LivingNumbers$Named" "longer" "()I", Cond.instanceMethod ⟨"LivingNumbers$Named", "longer", "()I"⟩, Cond.selects RX1 ⟨"LivingNumbers$Named", "longer", "()I"⟩ yX2_longer, Cond.instanceMethod yX2_longer, Cond.initialized RX2, Cond.code yX2_longer cX2_longer 1 (some .int), Cond.code yX3_longer cX3_longer 1 (some .int), Cond.selects RX2 ⟨"LivingNumbers$Named", "longer", "()I"⟩ yX2_longer, Cond.methodLink RX3 30 yX3_longer, Cond.instanceMethod yX3_longer, Cond.selects RX3 yX3_longer yX3_longer, Cond.selects RX2 ⟨"LivingNumbers$Named", "isHeard", "(II)Z"⟩ yX3_isHeard, Cond.methodLink RX4 41 yX3_isHeard, Cond.selects RX3 yX3_isHeard yX3_isHeard]
def wsX9_sayable : List Cond := .code yX9_sayable cX9_sayable 6 (some .int) :: ((wsX9_sayable_r1 ++ (wsX9_sayable_r2 ++ wsX9_sayable_r3)) ++ wsX90 ++ wsX40 ++ wsX10 ++ wsX20 ++ wsX30)
def wsX9_refusalOfRow_r1 : List Cond := [Cond.fieldLink RX9 28 "LivingNumbers" "people" "LLivingNumbers$People;", Cond.fieldLink RX9 12 "LivingNumbers" "sheets" "LLivingNumbers$Sheets;", Cond.methodLink RX9 64 yX9_refusalOfCells, Cond.instanceMethod yX9_refusalOfCells, Cond.selects RX9 yX9_refusalOfCells yX9_refusalOfCells, Cond.initialized RX9, Cond.code yX9_refusalOfCells cX9_refusalOfCells 8 (some .int), Cond.fieldLink RX9 60 "LivingNumbers" "latestFault" "I", Cond.methodLink RX9 93 yX9_isVillage, Cond.static yX9_isVillage, Cond.code yX9_isVillage cX9_isVillage 1 (some .boolean), Cond.methodLink RX9 155 yX9_isSheet, Cond.static yX9_isSheet, Cond.code yX9_isSheet cX9_isSheet 1 (some .boolean), Cond.methodLink RX9 158 yX9_isLane, Cond.static yX9_isLane, Cond.code yX9_isLane cX9_isLane 1 (some .boolean), Cond.methodLink RX9 181 yX9_faultAs, Cond.instanceMethod yX9_faultAs, Cond.selects RX9 yX9_faultAs yX9_faultAs, Cond.code yX9_faultAs cX9_faultAs 3 (some .int), Cond.methodLink RX9 168 yX7_hasRow, Cond.instanceMethod yX7_hasRow, Cond.selects RX7 yX7_hasRow yX7_hasRow]
def wsX9_refusalOfRow_r2 : List Cond := [Cond.initialized RX7, Cond.code yX7_hasRow cX7_hasRow 2 (some .boolean), Cond.methodLink RX7 21 yX7_laneOf, Cond.instanceMethod yX7_laneOf, Cond.selects RX7 yX7_laneOf yX7_laneOf, Cond.code yX7_laneOf cX7_laneOf 2 (some .int), Cond.fieldLink RX7 15 "LivingNumbers$Sheets" "lanes" "[I", Cond.methodLink RX9 187 yX7_laneOf, Cond.methodLink RX9 161 yX9_faulted, Cond.instanceMethod yX9_faulted, Cond.selects RX9 yX9_faulted yX9_faulted, Cond.code yX9_faulted cX9_faulted 2 (some .int), Cond.methodLink RX9 190 yX7_hasCells, Cond.instanceMethod yX7_hasCells, Cond.selects RX7 yX7_hasCells yX7_hasCells, Cond.code yX7_hasCells cX7_hasCells 5 (some .boolean), Cond.methodLink RX7 25 yX7_sizeOf, Cond.instanceMethod yX7_sizeOf, Cond.selects RX7 yX7_sizeOf yX7_sizeOf, Cond.code yX7_sizeOf cX7_sizeOf 2 (some .int), Cond.fieldLink RX7 18 "LivingNumbers$Sheets" "sizes" "[I", Cond.methodLink RX9 184 yX7_at, Cond.instanceMethod yX7_at, Cond.selects RX7 yX7_at yX7_at]
def wsX9_refusalOfRow_r3 : List Cond := [Cond.code yX7_at cX7_at 4 (some .int), Cond.fieldLink RX7 9 "LivingNumbers$Sheets" "cells" "[I", Cond.methodLink RX7 28 yX7_standOf, Cond.instanceMethod yX7_standOf, Cond.selects RX7 yX7_standOf yX7_standOf, Cond.code yX7_standOf cX7_standOf 4 (some .int), Cond.methodLink RX9 83 yX4_one, Cond.instanceMethod yX4_one, Cond.selects RX4 yX4_one yX4_one, Cond.initialized RX4, Cond.code yX4_one cX4_one 2 (some (.object "LivingNumbers$Named")), Cond.fieldLink RX4 17 "LivingNumbers$People" "size" "I", Cond.fieldLink RX4 11 "LivingNumbers$People" "ones" "[LLivingNumbers$Named;"]
def wsX9_refusalOfRow : List Cond := .code yX9_refusalOfRow cX9_refusalOfRow 9 (some .int) :: ((wsX9_refusalOfRow_r1 ++ (wsX9_refusalOfRow_r2 ++ wsX9_refusalOfRow_r3)) ++ wsX90 ++ wsX70 ++ wsX40)
def wsX9_meaning_r1 : List Cond := [Cond.fieldLink RX9 28 "LivingNumbers" "people" "LLivingNumbers$People;", Cond.fieldLink RX9 12 "LivingNumbers" "sheets" "LLivingNumbers$Sheets;", Cond.methodLink RX9 184 yX7_at, Cond.instanceMethod yX7_at, Cond.selects RX7 yX7_at yX7_at, Cond.initialized RX7, Cond.code yX7_at cX7_at 4 (some .int), Cond.fieldLink RX7 9 "LivingNumbers$Sheets" "cells" "[I", Cond.methodLink RX7 28 yX7_standOf, Cond.instanceMethod yX7_standOf, Cond.selects RX7 yX7_standOf yX7_standOf, Cond.code yX7_standOf cX7_standOf 4 (some .int), Cond.methodLink RX7 25 yX7_sizeOf, Cond.instanceMethod yX7_sizeOf, Cond.selects RX7 yX7_sizeOf yX7_sizeOf, Cond.code yX7_sizeOf cX7_sizeOf 2 (some .int), Cond.fieldLink RX7 18 "LivingNumbers$Sheets" "sizes" "[I", Cond.methodLink RX9 83 yX4_one, Cond.instanceMethod yX4_one, Cond.selects RX4 yX4_one yX4_one, Cond.initialized RX4, Cond.code yX4_one cX4_one 2 (some (.object "LivingNumbers$Named")), Cond.fieldLink RX4 17 "LivingNumbers$People" "size" "I", Cond.fieldLink RX4 11 "LivingNumbers$People" "ones" "[LLivingNumbers$Named;"]
def wsX9_meaning_r2 : List Cond := [Cond.methodLink RX9 100 ⟨"LivingNumbers$Named", "isHeard", "(II)Z"⟩, Cond.sameMethod "LivingNumbers$Named" "LivingNumbers$Named" "isHeard" "(II)Z", Cond.selects RX1 ⟨"LivingNumbers$Named", "isHeard", "(II)Z"⟩ yX3_isHeard, Cond.instanceMethod yX3_isHeard, Cond.initialized RX3, Cond.code yX3_isHeard cX3_isHeard 3 (some .boolean), Cond.fieldLink RX3 16 "LivingNumbers$Named" "from" "I", Cond.fieldLink RX3 19 "LivingNumbers$Named" "till" "I", Cond.methodLink RX3 26 ⟨"LivingNumbers$Named", "isKnown", "(I)Z"⟩, Cond.sameMethod "LivingNumbers$Named" "LivingNumbers$Named" "isKnown" "(I)Z", Cond.instanceMethod ⟨"LivingNumbers$Named", "isKnown", "(I)Z"⟩, Cond.selects RX1 ⟨"LivingNumbers$Named", "isKnown", "(I)Z"⟩ yX1_isKnown, Cond.instanceMethod yX1_isKnown, Cond.initialized RX1, Cond.code yX1_isKnown cX1_isKnown 2 (some .boolean), Cond.code yX3_isKnown cX3_isKnown 2 (some .boolean), Cond.selects RX2 ⟨"LivingNumbers$Named", "isKnown", "(I)Z"⟩ yX3_isKnown, Cond.instanceMethod yX3_isKnown, Cond.fieldLink RX3 7 "LivingNumbers$Named" "village" "I", Cond.methodLink RX3 26 yX3_isKnown, Cond.selects RX3 yX3_isKnown yX3_isKnown, Cond.methodLink RX3 30 ⟨"LivingNumbers$Named", "longer", "()I"⟩, Cond.sameMethod "LivingNumbers$Named" "LivingNumbers$Named" "longer" "()I", Cond.instanceMethod ⟨"LivingNumbers$Named", "longer", "()I"⟩]
def wsX9_meaning_r3 : List Cond := [Cond.selects RX1 ⟨"LivingNumbers$Named", "longer", "()I"⟩ yX2_longer, Cond.instanceMethod yX2_longer, Cond.initialized RX2, Cond.code yX2_longer cX2_longer 1 (some .int), Cond.code yX3_longer cX3_longer 1 (some .int), Cond.selects RX2 ⟨"LivingNumbers$Named", "longer", "()I"⟩ yX2_longer, Cond.methodLink RX3 30 yX3_longer, Cond.instanceMethod yX3_longer, Cond.selects RX3 yX3_longer yX3_longer, Cond.selects RX2 ⟨"LivingNumbers$Named", "isHeard", "(II)Z"⟩ yX3_isHeard, Cond.methodLink RX9 100 yX3_isHeard, Cond.selects RX3 yX3_isHeard yX3_isHeard, Cond.methodLink RX9 211 ⟨"LivingNumbers$Named", "number", "()I"⟩, Cond.sameMethod "LivingNumbers$Named" "LivingNumbers$Named" "number" "()I", Cond.selects RX1 ⟨"LivingNumbers$Named", "number", "()I"⟩ yX3_number, Cond.instanceMethod yX3_number, Cond.code yX3_number cX3_number 1 (some .int), Cond.fieldLink RX3 13 "LivingNumbers$Named" "number" "I", Cond.selects RX2 ⟨"LivingNumbers$Named", "number", "()I"⟩ yX3_number, Cond.methodLink RX9 211 yX3_number, Cond.selects RX3 yX3_number yX3_number]
def wsX9_meaning : List Cond := .code yX9_meaning cX9_meaning 9 (some .int) :: ((wsX9_meaning_r1 ++ (wsX9_meaning_r2 ++ wsX9_meaning_r3)) ++ wsX90 ++ wsX70 ++ wsX40 ++ wsX10 ++ wsX20 ++ wsX30)
def wsX9_means_r1 : List Cond := [Cond.methodLink RX9 97 yX9_isDay, Cond.static yX9_isDay, Cond.initialized RX9, Cond.code yX9_isDay cX9_isDay 1 (some .boolean), Cond.methodLink RX9 108 yX9_refusalOfRow, Cond.instanceMethod yX9_refusalOfRow, Cond.selects RX9 yX9_refusalOfRow yX9_refusalOfRow, Cond.code yX9_refusalOfRow cX9_refusalOfRow 9 (some .int), Cond.fieldLink RX9 28 "LivingNumbers" "people" "LLivingNumbers$People;", Cond.fieldLink RX9 12 "LivingNumbers" "sheets" "LLivingNumbers$Sheets;", Cond.methodLink RX9 64 yX9_refusalOfCells, Cond.instanceMethod yX9_refusalOfCells, Cond.selects RX9 yX9_refusalOfCells yX9_refusalOfCells, Cond.code yX9_refusalOfCells cX9_refusalOfCells 8 (some .int), Cond.fieldLink RX9 60 "LivingNumbers" "latestFault" "I", Cond.methodLink RX9 93 yX9_isVillage, Cond.static yX9_isVillage, Cond.code yX9_isVillage cX9_isVillage 1 (some .boolean), Cond.methodLink RX9 155 yX9_isSheet, Cond.static yX9_isSheet, Cond.code yX9_isSheet cX9_isSheet 1 (some .boolean), Cond.methodLink RX9 158 yX9_isLane, Cond.static yX9_isLane, Cond.code yX9_isLane cX9_isLane 1 (some .boolean)]
def wsX9_means_r2 : List Cond := [Cond.methodLink RX9 181 yX9_faultAs, Cond.instanceMethod yX9_faultAs, Cond.selects RX9 yX9_faultAs yX9_faultAs, Cond.code yX9_faultAs cX9_faultAs 3 (some .int), Cond.methodLink RX9 168 yX7_hasRow, Cond.instanceMethod yX7_hasRow, Cond.selects RX7 yX7_hasRow yX7_hasRow, Cond.initialized RX7, Cond.code yX7_hasRow cX7_hasRow 2 (some .boolean), Cond.methodLink RX7 21 yX7_laneOf, Cond.instanceMethod yX7_laneOf, Cond.selects RX7 yX7_laneOf yX7_laneOf, Cond.code yX7_laneOf cX7_laneOf 2 (some .int), Cond.fieldLink RX7 15 "LivingNumbers$Sheets" "lanes" "[I", Cond.methodLink RX9 187 yX7_laneOf, Cond.methodLink RX9 161 yX9_faulted, Cond.instanceMethod yX9_faulted, Cond.selects RX9 yX9_faulted yX9_faulted, Cond.code yX9_faulted cX9_faulted 2 (some .int), Cond.methodLink RX9 190 yX7_hasCells, Cond.instanceMethod yX7_hasCells, Cond.selects RX7 yX7_hasCells yX7_hasCells, Cond.code yX7_hasCells cX7_hasCells 5 (some .boolean), Cond.methodLink RX7 25 yX7_sizeOf]
def wsX9_means_r3 : List Cond := [Cond.instanceMethod yX7_sizeOf, Cond.selects RX7 yX7_sizeOf yX7_sizeOf, Cond.code yX7_sizeOf cX7_sizeOf 2 (some .int), Cond.fieldLink RX7 18 "LivingNumbers$Sheets" "sizes" "[I", Cond.methodLink RX9 184 yX7_at, Cond.instanceMethod yX7_at, Cond.selects RX7 yX7_at yX7_at, Cond.code yX7_at cX7_at 4 (some .int), Cond.fieldLink RX7 9 "LivingNumbers$Sheets" "cells" "[I", Cond.methodLink RX7 28 yX7_standOf, Cond.instanceMethod yX7_standOf, Cond.selects RX7 yX7_standOf yX7_standOf, Cond.code yX7_standOf cX7_standOf 4 (some .int), Cond.methodLink RX9 83 yX4_one, Cond.instanceMethod yX4_one, Cond.selects RX4 yX4_one yX4_one, Cond.initialized RX4, Cond.code yX4_one cX4_one 2 (some (.object "LivingNumbers$Named")), Cond.fieldLink RX4 17 "LivingNumbers$People" "size" "I", Cond.fieldLink RX4 11 "LivingNumbers$People" "ones" "[LLivingNumbers$Named;", Cond.methodLink RX9 111 yX9_meaning, Cond.instanceMethod yX9_meaning, Cond.selects RX9 yX9_meaning yX9_meaning, Cond.code yX9_meaning cX9_meaning 9 (some .int)]
def wsX9_means_r4 : List Cond := [Cond.methodLink RX9 100 ⟨"LivingNumbers$Named", "isHeard", "(II)Z"⟩, Cond.sameMethod "LivingNumbers$Named" "LivingNumbers$Named" "isHeard" "(II)Z", Cond.selects RX1 ⟨"LivingNumbers$Named", "isHeard", "(II)Z"⟩ yX3_isHeard, Cond.instanceMethod yX3_isHeard, Cond.initialized RX3, Cond.code yX3_isHeard cX3_isHeard 3 (some .boolean), Cond.fieldLink RX3 16 "LivingNumbers$Named" "from" "I", Cond.fieldLink RX3 19 "LivingNumbers$Named" "till" "I", Cond.methodLink RX3 26 ⟨"LivingNumbers$Named", "isKnown", "(I)Z"⟩, Cond.sameMethod "LivingNumbers$Named" "LivingNumbers$Named" "isKnown" "(I)Z", Cond.instanceMethod ⟨"LivingNumbers$Named", "isKnown", "(I)Z"⟩, Cond.selects RX1 ⟨"LivingNumbers$Named", "isKnown", "(I)Z"⟩ yX1_isKnown, Cond.instanceMethod yX1_isKnown, Cond.initialized RX1, Cond.code yX1_isKnown cX1_isKnown 2 (some .boolean), Cond.code yX3_isKnown cX3_isKnown 2 (some .boolean), Cond.selects RX2 ⟨"LivingNumbers$Named", "isKnown", "(I)Z"⟩ yX3_isKnown, Cond.instanceMethod yX3_isKnown, Cond.fieldLink RX3 7 "LivingNumbers$Named" "village" "I", Cond.methodLink RX3 26 yX3_isKnown, Cond.selects RX3 yX3_isKnown yX3_isKnown, Cond.methodLink RX3 30 ⟨"LivingNumbers$Named", "longer", "()I"⟩, Cond.sameMethod "LivingNumbers$Named" "LivingNumbers$Named" "longer" "()I", Cond.instanceMethod ⟨"LivingNumbers$Named", "longer", "()I"⟩]
def wsX9_means_r5 : List Cond := [Cond.selects RX1 ⟨"LivingNumbers$Named", "longer", "()I"⟩ yX2_longer, Cond.instanceMethod yX2_longer, Cond.initialized RX2, Cond.code yX2_longer cX2_longer 1 (some .int), Cond.code yX3_longer cX3_longer 1 (some .int), Cond.selects RX2 ⟨"LivingNumbers$Named", "longer", "()I"⟩ yX2_longer, Cond.methodLink RX3 30 yX3_longer, Cond.instanceMethod yX3_longer, Cond.selects RX3 yX3_longer yX3_longer, Cond.selects RX2 ⟨"LivingNumbers$Named", "isHeard", "(II)Z"⟩ yX3_isHeard, Cond.methodLink RX9 100 yX3_isHeard, Cond.selects RX3 yX3_isHeard yX3_isHeard, Cond.methodLink RX9 211 ⟨"LivingNumbers$Named", "number", "()I"⟩, Cond.sameMethod "LivingNumbers$Named" "LivingNumbers$Named" "number" "()I", Cond.selects RX1 ⟨"LivingNumbers$Named", "number", "()I"⟩ yX3_number, Cond.instanceMethod yX3_number, Cond.code yX3_number cX3_number 1 (some .int), Cond.fieldLink RX3 13 "LivingNumbers$Named" "number" "I", Cond.selects RX2 ⟨"LivingNumbers$Named", "number", "()I"⟩ yX3_number, Cond.methodLink RX9 211 yX3_number, Cond.selects RX3 yX3_number yX3_number]
def wsX9_means : List Cond := .code yX9_means cX9_means 8 (some .int) :: ((wsX9_means_r1 ++ (wsX9_means_r2 ++ (wsX9_means_r3 ++ (wsX9_means_r4 ++ wsX9_means_r5)))) ++ wsX90 ++ wsX70 ++ wsX40 ++ wsX10 ++ wsX20 ++ wsX30)
def wsX9_isQuantity : List Cond := .code yX9_isQuantity cX9_isQuantity 1 (some .boolean) :: ([])
def wsX9_fewestWords_r1 : List Cond := [Cond.fieldLink RX9 28 "LivingNumbers" "people" "LLivingNumbers$People;", Cond.fieldLink RX9 42 "LivingNumbers" "fewest" "LLivingNumbers$Fewest;", Cond.constant RX9 217 (1000000), Cond.methodLink RX9 132 yX4_teach, Cond.instanceMethod yX4_teach, Cond.selects RX4 yX4_teach yX4_teach, Cond.initialized RX4, Cond.code yX4_teach cX4_teach 7 none, Cond.fieldLink RX4 17 "LivingNumbers$People" "size" "I", Cond.methodLink RX4 45 yX0_clear, Cond.instanceMethod yX0_clear, Cond.selects RX0 yX0_clear yX0_clear, Cond.initialized RX0, Cond.code yX0_clear cX0_clear 2 none, Cond.fieldLink RX0 9 "LivingNumbers$Fewest" "words" "[I", Cond.constant RX0 15 (1000000), Cond.methodLink RX4 37 yX4_one, Cond.instanceMethod yX4_one, Cond.selects RX4 yX4_one yX4_one, Cond.code yX4_one cX4_one 2 (some (.object "LivingNumbers$Named")), Cond.fieldLink RX4 11 "LivingNumbers$People" "ones" "[LLivingNumbers$Named;", Cond.methodLink RX4 41 ⟨"LivingNumbers$Named", "isHeard", "(II)Z"⟩, Cond.sameMethod "LivingNumbers$Named" "LivingNumbers$Named" "isHeard" "(II)Z", Cond.selects RX1 ⟨"LivingNumbers$Named", "isHeard", "(II)Z"⟩ yX3_isHeard]
def wsX9_fewestWords_r2 : List Cond := [Cond.instanceMethod yX3_isHeard, Cond.initialized RX3, Cond.code yX3_isHeard cX3_isHeard 3 (some .boolean), Cond.fieldLink RX3 16 "LivingNumbers$Named" "from" "I", Cond.fieldLink RX3 19 "LivingNumbers$Named" "till" "I", Cond.methodLink RX3 26 ⟨"LivingNumbers$Named", "isKnown", "(I)Z"⟩, Cond.sameMethod "LivingNumbers$Named" "LivingNumbers$Named" "isKnown" "(I)Z", Cond.instanceMethod ⟨"LivingNumbers$Named", "isKnown", "(I)Z"⟩, Cond.selects RX1 ⟨"LivingNumbers$Named", "isKnown", "(I)Z"⟩ yX1_isKnown, Cond.instanceMethod yX1_isKnown, Cond.initialized RX1, Cond.code yX1_isKnown cX1_isKnown 2 (some .boolean), Cond.code yX3_isKnown cX3_isKnown 2 (some .boolean), Cond.selects RX2 ⟨"LivingNumbers$Named", "isKnown", "(I)Z"⟩ yX3_isKnown, Cond.instanceMethod yX3_isKnown, Cond.fieldLink RX3 7 "LivingNumbers$Named" "village" "I", Cond.methodLink RX3 26 yX3_isKnown, Cond.selects RX3 yX3_isKnown yX3_isKnown, Cond.methodLink RX3 30 ⟨"LivingNumbers$Named", "longer", "()I"⟩, Cond.sameMethod "LivingNumbers$Named" "LivingNumbers$Named" "longer" "()I", Cond.instanceMethod ⟨"LivingNumbers$Named", "longer", "()I"⟩, Cond.selects RX1 ⟨"LivingNumbers$Named", "longer", "()I"⟩ yX2_longer, Cond.instanceMethod yX2_longer, Cond.initialized RX2]
def wsX9_fewestWords_r3 : List Cond := [Cond.code yX2_longer cX2_longer 1 (some .int), Cond.code yX3_longer cX3_longer 1 (some .int), Cond.selects RX2 ⟨"LivingNumbers$Named", "longer", "()I"⟩ yX2_longer, Cond.methodLink RX3 30 yX3_longer, Cond.instanceMethod yX3_longer, Cond.selects RX3 yX3_longer yX3_longer, Cond.selects RX2 ⟨"LivingNumbers$Named", "isHeard", "(II)Z"⟩ yX3_isHeard, Cond.methodLink RX4 41 yX3_isHeard, Cond.selects RX3 yX3_isHeard yX3_isHeard, Cond.methodLink RX4 38 ⟨"LivingNumbers$Named", "number", "()I"⟩, Cond.sameMethod "LivingNumbers$Named" "LivingNumbers$Named" "number" "()I", Cond.selects RX1 ⟨"LivingNumbers$Named", "number", "()I"⟩ yX3_number, Cond.instanceMethod yX3_number, Cond.code yX3_number cX3_number 1 (some .int), Cond.fieldLink RX3 13 "LivingNumbers$Named" "number" "I", Cond.selects RX2 ⟨"LivingNumbers$Named", "number", "()I"⟩ yX3_number, Cond.methodLink RX4 38 yX3_number, Cond.selects RX3 yX3_number yX3_number, Cond.methodLink RX4 50 yX0_add, Cond.instanceMethod yX0_add, Cond.selects RX0 yX0_add yX0_add, Cond.code yX0_add cX0_add 3 none, Cond.methodLink RX0 16 Lib.Math.min.name, Cond.static Lib.Math.min.name]
def wsX9_fewestWords_r4 : List Cond := [Cond.initialized "java/lang/Math", Cond.code Lib.Math.min.name Lib.Math.min.code 2 (some .int), Cond.methodLink RX9 214 yX0_of, Cond.instanceMethod yX0_of, Cond.selects RX0 yX0_of yX0_of, Cond.code yX0_of cX0_of 2 (some .int)]
def wsX9_fewestWords : List Cond := .code yX9_fewestWords cX9_fewestWords 5 (some .int) :: ((wsX9_fewestWords_r1 ++ (wsX9_fewestWords_r2 ++ (wsX9_fewestWords_r3 ++ wsX9_fewestWords_r4))) ++ wsX90 ++ wsX40 ++ wsX00 ++ wsX10 ++ wsX20 ++ wsX30)
def wsX9_numberAt_r1 : List Cond := [Cond.fieldLink RX9 28 "LivingNumbers" "people" "LLivingNumbers$People;", Cond.fieldLink RX9 42 "LivingNumbers" "fewest" "LLivingNumbers$Fewest;", Cond.methodLink RX9 218 yX4_greatestStep, Cond.instanceMethod yX4_greatestStep, Cond.selects RX4 yX4_greatestStep yX4_greatestStep, Cond.initialized RX4, Cond.code yX4_greatestStep cX4_greatestStep 8 (some .int), Cond.fieldLink RX4 17 "LivingNumbers$People" "size" "I", Cond.methodLink RX4 37 yX4_one, Cond.instanceMethod yX4_one, Cond.selects RX4 yX4_one yX4_one, Cond.code yX4_one cX4_one 2 (some (.object "LivingNumbers$Named")), Cond.fieldLink RX4 11 "LivingNumbers$People" "ones" "[LLivingNumbers$Named;", Cond.methodLink RX4 38 ⟨"LivingNumbers$Named", "number", "()I"⟩, Cond.sameMethod "LivingNumbers$Named" "LivingNumbers$Named" "number" "()I", Cond.selects RX1 ⟨"LivingNumbers$Named", "number", "()I"⟩ yX3_number, Cond.instanceMethod yX3_number, Cond.initialized RX3, Cond.code yX3_number cX3_number 1 (some .int), Cond.fieldLink RX3 13 "LivingNumbers$Named" "number" "I", Cond.selects RX2 ⟨"LivingNumbers$Named", "number", "()I"⟩ yX3_number, Cond.methodLink RX4 38 yX3_number, Cond.selects RX3 yX3_number yX3_number, Cond.methodLink RX4 41 ⟨"LivingNumbers$Named", "isHeard", "(II)Z"⟩]
def wsX9_numberAt_r2 : List Cond := [Cond.sameMethod "LivingNumbers$Named" "LivingNumbers$Named" "isHeard" "(II)Z", Cond.selects RX1 ⟨"LivingNumbers$Named", "isHeard", "(II)Z"⟩ yX3_isHeard, Cond.instanceMethod yX3_isHeard, Cond.code yX3_isHeard cX3_isHeard 3 (some .boolean), Cond.fieldLink RX3 16 "LivingNumbers$Named" "from" "I", Cond.fieldLink RX3 19 "LivingNumbers$Named" "till" "I", Cond.methodLink RX3 26 ⟨"LivingNumbers$Named", "isKnown", "(I)Z"⟩, Cond.sameMethod "LivingNumbers$Named" "LivingNumbers$Named" "isKnown" "(I)Z", Cond.instanceMethod ⟨"LivingNumbers$Named", "isKnown", "(I)Z"⟩, Cond.selects RX1 ⟨"LivingNumbers$Named", "isKnown", "(I)Z"⟩ yX1_isKnown, Cond.instanceMethod yX1_isKnown, Cond.initialized RX1, Cond.code yX1_isKnown cX1_isKnown 2 (some .boolean), Cond.code yX3_isKnown cX3_isKnown 2 (some .boolean), Cond.selects RX2 ⟨"LivingNumbers$Named", "isKnown", "(I)Z"⟩ yX3_isKnown, Cond.instanceMethod yX3_isKnown, Cond.fieldLink RX3 7 "LivingNumbers$Named" "village" "I", Cond.methodLink RX3 26 yX3_isKnown, Cond.selects RX3 yX3_isKnown yX3_isKnown, Cond.methodLink RX3 30 ⟨"LivingNumbers$Named", "longer", "()I"⟩, Cond.sameMethod "LivingNumbers$Named" "LivingNumbers$Named" "longer" "()I", Cond.instanceMethod ⟨"LivingNumbers$Named", "longer", "()I"⟩, Cond.selects RX1 ⟨"LivingNumbers$Named", "longer", "()I"⟩ yX2_longer, Cond.instanceMethod yX2_longer]
def wsX9_numberAt_r3 : List Cond := [Cond.initialized RX2, Cond.code yX2_longer cX2_longer 1 (some .int), Cond.code yX3_longer cX3_longer 1 (some .int), Cond.selects RX2 ⟨"LivingNumbers$Named", "longer", "()I"⟩ yX2_longer, Cond.methodLink RX3 30 yX3_longer, Cond.instanceMethod yX3_longer, Cond.selects RX3 yX3_longer yX3_longer, Cond.selects RX2 ⟨"LivingNumbers$Named", "isHeard", "(II)Z"⟩ yX3_isHeard, Cond.methodLink RX4 41 yX3_isHeard, Cond.selects RX3 yX3_isHeard yX3_isHeard, Cond.methodLink RX4 54 yX0_of, Cond.instanceMethod yX0_of, Cond.selects RX0 yX0_of yX0_of, Cond.initialized RX0, Cond.code yX0_of cX0_of 2 (some .int), Cond.fieldLink RX0 9 "LivingNumbers$Fewest" "words" "[I", Cond.constant RX0 15 (1000000)]
def wsX9_numberAt : List Cond := .code yX9_numberAt cX9_numberAt 8 (some .int) :: ((wsX9_numberAt_r1 ++ (wsX9_numberAt_r2 ++ wsX9_numberAt_r3)) ++ wsX90 ++ wsX40 ++ wsX10 ++ wsX20 ++ wsX30 ++ wsX00)
def wsX9_say_r1 : List Cond := [Cond.methodLink RX9 93 yX9_isVillage, Cond.static yX9_isVillage, Cond.initialized RX9, Cond.code yX9_isVillage cX9_isVillage 1 (some .boolean), Cond.methodLink RX9 115 yX9_isQuantity, Cond.static yX9_isQuantity, Cond.code yX9_isQuantity cX9_isQuantity 1 (some .boolean), Cond.methodLink RX9 97 yX9_isDay, Cond.static yX9_isDay, Cond.code yX9_isDay cX9_isDay 1 (some .boolean), Cond.methodLink RX9 118 yX9_fewestWords, Cond.instanceMethod yX9_fewestWords, Cond.selects RX9 yX9_fewestWords yX9_fewestWords, Cond.code yX9_fewestWords cX9_fewestWords 5 (some .int), Cond.fieldLink RX9 28 "LivingNumbers" "people" "LLivingNumbers$People;", Cond.fieldLink RX9 42 "LivingNumbers" "fewest" "LLivingNumbers$Fewest;", Cond.constant RX9 217 (1000000), Cond.methodLink RX9 132 yX4_teach, Cond.instanceMethod yX4_teach, Cond.selects RX4 yX4_teach yX4_teach, Cond.initialized RX4, Cond.code yX4_teach cX4_teach 7 none, Cond.fieldLink RX4 17 "LivingNumbers$People" "size" "I", Cond.methodLink RX4 45 yX0_clear]
def wsX9_say_r2 : List Cond := [Cond.instanceMethod yX0_clear, Cond.selects RX0 yX0_clear yX0_clear, Cond.initialized RX0, Cond.code yX0_clear cX0_clear 2 none, Cond.fieldLink RX0 9 "LivingNumbers$Fewest" "words" "[I", Cond.constant RX0 15 (1000000), Cond.methodLink RX4 37 yX4_one, Cond.instanceMethod yX4_one, Cond.selects RX4 yX4_one yX4_one, Cond.code yX4_one cX4_one 2 (some (.object "LivingNumbers$Named")), Cond.fieldLink RX4 11 "LivingNumbers$People" "ones" "[LLivingNumbers$Named;", Cond.methodLink RX4 41 ⟨"LivingNumbers$Named", "isHeard", "(II)Z"⟩, Cond.sameMethod "LivingNumbers$Named" "LivingNumbers$Named" "isHeard" "(II)Z", Cond.selects RX1 ⟨"LivingNumbers$Named", "isHeard", "(II)Z"⟩ yX3_isHeard, Cond.instanceMethod yX3_isHeard, Cond.initialized RX3, Cond.code yX3_isHeard cX3_isHeard 3 (some .boolean), Cond.fieldLink RX3 16 "LivingNumbers$Named" "from" "I", Cond.fieldLink RX3 19 "LivingNumbers$Named" "till" "I", Cond.methodLink RX3 26 ⟨"LivingNumbers$Named", "isKnown", "(I)Z"⟩, Cond.sameMethod "LivingNumbers$Named" "LivingNumbers$Named" "isKnown" "(I)Z", Cond.instanceMethod ⟨"LivingNumbers$Named", "isKnown", "(I)Z"⟩, Cond.selects RX1 ⟨"LivingNumbers$Named", "isKnown", "(I)Z"⟩ yX1_isKnown, Cond.instanceMethod yX1_isKnown]
def wsX9_say_r3 : List Cond := [Cond.initialized RX1, Cond.code yX1_isKnown cX1_isKnown 2 (some .boolean), Cond.code yX3_isKnown cX3_isKnown 2 (some .boolean), Cond.selects RX2 ⟨"LivingNumbers$Named", "isKnown", "(I)Z"⟩ yX3_isKnown, Cond.instanceMethod yX3_isKnown, Cond.fieldLink RX3 7 "LivingNumbers$Named" "village" "I", Cond.methodLink RX3 26 yX3_isKnown, Cond.selects RX3 yX3_isKnown yX3_isKnown, Cond.methodLink RX3 30 ⟨"LivingNumbers$Named", "longer", "()I"⟩, Cond.sameMethod "LivingNumbers$Named" "LivingNumbers$Named" "longer" "()I", Cond.instanceMethod ⟨"LivingNumbers$Named", "longer", "()I"⟩, Cond.selects RX1 ⟨"LivingNumbers$Named", "longer", "()I"⟩ yX2_longer, Cond.instanceMethod yX2_longer, Cond.initialized RX2, Cond.code yX2_longer cX2_longer 1 (some .int), Cond.code yX3_longer cX3_longer 1 (some .int), Cond.selects RX2 ⟨"LivingNumbers$Named", "longer", "()I"⟩ yX2_longer, Cond.methodLink RX3 30 yX3_longer, Cond.instanceMethod yX3_longer, Cond.selects RX3 yX3_longer yX3_longer, Cond.selects RX2 ⟨"LivingNumbers$Named", "isHeard", "(II)Z"⟩ yX3_isHeard, Cond.methodLink RX4 41 yX3_isHeard, Cond.selects RX3 yX3_isHeard yX3_isHeard, Cond.methodLink RX4 38 ⟨"LivingNumbers$Named", "number", "()I"⟩]
def wsX9_say_r4 : List Cond := [Cond.sameMethod "LivingNumbers$Named" "LivingNumbers$Named" "number" "()I", Cond.selects RX1 ⟨"LivingNumbers$Named", "number", "()I"⟩ yX3_number, Cond.instanceMethod yX3_number, Cond.code yX3_number cX3_number 1 (some .int), Cond.fieldLink RX3 13 "LivingNumbers$Named" "number" "I", Cond.selects RX2 ⟨"LivingNumbers$Named", "number", "()I"⟩ yX3_number, Cond.methodLink RX4 38 yX3_number, Cond.selects RX3 yX3_number yX3_number, Cond.methodLink RX4 50 yX0_add, Cond.instanceMethod yX0_add, Cond.selects RX0 yX0_add yX0_add, Cond.code yX0_add cX0_add 3 none, Cond.methodLink RX0 16 Lib.Math.min.name, Cond.static Lib.Math.min.name, Cond.initialized "java/lang/Math", Cond.code Lib.Math.min.name Lib.Math.min.code 2 (some .int), Cond.methodLink RX9 214 yX0_of, Cond.instanceMethod yX0_of, Cond.selects RX0 yX0_of yX0_of, Cond.code yX0_of cX0_of 2 (some .int), Cond.methodLink RX9 121 yX9_numberAt, Cond.instanceMethod yX9_numberAt, Cond.selects RX9 yX9_numberAt yX9_numberAt, Cond.code yX9_numberAt cX9_numberAt 8 (some .int)]
def wsX9_say_r5 : List Cond := [Cond.methodLink RX9 218 yX4_greatestStep, Cond.instanceMethod yX4_greatestStep, Cond.selects RX4 yX4_greatestStep yX4_greatestStep, Cond.code yX4_greatestStep cX4_greatestStep 8 (some .int), Cond.methodLink RX4 54 yX0_of]
def wsX9_say : List Cond := .code yX9_say cX9_say 6 (some .int) :: ((wsX9_say_r1 ++ (wsX9_say_r2 ++ (wsX9_say_r3 ++ (wsX9_say_r4 ++ wsX9_say_r5)))) ++ wsX90 ++ wsX40 ++ wsX00 ++ wsX10 ++ wsX20 ++ wsX30)
def wsX9_turned_r1 : List Cond := [Cond.methodLink RX9 97 yX9_isDay, Cond.static yX9_isDay, Cond.initialized RX9, Cond.code yX9_isDay cX9_isDay 1 (some .boolean), Cond.methodLink RX9 108 yX9_refusalOfRow, Cond.instanceMethod yX9_refusalOfRow, Cond.selects RX9 yX9_refusalOfRow yX9_refusalOfRow, Cond.code yX9_refusalOfRow cX9_refusalOfRow 9 (some .int), Cond.fieldLink RX9 28 "LivingNumbers" "people" "LLivingNumbers$People;", Cond.fieldLink RX9 12 "LivingNumbers" "sheets" "LLivingNumbers$Sheets;", Cond.methodLink RX9 64 yX9_refusalOfCells, Cond.instanceMethod yX9_refusalOfCells, Cond.selects RX9 yX9_refusalOfCells yX9_refusalOfCells, Cond.code yX9_refusalOfCells cX9_refusalOfCells 8 (some .int), Cond.fieldLink RX9 60 "LivingNumbers" "latestFault" "I", Cond.methodLink RX9 93 yX9_isVillage, Cond.static yX9_isVillage, Cond.code yX9_isVillage cX9_isVillage 1 (some .boolean), Cond.methodLink RX9 155 yX9_isSheet, Cond.static yX9_isSheet, Cond.code yX9_isSheet cX9_isSheet 1 (some .boolean), Cond.methodLink RX9 158 yX9_isLane, Cond.static yX9_isLane, Cond.code yX9_isLane cX9_isLane 1 (some .boolean)]
def wsX9_turned_r2 : List Cond := [Cond.methodLink RX9 181 yX9_faultAs, Cond.instanceMethod yX9_faultAs, Cond.selects RX9 yX9_faultAs yX9_faultAs, Cond.code yX9_faultAs cX9_faultAs 3 (some .int), Cond.methodLink RX9 168 yX7_hasRow, Cond.instanceMethod yX7_hasRow, Cond.selects RX7 yX7_hasRow yX7_hasRow, Cond.initialized RX7, Cond.code yX7_hasRow cX7_hasRow 2 (some .boolean), Cond.methodLink RX7 21 yX7_laneOf, Cond.instanceMethod yX7_laneOf, Cond.selects RX7 yX7_laneOf yX7_laneOf, Cond.code yX7_laneOf cX7_laneOf 2 (some .int), Cond.fieldLink RX7 15 "LivingNumbers$Sheets" "lanes" "[I", Cond.methodLink RX9 187 yX7_laneOf, Cond.methodLink RX9 161 yX9_faulted, Cond.instanceMethod yX9_faulted, Cond.selects RX9 yX9_faulted yX9_faulted, Cond.code yX9_faulted cX9_faulted 2 (some .int), Cond.methodLink RX9 190 yX7_hasCells, Cond.instanceMethod yX7_hasCells, Cond.selects RX7 yX7_hasCells yX7_hasCells, Cond.code yX7_hasCells cX7_hasCells 5 (some .boolean), Cond.methodLink RX7 25 yX7_sizeOf]
def wsX9_turned_r3 : List Cond := [Cond.instanceMethod yX7_sizeOf, Cond.selects RX7 yX7_sizeOf yX7_sizeOf, Cond.code yX7_sizeOf cX7_sizeOf 2 (some .int), Cond.fieldLink RX7 18 "LivingNumbers$Sheets" "sizes" "[I", Cond.methodLink RX9 184 yX7_at, Cond.instanceMethod yX7_at, Cond.selects RX7 yX7_at yX7_at, Cond.code yX7_at cX7_at 4 (some .int), Cond.fieldLink RX7 9 "LivingNumbers$Sheets" "cells" "[I", Cond.methodLink RX7 28 yX7_standOf, Cond.instanceMethod yX7_standOf, Cond.selects RX7 yX7_standOf yX7_standOf, Cond.code yX7_standOf cX7_standOf 4 (some .int), Cond.methodLink RX9 83 yX4_one, Cond.instanceMethod yX4_one, Cond.selects RX4 yX4_one yX4_one, Cond.initialized RX4, Cond.code yX4_one cX4_one 2 (some (.object "LivingNumbers$Named")), Cond.fieldLink RX4 17 "LivingNumbers$People" "size" "I", Cond.fieldLink RX4 11 "LivingNumbers$People" "ones" "[LLivingNumbers$Named;", Cond.methodLink RX9 111 yX9_meaning, Cond.instanceMethod yX9_meaning, Cond.selects RX9 yX9_meaning yX9_meaning, Cond.code yX9_meaning cX9_meaning 9 (some .int)]
def wsX9_turned_r4 : List Cond := [Cond.methodLink RX9 100 ⟨"LivingNumbers$Named", "isHeard", "(II)Z"⟩, Cond.sameMethod "LivingNumbers$Named" "LivingNumbers$Named" "isHeard" "(II)Z", Cond.selects RX1 ⟨"LivingNumbers$Named", "isHeard", "(II)Z"⟩ yX3_isHeard, Cond.instanceMethod yX3_isHeard, Cond.initialized RX3, Cond.code yX3_isHeard cX3_isHeard 3 (some .boolean), Cond.fieldLink RX3 16 "LivingNumbers$Named" "from" "I", Cond.fieldLink RX3 19 "LivingNumbers$Named" "till" "I", Cond.methodLink RX3 26 ⟨"LivingNumbers$Named", "isKnown", "(I)Z"⟩, Cond.sameMethod "LivingNumbers$Named" "LivingNumbers$Named" "isKnown" "(I)Z", Cond.instanceMethod ⟨"LivingNumbers$Named", "isKnown", "(I)Z"⟩, Cond.selects RX1 ⟨"LivingNumbers$Named", "isKnown", "(I)Z"⟩ yX1_isKnown, Cond.instanceMethod yX1_isKnown, Cond.initialized RX1, Cond.code yX1_isKnown cX1_isKnown 2 (some .boolean), Cond.code yX3_isKnown cX3_isKnown 2 (some .boolean), Cond.selects RX2 ⟨"LivingNumbers$Named", "isKnown", "(I)Z"⟩ yX3_isKnown, Cond.instanceMethod yX3_isKnown, Cond.fieldLink RX3 7 "LivingNumbers$Named" "village" "I", Cond.methodLink RX3 26 yX3_isKnown, Cond.selects RX3 yX3_isKnown yX3_isKnown, Cond.methodLink RX3 30 ⟨"LivingNumbers$Named", "longer", "()I"⟩, Cond.sameMethod "LivingNumbers$Named" "LivingNumbers$Named" "longer" "()I", Cond.instanceMethod ⟨"LivingNumbers$Named", "longer", "()I"⟩]
def wsX9_turned_r5 : List Cond := [Cond.selects RX1 ⟨"LivingNumbers$Named", "longer", "()I"⟩ yX2_longer, Cond.instanceMethod yX2_longer, Cond.initialized RX2, Cond.code yX2_longer cX2_longer 1 (some .int), Cond.code yX3_longer cX3_longer 1 (some .int), Cond.selects RX2 ⟨"LivingNumbers$Named", "longer", "()I"⟩ yX2_longer, Cond.methodLink RX3 30 yX3_longer, Cond.instanceMethod yX3_longer, Cond.selects RX3 yX3_longer yX3_longer, Cond.selects RX2 ⟨"LivingNumbers$Named", "isHeard", "(II)Z"⟩ yX3_isHeard, Cond.methodLink RX9 100 yX3_isHeard, Cond.selects RX3 yX3_isHeard yX3_isHeard, Cond.methodLink RX9 211 ⟨"LivingNumbers$Named", "number", "()I"⟩, Cond.sameMethod "LivingNumbers$Named" "LivingNumbers$Named" "number" "()I", Cond.selects RX1 ⟨"LivingNumbers$Named", "number", "()I"⟩ yX3_number, Cond.instanceMethod yX3_number, Cond.code yX3_number cX3_number 1 (some .int), Cond.fieldLink RX3 13 "LivingNumbers$Named" "number" "I", Cond.selects RX2 ⟨"LivingNumbers$Named", "number", "()I"⟩ yX3_number, Cond.methodLink RX9 211 yX3_number, Cond.selects RX3 yX3_number yX3_number, Cond.methodLink RX9 115 yX9_isQuantity, Cond.static yX9_isQuantity, Cond.code yX9_isQuantity cX9_isQuantity 1 (some .boolean)]
def wsX9_turned_r6 : List Cond := [Cond.methodLink RX9 118 yX9_fewestWords, Cond.instanceMethod yX9_fewestWords, Cond.selects RX9 yX9_fewestWords yX9_fewestWords, Cond.code yX9_fewestWords cX9_fewestWords 5 (some .int), Cond.fieldLink RX9 42 "LivingNumbers" "fewest" "LLivingNumbers$Fewest;", Cond.constant RX9 217 (1000000), Cond.methodLink RX9 132 yX4_teach, Cond.instanceMethod yX4_teach, Cond.selects RX4 yX4_teach yX4_teach, Cond.code yX4_teach cX4_teach 7 none, Cond.methodLink RX4 45 yX0_clear, Cond.instanceMethod yX0_clear, Cond.selects RX0 yX0_clear yX0_clear, Cond.initialized RX0, Cond.code yX0_clear cX0_clear 2 none, Cond.fieldLink RX0 9 "LivingNumbers$Fewest" "words" "[I", Cond.constant RX0 15 (1000000), Cond.methodLink RX4 37 yX4_one, Cond.methodLink RX4 41 ⟨"LivingNumbers$Named", "isHeard", "(II)Z"⟩, Cond.methodLink RX4 41 yX3_isHeard, Cond.methodLink RX4 38 ⟨"LivingNumbers$Named", "number", "()I"⟩, Cond.methodLink RX4 38 yX3_number, Cond.methodLink RX4 50 yX0_add, Cond.instanceMethod yX0_add]
def wsX9_turned_r7 : List Cond := [Cond.selects RX0 yX0_add yX0_add, Cond.code yX0_add cX0_add 3 none, Cond.methodLink RX0 16 Lib.Math.min.name, Cond.static Lib.Math.min.name, Cond.initialized "java/lang/Math", Cond.code Lib.Math.min.name Lib.Math.min.code 2 (some .int), Cond.methodLink RX9 214 yX0_of, Cond.instanceMethod yX0_of, Cond.selects RX0 yX0_of yX0_of, Cond.code yX0_of cX0_of 2 (some .int)]
def wsX9_turned : List Cond := .code yX9_turned cX9_turned 10 (some .int) :: ((wsX9_turned_r1 ++ (wsX9_turned_r2 ++ (wsX9_turned_r3 ++ (wsX9_turned_r4 ++ (wsX9_turned_r5 ++ (wsX9_turned_r6 ++ wsX9_turned_r7)))))) ++ wsX90 ++ wsX70 ++ wsX40 ++ wsX10 ++ wsX20 ++ wsX30 ++ wsX00)
def wsX9_isWords : List Cond := .code yX9_isWords cX9_isWords 1 (some .boolean) :: ([])
def wsX9_areBargains : List Cond := .code yX9_areBargains cX9_areBargains 5 (some .boolean) :: ([.fieldLink RX9 12 "LivingNumbers" "sheets" "LLivingNumbers$Sheets;", .methodLink RX9 184 yX7_at, .instanceMethod yX7_at, .selects RX7 yX7_at yX7_at, .initialized RX7, .code yX7_at cX7_at 4 (some .int), .fieldLink RX7 9 "LivingNumbers$Sheets" "cells" "[I", .methodLink RX7 28 yX7_standOf, .instanceMethod yX7_standOf, .selects RX7 yX7_standOf yX7_standOf, .code yX7_standOf cX7_standOf 4 (some .int), .methodLink RX7 25 yX7_sizeOf, .instanceMethod yX7_sizeOf, .selects RX7 yX7_sizeOf yX7_sizeOf, .code yX7_sizeOf cX7_sizeOf 2 (some .int), .fieldLink RX7 18 "LivingNumbers$Sheets" "sizes" "[I", .methodLink RX9 115 yX9_isQuantity, .static yX9_isQuantity, .initialized RX9, .code yX9_isQuantity cX9_isQuantity 1 (some .boolean)] ++ wsX90 ++ wsX70)
def wsX9_bargainsSaid_r1 : List Cond := [Cond.fieldLink RX9 56 "LivingNumbers" "given" "[I", Cond.fieldLink RX9 42 "LivingNumbers" "fewest" "LLivingNumbers$Fewest;", Cond.fieldLink RX9 12 "LivingNumbers" "sheets" "LLivingNumbers$Sheets;", Cond.methodLink RX9 184 yX7_at, Cond.instanceMethod yX7_at, Cond.selects RX7 yX7_at yX7_at, Cond.initialized RX7, Cond.code yX7_at cX7_at 4 (some .int), Cond.fieldLink RX7 9 "LivingNumbers$Sheets" "cells" "[I", Cond.methodLink RX7 28 yX7_standOf, Cond.instanceMethod yX7_standOf, Cond.selects RX7 yX7_standOf yX7_standOf, Cond.code yX7_standOf cX7_standOf 4 (some .int), Cond.methodLink RX7 25 yX7_sizeOf, Cond.instanceMethod yX7_sizeOf, Cond.selects RX7 yX7_sizeOf yX7_sizeOf, Cond.code yX7_sizeOf cX7_sizeOf 2 (some .int), Cond.fieldLink RX7 18 "LivingNumbers$Sheets" "sizes" "[I", Cond.methodLink RX9 222 yX0_withinBy, Cond.instanceMethod yX0_withinBy, Cond.selects RX0 yX0_withinBy yX0_withinBy, Cond.initialized RX0, Cond.code yX0_withinBy cX0_withinBy 5 (some .boolean), Cond.methodLink RX0 16 Lib.Math.min.name]
def wsX9_bargainsSaid_r2 : List Cond := [Cond.static Lib.Math.min.name, Cond.initialized "java/lang/Math", Cond.code Lib.Math.min.name Lib.Math.min.code 2 (some .int), Cond.methodLink RX0 26 yX0_isReached, Cond.static yX0_isReached, Cond.code yX0_isReached cX0_isReached 6 (some .boolean), Cond.methodLink RX0 30 yX0_within, Cond.instanceMethod yX0_within, Cond.selects RX0 yX0_within yX0_within, Cond.code yX0_within cX0_within 3 (some .boolean), Cond.methodLink RX0 22 yX0_of, Cond.instanceMethod yX0_of, Cond.selects RX0 yX0_of yX0_of, Cond.code yX0_of cX0_of 2 (some .int), Cond.fieldLink RX0 9 "LivingNumbers$Fewest" "words" "[I", Cond.constant RX0 15 (1000000)]
def wsX9_bargainsSaid : List Cond := .code yX9_bargainsSaid cX9_bargainsSaid 8 (some .int) :: ((wsX9_bargainsSaid_r1 ++ wsX9_bargainsSaid_r2) ++ wsX90 ++ wsX70 ++ wsX00)
def wsX9_child_r1 : List Cond := [Cond.fieldLink RX9 28 "LivingNumbers" "people" "LLivingNumbers$People;", Cond.fieldLink RX9 42 "LivingNumbers" "fewest" "LLivingNumbers$Fewest;", Cond.methodLink RX9 97 yX9_isDay, Cond.static yX9_isDay, Cond.initialized RX9, Cond.code yX9_isDay cX9_isDay 1 (some .boolean), Cond.methodLink RX9 125 yX9_isWords, Cond.static yX9_isWords, Cond.code yX9_isWords cX9_isWords 1 (some .boolean), Cond.methodLink RX9 64 yX9_refusalOfCells, Cond.instanceMethod yX9_refusalOfCells, Cond.selects RX9 yX9_refusalOfCells yX9_refusalOfCells, Cond.code yX9_refusalOfCells cX9_refusalOfCells 8 (some .int), Cond.fieldLink RX9 60 "LivingNumbers" "latestFault" "I", Cond.fieldLink RX9 12 "LivingNumbers" "sheets" "LLivingNumbers$Sheets;", Cond.methodLink RX9 93 yX9_isVillage, Cond.static yX9_isVillage, Cond.code yX9_isVillage cX9_isVillage 1 (some .boolean), Cond.methodLink RX9 155 yX9_isSheet, Cond.static yX9_isSheet, Cond.code yX9_isSheet cX9_isSheet 1 (some .boolean), Cond.methodLink RX9 158 yX9_isLane, Cond.static yX9_isLane, Cond.code yX9_isLane cX9_isLane 1 (some .boolean)]
def wsX9_child_r2 : List Cond := [Cond.methodLink RX9 181 yX9_faultAs, Cond.instanceMethod yX9_faultAs, Cond.selects RX9 yX9_faultAs yX9_faultAs, Cond.code yX9_faultAs cX9_faultAs 3 (some .int), Cond.methodLink RX9 168 yX7_hasRow, Cond.instanceMethod yX7_hasRow, Cond.selects RX7 yX7_hasRow yX7_hasRow, Cond.initialized RX7, Cond.code yX7_hasRow cX7_hasRow 2 (some .boolean), Cond.methodLink RX7 21 yX7_laneOf, Cond.instanceMethod yX7_laneOf, Cond.selects RX7 yX7_laneOf yX7_laneOf, Cond.code yX7_laneOf cX7_laneOf 2 (some .int), Cond.fieldLink RX7 15 "LivingNumbers$Sheets" "lanes" "[I", Cond.methodLink RX9 187 yX7_laneOf, Cond.methodLink RX9 161 yX9_faulted, Cond.instanceMethod yX9_faulted, Cond.selects RX9 yX9_faulted yX9_faulted, Cond.code yX9_faulted cX9_faulted 2 (some .int), Cond.methodLink RX9 190 yX7_hasCells, Cond.instanceMethod yX7_hasCells, Cond.selects RX7 yX7_hasCells yX7_hasCells, Cond.code yX7_hasCells cX7_hasCells 5 (some .boolean), Cond.methodLink RX7 25 yX7_sizeOf]
def wsX9_child_r3 : List Cond := [Cond.instanceMethod yX7_sizeOf, Cond.selects RX7 yX7_sizeOf yX7_sizeOf, Cond.code yX7_sizeOf cX7_sizeOf 2 (some .int), Cond.fieldLink RX7 18 "LivingNumbers$Sheets" "sizes" "[I", Cond.methodLink RX9 128 yX9_areBargains, Cond.instanceMethod yX9_areBargains, Cond.selects RX9 yX9_areBargains yX9_areBargains, Cond.code yX9_areBargains cX9_areBargains 5 (some .boolean), Cond.methodLink RX9 184 yX7_at, Cond.instanceMethod yX7_at, Cond.selects RX7 yX7_at yX7_at, Cond.code yX7_at cX7_at 4 (some .int), Cond.fieldLink RX7 9 "LivingNumbers$Sheets" "cells" "[I", Cond.methodLink RX7 28 yX7_standOf, Cond.instanceMethod yX7_standOf, Cond.selects RX7 yX7_standOf yX7_standOf, Cond.code yX7_standOf cX7_standOf 4 (some .int), Cond.methodLink RX9 115 yX9_isQuantity, Cond.static yX9_isQuantity, Cond.code yX9_isQuantity cX9_isQuantity 1 (some .boolean), Cond.methodLink RX9 132 yX4_teach, Cond.instanceMethod yX4_teach, Cond.selects RX4 yX4_teach yX4_teach, Cond.initialized RX4]
def wsX9_child_r4 : List Cond := [Cond.code yX4_teach cX4_teach 7 none, Cond.fieldLink RX4 17 "LivingNumbers$People" "size" "I", Cond.methodLink RX4 45 yX0_clear, Cond.instanceMethod yX0_clear, Cond.selects RX0 yX0_clear yX0_clear, Cond.initialized RX0, Cond.code yX0_clear cX0_clear 2 none, Cond.fieldLink RX0 9 "LivingNumbers$Fewest" "words" "[I", Cond.constant RX0 15 (1000000), Cond.methodLink RX4 37 yX4_one, Cond.instanceMethod yX4_one, Cond.selects RX4 yX4_one yX4_one, Cond.code yX4_one cX4_one 2 (some (.object "LivingNumbers$Named")), Cond.fieldLink RX4 11 "LivingNumbers$People" "ones" "[LLivingNumbers$Named;", Cond.methodLink RX4 41 ⟨"LivingNumbers$Named", "isHeard", "(II)Z"⟩, Cond.sameMethod "LivingNumbers$Named" "LivingNumbers$Named" "isHeard" "(II)Z", Cond.selects RX1 ⟨"LivingNumbers$Named", "isHeard", "(II)Z"⟩ yX3_isHeard, Cond.instanceMethod yX3_isHeard, Cond.initialized RX3, Cond.code yX3_isHeard cX3_isHeard 3 (some .boolean), Cond.fieldLink RX3 16 "LivingNumbers$Named" "from" "I", Cond.fieldLink RX3 19 "LivingNumbers$Named" "till" "I", Cond.methodLink RX3 26 ⟨"LivingNumbers$Named", "isKnown", "(I)Z"⟩, Cond.sameMethod "LivingNumbers$Named" "LivingNumbers$Named" "isKnown" "(I)Z"]
def wsX9_child_r5 : List Cond := [Cond.instanceMethod ⟨"LivingNumbers$Named", "isKnown", "(I)Z"⟩, Cond.selects RX1 ⟨"LivingNumbers$Named", "isKnown", "(I)Z"⟩ yX1_isKnown, Cond.instanceMethod yX1_isKnown, Cond.initialized RX1, Cond.code yX1_isKnown cX1_isKnown 2 (some .boolean), Cond.code yX3_isKnown cX3_isKnown 2 (some .boolean), Cond.selects RX2 ⟨"LivingNumbers$Named", "isKnown", "(I)Z"⟩ yX3_isKnown, Cond.instanceMethod yX3_isKnown, Cond.fieldLink RX3 7 "LivingNumbers$Named" "village" "I", Cond.methodLink RX3 26 yX3_isKnown, Cond.selects RX3 yX3_isKnown yX3_isKnown, Cond.methodLink RX3 30 ⟨"LivingNumbers$Named", "longer", "()I"⟩, Cond.sameMethod "LivingNumbers$Named" "LivingNumbers$Named" "longer" "()I", Cond.instanceMethod ⟨"LivingNumbers$Named", "longer", "()I"⟩, Cond.selects RX1 ⟨"LivingNumbers$Named", "longer", "()I"⟩ yX2_longer, Cond.instanceMethod yX2_longer, Cond.initialized RX2, Cond.code yX2_longer cX2_longer 1 (some .int), Cond.code yX3_longer cX3_longer 1 (some .int), Cond.selects RX2 ⟨"LivingNumbers$Named", "longer", "()I"⟩ yX2_longer, Cond.methodLink RX3 30 yX3_longer, Cond.instanceMethod yX3_longer, Cond.selects RX3 yX3_longer yX3_longer, Cond.selects RX2 ⟨"LivingNumbers$Named", "isHeard", "(II)Z"⟩ yX3_isHeard]
def wsX9_child_r6 : List Cond := [Cond.methodLink RX4 41 yX3_isHeard, Cond.selects RX3 yX3_isHeard yX3_isHeard, Cond.methodLink RX4 38 ⟨"LivingNumbers$Named", "number", "()I"⟩, Cond.sameMethod "LivingNumbers$Named" "LivingNumbers$Named" "number" "()I", Cond.selects RX1 ⟨"LivingNumbers$Named", "number", "()I"⟩ yX3_number, Cond.instanceMethod yX3_number, Cond.code yX3_number cX3_number 1 (some .int), Cond.fieldLink RX3 13 "LivingNumbers$Named" "number" "I", Cond.selects RX2 ⟨"LivingNumbers$Named", "number", "()I"⟩ yX3_number, Cond.methodLink RX4 38 yX3_number, Cond.selects RX3 yX3_number yX3_number, Cond.methodLink RX4 50 yX0_add, Cond.instanceMethod yX0_add, Cond.selects RX0 yX0_add yX0_add, Cond.code yX0_add cX0_add 3 none, Cond.methodLink RX0 16 Lib.Math.min.name, Cond.static Lib.Math.min.name, Cond.initialized "java/lang/Math", Cond.code Lib.Math.min.name Lib.Math.min.code 2 (some .int), Cond.methodLink RX9 136 yX9_bargainsSaid, Cond.instanceMethod yX9_bargainsSaid, Cond.selects RX9 yX9_bargainsSaid yX9_bargainsSaid, Cond.code yX9_bargainsSaid cX9_bargainsSaid 8 (some .int), Cond.fieldLink RX9 56 "LivingNumbers" "given" "[I"]
def wsX9_child_r7 : List Cond := [Cond.methodLink RX9 222 yX0_withinBy, Cond.instanceMethod yX0_withinBy, Cond.selects RX0 yX0_withinBy yX0_withinBy, Cond.code yX0_withinBy cX0_withinBy 5 (some .boolean), Cond.methodLink RX0 26 yX0_isReached, Cond.static yX0_isReached, Cond.code yX0_isReached cX0_isReached 6 (some .boolean), Cond.methodLink RX0 30 yX0_within, Cond.instanceMethod yX0_within, Cond.selects RX0 yX0_within yX0_within, Cond.code yX0_within cX0_within 3 (some .boolean), Cond.methodLink RX0 22 yX0_of, Cond.instanceMethod yX0_of, Cond.selects RX0 yX0_of yX0_of, Cond.code yX0_of cX0_of 2 (some .int)]
def wsX9_child : List Cond := .code yX9_child cX9_child 15 (some .int) :: ((wsX9_child_r1 ++ (wsX9_child_r2 ++ (wsX9_child_r3 ++ (wsX9_child_r4 ++ (wsX9_child_r5 ++ (wsX9_child_r6 ++ wsX9_child_r7)))))) ++ wsX90 ++ wsX70 ++ wsX40 ++ wsX00 ++ wsX10 ++ wsX20 ++ wsX30)
def wsX9_both_r1 : List Cond := [Cond.fieldLink RX9 28 "LivingNumbers" "people" "LLivingNumbers$People;", Cond.fieldLink RX9 42 "LivingNumbers" "fewest" "LLivingNumbers$Fewest;", Cond.fieldLink RX9 46 "LivingNumbers" "compared" "LLivingNumbers$Fewest;", Cond.methodLink RX9 115 yX9_isQuantity, Cond.static yX9_isQuantity, Cond.initialized RX9, Cond.code yX9_isQuantity cX9_isQuantity 1 (some .boolean), Cond.methodLink RX9 125 yX9_isWords, Cond.static yX9_isWords, Cond.code yX9_isWords cX9_isWords 1 (some .boolean), Cond.methodLink RX9 97 yX9_isDay, Cond.static yX9_isDay, Cond.code yX9_isDay cX9_isDay 1 (some .boolean), Cond.methodLink RX9 132 yX4_teach, Cond.instanceMethod yX4_teach, Cond.selects RX4 yX4_teach yX4_teach, Cond.initialized RX4, Cond.code yX4_teach cX4_teach 7 none, Cond.fieldLink RX4 17 "LivingNumbers$People" "size" "I", Cond.methodLink RX4 45 yX0_clear, Cond.instanceMethod yX0_clear, Cond.selects RX0 yX0_clear yX0_clear, Cond.initialized RX0, Cond.code yX0_clear cX0_clear 2 none]
def wsX9_both_r2 : List Cond := [Cond.fieldLink RX0 9 "LivingNumbers$Fewest" "words" "[I", Cond.constant RX0 15 (1000000), Cond.methodLink RX4 37 yX4_one, Cond.instanceMethod yX4_one, Cond.selects RX4 yX4_one yX4_one, Cond.code yX4_one cX4_one 2 (some (.object "LivingNumbers$Named")), Cond.fieldLink RX4 11 "LivingNumbers$People" "ones" "[LLivingNumbers$Named;", Cond.methodLink RX4 41 ⟨"LivingNumbers$Named", "isHeard", "(II)Z"⟩, Cond.sameMethod "LivingNumbers$Named" "LivingNumbers$Named" "isHeard" "(II)Z", Cond.selects RX1 ⟨"LivingNumbers$Named", "isHeard", "(II)Z"⟩ yX3_isHeard, Cond.instanceMethod yX3_isHeard, Cond.initialized RX3, Cond.code yX3_isHeard cX3_isHeard 3 (some .boolean), Cond.fieldLink RX3 16 "LivingNumbers$Named" "from" "I", Cond.fieldLink RX3 19 "LivingNumbers$Named" "till" "I", Cond.methodLink RX3 26 ⟨"LivingNumbers$Named", "isKnown", "(I)Z"⟩, Cond.sameMethod "LivingNumbers$Named" "LivingNumbers$Named" "isKnown" "(I)Z", Cond.instanceMethod ⟨"LivingNumbers$Named", "isKnown", "(I)Z"⟩, Cond.selects RX1 ⟨"LivingNumbers$Named", "isKnown", "(I)Z"⟩ yX1_isKnown, Cond.instanceMethod yX1_isKnown, Cond.initialized RX1, Cond.code yX1_isKnown cX1_isKnown 2 (some .boolean), Cond.code yX3_isKnown cX3_isKnown 2 (some .boolean), Cond.selects RX2 ⟨"LivingNumbers$Named", "isKnown", "(I)Z"⟩ yX3_isKnown]
def wsX9_both_r3 : List Cond := [Cond.instanceMethod yX3_isKnown, Cond.fieldLink RX3 7 "LivingNumbers$Named" "village" "I", Cond.methodLink RX3 26 yX3_isKnown, Cond.selects RX3 yX3_isKnown yX3_isKnown, Cond.methodLink RX3 30 ⟨"LivingNumbers$Named", "longer", "()I"⟩, Cond.sameMethod "LivingNumbers$Named" "LivingNumbers$Named" "longer" "()I", Cond.instanceMethod ⟨"LivingNumbers$Named", "longer", "()I"⟩, Cond.selects RX1 ⟨"LivingNumbers$Named", "longer", "()I"⟩ yX2_longer, Cond.instanceMethod yX2_longer, Cond.initialized RX2, Cond.code yX2_longer cX2_longer 1 (some .int), Cond.code yX3_longer cX3_longer 1 (some .int), Cond.selects RX2 ⟨"LivingNumbers$Named", "longer", "()I"⟩ yX2_longer, Cond.methodLink RX3 30 yX3_longer, Cond.instanceMethod yX3_longer, Cond.selects RX3 yX3_longer yX3_longer, Cond.selects RX2 ⟨"LivingNumbers$Named", "isHeard", "(II)Z"⟩ yX3_isHeard, Cond.methodLink RX4 41 yX3_isHeard, Cond.selects RX3 yX3_isHeard yX3_isHeard, Cond.methodLink RX4 38 ⟨"LivingNumbers$Named", "number", "()I"⟩, Cond.sameMethod "LivingNumbers$Named" "LivingNumbers$Named" "number" "()I", Cond.selects RX1 ⟨"LivingNumbers$Named", "number", "()I"⟩ yX3_number, Cond.instanceMethod yX3_number, Cond.code yX3_number cX3_number 1 (some .int)]
def wsX9_both_r4 : List Cond := [Cond.fieldLink RX3 13 "LivingNumbers$Named" "number" "I", Cond.selects RX2 ⟨"LivingNumbers$Named", "number", "()I"⟩ yX3_number, Cond.methodLink RX4 38 yX3_number, Cond.selects RX3 yX3_number yX3_number, Cond.methodLink RX4 50 yX0_add, Cond.instanceMethod yX0_add, Cond.selects RX0 yX0_add yX0_add, Cond.code yX0_add cX0_add 3 none, Cond.methodLink RX0 16 Lib.Math.min.name, Cond.static Lib.Math.min.name, Cond.initialized "java/lang/Math", Cond.code Lib.Math.min.name Lib.Math.min.code 2 (some .int), Cond.methodLink RX9 139 yX0_within, Cond.instanceMethod yX0_within, Cond.selects RX0 yX0_within yX0_within, Cond.code yX0_within cX0_within 3 (some .boolean), Cond.methodLink RX0 22 yX0_of, Cond.instanceMethod yX0_of, Cond.selects RX0 yX0_of yX0_of, Cond.code yX0_of cX0_of 2 (some .int)]
def wsX9_both : List Cond := .code yX9_both cX9_both 5 (some .int) :: ((wsX9_both_r1 ++ (wsX9_both_r2 ++ (wsX9_both_r3 ++ wsX9_both_r4))) ++ wsX90 ++ wsX40 ++ wsX00 ++ wsX10 ++ wsX20 ++ wsX30)
def wsX9_written_r1 : List Cond := [Cond.methodLink RX9 108 yX9_refusalOfRow, Cond.instanceMethod yX9_refusalOfRow, Cond.selects RX9 yX9_refusalOfRow yX9_refusalOfRow, Cond.initialized RX9, Cond.code yX9_refusalOfRow cX9_refusalOfRow 9 (some .int), Cond.fieldLink RX9 28 "LivingNumbers" "people" "LLivingNumbers$People;", Cond.fieldLink RX9 12 "LivingNumbers" "sheets" "LLivingNumbers$Sheets;", Cond.methodLink RX9 64 yX9_refusalOfCells, Cond.instanceMethod yX9_refusalOfCells, Cond.selects RX9 yX9_refusalOfCells yX9_refusalOfCells, Cond.code yX9_refusalOfCells cX9_refusalOfCells 8 (some .int), Cond.fieldLink RX9 60 "LivingNumbers" "latestFault" "I", Cond.methodLink RX9 93 yX9_isVillage, Cond.static yX9_isVillage, Cond.code yX9_isVillage cX9_isVillage 1 (some .boolean), Cond.methodLink RX9 155 yX9_isSheet, Cond.static yX9_isSheet, Cond.code yX9_isSheet cX9_isSheet 1 (some .boolean), Cond.methodLink RX9 158 yX9_isLane, Cond.static yX9_isLane, Cond.code yX9_isLane cX9_isLane 1 (some .boolean), Cond.methodLink RX9 181 yX9_faultAs, Cond.instanceMethod yX9_faultAs, Cond.selects RX9 yX9_faultAs yX9_faultAs]
def wsX9_written_r2 : List Cond := [Cond.code yX9_faultAs cX9_faultAs 3 (some .int), Cond.methodLink RX9 168 yX7_hasRow, Cond.instanceMethod yX7_hasRow, Cond.selects RX7 yX7_hasRow yX7_hasRow, Cond.initialized RX7, Cond.code yX7_hasRow cX7_hasRow 2 (some .boolean), Cond.methodLink RX7 21 yX7_laneOf, Cond.instanceMethod yX7_laneOf, Cond.selects RX7 yX7_laneOf yX7_laneOf, Cond.code yX7_laneOf cX7_laneOf 2 (some .int), Cond.fieldLink RX7 15 "LivingNumbers$Sheets" "lanes" "[I", Cond.methodLink RX9 187 yX7_laneOf, Cond.methodLink RX9 161 yX9_faulted, Cond.instanceMethod yX9_faulted, Cond.selects RX9 yX9_faulted yX9_faulted, Cond.code yX9_faulted cX9_faulted 2 (some .int), Cond.methodLink RX9 190 yX7_hasCells, Cond.instanceMethod yX7_hasCells, Cond.selects RX7 yX7_hasCells yX7_hasCells, Cond.code yX7_hasCells cX7_hasCells 5 (some .boolean), Cond.methodLink RX7 25 yX7_sizeOf, Cond.instanceMethod yX7_sizeOf, Cond.selects RX7 yX7_sizeOf yX7_sizeOf, Cond.code yX7_sizeOf cX7_sizeOf 2 (some .int)]
def wsX9_written_r3 : List Cond := [Cond.fieldLink RX7 18 "LivingNumbers$Sheets" "sizes" "[I", Cond.methodLink RX9 184 yX7_at, Cond.instanceMethod yX7_at, Cond.selects RX7 yX7_at yX7_at, Cond.code yX7_at cX7_at 4 (some .int), Cond.fieldLink RX7 9 "LivingNumbers$Sheets" "cells" "[I", Cond.methodLink RX7 28 yX7_standOf, Cond.instanceMethod yX7_standOf, Cond.selects RX7 yX7_standOf yX7_standOf, Cond.code yX7_standOf cX7_standOf 4 (some .int), Cond.methodLink RX9 83 yX4_one, Cond.instanceMethod yX4_one, Cond.selects RX4 yX4_one yX4_one, Cond.initialized RX4, Cond.code yX4_one cX4_one 2 (some (.object "LivingNumbers$Named")), Cond.fieldLink RX4 17 "LivingNumbers$People" "size" "I", Cond.fieldLink RX4 11 "LivingNumbers$People" "ones" "[LLivingNumbers$Named;", Cond.methodLink RX9 111 yX9_meaning, Cond.instanceMethod yX9_meaning, Cond.selects RX9 yX9_meaning yX9_meaning, Cond.code yX9_meaning cX9_meaning 9 (some .int), Cond.methodLink RX9 100 ⟨"LivingNumbers$Named", "isHeard", "(II)Z"⟩, Cond.sameMethod "LivingNumbers$Named" "LivingNumbers$Named" "isHeard" "(II)Z", Cond.selects RX1 ⟨"LivingNumbers$Named", "isHeard", "(II)Z"⟩ yX3_isHeard]
def wsX9_written_r4 : List Cond := [Cond.instanceMethod yX3_isHeard, Cond.initialized RX3, Cond.code yX3_isHeard cX3_isHeard 3 (some .boolean), Cond.fieldLink RX3 16 "LivingNumbers$Named" "from" "I", Cond.fieldLink RX3 19 "LivingNumbers$Named" "till" "I", Cond.methodLink RX3 26 ⟨"LivingNumbers$Named", "isKnown", "(I)Z"⟩, Cond.sameMethod "LivingNumbers$Named" "LivingNumbers$Named" "isKnown" "(I)Z", Cond.instanceMethod ⟨"LivingNumbers$Named", "isKnown", "(I)Z"⟩, Cond.selects RX1 ⟨"LivingNumbers$Named", "isKnown", "(I)Z"⟩ yX1_isKnown, Cond.instanceMethod yX1_isKnown, Cond.initialized RX1, Cond.code yX1_isKnown cX1_isKnown 2 (some .boolean), Cond.code yX3_isKnown cX3_isKnown 2 (some .boolean), Cond.selects RX2 ⟨"LivingNumbers$Named", "isKnown", "(I)Z"⟩ yX3_isKnown, Cond.instanceMethod yX3_isKnown, Cond.fieldLink RX3 7 "LivingNumbers$Named" "village" "I", Cond.methodLink RX3 26 yX3_isKnown, Cond.selects RX3 yX3_isKnown yX3_isKnown, Cond.methodLink RX3 30 ⟨"LivingNumbers$Named", "longer", "()I"⟩, Cond.sameMethod "LivingNumbers$Named" "LivingNumbers$Named" "longer" "()I", Cond.instanceMethod ⟨"LivingNumbers$Named", "longer", "()I"⟩, Cond.selects RX1 ⟨"LivingNumbers$Named", "longer", "()I"⟩ yX2_longer, Cond.instanceMethod yX2_longer, Cond.initialized RX2]
def wsX9_written_r5 : List Cond := [Cond.code yX2_longer cX2_longer 1 (some .int), Cond.code yX3_longer cX3_longer 1 (some .int), Cond.selects RX2 ⟨"LivingNumbers$Named", "longer", "()I"⟩ yX2_longer, Cond.methodLink RX3 30 yX3_longer, Cond.instanceMethod yX3_longer, Cond.selects RX3 yX3_longer yX3_longer, Cond.selects RX2 ⟨"LivingNumbers$Named", "isHeard", "(II)Z"⟩ yX3_isHeard, Cond.methodLink RX9 100 yX3_isHeard, Cond.selects RX3 yX3_isHeard yX3_isHeard, Cond.methodLink RX9 211 ⟨"LivingNumbers$Named", "number", "()I"⟩, Cond.sameMethod "LivingNumbers$Named" "LivingNumbers$Named" "number" "()I", Cond.selects RX1 ⟨"LivingNumbers$Named", "number", "()I"⟩ yX3_number, Cond.instanceMethod yX3_number, Cond.code yX3_number cX3_number 1 (some .int), Cond.fieldLink RX3 13 "LivingNumbers$Named" "number" "I", Cond.selects RX2 ⟨"LivingNumbers$Named", "number", "()I"⟩ yX3_number, Cond.methodLink RX9 211 yX3_number, Cond.selects RX3 yX3_number yX3_number]
def wsX9_written : List Cond := .code yX9_written cX9_written 12 (some .int) :: ((wsX9_written_r1 ++ (wsX9_written_r2 ++ (wsX9_written_r3 ++ (wsX9_written_r4 ++ wsX9_written_r5)))) ++ wsX90 ++ wsX70 ++ wsX40 ++ wsX10 ++ wsX20 ++ wsX30)
def wsX9_lost_r1 : List Cond := [Cond.fieldLink RX9 28 "LivingNumbers" "people" "LLivingNumbers$People;", Cond.fieldLink RX9 42 "LivingNumbers" "fewest" "LLivingNumbers$Fewest;", Cond.fieldLink RX9 46 "LivingNumbers" "compared" "LLivingNumbers$Fewest;", Cond.methodLink RX9 83 yX4_one, Cond.instanceMethod yX4_one, Cond.selects RX4 yX4_one yX4_one, Cond.initialized RX4, Cond.code yX4_one cX4_one 2 (some (.object "LivingNumbers$Named")), Cond.fieldLink RX4 17 "LivingNumbers$People" "size" "I", Cond.fieldLink RX4 11 "LivingNumbers$People" "ones" "[LLivingNumbers$Named;", Cond.methodLink RX9 93 yX9_isVillage, Cond.static yX9_isVillage, Cond.initialized RX9, Cond.code yX9_isVillage cX9_isVillage 1 (some .boolean), Cond.methodLink RX9 97 yX9_isDay, Cond.static yX9_isDay, Cond.code yX9_isDay cX9_isDay 1 (some .boolean), Cond.methodLink RX9 125 yX9_isWords, Cond.static yX9_isWords, Cond.code yX9_isWords cX9_isWords 1 (some .boolean), Cond.methodLink RX9 132 yX4_teach, Cond.instanceMethod yX4_teach, Cond.selects RX4 yX4_teach yX4_teach, Cond.code yX4_teach cX4_teach 7 none]
def wsX9_lost_r2 : List Cond := [Cond.methodLink RX4 45 yX0_clear, Cond.instanceMethod yX0_clear, Cond.selects RX0 yX0_clear yX0_clear, Cond.initialized RX0, Cond.code yX0_clear cX0_clear 2 none, Cond.fieldLink RX0 9 "LivingNumbers$Fewest" "words" "[I", Cond.constant RX0 15 (1000000), Cond.methodLink RX4 37 yX4_one, Cond.methodLink RX4 41 ⟨"LivingNumbers$Named", "isHeard", "(II)Z"⟩, Cond.sameMethod "LivingNumbers$Named" "LivingNumbers$Named" "isHeard" "(II)Z", Cond.selects RX1 ⟨"LivingNumbers$Named", "isHeard", "(II)Z"⟩ yX3_isHeard, Cond.instanceMethod yX3_isHeard, Cond.initialized RX3, Cond.code yX3_isHeard cX3_isHeard 3 (some .boolean), Cond.fieldLink RX3 16 "LivingNumbers$Named" "from" "I", Cond.fieldLink RX3 19 "LivingNumbers$Named" "till" "I", Cond.methodLink RX3 26 ⟨"LivingNumbers$Named", "isKnown", "(I)Z"⟩, Cond.sameMethod "LivingNumbers$Named" "LivingNumbers$Named" "isKnown" "(I)Z", Cond.instanceMethod ⟨"LivingNumbers$Named", "isKnown", "(I)Z"⟩, Cond.selects RX1 ⟨"LivingNumbers$Named", "isKnown", "(I)Z"⟩ yX1_isKnown, Cond.instanceMethod yX1_isKnown, Cond.initialized RX1, Cond.code yX1_isKnown cX1_isKnown 2 (some .boolean), Cond.code yX3_isKnown cX3_isKnown 2 (some .boolean)]
def wsX9_lost_r3 : List Cond := [Cond.selects RX2 ⟨"LivingNumbers$Named", "isKnown", "(I)Z"⟩ yX3_isKnown, Cond.instanceMethod yX3_isKnown, Cond.fieldLink RX3 7 "LivingNumbers$Named" "village" "I", Cond.methodLink RX3 26 yX3_isKnown, Cond.selects RX3 yX3_isKnown yX3_isKnown, Cond.methodLink RX3 30 ⟨"LivingNumbers$Named", "longer", "()I"⟩, Cond.sameMethod "LivingNumbers$Named" "LivingNumbers$Named" "longer" "()I", Cond.instanceMethod ⟨"LivingNumbers$Named", "longer", "()I"⟩, Cond.selects RX1 ⟨"LivingNumbers$Named", "longer", "()I"⟩ yX2_longer, Cond.instanceMethod yX2_longer, Cond.initialized RX2, Cond.code yX2_longer cX2_longer 1 (some .int), Cond.code yX3_longer cX3_longer 1 (some .int), Cond.selects RX2 ⟨"LivingNumbers$Named", "longer", "()I"⟩ yX2_longer, Cond.methodLink RX3 30 yX3_longer, Cond.instanceMethod yX3_longer, Cond.selects RX3 yX3_longer yX3_longer, Cond.selects RX2 ⟨"LivingNumbers$Named", "isHeard", "(II)Z"⟩ yX3_isHeard, Cond.methodLink RX4 41 yX3_isHeard, Cond.selects RX3 yX3_isHeard yX3_isHeard, Cond.methodLink RX4 38 ⟨"LivingNumbers$Named", "number", "()I"⟩, Cond.sameMethod "LivingNumbers$Named" "LivingNumbers$Named" "number" "()I", Cond.selects RX1 ⟨"LivingNumbers$Named", "number", "()I"⟩ yX3_number, Cond.instanceMethod yX3_number]
def wsX9_lost_r4 : List Cond := [Cond.code yX3_number cX3_number 1 (some .int), Cond.fieldLink RX3 13 "LivingNumbers$Named" "number" "I", Cond.selects RX2 ⟨"LivingNumbers$Named", "number", "()I"⟩ yX3_number, Cond.methodLink RX4 38 yX3_number, Cond.selects RX3 yX3_number yX3_number, Cond.methodLink RX4 50 yX0_add, Cond.instanceMethod yX0_add, Cond.selects RX0 yX0_add yX0_add, Cond.code yX0_add cX0_add 3 none, Cond.methodLink RX0 16 Lib.Math.min.name, Cond.static Lib.Math.min.name, Cond.initialized "java/lang/Math", Cond.code Lib.Math.min.name Lib.Math.min.code 2 (some .int), Cond.methodLink RX9 139 yX0_within, Cond.instanceMethod yX0_within, Cond.selects RX0 yX0_within yX0_within, Cond.code yX0_within cX0_within 3 (some .boolean), Cond.methodLink RX0 22 yX0_of, Cond.instanceMethod yX0_of, Cond.selects RX0 yX0_of yX0_of, Cond.code yX0_of cX0_of 2 (some .int)]
def wsX9_lost : List Cond := .code yX9_lost cX9_lost 7 (some .int) :: ((wsX9_lost_r1 ++ (wsX9_lost_r2 ++ (wsX9_lost_r3 ++ wsX9_lost_r4))) ++ wsX90 ++ wsX40 ++ wsX00 ++ wsX10 ++ wsX20 ++ wsX30)
def wsX9_back_r1 : List Cond := [Cond.fieldLink RX9 28 "LivingNumbers" "people" "LLivingNumbers$People;", Cond.fieldLink RX9 42 "LivingNumbers" "fewest" "LLivingNumbers$Fewest;", Cond.fieldLink RX9 52 "LivingNumbers" "recall" "LLivingNumbers$Recall;", Cond.methodLink RX9 93 yX9_isVillage, Cond.static yX9_isVillage, Cond.initialized RX9, Cond.code yX9_isVillage cX9_isVillage 1 (some .boolean), Cond.methodLink RX9 115 yX9_isQuantity, Cond.static yX9_isQuantity, Cond.code yX9_isQuantity cX9_isQuantity 1 (some .boolean), Cond.methodLink RX9 97 yX9_isDay, Cond.static yX9_isDay, Cond.code yX9_isDay cX9_isDay 1 (some .boolean), Cond.methodLink RX9 125 yX9_isWords, Cond.static yX9_isWords, Cond.code yX9_isWords cX9_isWords 1 (some .boolean), Cond.methodLink RX9 132 yX4_teach, Cond.instanceMethod yX4_teach, Cond.selects RX4 yX4_teach yX4_teach, Cond.initialized RX4, Cond.code yX4_teach cX4_teach 7 none, Cond.fieldLink RX4 17 "LivingNumbers$People" "size" "I", Cond.methodLink RX4 45 yX0_clear, Cond.instanceMethod yX0_clear]
def wsX9_back_r2 : List Cond := [Cond.selects RX0 yX0_clear yX0_clear, Cond.initialized RX0, Cond.code yX0_clear cX0_clear 2 none, Cond.fieldLink RX0 9 "LivingNumbers$Fewest" "words" "[I", Cond.constant RX0 15 (1000000), Cond.methodLink RX4 37 yX4_one, Cond.instanceMethod yX4_one, Cond.selects RX4 yX4_one yX4_one, Cond.code yX4_one cX4_one 2 (some (.object "LivingNumbers$Named")), Cond.fieldLink RX4 11 "LivingNumbers$People" "ones" "[LLivingNumbers$Named;", Cond.methodLink RX4 41 ⟨"LivingNumbers$Named", "isHeard", "(II)Z"⟩, Cond.sameMethod "LivingNumbers$Named" "LivingNumbers$Named" "isHeard" "(II)Z", Cond.selects RX1 ⟨"LivingNumbers$Named", "isHeard", "(II)Z"⟩ yX3_isHeard, Cond.instanceMethod yX3_isHeard, Cond.initialized RX3, Cond.code yX3_isHeard cX3_isHeard 3 (some .boolean), Cond.fieldLink RX3 16 "LivingNumbers$Named" "from" "I", Cond.fieldLink RX3 19 "LivingNumbers$Named" "till" "I", Cond.methodLink RX3 26 ⟨"LivingNumbers$Named", "isKnown", "(I)Z"⟩, Cond.sameMethod "LivingNumbers$Named" "LivingNumbers$Named" "isKnown" "(I)Z", Cond.instanceMethod ⟨"LivingNumbers$Named", "isKnown", "(I)Z"⟩, Cond.selects RX1 ⟨"LivingNumbers$Named", "isKnown", "(I)Z"⟩ yX1_isKnown, Cond.instanceMethod yX1_isKnown, Cond.initialized RX1]
def wsX9_back_r3 : List Cond := [Cond.code yX1_isKnown cX1_isKnown 2 (some .boolean), Cond.code yX3_isKnown cX3_isKnown 2 (some .boolean), Cond.selects RX2 ⟨"LivingNumbers$Named", "isKnown", "(I)Z"⟩ yX3_isKnown, Cond.instanceMethod yX3_isKnown, Cond.fieldLink RX3 7 "LivingNumbers$Named" "village" "I", Cond.methodLink RX3 26 yX3_isKnown, Cond.selects RX3 yX3_isKnown yX3_isKnown, Cond.methodLink RX3 30 ⟨"LivingNumbers$Named", "longer", "()I"⟩, Cond.sameMethod "LivingNumbers$Named" "LivingNumbers$Named" "longer" "()I", Cond.instanceMethod ⟨"LivingNumbers$Named", "longer", "()I"⟩, Cond.selects RX1 ⟨"LivingNumbers$Named", "longer", "()I"⟩ yX2_longer, Cond.instanceMethod yX2_longer, Cond.initialized RX2, Cond.code yX2_longer cX2_longer 1 (some .int), Cond.code yX3_longer cX3_longer 1 (some .int), Cond.selects RX2 ⟨"LivingNumbers$Named", "longer", "()I"⟩ yX2_longer, Cond.methodLink RX3 30 yX3_longer, Cond.instanceMethod yX3_longer, Cond.selects RX3 yX3_longer yX3_longer, Cond.selects RX2 ⟨"LivingNumbers$Named", "isHeard", "(II)Z"⟩ yX3_isHeard, Cond.methodLink RX4 41 yX3_isHeard, Cond.selects RX3 yX3_isHeard yX3_isHeard, Cond.methodLink RX4 38 ⟨"LivingNumbers$Named", "number", "()I"⟩, Cond.sameMethod "LivingNumbers$Named" "LivingNumbers$Named" "number" "()I"]
def wsX9_back_r4 : List Cond := [Cond.selects RX1 ⟨"LivingNumbers$Named", "number", "()I"⟩ yX3_number, Cond.instanceMethod yX3_number, Cond.code yX3_number cX3_number 1 (some .int), Cond.fieldLink RX3 13 "LivingNumbers$Named" "number" "I", Cond.selects RX2 ⟨"LivingNumbers$Named", "number", "()I"⟩ yX3_number, Cond.methodLink RX4 38 yX3_number, Cond.selects RX3 yX3_number yX3_number, Cond.methodLink RX4 50 yX0_add, Cond.instanceMethod yX0_add, Cond.selects RX0 yX0_add yX0_add, Cond.code yX0_add cX0_add 3 none, Cond.methodLink RX0 16 Lib.Math.min.name, Cond.static Lib.Math.min.name, Cond.initialized "java/lang/Math", Cond.code Lib.Math.min.name Lib.Math.min.code 2 (some .int), Cond.methodLink RX9 142 yX5_search, Cond.instanceMethod yX5_search, Cond.selects RX5 yX5_search yX5_search, Cond.initialized RX5, Cond.code yX5_search cX5_search 8 (some .int), Cond.fieldLink RX5 15 "LivingNumbers$Recall" "numbers" "[I", Cond.methodLink RX5 18 yX4_size, Cond.instanceMethod yX4_size, Cond.selects RX4 yX4_size yX4_size]
def wsX9_back_r5 : List Cond := [Cond.code yX4_size cX4_size 1 (some .int), Cond.methodLink RX5 24 yX5_chooseFrom, Cond.instanceMethod yX5_chooseFrom, Cond.selects RX5 yX5_chooseFrom yX5_chooseFrom, Cond.code yX5_chooseFrom cX5_chooseFrom 5 none, Cond.fieldLink RX5 9 "LivingNumbers$Recall" "chosen" "[I", Cond.methodLink RX5 28 yX5_readNumbers, Cond.instanceMethod yX5_readNumbers, Cond.selects RX5 yX5_readNumbers yX5_readNumbers, Cond.code yX5_readNumbers cX5_readNumbers 5 none, Cond.methodLink RX5 48 yX4_one, Cond.methodLink RX5 52 ⟨"LivingNumbers$Named", "number", "()I"⟩, Cond.methodLink RX5 52 yX3_number, Cond.methodLink RX5 32 yX0_withinBy, Cond.instanceMethod yX0_withinBy, Cond.selects RX0 yX0_withinBy yX0_withinBy, Cond.code yX0_withinBy cX0_withinBy 5 (some .boolean), Cond.methodLink RX0 26 yX0_isReached, Cond.static yX0_isReached, Cond.code yX0_isReached cX0_isReached 6 (some .boolean), Cond.methodLink RX0 30 yX0_within, Cond.instanceMethod yX0_within, Cond.selects RX0 yX0_within yX0_within, Cond.code yX0_within cX0_within 3 (some .boolean)]
def wsX9_back_r6 : List Cond := [Cond.methodLink RX0 22 yX0_of, Cond.instanceMethod yX0_of, Cond.selects RX0 yX0_of yX0_of, Cond.code yX0_of cX0_of 2 (some .int), Cond.methodLink RX5 38 yX5_chooseNext, Cond.instanceMethod yX5_chooseNext, Cond.selects RX5 yX5_chooseNext yX5_chooseNext, Cond.code yX5_chooseNext cX5_chooseNext 4 (some .boolean), Cond.methodLink RX5 42 Lib.Math.min.name, Cond.methodLink RX9 146 yX5_calledAt, Cond.instanceMethod yX5_calledAt, Cond.selects RX5 yX5_calledAt yX5_calledAt, Cond.code yX5_calledAt cX5_calledAt 2 (some .int)]
def wsX9_back : List Cond := .code yX9_back cX9_back 7 (some .int) :: ((wsX9_back_r1 ++ (wsX9_back_r2 ++ (wsX9_back_r3 ++ (wsX9_back_r4 ++ (wsX9_back_r5 ++ wsX9_back_r6))))) ++ wsX90 ++ wsX40 ++ wsX00 ++ wsX10 ++ wsX20 ++ wsX30 ++ wsX50)
def wsX9_reduced : List Cond := .code yX9_reduced cX9_reduced 3 (some .int) :: ([])
def wsX9_told_r1 : List Cond := [Cond.constantLong RX9 149 (-9223372036854775808), Cond.fieldLink RX9 28 "LivingNumbers" "people" "LLivingNumbers$People;", Cond.fieldLink RX9 42 "LivingNumbers" "fewest" "LLivingNumbers$Fewest;", Cond.methodLink RX9 93 yX9_isVillage, Cond.static yX9_isVillage, Cond.initialized RX9, Cond.code yX9_isVillage cX9_isVillage 1 (some .boolean), Cond.methodLink RX9 97 yX9_isDay, Cond.static yX9_isDay, Cond.code yX9_isDay cX9_isDay 1 (some .boolean), Cond.methodLink RX9 125 yX9_isWords, Cond.static yX9_isWords, Cond.code yX9_isWords cX9_isWords 1 (some .boolean), Cond.methodLink RX9 132 yX4_teach, Cond.instanceMethod yX4_teach, Cond.selects RX4 yX4_teach yX4_teach, Cond.initialized RX4, Cond.code yX4_teach cX4_teach 7 none, Cond.fieldLink RX4 17 "LivingNumbers$People" "size" "I", Cond.methodLink RX4 45 yX0_clear, Cond.instanceMethod yX0_clear, Cond.selects RX0 yX0_clear yX0_clear, Cond.initialized RX0, Cond.code yX0_clear cX0_clear 2 none]
def wsX9_told_r2 : List Cond := [Cond.fieldLink RX0 9 "LivingNumbers$Fewest" "words" "[I", Cond.constant RX0 15 (1000000), Cond.methodLink RX4 37 yX4_one, Cond.instanceMethod yX4_one, Cond.selects RX4 yX4_one yX4_one, Cond.code yX4_one cX4_one 2 (some (.object "LivingNumbers$Named")), Cond.fieldLink RX4 11 "LivingNumbers$People" "ones" "[LLivingNumbers$Named;", Cond.methodLink RX4 41 ⟨"LivingNumbers$Named", "isHeard", "(II)Z"⟩, Cond.sameMethod "LivingNumbers$Named" "LivingNumbers$Named" "isHeard" "(II)Z", Cond.selects RX1 ⟨"LivingNumbers$Named", "isHeard", "(II)Z"⟩ yX3_isHeard, Cond.instanceMethod yX3_isHeard, Cond.initialized RX3, Cond.code yX3_isHeard cX3_isHeard 3 (some .boolean), Cond.fieldLink RX3 16 "LivingNumbers$Named" "from" "I", Cond.fieldLink RX3 19 "LivingNumbers$Named" "till" "I", Cond.methodLink RX3 26 ⟨"LivingNumbers$Named", "isKnown", "(I)Z"⟩, Cond.sameMethod "LivingNumbers$Named" "LivingNumbers$Named" "isKnown" "(I)Z", Cond.instanceMethod ⟨"LivingNumbers$Named", "isKnown", "(I)Z"⟩, Cond.selects RX1 ⟨"LivingNumbers$Named", "isKnown", "(I)Z"⟩ yX1_isKnown, Cond.instanceMethod yX1_isKnown, Cond.initialized RX1, Cond.code yX1_isKnown cX1_isKnown 2 (some .boolean), Cond.code yX3_isKnown cX3_isKnown 2 (some .boolean), Cond.selects RX2 ⟨"LivingNumbers$Named", "isKnown", "(I)Z"⟩ yX3_isKnown]
def wsX9_told_r3 : List Cond := [Cond.instanceMethod yX3_isKnown, Cond.fieldLink RX3 7 "LivingNumbers$Named" "village" "I", Cond.methodLink RX3 26 yX3_isKnown, Cond.selects RX3 yX3_isKnown yX3_isKnown, Cond.methodLink RX3 30 ⟨"LivingNumbers$Named", "longer", "()I"⟩, Cond.sameMethod "LivingNumbers$Named" "LivingNumbers$Named" "longer" "()I", Cond.instanceMethod ⟨"LivingNumbers$Named", "longer", "()I"⟩, Cond.selects RX1 ⟨"LivingNumbers$Named", "longer", "()I"⟩ yX2_longer, Cond.instanceMethod yX2_longer, Cond.initialized RX2, Cond.code yX2_longer cX2_longer 1 (some .int), Cond.code yX3_longer cX3_longer 1 (some .int), Cond.selects RX2 ⟨"LivingNumbers$Named", "longer", "()I"⟩ yX2_longer, Cond.methodLink RX3 30 yX3_longer, Cond.instanceMethod yX3_longer, Cond.selects RX3 yX3_longer yX3_longer, Cond.selects RX2 ⟨"LivingNumbers$Named", "isHeard", "(II)Z"⟩ yX3_isHeard, Cond.methodLink RX4 41 yX3_isHeard, Cond.selects RX3 yX3_isHeard yX3_isHeard, Cond.methodLink RX4 38 ⟨"LivingNumbers$Named", "number", "()I"⟩, Cond.sameMethod "LivingNumbers$Named" "LivingNumbers$Named" "number" "()I", Cond.selects RX1 ⟨"LivingNumbers$Named", "number", "()I"⟩ yX3_number, Cond.instanceMethod yX3_number, Cond.code yX3_number cX3_number 1 (some .int)]
def wsX9_told_r4 : List Cond := [Cond.fieldLink RX3 13 "LivingNumbers$Named" "number" "I", Cond.selects RX2 ⟨"LivingNumbers$Named", "number", "()I"⟩ yX3_number, Cond.methodLink RX4 38 yX3_number, Cond.selects RX3 yX3_number yX3_number, Cond.methodLink RX4 50 yX0_add, Cond.instanceMethod yX0_add, Cond.selects RX0 yX0_add yX0_add, Cond.code yX0_add cX0_add 3 none, Cond.methodLink RX0 16 Lib.Math.min.name, Cond.static Lib.Math.min.name, Cond.initialized "java/lang/Math", Cond.code Lib.Math.min.name Lib.Math.min.code 2 (some .int), Cond.methodLink RX9 139 yX0_within, Cond.instanceMethod yX0_within, Cond.selects RX0 yX0_within yX0_within, Cond.code yX0_within cX0_within 3 (some .boolean), Cond.methodLink RX0 22 yX0_of, Cond.instanceMethod yX0_of, Cond.selects RX0 yX0_of yX0_of, Cond.code yX0_of cX0_of 2 (some .int), Cond.methodLink RX9 151 yX9_reduced, Cond.static yX9_reduced, Cond.code yX9_reduced cX9_reduced 3 (some .int)]
def wsX9_told : List Cond := .code yX9_told cX9_told 7 (some .long) :: ((wsX9_told_r1 ++ (wsX9_told_r2 ++ (wsX9_told_r3 ++ wsX9_told_r4))) ++ wsX90 ++ wsX40 ++ wsX00 ++ wsX10 ++ wsX20 ++ wsX30)
def wsX9_sheet_r1 : List Cond := [Cond.fieldLink RX9 60 "LivingNumbers" "latestFault" "I", Cond.fieldLink RX9 12 "LivingNumbers" "sheets" "LLivingNumbers$Sheets;", Cond.methodLink RX9 155 yX9_isSheet, Cond.static yX9_isSheet, Cond.initialized RX9, Cond.code yX9_isSheet cX9_isSheet 1 (some .boolean), Cond.methodLink RX9 158 yX9_isLane, Cond.static yX9_isLane, Cond.code yX9_isLane cX9_isLane 1 (some .boolean), Cond.methodLink RX9 161 yX9_faulted, Cond.instanceMethod yX9_faulted, Cond.selects RX9 yX9_faulted yX9_faulted, Cond.code yX9_faulted cX9_faulted 2 (some .int), Cond.methodLink RX9 164 yX7_renew, Cond.instanceMethod yX7_renew, Cond.selects RX7 yX7_renew yX7_renew, Cond.initialized RX7, Cond.code yX7_renew cX7_renew 5 none, Cond.fieldLink RX7 15 "LivingNumbers$Sheets" "lanes" "[I", Cond.fieldLink RX7 18 "LivingNumbers$Sheets" "sizes" "[I", Cond.methodLink RX7 39 yX7_set, Cond.instanceMethod yX7_set, Cond.selects RX7 yX7_set yX7_set, Cond.code yX7_set cX7_set 5 none]
def wsX9_sheet_r2 : List Cond := [Cond.fieldLink RX7 9 "LivingNumbers$Sheets" "cells" "[I", Cond.methodLink RX7 28 yX7_standOf, Cond.instanceMethod yX7_standOf, Cond.selects RX7 yX7_standOf yX7_standOf, Cond.code yX7_standOf cX7_standOf 4 (some .int), Cond.methodLink RX7 25 yX7_sizeOf, Cond.instanceMethod yX7_sizeOf, Cond.selects RX7 yX7_sizeOf yX7_sizeOf, Cond.code yX7_sizeOf cX7_sizeOf 2 (some .int), Cond.methodLink RX7 21 yX7_laneOf, Cond.instanceMethod yX7_laneOf, Cond.selects RX7 yX7_laneOf yX7_laneOf, Cond.code yX7_laneOf cX7_laneOf 2 (some .int), Cond.methodLink RX7 32 yX7_cut, Cond.static yX7_cut, Cond.code yX7_cut cX7_cut 2 (some .int)]
def wsX9_sheet : List Cond := .code yX9_sheet cX9_sheet 4 (some .int) :: ((wsX9_sheet_r1 ++ wsX9_sheet_r2) ++ wsX90 ++ wsX70)
def wsX9_lose_r1 : List Cond := [Cond.fieldLink RX9 12 "LivingNumbers" "sheets" "LLivingNumbers$Sheets;", Cond.methodLink RX9 155 yX9_isSheet, Cond.static yX9_isSheet, Cond.initialized RX9, Cond.code yX9_isSheet cX9_isSheet 1 (some .boolean), Cond.methodLink RX9 168 yX7_hasRow, Cond.instanceMethod yX7_hasRow, Cond.selects RX7 yX7_hasRow yX7_hasRow, Cond.initialized RX7, Cond.code yX7_hasRow cX7_hasRow 2 (some .boolean), Cond.methodLink RX7 21 yX7_laneOf, Cond.instanceMethod yX7_laneOf, Cond.selects RX7 yX7_laneOf yX7_laneOf, Cond.code yX7_laneOf cX7_laneOf 2 (some .int), Cond.fieldLink RX7 15 "LivingNumbers$Sheets" "lanes" "[I", Cond.methodLink RX9 171 yX7_clear, Cond.instanceMethod yX7_clear, Cond.selects RX7 yX7_clear yX7_clear, Cond.code yX7_clear cX7_clear 2 none, Cond.methodLink RX7 35 yX7_renew, Cond.instanceMethod yX7_renew, Cond.selects RX7 yX7_renew yX7_renew, Cond.code yX7_renew cX7_renew 5 none, Cond.fieldLink RX7 18 "LivingNumbers$Sheets" "sizes" "[I"]
def wsX9_lose_r2 : List Cond := [Cond.methodLink RX7 39 yX7_set, Cond.instanceMethod yX7_set, Cond.selects RX7 yX7_set yX7_set, Cond.code yX7_set cX7_set 5 none, Cond.fieldLink RX7 9 "LivingNumbers$Sheets" "cells" "[I", Cond.methodLink RX7 28 yX7_standOf, Cond.instanceMethod yX7_standOf, Cond.selects RX7 yX7_standOf yX7_standOf, Cond.code yX7_standOf cX7_standOf 4 (some .int), Cond.methodLink RX7 25 yX7_sizeOf, Cond.instanceMethod yX7_sizeOf, Cond.selects RX7 yX7_sizeOf yX7_sizeOf, Cond.code yX7_sizeOf cX7_sizeOf 2 (some .int), Cond.methodLink RX7 32 yX7_cut, Cond.static yX7_cut, Cond.code yX7_cut cX7_cut 2 (some .int)]
def wsX9_lose : List Cond := .code yX9_lose cX9_lose 2 (some .int) :: ((wsX9_lose_r1 ++ wsX9_lose_r2) ++ wsX90 ++ wsX70)
def wsX9_put_r1 : List Cond := [Cond.fieldLink RX9 60 "LivingNumbers" "latestFault" "I", Cond.fieldLink RX9 12 "LivingNumbers" "sheets" "LLivingNumbers$Sheets;", Cond.methodLink RX9 155 yX9_isSheet, Cond.static yX9_isSheet, Cond.initialized RX9, Cond.code yX9_isSheet cX9_isSheet 1 (some .boolean), Cond.methodLink RX9 168 yX7_hasRow, Cond.instanceMethod yX7_hasRow, Cond.selects RX7 yX7_hasRow yX7_hasRow, Cond.initialized RX7, Cond.code yX7_hasRow cX7_hasRow 2 (some .boolean), Cond.methodLink RX7 21 yX7_laneOf, Cond.instanceMethod yX7_laneOf, Cond.selects RX7 yX7_laneOf yX7_laneOf, Cond.code yX7_laneOf cX7_laneOf 2 (some .int), Cond.fieldLink RX7 15 "LivingNumbers$Sheets" "lanes" "[I", Cond.methodLink RX9 161 yX9_faulted, Cond.instanceMethod yX9_faulted, Cond.selects RX9 yX9_faulted yX9_faulted, Cond.code yX9_faulted cX9_faulted 2 (some .int), Cond.methodLink RX9 175 yX7_hasCell, Cond.instanceMethod yX7_hasCell, Cond.selects RX7 yX7_hasCell yX7_hasCell, Cond.code yX7_hasCell cX7_hasCell 3 (some .boolean)]
def wsX9_put_r2 : List Cond := [Cond.methodLink RX7 28 yX7_standOf, Cond.instanceMethod yX7_standOf, Cond.selects RX7 yX7_standOf yX7_standOf, Cond.code yX7_standOf cX7_standOf 4 (some .int), Cond.fieldLink RX7 9 "LivingNumbers$Sheets" "cells" "[I", Cond.methodLink RX7 25 yX7_sizeOf, Cond.instanceMethod yX7_sizeOf, Cond.selects RX7 yX7_sizeOf yX7_sizeOf, Cond.code yX7_sizeOf cX7_sizeOf 2 (some .int), Cond.fieldLink RX7 18 "LivingNumbers$Sheets" "sizes" "[I", Cond.methodLink RX9 178 yX7_set, Cond.instanceMethod yX7_set, Cond.selects RX7 yX7_set yX7_set, Cond.code yX7_set cX7_set 5 none, Cond.methodLink RX7 32 yX7_cut, Cond.static yX7_cut, Cond.code yX7_cut cX7_cut 2 (some .int)]
def wsX9_put : List Cond := .code yX9_put cX9_put 4 (some .int) :: ((wsX9_put_r1 ++ wsX9_put_r2) ++ wsX90 ++ wsX70)
def wsX9_cell_r1 : List Cond := [Cond.fieldLink RX9 60 "LivingNumbers" "latestFault" "I", Cond.constantLong RX9 149 (-9223372036854775808), Cond.fieldLink RX9 12 "LivingNumbers" "sheets" "LLivingNumbers$Sheets;", Cond.methodLink RX9 155 yX9_isSheet, Cond.static yX9_isSheet, Cond.initialized RX9, Cond.code yX9_isSheet cX9_isSheet 1 (some .boolean), Cond.methodLink RX9 158 yX9_isLane, Cond.static yX9_isLane, Cond.code yX9_isLane cX9_isLane 1 (some .boolean), Cond.methodLink RX9 181 yX9_faultAs, Cond.instanceMethod yX9_faultAs, Cond.selects RX9 yX9_faultAs yX9_faultAs, Cond.code yX9_faultAs cX9_faultAs 3 (some .int), Cond.methodLink RX9 168 yX7_hasRow, Cond.instanceMethod yX7_hasRow, Cond.selects RX7 yX7_hasRow yX7_hasRow, Cond.initialized RX7, Cond.code yX7_hasRow cX7_hasRow 2 (some .boolean), Cond.methodLink RX7 21 yX7_laneOf, Cond.instanceMethod yX7_laneOf, Cond.selects RX7 yX7_laneOf yX7_laneOf, Cond.code yX7_laneOf cX7_laneOf 2 (some .int), Cond.fieldLink RX7 15 "LivingNumbers$Sheets" "lanes" "[I"]
def wsX9_cell_r2 : List Cond := [Cond.methodLink RX9 187 yX7_laneOf, Cond.methodLink RX9 175 yX7_hasCell, Cond.instanceMethod yX7_hasCell, Cond.selects RX7 yX7_hasCell yX7_hasCell, Cond.code yX7_hasCell cX7_hasCell 3 (some .boolean), Cond.methodLink RX7 28 yX7_standOf, Cond.instanceMethod yX7_standOf, Cond.selects RX7 yX7_standOf yX7_standOf, Cond.code yX7_standOf cX7_standOf 4 (some .int), Cond.fieldLink RX7 9 "LivingNumbers$Sheets" "cells" "[I", Cond.methodLink RX7 25 yX7_sizeOf, Cond.instanceMethod yX7_sizeOf, Cond.selects RX7 yX7_sizeOf yX7_sizeOf, Cond.code yX7_sizeOf cX7_sizeOf 2 (some .int), Cond.fieldLink RX7 18 "LivingNumbers$Sheets" "sizes" "[I", Cond.methodLink RX9 184 yX7_at, Cond.instanceMethod yX7_at, Cond.selects RX7 yX7_at yX7_at, Cond.code yX7_at cX7_at 4 (some .int)]
def wsX9_cell : List Cond := .code yX9_cell cX9_cell 5 (some .long) :: ((wsX9_cell_r1 ++ wsX9_cell_r2) ++ wsX90 ++ wsX70)
def wsX9_copy_r1 : List Cond := [Cond.fieldLink RX9 60 "LivingNumbers" "latestFault" "I", Cond.fieldLink RX9 12 "LivingNumbers" "sheets" "LLivingNumbers$Sheets;", Cond.methodLink RX9 155 yX9_isSheet, Cond.static yX9_isSheet, Cond.initialized RX9, Cond.code yX9_isSheet cX9_isSheet 1 (some .boolean), Cond.methodLink RX9 168 yX7_hasRow, Cond.instanceMethod yX7_hasRow, Cond.selects RX7 yX7_hasRow yX7_hasRow, Cond.initialized RX7, Cond.code yX7_hasRow cX7_hasRow 2 (some .boolean), Cond.methodLink RX7 21 yX7_laneOf, Cond.instanceMethod yX7_laneOf, Cond.selects RX7 yX7_laneOf yX7_laneOf, Cond.code yX7_laneOf cX7_laneOf 2 (some .int), Cond.fieldLink RX7 15 "LivingNumbers$Sheets" "lanes" "[I", Cond.methodLink RX9 161 yX9_faulted, Cond.instanceMethod yX9_faulted, Cond.selects RX9 yX9_faulted yX9_faulted, Cond.code yX9_faulted cX9_faulted 2 (some .int), Cond.methodLink RX9 187 yX7_laneOf, Cond.methodLink RX9 190 yX7_hasCells, Cond.instanceMethod yX7_hasCells, Cond.selects RX7 yX7_hasCells yX7_hasCells]
def wsX9_copy_r2 : List Cond := [Cond.code yX7_hasCells cX7_hasCells 5 (some .boolean), Cond.methodLink RX7 25 yX7_sizeOf, Cond.instanceMethod yX7_sizeOf, Cond.selects RX7 yX7_sizeOf yX7_sizeOf, Cond.code yX7_sizeOf cX7_sizeOf 2 (some .int), Cond.fieldLink RX7 18 "LivingNumbers$Sheets" "sizes" "[I", Cond.methodLink RX9 193 yX7_move, Cond.instanceMethod yX7_move, Cond.selects RX7 yX7_move yX7_move, Cond.code yX7_move cX7_move 6 none, Cond.fieldLink RX7 9 "LivingNumbers$Sheets" "cells" "[I", Cond.methodLink RX7 46 arraycopyName, Cond.native arraycopyName, Cond.static arraycopyName, Cond.initialized "java/lang/System", Cond.methodLink RX7 42 yX7_hasCells]
def wsX9_copy : List Cond := .code yX9_copy cX9_copy 6 (some .int) :: ((wsX9_copy_r1 ++ wsX9_copy_r2) ++ wsX90 ++ wsX70)
def wsX9_tell_r1 : List Cond := [Cond.fieldLink RX9 28 "LivingNumbers" "people" "LLivingNumbers$People;", Cond.fieldLink RX9 35 "LivingNumbers" "traced" "LLivingNumbers$Trace;", Cond.methodLink RX9 83 yX4_one, Cond.instanceMethod yX4_one, Cond.selects RX4 yX4_one yX4_one, Cond.initialized RX4, Cond.code yX4_one cX4_one 2 (some (.object "LivingNumbers$Named")), Cond.fieldLink RX4 17 "LivingNumbers$People" "size" "I", Cond.fieldLink RX4 11 "LivingNumbers$People" "ones" "[LLivingNumbers$Named;", Cond.methodLink RX9 197 ⟨"LivingNumbers$Named", "telling", "(LLivingNumbers$Trace;)I"⟩, Cond.sameMethod "LivingNumbers$Named" "LivingNumbers$Named" "telling" "(LLivingNumbers$Trace;)I", Cond.instanceMethod ⟨"LivingNumbers$Named", "telling", "(LLivingNumbers$Trace;)I"⟩, Cond.selects RX1 ⟨"LivingNumbers$Named", "telling", "(LLivingNumbers$Trace;)I"⟩ yX1_telling, Cond.instanceMethod yX1_telling, Cond.initialized RX1, Cond.code yX1_telling cX1_telling 3 (some .int), Cond.methodLink RX1 7 yX8_leave, Cond.instanceMethod yX8_leave, Cond.selects RX8 yX8_leave yX8_leave, Cond.initialized RX8, Cond.code yX8_leave cX8_leave 2 none, Cond.fieldLink RX8 7 "LivingNumbers$Trace" "value" "I", Cond.methodLink RX1 13 yX2_telling, Cond.sameMethod "LivingNumbers$Lent" "LivingNumbers$Lent" "telling" "(LLivingNumbers$Trace;)I"]
def wsX9_tell_r2 : List Cond := [Cond.superclass RX1 RX2, Cond.instanceMethod yX2_telling, Cond.initialized RX2, Cond.code yX2_telling cX2_telling 2 (some .int), Cond.methodLink RX2 7 yX8_leave, Cond.methodLink RX2 13 ⟨"LivingNumbers$Lent", "namedTelling", "(LLivingNumbers$Trace;)I"⟩, Cond.sameMethod "LivingNumbers$Lent" "LivingNumbers$Named" "namedTelling" "(LLivingNumbers$Trace;)I", Cond.selects RX1 ⟨"LivingNumbers$Lent", "namedTelling", "(LLivingNumbers$Trace;)I"⟩ yX3_namedTelling, Cond.instanceMethod yX3_namedTelling, Cond.initialized RX3, Cond.code yX3_namedTelling cX3_namedTelling 2 (some .int), Cond.fieldLink RX3 13 "LivingNumbers$Named" "number" "I", Cond.methodLink RX3 37 yX8_leave, Cond.selects RX2 ⟨"LivingNumbers$Lent", "namedTelling", "(LLivingNumbers$Trace;)I"⟩ yX3_namedTelling, Cond.methodLink RX1 17 ⟨"LivingNumbers$Foreign", "namedTelling", "(LLivingNumbers$Trace;)I"⟩, Cond.sameMethod "LivingNumbers$Foreign" "LivingNumbers$Named" "namedTelling" "(LLivingNumbers$Trace;)I", Cond.selects RX1 ⟨"LivingNumbers$Foreign", "namedTelling", "(LLivingNumbers$Trace;)I"⟩ yX3_namedTelling, Cond.code yX3_telling cX3_telling 2 (some .int), Cond.selects RX2 ⟨"LivingNumbers$Named", "telling", "(LLivingNumbers$Trace;)I"⟩ yX2_telling, Cond.methodLink RX9 197 yX3_telling, Cond.instanceMethod yX3_telling, Cond.selects RX3 yX3_telling yX3_telling, Cond.methodLink RX3 33 ⟨"LivingNumbers$Named", "namedTelling", "(LLivingNumbers$Trace;)I"⟩, Cond.sameMethod "LivingNumbers$Named" "LivingNumbers$Named" "namedTelling" "(LLivingNumbers$Trace;)I"]
def wsX9_tell_r3 : List Cond := [Cond.selects RX1 ⟨"LivingNumbers$Named", "namedTelling", "(LLivingNumbers$Trace;)I"⟩ yX3_namedTelling, Cond.selects RX2 ⟨"LivingNumbers$Named", "namedTelling", "(LLivingNumbers$Trace;)I"⟩ yX3_namedTelling, Cond.methodLink RX3 33 yX3_namedTelling, Cond.selects RX3 yX3_namedTelling yX3_namedTelling]
def wsX9_tell : List Cond := .code yX9_tell cX9_tell 3 (some .int) :: ((wsX9_tell_r1 ++ (wsX9_tell_r2 ++ wsX9_tell_r3)) ++ wsX90 ++ wsX40 ++ wsX80 ++ wsX10 ++ wsX20 ++ wsX30)
def wsX9_mourn_r1 : List Cond := [Cond.fieldLink RX9 28 "LivingNumbers" "people" "LLivingNumbers$People;", Cond.fieldLink RX9 35 "LivingNumbers" "traced" "LLivingNumbers$Trace;", Cond.methodLink RX9 83 yX4_one, Cond.instanceMethod yX4_one, Cond.selects RX4 yX4_one yX4_one, Cond.initialized RX4, Cond.code yX4_one cX4_one 2 (some (.object "LivingNumbers$Named")), Cond.fieldLink RX4 17 "LivingNumbers$People" "size" "I", Cond.fieldLink RX4 11 "LivingNumbers$People" "ones" "[LLivingNumbers$Named;", Cond.methodLink RX9 201 ⟨"LivingNumbers$Named", "mourning", "(LLivingNumbers$Trace;I)I"⟩, Cond.sameMethod "LivingNumbers$Named" "LivingNumbers$Named" "mourning" "(LLivingNumbers$Trace;I)I", Cond.instanceMethod ⟨"LivingNumbers$Named", "mourning", "(LLivingNumbers$Trace;I)I"⟩, Cond.selects RX1 ⟨"LivingNumbers$Named", "mourning", "(LLivingNumbers$Trace;I)I"⟩ yX1_mourning, Cond.instanceMethod yX1_mourning, Cond.initialized RX1, Cond.code yX1_mourning cX1_mourning 3 (some .int), Cond.methodLink RX1 7 yX8_leave, Cond.instanceMethod yX8_leave, Cond.selects RX8 yX8_leave yX8_leave, Cond.initialized RX8, Cond.code yX8_leave cX8_leave 2 none, Cond.fieldLink RX8 7 "LivingNumbers$Trace" "value" "I", Cond.code yX3_mourning cX3_mourning 3 (some .int), Cond.selects RX2 ⟨"LivingNumbers$Named", "mourning", "(LLivingNumbers$Trace;I)I"⟩ yX3_mourning]
def wsX9_mourn_r2 : List Cond := [Cond.instanceMethod yX3_mourning, Cond.initialized RX3, Cond.methodLink RX3 37 yX8_leave, Cond.methodLink RX9 201 yX3_mourning, Cond.selects RX3 yX3_mourning yX3_mourning]
def wsX9_mourn : List Cond := .code yX9_mourn cX9_mourn 3 (some .int) :: ((wsX9_mourn_r1 ++ wsX9_mourn_r2) ++ wsX90 ++ wsX40 ++ wsX80)
def wsX9_as_r1 : List Cond := [Cond.fieldLink RX9 60 "LivingNumbers" "latestFault" "I", Cond.fieldLink RX9 28 "LivingNumbers" "people" "LLivingNumbers$People;", Cond.methodLink RX9 83 yX4_one, Cond.instanceMethod yX4_one, Cond.selects RX4 yX4_one yX4_one, Cond.initialized RX4, Cond.code yX4_one cX4_one 2 (some (.object "LivingNumbers$Named")), Cond.fieldLink RX4 17 "LivingNumbers$People" "size" "I", Cond.fieldLink RX4 11 "LivingNumbers$People" "ones" "[LLivingNumbers$Named;", Cond.methodLink RX9 205 ⟨"LivingNumbers$Named", "kind", "()I"⟩, Cond.sameMethod "LivingNumbers$Named" "LivingNumbers$Named" "kind" "()I", Cond.instanceMethod ⟨"LivingNumbers$Named", "kind", "()I"⟩, Cond.selects RX1 ⟨"LivingNumbers$Named", "kind", "()I"⟩ yX1_kind, Cond.instanceMethod yX1_kind, Cond.initialized RX1, Cond.code yX1_kind cX1_kind 1 (some .int), Cond.code yX3_kind cX3_kind 1 (some .int), Cond.selects RX2 ⟨"LivingNumbers$Named", "kind", "()I"⟩ yX2_kind, Cond.instanceMethod yX2_kind, Cond.initialized RX2, Cond.code yX2_kind cX2_kind 1 (some .int), Cond.methodLink RX9 205 yX3_kind, Cond.instanceMethod yX3_kind, Cond.selects RX3 yX3_kind yX3_kind]
def wsX9_as_r2 : List Cond := [Cond.initialized RX3, Cond.methodLink RX9 161 yX9_faulted, Cond.instanceMethod yX9_faulted, Cond.selects RX9 yX9_faulted yX9_faulted, Cond.initialized RX9, Cond.code yX9_faulted cX9_faulted 2 (some .int)]
def wsX9_as : List Cond := .code yX9_as cX9_as 4 (some .int) :: ((wsX9_as_r1 ++ wsX9_as_r2) ++ wsX90 ++ wsX40)
def wsX9_trace : List Cond := .code yX9_trace cX9_trace 1 (some .int) :: ([.fieldLink RX9 35 "LivingNumbers" "traced" "LLivingNumbers$Trace;", .methodLink RX9 208 yX8_left, .instanceMethod yX8_left, .selects RX8 yX8_left yX8_left, .initialized RX8, .code yX8_left cX8_left 1 (some .int), .fieldLink RX8 7 "LivingNumbers$Trace" "value" "I"] ++ wsX90 ++ wsX80)
def wsX9_fault : List Cond := .code yX9_fault cX9_fault 1 (some .int) :: ([.fieldLink RX9 60 "LivingNumbers" "latestFault" "I"] ++ wsX90)
def wsX9_many : List Cond := .code yX9_many cX9_many 1 (some .int) :: ([.fieldLink RX9 28 "LivingNumbers" "people" "LLivingNumbers$People;", .methodLink RX9 80 yX4_size, .instanceMethod yX4_size, .selects RX4 yX4_size yX4_size, .initialized RX4, .code yX4_size cX4_size 1 (some .int), .fieldLink RX4 17 "LivingNumbers$People" "size" "I"] ++ wsX90 ++ wsX40)
def wsX10_init : List Cond := .code yX10_init cX10_init 2 none :: ([.methodLink RX10 1 objectInit, .instanceMethod objectInit, .code objectInit ⟨#[0xb1]⟩ 1 none, .arrayClass .int, .fieldLink RX10 7 "LivingNumbersModel" "kindOf" "[I", .fieldLink RX10 13 "LivingNumbersModel" "villageOf" "[I", .fieldLink RX10 16 "LivingNumbersModel" "numberOf" "[I", .fieldLink RX10 19 "LivingNumbersModel" "fromOf" "[I", .fieldLink RX10 22 "LivingNumbersModel" "tillOf" "[I", .fieldLink RX10 25 "LivingNumbersModel" "readKind" "[I", .fieldLink RX10 28 "LivingNumbersModel" "readVillage" "[I", .fieldLink RX10 31 "LivingNumbersModel" "readNumber" "[I", .fieldLink RX10 34 "LivingNumbersModel" "readFrom" "[I", .fieldLink RX10 37 "LivingNumbersModel" "readTill" "[I", .arrayClass .boolean, .fieldLink RX10 40 "LivingNumbersModel" "can" "[Z", .fieldLink RX10 44 "LivingNumbersModel" "fewest" "[I", .fieldLink RX10 47 "LivingNumbersModel" "first" "[Z", .fieldLink RX10 50 "LivingNumbersModel" "sheetSize" "[I", .fieldLink RX10 53 "LivingNumbersModel" "sheetLane" "[I", .fieldLink RX10 56 "LivingNumbersModel" "sheet" "[I", .fieldLink RX10 59 "LivingNumbersModel" "hands" "[I"] ++ wsX100)
def wsX10_in : List Cond := .code yX10_in cX10_in 6 (some .boolean) :: ([])
def wsX10_nothing : List Cond := .code yX10_nothing cX10_nothing 0 (some .long) :: ([.constantLong RX10 62 (-9223372036854775808)])
def wsX10_lesser : List Cond := .code yX10_lesser cX10_lesser 2 (some .int) :: ([])
def wsX10_shared : List Cond := .code yX10_shared cX10_shared 11 (some .long) :: ([])
def wsX10_refused : List Cond := .code yX10_refused cX10_refused 2 (some .int) :: ([.fieldLink RX10 64 "LivingNumbersModel" "fault" "I"] ++ wsX100)
def wsX10_failed : List Cond := .code yX10_failed cX10_failed 2 (some .int) :: ([.fieldLink RX10 64 "LivingNumbersModel" "fault" "I"] ++ wsX100)
def wsX10_failedLong : List Cond := .code yX10_failedLong cX10_failedLong 2 (some .long) :: ([.fieldLink RX10 64 "LivingNumbersModel" "fault" "I", .methodLink RX10 68 yX10_nothing, .static yX10_nothing, .initialized RX10, .code yX10_nothing cX10_nothing 0 (some .long), .constantLong RX10 62 (-9223372036854775808)] ++ wsX100)
def wsX10_noSheet : List Cond := .code yX10_noSheet cX10_noSheet 1 (some .boolean) :: ([.constantLong RX10 194 (3), .methodLink RX10 82 yX10_in, .static yX10_in, .initialized RX10, .code yX10_in cX10_in 6 (some .boolean)])
def wsX10_isBeyond : List Cond := .code yX10_isBeyond cX10_isBeyond 4 (some .boolean) :: ([])
def wsX10_barred : List Cond := .code yX10_barred cX10_barred 7 (some .int) :: ([.constantLong RX10 80 (2), .fieldLink RX10 50 "LivingNumbersModel" "sheetSize" "[I", .fieldLink RX10 53 "LivingNumbersModel" "sheetLane" "[I", .methodLink RX10 72 yX10_noSheet, .static yX10_noSheet, .initialized RX10, .code yX10_noSheet cX10_noSheet 1 (some .boolean), .constantLong RX10 194 (3), .methodLink RX10 82 yX10_in, .static yX10_in, .code yX10_in cX10_in 6 (some .boolean), .methodLink RX10 76 yX10_refused, .instanceMethod yX10_refused, .selects RX10 yX10_refused yX10_refused, .code yX10_refused cX10_refused 2 (some .int), .fieldLink RX10 64 "LivingNumbersModel" "fault" "I", .methodLink RX10 86 yX10_failed, .instanceMethod yX10_failed, .selects RX10 yX10_failed yX10_failed, .code yX10_failed cX10_failed 2 (some .int), .methodLink RX10 89 yX10_isBeyond, .static yX10_isBeyond, .code yX10_isBeyond cX10_isBeyond 4 (some .boolean)] ++ wsX100)
def wsX10_noOne : List Cond := .code yX10_noOne cX10_noOne 2 (some .boolean) :: ([.fieldLink RX10 93 "LivingNumbersModel" "people" "I", .methodLink RX10 82 yX10_in, .static yX10_in, .initialized RX10, .code yX10_in cX10_in 6 (some .boolean)] ++ wsX100)
def wsX10_noVillage : List Cond := .code yX10_noVillage cX10_noVillage 1 (some .boolean) :: ([.methodLink RX10 82 yX10_in, .static yX10_in, .initialized RX10, .code yX10_in cX10_in 6 (some .boolean)])
def wsX10_isDay : List Cond := .code yX10_isDay cX10_isDay 1 (some .boolean) :: ([.constantLong RX10 96 (109), .methodLink RX10 82 yX10_in, .static yX10_in, .initialized RX10, .code yX10_in cX10_in 6 (some .boolean)])
def wsX10_isFew : List Cond := .code yX10_isFew cX10_isFew 1 (some .boolean) :: ([.constantLong RX10 98 (9), .methodLink RX10 82 yX10_in, .static yX10_in, .initialized RX10, .code yX10_in cX10_in 6 (some .boolean)])
def wsX10_figureAt : List Cond := .code yX10_figureAt cX10_figureAt 5 (some .int) :: ([.fieldLink RX10 56 "LivingNumbersModel" "sheet" "[I", .constantLong RX10 98 (9), .methodLink RX10 82 yX10_in, .static yX10_in, .initialized RX10, .code yX10_in cX10_in 6 (some .boolean)] ++ wsX100)
def wsX10_two : List Cond := .code yX10_two cX10_two 8 (some .int) :: ([.fieldLink RX10 100 "LivingNumbersModel" "readAt" "I", .constantLong RX10 107 (10), .methodLink RX10 103 yX10_figureAt, .instanceMethod yX10_figureAt, .selects RX10 yX10_figureAt yX10_figureAt, .initialized RX10, .code yX10_figureAt cX10_figureAt 5 (some .int), .fieldLink RX10 56 "LivingNumbersModel" "sheet" "[I", .constantLong RX10 98 (9), .methodLink RX10 82 yX10_in, .static yX10_in, .code yX10_in cX10_in 6 (some .boolean)] ++ wsX100)
def wsX10_readsOne : List Cond := .code yX10_readsOne cX10_readsOne 5 (some .boolean) :: ([.fieldLink RX10 109 "LivingNumbersModel" "readPeople" "I", .fieldLink RX10 100 "LivingNumbersModel" "readAt" "I", .fieldLink RX10 56 "LivingNumbersModel" "sheet" "[I", .fieldLink RX10 25 "LivingNumbersModel" "readKind" "[I", .fieldLink RX10 28 "LivingNumbersModel" "readVillage" "[I", .fieldLink RX10 31 "LivingNumbersModel" "readNumber" "[I", .fieldLink RX10 34 "LivingNumbersModel" "readFrom" "[I", .fieldLink RX10 37 "LivingNumbersModel" "readTill" "[I", .methodLink RX10 103 yX10_figureAt, .instanceMethod yX10_figureAt, .selects RX10 yX10_figureAt yX10_figureAt, .initialized RX10, .code yX10_figureAt cX10_figureAt 5 (some .int), .constantLong RX10 98 (9), .methodLink RX10 82 yX10_in, .static yX10_in, .code yX10_in cX10_in 6 (some .boolean), .methodLink RX10 112 yX10_two, .instanceMethod yX10_two, .selects RX10 yX10_two yX10_two, .code yX10_two cX10_two 8 (some .int), .constantLong RX10 107 (10)] ++ wsX100)
def wsX10_readsRoll_r1 : List Cond := [Cond.fieldLink RX10 100 "LivingNumbersModel" "readAt" "I", Cond.fieldLink RX10 109 "LivingNumbersModel" "readPeople" "I", Cond.methodLink RX10 116 yX10_readsOne, Cond.instanceMethod yX10_readsOne, Cond.selects RX10 yX10_readsOne yX10_readsOne, Cond.initialized RX10, Cond.code yX10_readsOne cX10_readsOne 5 (some .boolean), Cond.fieldLink RX10 56 "LivingNumbersModel" "sheet" "[I", Cond.fieldLink RX10 25 "LivingNumbersModel" "readKind" "[I", Cond.fieldLink RX10 28 "LivingNumbersModel" "readVillage" "[I", Cond.fieldLink RX10 31 "LivingNumbersModel" "readNumber" "[I", Cond.fieldLink RX10 34 "LivingNumbersModel" "readFrom" "[I", Cond.fieldLink RX10 37 "LivingNumbersModel" "readTill" "[I", Cond.methodLink RX10 103 yX10_figureAt, Cond.instanceMethod yX10_figureAt, Cond.selects RX10 yX10_figureAt yX10_figureAt, Cond.code yX10_figureAt cX10_figureAt 5 (some .int), Cond.constantLong RX10 98 (9), Cond.methodLink RX10 82 yX10_in, Cond.static yX10_in, Cond.code yX10_in cX10_in 6 (some .boolean), Cond.methodLink RX10 112 yX10_two, Cond.instanceMethod yX10_two, Cond.selects RX10 yX10_two yX10_two]
def wsX10_readsRoll_r2 : List Cond := [Cond.code yX10_two cX10_two 8 (some .int), Cond.constantLong RX10 107 (10)]
def wsX10_readsRoll : List Cond := .code yX10_readsRoll cX10_readsRoll 4 (some .boolean) :: ((wsX10_readsRoll_r1 ++ wsX10_readsRoll_r2) ++ wsX100)
def wsX10_roll_r1 : List Cond := [Cond.fieldLink RX10 100 "LivingNumbersModel" "readAt" "I", Cond.fieldLink RX10 109 "LivingNumbersModel" "readPeople" "I", Cond.fieldLink RX10 93 "LivingNumbersModel" "people" "I", Cond.fieldLink RX10 7 "LivingNumbersModel" "kindOf" "[I", Cond.fieldLink RX10 25 "LivingNumbersModel" "readKind" "[I", Cond.fieldLink RX10 13 "LivingNumbersModel" "villageOf" "[I", Cond.fieldLink RX10 28 "LivingNumbersModel" "readVillage" "[I", Cond.fieldLink RX10 16 "LivingNumbersModel" "numberOf" "[I", Cond.fieldLink RX10 31 "LivingNumbersModel" "readNumber" "[I", Cond.fieldLink RX10 19 "LivingNumbersModel" "fromOf" "[I", Cond.fieldLink RX10 34 "LivingNumbersModel" "readFrom" "[I", Cond.fieldLink RX10 22 "LivingNumbersModel" "tillOf" "[I", Cond.fieldLink RX10 37 "LivingNumbersModel" "readTill" "[I", Cond.methodLink RX10 120 yX10_barred, Cond.instanceMethod yX10_barred, Cond.selects RX10 yX10_barred yX10_barred, Cond.initialized RX10, Cond.code yX10_barred cX10_barred 7 (some .int), Cond.constantLong RX10 80 (2), Cond.fieldLink RX10 50 "LivingNumbersModel" "sheetSize" "[I", Cond.fieldLink RX10 53 "LivingNumbersModel" "sheetLane" "[I", Cond.methodLink RX10 72 yX10_noSheet, Cond.static yX10_noSheet, Cond.code yX10_noSheet cX10_noSheet 1 (some .boolean)]
def wsX10_roll_r2 : List Cond := [Cond.constantLong RX10 194 (3), Cond.methodLink RX10 82 yX10_in, Cond.static yX10_in, Cond.code yX10_in cX10_in 6 (some .boolean), Cond.methodLink RX10 76 yX10_refused, Cond.instanceMethod yX10_refused, Cond.selects RX10 yX10_refused yX10_refused, Cond.code yX10_refused cX10_refused 2 (some .int), Cond.fieldLink RX10 64 "LivingNumbersModel" "fault" "I", Cond.methodLink RX10 86 yX10_failed, Cond.instanceMethod yX10_failed, Cond.selects RX10 yX10_failed yX10_failed, Cond.code yX10_failed cX10_failed 2 (some .int), Cond.methodLink RX10 89 yX10_isBeyond, Cond.static yX10_isBeyond, Cond.code yX10_isBeyond cX10_isBeyond 4 (some .boolean), Cond.methodLink RX10 124 yX10_readsRoll, Cond.instanceMethod yX10_readsRoll, Cond.selects RX10 yX10_readsRoll yX10_readsRoll, Cond.code yX10_readsRoll cX10_readsRoll 4 (some .boolean), Cond.methodLink RX10 116 yX10_readsOne, Cond.instanceMethod yX10_readsOne, Cond.selects RX10 yX10_readsOne yX10_readsOne, Cond.code yX10_readsOne cX10_readsOne 5 (some .boolean)]
def wsX10_roll_r3 : List Cond := [Cond.fieldLink RX10 56 "LivingNumbersModel" "sheet" "[I", Cond.methodLink RX10 103 yX10_figureAt, Cond.instanceMethod yX10_figureAt, Cond.selects RX10 yX10_figureAt yX10_figureAt, Cond.code yX10_figureAt cX10_figureAt 5 (some .int), Cond.constantLong RX10 98 (9), Cond.methodLink RX10 112 yX10_two, Cond.instanceMethod yX10_two, Cond.selects RX10 yX10_two yX10_two, Cond.code yX10_two cX10_two 8 (some .int), Cond.constantLong RX10 107 (10)]
def wsX10_roll : List Cond := .code yX10_roll cX10_roll 7 (some .int) :: ((wsX10_roll_r1 ++ (wsX10_roll_r2 ++ wsX10_roll_r3)) ++ wsX100)
def wsX10_ofOne : List Cond := .code yX10_ofOne cX10_ofOne 3 (some .int) :: ([.fieldLink RX10 7 "LivingNumbersModel" "kindOf" "[I", .fieldLink RX10 13 "LivingNumbersModel" "villageOf" "[I", .fieldLink RX10 16 "LivingNumbersModel" "numberOf" "[I", .fieldLink RX10 19 "LivingNumbersModel" "fromOf" "[I", .fieldLink RX10 22 "LivingNumbersModel" "tillOf" "[I", .methodLink RX10 127 yX10_noOne, .instanceMethod yX10_noOne, .selects RX10 yX10_noOne yX10_noOne, .initialized RX10, .code yX10_noOne cX10_noOne 2 (some .boolean), .fieldLink RX10 93 "LivingNumbersModel" "people" "I", .methodLink RX10 82 yX10_in, .static yX10_in, .code yX10_in cX10_in 6 (some .boolean)] ++ wsX100)
def wsX10_doesLive : List Cond := .code yX10_doesLive cX10_doesLive 5 (some .boolean) :: ([.fieldLink RX10 22 "LivingNumbersModel" "tillOf" "[I", .fieldLink RX10 7 "LivingNumbersModel" "kindOf" "[I", .fieldLink RX10 13 "LivingNumbersModel" "villageOf" "[I", .fieldLink RX10 19 "LivingNumbersModel" "fromOf" "[I"] ++ wsX100)
def wsX10_lives : List Cond := .code yX10_lives cX10_lives 4 (some .int) :: ([.methodLink RX10 127 yX10_noOne, .instanceMethod yX10_noOne, .selects RX10 yX10_noOne yX10_noOne, .initialized RX10, .code yX10_noOne cX10_noOne 2 (some .boolean), .fieldLink RX10 93 "LivingNumbersModel" "people" "I", .methodLink RX10 82 yX10_in, .static yX10_in, .code yX10_in cX10_in 6 (some .boolean), .methodLink RX10 130 yX10_noVillage, .static yX10_noVillage, .code yX10_noVillage cX10_noVillage 1 (some .boolean), .methodLink RX10 133 yX10_isDay, .static yX10_isDay, .code yX10_isDay cX10_isDay 1 (some .boolean), .constantLong RX10 96 (109), .methodLink RX10 136 yX10_doesLive, .instanceMethod yX10_doesLive, .selects RX10 yX10_doesLive yX10_doesLive, .code yX10_doesLive cX10_doesLive 5 (some .boolean), .fieldLink RX10 22 "LivingNumbersModel" "tillOf" "[I", .fieldLink RX10 7 "LivingNumbersModel" "kindOf" "[I", .fieldLink RX10 13 "LivingNumbersModel" "villageOf" "[I", .fieldLink RX10 19 "LivingNumbersModel" "fromOf" "[I"] ++ wsX100)
def wsX10_saidBy : List Cond := .code yX10_saidBy cX10_saidBy 5 (some .int) :: ([.fieldLink RX10 93 "LivingNumbersModel" "people" "I", .fieldLink RX10 16 "LivingNumbersModel" "numberOf" "[I", .methodLink RX10 136 yX10_doesLive, .instanceMethod yX10_doesLive, .selects RX10 yX10_doesLive yX10_doesLive, .initialized RX10, .code yX10_doesLive cX10_doesLive 5 (some .boolean), .fieldLink RX10 22 "LivingNumbersModel" "tillOf" "[I", .fieldLink RX10 7 "LivingNumbersModel" "kindOf" "[I", .fieldLink RX10 13 "LivingNumbersModel" "villageOf" "[I", .fieldLink RX10 19 "LivingNumbersModel" "fromOf" "[I"] ++ wsX100)
def wsX10_word_r1 : List Cond := [Cond.constantLong RX10 140 (99), Cond.methodLink RX10 130 yX10_noVillage, Cond.static yX10_noVillage, Cond.initialized RX10, Cond.code yX10_noVillage cX10_noVillage 1 (some .boolean), Cond.methodLink RX10 82 yX10_in, Cond.static yX10_in, Cond.code yX10_in cX10_in 6 (some .boolean), Cond.methodLink RX10 133 yX10_isDay, Cond.static yX10_isDay, Cond.code yX10_isDay cX10_isDay 1 (some .boolean), Cond.constantLong RX10 96 (109), Cond.methodLink RX10 142 yX10_saidBy, Cond.instanceMethod yX10_saidBy, Cond.selects RX10 yX10_saidBy yX10_saidBy, Cond.code yX10_saidBy cX10_saidBy 5 (some .int), Cond.fieldLink RX10 93 "LivingNumbersModel" "people" "I", Cond.fieldLink RX10 16 "LivingNumbersModel" "numberOf" "[I", Cond.methodLink RX10 136 yX10_doesLive, Cond.instanceMethod yX10_doesLive, Cond.selects RX10 yX10_doesLive yX10_doesLive, Cond.code yX10_doesLive cX10_doesLive 5 (some .boolean), Cond.fieldLink RX10 22 "LivingNumbersModel" "tillOf" "[I", Cond.fieldLink RX10 7 "LivingNumbersModel" "kindOf" "[I"]
def wsX10_word_r2 : List Cond := [Cond.fieldLink RX10 13 "LivingNumbersModel" "villageOf" "[I", Cond.fieldLink RX10 19 "LivingNumbersModel" "fromOf" "[I"]
def wsX10_word : List Cond := .code yX10_word cX10_word 4 (some .int) :: ((wsX10_word_r1 ++ wsX10_word_r2) ++ wsX100)
def wsX10_sayable_r1 : List Cond := [Cond.methodLink RX10 130 yX10_noVillage, Cond.static yX10_noVillage, Cond.initialized RX10, Cond.code yX10_noVillage cX10_noVillage 1 (some .boolean), Cond.methodLink RX10 82 yX10_in, Cond.static yX10_in, Cond.code yX10_in cX10_in 6 (some .boolean), Cond.methodLink RX10 133 yX10_isDay, Cond.static yX10_isDay, Cond.code yX10_isDay cX10_isDay 1 (some .boolean), Cond.constantLong RX10 96 (109), Cond.methodLink RX10 142 yX10_saidBy, Cond.instanceMethod yX10_saidBy, Cond.selects RX10 yX10_saidBy yX10_saidBy, Cond.code yX10_saidBy cX10_saidBy 5 (some .int), Cond.fieldLink RX10 93 "LivingNumbersModel" "people" "I", Cond.fieldLink RX10 16 "LivingNumbersModel" "numberOf" "[I", Cond.methodLink RX10 136 yX10_doesLive, Cond.instanceMethod yX10_doesLive, Cond.selects RX10 yX10_doesLive yX10_doesLive, Cond.code yX10_doesLive cX10_doesLive 5 (some .boolean), Cond.fieldLink RX10 22 "LivingNumbersModel" "tillOf" "[I", Cond.fieldLink RX10 7 "LivingNumbersModel" "kindOf" "[I", Cond.fieldLink RX10 13 "LivingNumbersModel" "villageOf" "[I"]
def wsX10_sayable_r2 : List Cond := [Cond.fieldLink RX10 19 "LivingNumbersModel" "fromOf" "[I"]
def wsX10_sayable : List Cond := .code yX10_sayable cX10_sayable 6 (some .int) :: ((wsX10_sayable_r1 ++ wsX10_sayable_r2) ++ wsX100)
def wsX10_layCan : List Cond := .code yX10_layCan cX10_layCan 5 none :: ([.fieldLink RX10 40 "LivingNumbersModel" "can" "[Z", .fieldLink RX10 93 "LivingNumbersModel" "people" "I", .fieldLink RX10 16 "LivingNumbersModel" "numberOf" "[I", .methodLink RX10 136 yX10_doesLive, .instanceMethod yX10_doesLive, .selects RX10 yX10_doesLive yX10_doesLive, .initialized RX10, .code yX10_doesLive cX10_doesLive 5 (some .boolean), .fieldLink RX10 22 "LivingNumbersModel" "tillOf" "[I", .fieldLink RX10 7 "LivingNumbersModel" "kindOf" "[I", .fieldLink RX10 13 "LivingNumbersModel" "villageOf" "[I", .fieldLink RX10 19 "LivingNumbersModel" "fromOf" "[I"] ++ wsX100)
def wsX10_layFewest : List Cond := .code yX10_layFewest cX10_layFewest 4 none :: ([.fieldLink RX10 44 "LivingNumbersModel" "fewest" "[I", .fieldLink RX10 40 "LivingNumbersModel" "can" "[Z", .methodLink RX10 145 yX10_lesser, .static yX10_lesser, .initialized RX10, .code yX10_lesser cX10_lesser 2 (some .int)] ++ wsX100)
def wsX10_laySaid : List Cond := .code yX10_laySaid cX10_laySaid 4 none :: ([.methodLink RX10 149 yX10_layCan, .instanceMethod yX10_layCan, .selects RX10 yX10_layCan yX10_layCan, .initialized RX10, .code yX10_layCan cX10_layCan 5 none, .fieldLink RX10 40 "LivingNumbersModel" "can" "[Z", .fieldLink RX10 93 "LivingNumbersModel" "people" "I", .fieldLink RX10 16 "LivingNumbersModel" "numberOf" "[I", .methodLink RX10 136 yX10_doesLive, .instanceMethod yX10_doesLive, .selects RX10 yX10_doesLive yX10_doesLive, .code yX10_doesLive cX10_doesLive 5 (some .boolean), .fieldLink RX10 22 "LivingNumbersModel" "tillOf" "[I", .fieldLink RX10 7 "LivingNumbersModel" "kindOf" "[I", .fieldLink RX10 13 "LivingNumbersModel" "villageOf" "[I", .fieldLink RX10 19 "LivingNumbersModel" "fromOf" "[I", .methodLink RX10 153 yX10_layFewest, .instanceMethod yX10_layFewest, .selects RX10 yX10_layFewest yX10_layFewest, .code yX10_layFewest cX10_layFewest 4 none, .fieldLink RX10 44 "LivingNumbersModel" "fewest" "[I", .methodLink RX10 145 yX10_lesser, .static yX10_lesser, .code yX10_lesser cX10_lesser 2 (some .int)] ++ wsX100)
def wsX10_arePeople : List Cond := .code yX10_arePeople cX10_arePeople 5 (some .boolean) :: ([.fieldLink RX10 56 "LivingNumbersModel" "sheet" "[I", .methodLink RX10 127 yX10_noOne, .instanceMethod yX10_noOne, .selects RX10 yX10_noOne yX10_noOne, .initialized RX10, .code yX10_noOne cX10_noOne 2 (some .boolean), .fieldLink RX10 93 "LivingNumbersModel" "people" "I", .methodLink RX10 82 yX10_in, .static yX10_in, .code yX10_in cX10_in 6 (some .boolean)] ++ wsX100)
def wsX10_meant : List Cond := .code yX10_meant cX10_meant 7 (some .int) :: ([.fieldLink RX10 56 "LivingNumbersModel" "sheet" "[I", .fieldLink RX10 16 "LivingNumbersModel" "numberOf" "[I", .methodLink RX10 136 yX10_doesLive, .instanceMethod yX10_doesLive, .selects RX10 yX10_doesLive yX10_doesLive, .initialized RX10, .code yX10_doesLive cX10_doesLive 5 (some .boolean), .fieldLink RX10 22 "LivingNumbersModel" "tillOf" "[I", .fieldLink RX10 7 "LivingNumbersModel" "kindOf" "[I", .fieldLink RX10 13 "LivingNumbersModel" "villageOf" "[I", .fieldLink RX10 19 "LivingNumbersModel" "fromOf" "[I"] ++ wsX100)
def wsX10_rowBarred_r1 : List Cond := [Cond.methodLink RX10 130 yX10_noVillage, Cond.static yX10_noVillage, Cond.initialized RX10, Cond.code yX10_noVillage cX10_noVillage 1 (some .boolean), Cond.methodLink RX10 82 yX10_in, Cond.static yX10_in, Cond.code yX10_in cX10_in 6 (some .boolean), Cond.methodLink RX10 76 yX10_refused, Cond.instanceMethod yX10_refused, Cond.selects RX10 yX10_refused yX10_refused, Cond.code yX10_refused cX10_refused 2 (some .int), Cond.fieldLink RX10 64 "LivingNumbersModel" "fault" "I", Cond.methodLink RX10 120 yX10_barred, Cond.instanceMethod yX10_barred, Cond.selects RX10 yX10_barred yX10_barred, Cond.code yX10_barred cX10_barred 7 (some .int), Cond.constantLong RX10 80 (2), Cond.fieldLink RX10 50 "LivingNumbersModel" "sheetSize" "[I", Cond.fieldLink RX10 53 "LivingNumbersModel" "sheetLane" "[I", Cond.methodLink RX10 72 yX10_noSheet, Cond.static yX10_noSheet, Cond.code yX10_noSheet cX10_noSheet 1 (some .boolean), Cond.constantLong RX10 194 (3), Cond.methodLink RX10 86 yX10_failed]
def wsX10_rowBarred_r2 : List Cond := [Cond.instanceMethod yX10_failed, Cond.selects RX10 yX10_failed yX10_failed, Cond.code yX10_failed cX10_failed 2 (some .int), Cond.methodLink RX10 89 yX10_isBeyond, Cond.static yX10_isBeyond, Cond.code yX10_isBeyond cX10_isBeyond 4 (some .boolean), Cond.methodLink RX10 157 yX10_arePeople, Cond.instanceMethod yX10_arePeople, Cond.selects RX10 yX10_arePeople yX10_arePeople, Cond.code yX10_arePeople cX10_arePeople 5 (some .boolean), Cond.fieldLink RX10 56 "LivingNumbersModel" "sheet" "[I", Cond.methodLink RX10 127 yX10_noOne, Cond.instanceMethod yX10_noOne, Cond.selects RX10 yX10_noOne yX10_noOne, Cond.code yX10_noOne cX10_noOne 2 (some .boolean), Cond.fieldLink RX10 93 "LivingNumbersModel" "people" "I"]
def wsX10_rowBarred : List Cond := .code yX10_rowBarred cX10_rowBarred 8 (some .int) :: ((wsX10_rowBarred_r1 ++ wsX10_rowBarred_r2) ++ wsX100)
def wsX10_means_r1 : List Cond := [Cond.methodLink RX10 133 yX10_isDay, Cond.static yX10_isDay, Cond.initialized RX10, Cond.code yX10_isDay cX10_isDay 1 (some .boolean), Cond.constantLong RX10 96 (109), Cond.methodLink RX10 82 yX10_in, Cond.static yX10_in, Cond.code yX10_in cX10_in 6 (some .boolean), Cond.methodLink RX10 160 yX10_rowBarred, Cond.instanceMethod yX10_rowBarred, Cond.selects RX10 yX10_rowBarred yX10_rowBarred, Cond.code yX10_rowBarred cX10_rowBarred 8 (some .int), Cond.methodLink RX10 130 yX10_noVillage, Cond.static yX10_noVillage, Cond.code yX10_noVillage cX10_noVillage 1 (some .boolean), Cond.methodLink RX10 76 yX10_refused, Cond.instanceMethod yX10_refused, Cond.selects RX10 yX10_refused yX10_refused, Cond.code yX10_refused cX10_refused 2 (some .int), Cond.fieldLink RX10 64 "LivingNumbersModel" "fault" "I", Cond.methodLink RX10 120 yX10_barred, Cond.instanceMethod yX10_barred, Cond.selects RX10 yX10_barred yX10_barred, Cond.code yX10_barred cX10_barred 7 (some .int)]
def wsX10_means_r2 : List Cond := [Cond.constantLong RX10 80 (2), Cond.fieldLink RX10 50 "LivingNumbersModel" "sheetSize" "[I", Cond.fieldLink RX10 53 "LivingNumbersModel" "sheetLane" "[I", Cond.methodLink RX10 72 yX10_noSheet, Cond.static yX10_noSheet, Cond.code yX10_noSheet cX10_noSheet 1 (some .boolean), Cond.constantLong RX10 194 (3), Cond.methodLink RX10 86 yX10_failed, Cond.instanceMethod yX10_failed, Cond.selects RX10 yX10_failed yX10_failed, Cond.code yX10_failed cX10_failed 2 (some .int), Cond.methodLink RX10 89 yX10_isBeyond, Cond.static yX10_isBeyond, Cond.code yX10_isBeyond cX10_isBeyond 4 (some .boolean), Cond.methodLink RX10 157 yX10_arePeople, Cond.instanceMethod yX10_arePeople, Cond.selects RX10 yX10_arePeople yX10_arePeople, Cond.code yX10_arePeople cX10_arePeople 5 (some .boolean), Cond.fieldLink RX10 56 "LivingNumbersModel" "sheet" "[I", Cond.methodLink RX10 127 yX10_noOne, Cond.instanceMethod yX10_noOne, Cond.selects RX10 yX10_noOne yX10_noOne, Cond.code yX10_noOne cX10_noOne 2 (some .boolean), Cond.fieldLink RX10 93 "LivingNumbersModel" "people" "I"]
def wsX10_means_r3 : List Cond := [Cond.methodLink RX10 164 yX10_meant, Cond.instanceMethod yX10_meant, Cond.selects RX10 yX10_meant yX10_meant, Cond.code yX10_meant cX10_meant 7 (some .int), Cond.fieldLink RX10 16 "LivingNumbersModel" "numberOf" "[I", Cond.methodLink RX10 136 yX10_doesLive, Cond.instanceMethod yX10_doesLive, Cond.selects RX10 yX10_doesLive yX10_doesLive, Cond.code yX10_doesLive cX10_doesLive 5 (some .boolean), Cond.fieldLink RX10 22 "LivingNumbersModel" "tillOf" "[I", Cond.fieldLink RX10 7 "LivingNumbersModel" "kindOf" "[I", Cond.fieldLink RX10 13 "LivingNumbersModel" "villageOf" "[I", Cond.fieldLink RX10 19 "LivingNumbersModel" "fromOf" "[I"]
def wsX10_means : List Cond := .code yX10_means cX10_means 8 (some .int) :: ((wsX10_means_r1 ++ (wsX10_means_r2 ++ wsX10_means_r3)) ++ wsX100)
def wsX10_say_r1 : List Cond := [Cond.constantLong RX10 167 (999), Cond.fieldLink RX10 44 "LivingNumbersModel" "fewest" "[I", Cond.fieldLink RX10 40 "LivingNumbersModel" "can" "[Z", Cond.methodLink RX10 130 yX10_noVillage, Cond.static yX10_noVillage, Cond.initialized RX10, Cond.code yX10_noVillage cX10_noVillage 1 (some .boolean), Cond.methodLink RX10 82 yX10_in, Cond.static yX10_in, Cond.code yX10_in cX10_in 6 (some .boolean), Cond.methodLink RX10 133 yX10_isDay, Cond.static yX10_isDay, Cond.code yX10_isDay cX10_isDay 1 (some .boolean), Cond.constantLong RX10 96 (109), Cond.methodLink RX10 169 yX10_laySaid, Cond.instanceMethod yX10_laySaid, Cond.selects RX10 yX10_laySaid yX10_laySaid, Cond.code yX10_laySaid cX10_laySaid 4 none, Cond.methodLink RX10 149 yX10_layCan, Cond.instanceMethod yX10_layCan, Cond.selects RX10 yX10_layCan yX10_layCan, Cond.code yX10_layCan cX10_layCan 5 none, Cond.fieldLink RX10 93 "LivingNumbersModel" "people" "I", Cond.fieldLink RX10 16 "LivingNumbersModel" "numberOf" "[I"]
def wsX10_say_r2 : List Cond := [Cond.methodLink RX10 136 yX10_doesLive, Cond.instanceMethod yX10_doesLive, Cond.selects RX10 yX10_doesLive yX10_doesLive, Cond.code yX10_doesLive cX10_doesLive 5 (some .boolean), Cond.fieldLink RX10 22 "LivingNumbersModel" "tillOf" "[I", Cond.fieldLink RX10 7 "LivingNumbersModel" "kindOf" "[I", Cond.fieldLink RX10 13 "LivingNumbersModel" "villageOf" "[I", Cond.fieldLink RX10 19 "LivingNumbersModel" "fromOf" "[I", Cond.methodLink RX10 153 yX10_layFewest, Cond.instanceMethod yX10_layFewest, Cond.selects RX10 yX10_layFewest yX10_layFewest, Cond.code yX10_layFewest cX10_layFewest 4 none, Cond.methodLink RX10 145 yX10_lesser, Cond.static yX10_lesser, Cond.code yX10_lesser cX10_lesser 2 (some .int)]
def wsX10_say : List Cond := .code yX10_say cX10_say 9 (some .int) :: ((wsX10_say_r1 ++ wsX10_say_r2) ++ wsX100)
def wsX10_turned_r1 : List Cond := [Cond.constantLong RX10 167 (999), Cond.fieldLink RX10 44 "LivingNumbersModel" "fewest" "[I", Cond.methodLink RX10 133 yX10_isDay, Cond.static yX10_isDay, Cond.initialized RX10, Cond.code yX10_isDay cX10_isDay 1 (some .boolean), Cond.constantLong RX10 96 (109), Cond.methodLink RX10 82 yX10_in, Cond.static yX10_in, Cond.code yX10_in cX10_in 6 (some .boolean), Cond.methodLink RX10 160 yX10_rowBarred, Cond.instanceMethod yX10_rowBarred, Cond.selects RX10 yX10_rowBarred yX10_rowBarred, Cond.code yX10_rowBarred cX10_rowBarred 8 (some .int), Cond.methodLink RX10 130 yX10_noVillage, Cond.static yX10_noVillage, Cond.code yX10_noVillage cX10_noVillage 1 (some .boolean), Cond.methodLink RX10 76 yX10_refused, Cond.instanceMethod yX10_refused, Cond.selects RX10 yX10_refused yX10_refused, Cond.code yX10_refused cX10_refused 2 (some .int), Cond.fieldLink RX10 64 "LivingNumbersModel" "fault" "I", Cond.methodLink RX10 120 yX10_barred, Cond.instanceMethod yX10_barred]
def wsX10_turned_r2 : List Cond := [Cond.selects RX10 yX10_barred yX10_barred, Cond.code yX10_barred cX10_barred 7 (some .int), Cond.constantLong RX10 80 (2), Cond.fieldLink RX10 50 "LivingNumbersModel" "sheetSize" "[I", Cond.fieldLink RX10 53 "LivingNumbersModel" "sheetLane" "[I", Cond.methodLink RX10 72 yX10_noSheet, Cond.static yX10_noSheet, Cond.code yX10_noSheet cX10_noSheet 1 (some .boolean), Cond.constantLong RX10 194 (3), Cond.methodLink RX10 86 yX10_failed, Cond.instanceMethod yX10_failed, Cond.selects RX10 yX10_failed yX10_failed, Cond.code yX10_failed cX10_failed 2 (some .int), Cond.methodLink RX10 89 yX10_isBeyond, Cond.static yX10_isBeyond, Cond.code yX10_isBeyond cX10_isBeyond 4 (some .boolean), Cond.methodLink RX10 157 yX10_arePeople, Cond.instanceMethod yX10_arePeople, Cond.selects RX10 yX10_arePeople yX10_arePeople, Cond.code yX10_arePeople cX10_arePeople 5 (some .boolean), Cond.fieldLink RX10 56 "LivingNumbersModel" "sheet" "[I", Cond.methodLink RX10 127 yX10_noOne, Cond.instanceMethod yX10_noOne, Cond.selects RX10 yX10_noOne yX10_noOne]
def wsX10_turned_r3 : List Cond := [Cond.code yX10_noOne cX10_noOne 2 (some .boolean), Cond.fieldLink RX10 93 "LivingNumbersModel" "people" "I", Cond.methodLink RX10 164 yX10_meant, Cond.instanceMethod yX10_meant, Cond.selects RX10 yX10_meant yX10_meant, Cond.code yX10_meant cX10_meant 7 (some .int), Cond.fieldLink RX10 16 "LivingNumbersModel" "numberOf" "[I", Cond.methodLink RX10 136 yX10_doesLive, Cond.instanceMethod yX10_doesLive, Cond.selects RX10 yX10_doesLive yX10_doesLive, Cond.code yX10_doesLive cX10_doesLive 5 (some .boolean), Cond.fieldLink RX10 22 "LivingNumbersModel" "tillOf" "[I", Cond.fieldLink RX10 7 "LivingNumbersModel" "kindOf" "[I", Cond.fieldLink RX10 13 "LivingNumbersModel" "villageOf" "[I", Cond.fieldLink RX10 19 "LivingNumbersModel" "fromOf" "[I", Cond.methodLink RX10 169 yX10_laySaid, Cond.instanceMethod yX10_laySaid, Cond.selects RX10 yX10_laySaid yX10_laySaid, Cond.code yX10_laySaid cX10_laySaid 4 none, Cond.methodLink RX10 149 yX10_layCan, Cond.instanceMethod yX10_layCan, Cond.selects RX10 yX10_layCan yX10_layCan, Cond.code yX10_layCan cX10_layCan 5 none, Cond.fieldLink RX10 40 "LivingNumbersModel" "can" "[Z"]
def wsX10_turned_r4 : List Cond := [Cond.methodLink RX10 153 yX10_layFewest, Cond.instanceMethod yX10_layFewest, Cond.selects RX10 yX10_layFewest yX10_layFewest, Cond.code yX10_layFewest cX10_layFewest 4 none, Cond.methodLink RX10 145 yX10_lesser, Cond.static yX10_lesser, Cond.code yX10_lesser cX10_lesser 2 (some .int)]
def wsX10_turned : List Cond := .code yX10_turned cX10_turned 10 (some .int) :: ((wsX10_turned_r1 ++ (wsX10_turned_r2 ++ (wsX10_turned_r3 ++ wsX10_turned_r4))) ++ wsX100)
def wsX10_child_r1 : List Cond := [Cond.fieldLink RX10 56 "LivingNumbersModel" "sheet" "[I", Cond.constantLong RX10 167 (999), Cond.fieldLink RX10 40 "LivingNumbersModel" "can" "[Z", Cond.fieldLink RX10 44 "LivingNumbersModel" "fewest" "[I", Cond.methodLink RX10 130 yX10_noVillage, Cond.static yX10_noVillage, Cond.initialized RX10, Cond.code yX10_noVillage cX10_noVillage 1 (some .boolean), Cond.methodLink RX10 82 yX10_in, Cond.static yX10_in, Cond.code yX10_in cX10_in 6 (some .boolean), Cond.methodLink RX10 76 yX10_refused, Cond.instanceMethod yX10_refused, Cond.selects RX10 yX10_refused yX10_refused, Cond.code yX10_refused cX10_refused 2 (some .int), Cond.fieldLink RX10 64 "LivingNumbersModel" "fault" "I", Cond.methodLink RX10 133 yX10_isDay, Cond.static yX10_isDay, Cond.code yX10_isDay cX10_isDay 1 (some .boolean), Cond.constantLong RX10 96 (109), Cond.methodLink RX10 172 yX10_isFew, Cond.static yX10_isFew, Cond.code yX10_isFew cX10_isFew 1 (some .boolean), Cond.constantLong RX10 98 (9)]
def wsX10_child_r2 : List Cond := [Cond.methodLink RX10 120 yX10_barred, Cond.instanceMethod yX10_barred, Cond.selects RX10 yX10_barred yX10_barred, Cond.code yX10_barred cX10_barred 7 (some .int), Cond.constantLong RX10 80 (2), Cond.fieldLink RX10 50 "LivingNumbersModel" "sheetSize" "[I", Cond.fieldLink RX10 53 "LivingNumbersModel" "sheetLane" "[I", Cond.methodLink RX10 72 yX10_noSheet, Cond.static yX10_noSheet, Cond.code yX10_noSheet cX10_noSheet 1 (some .boolean), Cond.constantLong RX10 194 (3), Cond.methodLink RX10 86 yX10_failed, Cond.instanceMethod yX10_failed, Cond.selects RX10 yX10_failed yX10_failed, Cond.code yX10_failed cX10_failed 2 (some .int), Cond.methodLink RX10 89 yX10_isBeyond, Cond.static yX10_isBeyond, Cond.code yX10_isBeyond cX10_isBeyond 4 (some .boolean), Cond.methodLink RX10 149 yX10_layCan, Cond.instanceMethod yX10_layCan, Cond.selects RX10 yX10_layCan yX10_layCan, Cond.code yX10_layCan cX10_layCan 5 none, Cond.fieldLink RX10 93 "LivingNumbersModel" "people" "I", Cond.fieldLink RX10 16 "LivingNumbersModel" "numberOf" "[I"]
def wsX10_child_r3 : List Cond := [Cond.methodLink RX10 136 yX10_doesLive, Cond.instanceMethod yX10_doesLive, Cond.selects RX10 yX10_doesLive yX10_doesLive, Cond.code yX10_doesLive cX10_doesLive 5 (some .boolean), Cond.fieldLink RX10 22 "LivingNumbersModel" "tillOf" "[I", Cond.fieldLink RX10 7 "LivingNumbersModel" "kindOf" "[I", Cond.fieldLink RX10 13 "LivingNumbersModel" "villageOf" "[I", Cond.fieldLink RX10 19 "LivingNumbersModel" "fromOf" "[I", Cond.methodLink RX10 153 yX10_layFewest, Cond.instanceMethod yX10_layFewest, Cond.selects RX10 yX10_layFewest yX10_layFewest, Cond.code yX10_layFewest cX10_layFewest 4 none, Cond.methodLink RX10 145 yX10_lesser, Cond.static yX10_lesser, Cond.code yX10_lesser cX10_lesser 2 (some .int)]
def wsX10_child : List Cond := .code yX10_child cX10_child 16 (some .int) :: ((wsX10_child_r1 ++ (wsX10_child_r2 ++ wsX10_child_r3)) ++ wsX100)
def wsX10_both_r1 : List Cond := [Cond.constantLong RX10 167 (999), Cond.fieldLink RX10 47 "LivingNumbersModel" "first" "[Z", Cond.fieldLink RX10 44 "LivingNumbersModel" "fewest" "[I", Cond.methodLink RX10 82 yX10_in, Cond.static yX10_in, Cond.initialized RX10, Cond.code yX10_in cX10_in 6 (some .boolean), Cond.methodLink RX10 172 yX10_isFew, Cond.static yX10_isFew, Cond.code yX10_isFew cX10_isFew 1 (some .boolean), Cond.constantLong RX10 98 (9), Cond.methodLink RX10 133 yX10_isDay, Cond.static yX10_isDay, Cond.code yX10_isDay cX10_isDay 1 (some .boolean), Cond.constantLong RX10 96 (109), Cond.methodLink RX10 169 yX10_laySaid, Cond.instanceMethod yX10_laySaid, Cond.selects RX10 yX10_laySaid yX10_laySaid, Cond.code yX10_laySaid cX10_laySaid 4 none, Cond.methodLink RX10 149 yX10_layCan, Cond.instanceMethod yX10_layCan, Cond.selects RX10 yX10_layCan yX10_layCan, Cond.code yX10_layCan cX10_layCan 5 none, Cond.fieldLink RX10 40 "LivingNumbersModel" "can" "[Z"]
def wsX10_both_r2 : List Cond := [Cond.fieldLink RX10 93 "LivingNumbersModel" "people" "I", Cond.fieldLink RX10 16 "LivingNumbersModel" "numberOf" "[I", Cond.methodLink RX10 136 yX10_doesLive, Cond.instanceMethod yX10_doesLive, Cond.selects RX10 yX10_doesLive yX10_doesLive, Cond.code yX10_doesLive cX10_doesLive 5 (some .boolean), Cond.fieldLink RX10 22 "LivingNumbersModel" "tillOf" "[I", Cond.fieldLink RX10 7 "LivingNumbersModel" "kindOf" "[I", Cond.fieldLink RX10 13 "LivingNumbersModel" "villageOf" "[I", Cond.fieldLink RX10 19 "LivingNumbersModel" "fromOf" "[I", Cond.methodLink RX10 153 yX10_layFewest, Cond.instanceMethod yX10_layFewest, Cond.selects RX10 yX10_layFewest yX10_layFewest, Cond.code yX10_layFewest cX10_layFewest 4 none, Cond.methodLink RX10 145 yX10_lesser, Cond.static yX10_lesser, Cond.code yX10_lesser cX10_lesser 2 (some .int)]
def wsX10_both : List Cond := .code yX10_both cX10_both 5 (some .int) :: ((wsX10_both_r1 ++ wsX10_both_r2) ++ wsX100)
def wsX10_written_r1 : List Cond := [Cond.constantLong RX10 80 (2), Cond.methodLink RX10 82 yX10_in, Cond.static yX10_in, Cond.initialized RX10, Cond.code yX10_in cX10_in 6 (some .boolean), Cond.methodLink RX10 160 yX10_rowBarred, Cond.instanceMethod yX10_rowBarred, Cond.selects RX10 yX10_rowBarred yX10_rowBarred, Cond.code yX10_rowBarred cX10_rowBarred 8 (some .int), Cond.methodLink RX10 130 yX10_noVillage, Cond.static yX10_noVillage, Cond.code yX10_noVillage cX10_noVillage 1 (some .boolean), Cond.methodLink RX10 76 yX10_refused, Cond.instanceMethod yX10_refused, Cond.selects RX10 yX10_refused yX10_refused, Cond.code yX10_refused cX10_refused 2 (some .int), Cond.fieldLink RX10 64 "LivingNumbersModel" "fault" "I", Cond.methodLink RX10 120 yX10_barred, Cond.instanceMethod yX10_barred, Cond.selects RX10 yX10_barred yX10_barred, Cond.code yX10_barred cX10_barred 7 (some .int), Cond.fieldLink RX10 50 "LivingNumbersModel" "sheetSize" "[I", Cond.fieldLink RX10 53 "LivingNumbersModel" "sheetLane" "[I", Cond.methodLink RX10 72 yX10_noSheet]
def wsX10_written_r2 : List Cond := [Cond.static yX10_noSheet, Cond.code yX10_noSheet cX10_noSheet 1 (some .boolean), Cond.constantLong RX10 194 (3), Cond.methodLink RX10 86 yX10_failed, Cond.instanceMethod yX10_failed, Cond.selects RX10 yX10_failed yX10_failed, Cond.code yX10_failed cX10_failed 2 (some .int), Cond.methodLink RX10 89 yX10_isBeyond, Cond.static yX10_isBeyond, Cond.code yX10_isBeyond cX10_isBeyond 4 (some .boolean), Cond.methodLink RX10 157 yX10_arePeople, Cond.instanceMethod yX10_arePeople, Cond.selects RX10 yX10_arePeople yX10_arePeople, Cond.code yX10_arePeople cX10_arePeople 5 (some .boolean), Cond.fieldLink RX10 56 "LivingNumbersModel" "sheet" "[I", Cond.methodLink RX10 127 yX10_noOne, Cond.instanceMethod yX10_noOne, Cond.selects RX10 yX10_noOne yX10_noOne, Cond.code yX10_noOne cX10_noOne 2 (some .boolean), Cond.fieldLink RX10 93 "LivingNumbersModel" "people" "I", Cond.methodLink RX10 164 yX10_meant, Cond.instanceMethod yX10_meant, Cond.selects RX10 yX10_meant yX10_meant, Cond.code yX10_meant cX10_meant 7 (some .int)]
def wsX10_written_r3 : List Cond := [Cond.fieldLink RX10 16 "LivingNumbersModel" "numberOf" "[I", Cond.methodLink RX10 136 yX10_doesLive, Cond.instanceMethod yX10_doesLive, Cond.selects RX10 yX10_doesLive yX10_doesLive, Cond.code yX10_doesLive cX10_doesLive 5 (some .boolean), Cond.fieldLink RX10 22 "LivingNumbersModel" "tillOf" "[I", Cond.fieldLink RX10 7 "LivingNumbersModel" "kindOf" "[I", Cond.fieldLink RX10 13 "LivingNumbersModel" "villageOf" "[I", Cond.fieldLink RX10 19 "LivingNumbersModel" "fromOf" "[I"]
def wsX10_written : List Cond := .code yX10_written cX10_written 12 (some .int) :: ((wsX10_written_r1 ++ (wsX10_written_r2 ++ wsX10_written_r3)) ++ wsX100)
def wsX10_saidOf : List Cond := .code yX10_saidOf cX10_saidOf 4 (some .int) :: ([.fieldLink RX10 44 "LivingNumbersModel" "fewest" "[I"] ++ wsX100)
def wsX10_lost_r1 : List Cond := [Cond.methodLink RX10 127 yX10_noOne, Cond.instanceMethod yX10_noOne, Cond.selects RX10 yX10_noOne yX10_noOne, Cond.initialized RX10, Cond.code yX10_noOne cX10_noOne 2 (some .boolean), Cond.fieldLink RX10 93 "LivingNumbersModel" "people" "I", Cond.methodLink RX10 82 yX10_in, Cond.static yX10_in, Cond.code yX10_in cX10_in 6 (some .boolean), Cond.methodLink RX10 130 yX10_noVillage, Cond.static yX10_noVillage, Cond.code yX10_noVillage cX10_noVillage 1 (some .boolean), Cond.methodLink RX10 133 yX10_isDay, Cond.static yX10_isDay, Cond.code yX10_isDay cX10_isDay 1 (some .boolean), Cond.constantLong RX10 96 (109), Cond.methodLink RX10 172 yX10_isFew, Cond.static yX10_isFew, Cond.code yX10_isFew cX10_isFew 1 (some .boolean), Cond.constantLong RX10 98 (9), Cond.methodLink RX10 169 yX10_laySaid, Cond.instanceMethod yX10_laySaid, Cond.selects RX10 yX10_laySaid yX10_laySaid, Cond.code yX10_laySaid cX10_laySaid 4 none]
def wsX10_lost_r2 : List Cond := [Cond.methodLink RX10 149 yX10_layCan, Cond.instanceMethod yX10_layCan, Cond.selects RX10 yX10_layCan yX10_layCan, Cond.code yX10_layCan cX10_layCan 5 none, Cond.fieldLink RX10 40 "LivingNumbersModel" "can" "[Z", Cond.fieldLink RX10 16 "LivingNumbersModel" "numberOf" "[I", Cond.methodLink RX10 136 yX10_doesLive, Cond.instanceMethod yX10_doesLive, Cond.selects RX10 yX10_doesLive yX10_doesLive, Cond.code yX10_doesLive cX10_doesLive 5 (some .boolean), Cond.fieldLink RX10 22 "LivingNumbersModel" "tillOf" "[I", Cond.fieldLink RX10 7 "LivingNumbersModel" "kindOf" "[I", Cond.fieldLink RX10 13 "LivingNumbersModel" "villageOf" "[I", Cond.fieldLink RX10 19 "LivingNumbersModel" "fromOf" "[I", Cond.methodLink RX10 153 yX10_layFewest, Cond.instanceMethod yX10_layFewest, Cond.selects RX10 yX10_layFewest yX10_layFewest, Cond.code yX10_layFewest cX10_layFewest 4 none, Cond.fieldLink RX10 44 "LivingNumbersModel" "fewest" "[I", Cond.methodLink RX10 145 yX10_lesser, Cond.static yX10_lesser, Cond.code yX10_lesser cX10_lesser 2 (some .int), Cond.methodLink RX10 175 yX10_saidOf, Cond.instanceMethod yX10_saidOf]
def wsX10_lost_r3 : List Cond := [Cond.selects RX10 yX10_saidOf yX10_saidOf, Cond.code yX10_saidOf cX10_saidOf 4 (some .int)]
def wsX10_lost : List Cond := .code yX10_lost cX10_lost 6 (some .int) :: ((wsX10_lost_r1 ++ (wsX10_lost_r2 ++ wsX10_lost_r3)) ++ wsX100)
def wsX10_isSaidBy : List Cond := .code yX10_isSaidBy cX10_isSaidBy 7 (some .boolean) :: ([.fieldLink RX10 93 "LivingNumbersModel" "people" "I", .fieldLink RX10 40 "LivingNumbersModel" "can" "[Z", .fieldLink RX10 16 "LivingNumbersModel" "numberOf" "[I", .fieldLink RX10 44 "LivingNumbersModel" "fewest" "[I", .methodLink RX10 149 yX10_layCan, .instanceMethod yX10_layCan, .selects RX10 yX10_layCan yX10_layCan, .initialized RX10, .code yX10_layCan cX10_layCan 5 none, .methodLink RX10 136 yX10_doesLive, .instanceMethod yX10_doesLive, .selects RX10 yX10_doesLive yX10_doesLive, .code yX10_doesLive cX10_doesLive 5 (some .boolean), .fieldLink RX10 22 "LivingNumbersModel" "tillOf" "[I", .fieldLink RX10 7 "LivingNumbersModel" "kindOf" "[I", .fieldLink RX10 13 "LivingNumbersModel" "villageOf" "[I", .fieldLink RX10 19 "LivingNumbersModel" "fromOf" "[I", .methodLink RX10 153 yX10_layFewest, .instanceMethod yX10_layFewest, .selects RX10 yX10_layFewest yX10_layFewest, .code yX10_layFewest cX10_layFewest 4 none, .methodLink RX10 145 yX10_lesser, .static yX10_lesser, .code yX10_lesser cX10_lesser 2 (some .int)] ++ wsX100)
def wsX10_setOf : List Cond := .code yX10_setOf cX10_setOf 10 (some .int) :: ([.fieldLink RX10 93 "LivingNumbersModel" "people" "I", .methodLink RX10 136 yX10_doesLive, .instanceMethod yX10_doesLive, .selects RX10 yX10_doesLive yX10_doesLive, .initialized RX10, .code yX10_doesLive cX10_doesLive 5 (some .boolean), .fieldLink RX10 22 "LivingNumbersModel" "tillOf" "[I", .fieldLink RX10 7 "LivingNumbersModel" "kindOf" "[I", .fieldLink RX10 13 "LivingNumbersModel" "villageOf" "[I", .fieldLink RX10 19 "LivingNumbersModel" "fromOf" "[I"] ++ wsX100)
def wsX10_bits : List Cond := .code yX10_bits cX10_bits 3 (some .int) :: ([])
def wsX10_back_r1 : List Cond := [Cond.constantLong RX10 178 (-1), Cond.constantLong RX10 80 (2), Cond.constantLong RX10 167 (999), Cond.methodLink RX10 130 yX10_noVillage, Cond.static yX10_noVillage, Cond.initialized RX10, Cond.code yX10_noVillage cX10_noVillage 1 (some .boolean), Cond.methodLink RX10 82 yX10_in, Cond.static yX10_in, Cond.code yX10_in cX10_in 6 (some .boolean), Cond.methodLink RX10 133 yX10_isDay, Cond.static yX10_isDay, Cond.code yX10_isDay cX10_isDay 1 (some .boolean), Cond.constantLong RX10 96 (109), Cond.methodLink RX10 172 yX10_isFew, Cond.static yX10_isFew, Cond.code yX10_isFew cX10_isFew 1 (some .boolean), Cond.constantLong RX10 98 (9), Cond.methodLink RX10 180 yX10_setOf, Cond.instanceMethod yX10_setOf, Cond.selects RX10 yX10_setOf yX10_setOf, Cond.code yX10_setOf cX10_setOf 10 (some .int), Cond.fieldLink RX10 93 "LivingNumbersModel" "people" "I", Cond.methodLink RX10 136 yX10_doesLive]
def wsX10_back_r2 : List Cond := [Cond.instanceMethod yX10_doesLive, Cond.selects RX10 yX10_doesLive yX10_doesLive, Cond.code yX10_doesLive cX10_doesLive 5 (some .boolean), Cond.fieldLink RX10 22 "LivingNumbersModel" "tillOf" "[I", Cond.fieldLink RX10 7 "LivingNumbersModel" "kindOf" "[I", Cond.fieldLink RX10 13 "LivingNumbersModel" "villageOf" "[I", Cond.fieldLink RX10 19 "LivingNumbersModel" "fromOf" "[I", Cond.methodLink RX10 183 yX10_bits, Cond.static yX10_bits, Cond.code yX10_bits cX10_bits 3 (some .int), Cond.methodLink RX10 186 yX10_isSaidBy, Cond.instanceMethod yX10_isSaidBy, Cond.selects RX10 yX10_isSaidBy yX10_isSaidBy, Cond.code yX10_isSaidBy cX10_isSaidBy 7 (some .boolean), Cond.fieldLink RX10 40 "LivingNumbersModel" "can" "[Z", Cond.fieldLink RX10 16 "LivingNumbersModel" "numberOf" "[I", Cond.fieldLink RX10 44 "LivingNumbersModel" "fewest" "[I", Cond.methodLink RX10 149 yX10_layCan, Cond.instanceMethod yX10_layCan, Cond.selects RX10 yX10_layCan yX10_layCan, Cond.code yX10_layCan cX10_layCan 5 none, Cond.methodLink RX10 153 yX10_layFewest, Cond.instanceMethod yX10_layFewest, Cond.selects RX10 yX10_layFewest yX10_layFewest]
def wsX10_back_r3 : List Cond := [Cond.code yX10_layFewest cX10_layFewest 4 none, Cond.methodLink RX10 145 yX10_lesser, Cond.static yX10_lesser, Cond.code yX10_lesser cX10_lesser 2 (some .int)]
def wsX10_back : List Cond := .code yX10_back cX10_back 10 (some .int) :: ((wsX10_back_r1 ++ (wsX10_back_r2 ++ wsX10_back_r3)) ++ wsX100)
def wsX10_told_r1 : List Cond := [Cond.constantLong RX10 140 (99), Cond.methodLink RX10 130 yX10_noVillage, Cond.static yX10_noVillage, Cond.initialized RX10, Cond.code yX10_noVillage cX10_noVillage 1 (some .boolean), Cond.methodLink RX10 82 yX10_in, Cond.static yX10_in, Cond.code yX10_in cX10_in 6 (some .boolean), Cond.methodLink RX10 133 yX10_isDay, Cond.static yX10_isDay, Cond.code yX10_isDay cX10_isDay 1 (some .boolean), Cond.constantLong RX10 96 (109), Cond.methodLink RX10 172 yX10_isFew, Cond.static yX10_isFew, Cond.code yX10_isFew cX10_isFew 1 (some .boolean), Cond.constantLong RX10 98 (9), Cond.methodLink RX10 68 yX10_nothing, Cond.static yX10_nothing, Cond.code yX10_nothing cX10_nothing 0 (some .long), Cond.constantLong RX10 62 (-9223372036854775808), Cond.methodLink RX10 169 yX10_laySaid, Cond.instanceMethod yX10_laySaid, Cond.selects RX10 yX10_laySaid yX10_laySaid, Cond.code yX10_laySaid cX10_laySaid 4 none]
def wsX10_told_r2 : List Cond := [Cond.methodLink RX10 149 yX10_layCan, Cond.instanceMethod yX10_layCan, Cond.selects RX10 yX10_layCan yX10_layCan, Cond.code yX10_layCan cX10_layCan 5 none, Cond.fieldLink RX10 40 "LivingNumbersModel" "can" "[Z", Cond.fieldLink RX10 93 "LivingNumbersModel" "people" "I", Cond.fieldLink RX10 16 "LivingNumbersModel" "numberOf" "[I", Cond.methodLink RX10 136 yX10_doesLive, Cond.instanceMethod yX10_doesLive, Cond.selects RX10 yX10_doesLive yX10_doesLive, Cond.code yX10_doesLive cX10_doesLive 5 (some .boolean), Cond.fieldLink RX10 22 "LivingNumbersModel" "tillOf" "[I", Cond.fieldLink RX10 7 "LivingNumbersModel" "kindOf" "[I", Cond.fieldLink RX10 13 "LivingNumbersModel" "villageOf" "[I", Cond.fieldLink RX10 19 "LivingNumbersModel" "fromOf" "[I", Cond.methodLink RX10 153 yX10_layFewest, Cond.instanceMethod yX10_layFewest, Cond.selects RX10 yX10_layFewest yX10_layFewest, Cond.code yX10_layFewest cX10_layFewest 4 none, Cond.fieldLink RX10 44 "LivingNumbersModel" "fewest" "[I", Cond.methodLink RX10 145 yX10_lesser, Cond.static yX10_lesser, Cond.code yX10_lesser cX10_lesser 2 (some .int), Cond.methodLink RX10 175 yX10_saidOf]
def wsX10_told_r3 : List Cond := [Cond.instanceMethod yX10_saidOf, Cond.selects RX10 yX10_saidOf yX10_saidOf, Cond.code yX10_saidOf cX10_saidOf 4 (some .int), Cond.methodLink RX10 190 yX10_shared, Cond.static yX10_shared, Cond.code yX10_shared cX10_shared 11 (some .long)]
def wsX10_told : List Cond := .code yX10_told cX10_told 5 (some .long) :: ((wsX10_told_r1 ++ (wsX10_told_r2 ++ wsX10_told_r3)) ++ wsX100)
def wsX10_sheet : List Cond := .code yX10_sheet cX10_sheet 5 (some .int) :: ([.constantLong RX10 80 (2), .fieldLink RX10 50 "LivingNumbersModel" "sheetSize" "[I", .fieldLink RX10 53 "LivingNumbersModel" "sheetLane" "[I", .fieldLink RX10 56 "LivingNumbersModel" "sheet" "[I", .methodLink RX10 72 yX10_noSheet, .static yX10_noSheet, .initialized RX10, .code yX10_noSheet cX10_noSheet 1 (some .boolean), .constantLong RX10 194 (3), .methodLink RX10 82 yX10_in, .static yX10_in, .code yX10_in cX10_in 6 (some .boolean), .methodLink RX10 76 yX10_refused, .instanceMethod yX10_refused, .selects RX10 yX10_refused yX10_refused, .code yX10_refused cX10_refused 2 (some .int), .fieldLink RX10 64 "LivingNumbersModel" "fault" "I", .methodLink RX10 86 yX10_failed, .instanceMethod yX10_failed, .selects RX10 yX10_failed yX10_failed, .code yX10_failed cX10_failed 2 (some .int)] ++ wsX100)
def wsX10_lose : List Cond := .code yX10_lose cX10_lose 3 (some .int) :: ([.fieldLink RX10 50 "LivingNumbersModel" "sheetSize" "[I", .methodLink RX10 72 yX10_noSheet, .static yX10_noSheet, .initialized RX10, .code yX10_noSheet cX10_noSheet 1 (some .boolean), .constantLong RX10 194 (3), .methodLink RX10 82 yX10_in, .static yX10_in, .code yX10_in cX10_in 6 (some .boolean)] ++ wsX100)
def wsX10_noCell : List Cond := .code yX10_noCell cX10_noCell 3 (some .int) :: ([.fieldLink RX10 50 "LivingNumbersModel" "sheetSize" "[I", .methodLink RX10 82 yX10_in, .static yX10_in, .initialized RX10, .code yX10_in cX10_in 6 (some .boolean)] ++ wsX100)
def wsX10_put : List Cond := .code yX10_put cX10_put 4 (some .int) :: ([.fieldLink RX10 56 "LivingNumbersModel" "sheet" "[I", .fieldLink RX10 53 "LivingNumbersModel" "sheetLane" "[I", .methodLink RX10 72 yX10_noSheet, .static yX10_noSheet, .initialized RX10, .code yX10_noSheet cX10_noSheet 1 (some .boolean), .constantLong RX10 194 (3), .methodLink RX10 82 yX10_in, .static yX10_in, .code yX10_in cX10_in 6 (some .boolean), .methodLink RX10 76 yX10_refused, .instanceMethod yX10_refused, .selects RX10 yX10_refused yX10_refused, .code yX10_refused cX10_refused 2 (some .int), .fieldLink RX10 64 "LivingNumbersModel" "fault" "I", .methodLink RX10 196 yX10_noCell, .instanceMethod yX10_noCell, .selects RX10 yX10_noCell yX10_noCell, .code yX10_noCell cX10_noCell 3 (some .int), .fieldLink RX10 50 "LivingNumbersModel" "sheetSize" "[I", .methodLink RX10 86 yX10_failed, .instanceMethod yX10_failed, .selects RX10 yX10_failed yX10_failed, .code yX10_failed cX10_failed 2 (some .int)] ++ wsX100)
def wsX10_cell_r1 : List Cond := [Cond.fieldLink RX10 64 "LivingNumbersModel" "fault" "I", Cond.constantLong RX10 80 (2), Cond.fieldLink RX10 50 "LivingNumbersModel" "sheetSize" "[I", Cond.fieldLink RX10 53 "LivingNumbersModel" "sheetLane" "[I", Cond.fieldLink RX10 56 "LivingNumbersModel" "sheet" "[I", Cond.methodLink RX10 72 yX10_noSheet, Cond.static yX10_noSheet, Cond.initialized RX10, Cond.code yX10_noSheet cX10_noSheet 1 (some .boolean), Cond.constantLong RX10 194 (3), Cond.methodLink RX10 82 yX10_in, Cond.static yX10_in, Cond.code yX10_in cX10_in 6 (some .boolean), Cond.methodLink RX10 68 yX10_nothing, Cond.static yX10_nothing, Cond.code yX10_nothing cX10_nothing 0 (some .long), Cond.constantLong RX10 62 (-9223372036854775808), Cond.methodLink RX10 199 yX10_failedLong, Cond.instanceMethod yX10_failedLong, Cond.selects RX10 yX10_failedLong yX10_failedLong, Cond.code yX10_failedLong cX10_failedLong 2 (some .long), Cond.methodLink RX10 196 yX10_noCell, Cond.instanceMethod yX10_noCell, Cond.selects RX10 yX10_noCell yX10_noCell]
def wsX10_cell_r2 : List Cond := [Cond.code yX10_noCell cX10_noCell 3 (some .int)]
def wsX10_cell : List Cond := .code yX10_cell cX10_cell 4 (some .long) :: ((wsX10_cell_r1 ++ wsX10_cell_r2) ++ wsX100)
def wsX10_copy : List Cond := .code yX10_copy cX10_copy 7 (some .int) :: ([.fieldLink RX10 50 "LivingNumbersModel" "sheetSize" "[I", .fieldLink RX10 53 "LivingNumbersModel" "sheetLane" "[I", .fieldLink RX10 59 "LivingNumbersModel" "hands" "[I", .fieldLink RX10 56 "LivingNumbersModel" "sheet" "[I", .methodLink RX10 72 yX10_noSheet, .static yX10_noSheet, .initialized RX10, .code yX10_noSheet cX10_noSheet 1 (some .boolean), .constantLong RX10 194 (3), .methodLink RX10 82 yX10_in, .static yX10_in, .code yX10_in cX10_in 6 (some .boolean), .methodLink RX10 76 yX10_refused, .instanceMethod yX10_refused, .selects RX10 yX10_refused yX10_refused, .code yX10_refused cX10_refused 2 (some .int), .fieldLink RX10 64 "LivingNumbersModel" "fault" "I", .methodLink RX10 86 yX10_failed, .instanceMethod yX10_failed, .selects RX10 yX10_failed yX10_failed, .code yX10_failed cX10_failed 2 (some .int), .methodLink RX10 89 yX10_isBeyond, .static yX10_isBeyond, .code yX10_isBeyond cX10_isBeyond 4 (some .boolean)] ++ wsX100)
def wsX10_traced : List Cond := .code yX10_traced cX10_traced 2 none :: ([.fieldLink RX10 203 "LivingNumbersModel" "traceNow" "I"] ++ wsX100)
def wsX10_tell : List Cond := .code yX10_tell cX10_tell 4 (some .int) :: ([.fieldLink RX10 7 "LivingNumbersModel" "kindOf" "[I", .fieldLink RX10 16 "LivingNumbersModel" "numberOf" "[I", .methodLink RX10 127 yX10_noOne, .instanceMethod yX10_noOne, .selects RX10 yX10_noOne yX10_noOne, .initialized RX10, .code yX10_noOne cX10_noOne 2 (some .boolean), .fieldLink RX10 93 "LivingNumbersModel" "people" "I", .methodLink RX10 82 yX10_in, .static yX10_in, .code yX10_in cX10_in 6 (some .boolean), .methodLink RX10 206 yX10_traced, .instanceMethod yX10_traced, .selects RX10 yX10_traced yX10_traced, .code yX10_traced cX10_traced 2 none, .fieldLink RX10 203 "LivingNumbersModel" "traceNow" "I"] ++ wsX100)
def wsX10_mourn : List Cond := .code yX10_mourn cX10_mourn 2 (some .int) :: ([.fieldLink RX10 7 "LivingNumbersModel" "kindOf" "[I", .methodLink RX10 127 yX10_noOne, .instanceMethod yX10_noOne, .selects RX10 yX10_noOne yX10_noOne, .initialized RX10, .code yX10_noOne cX10_noOne 2 (some .boolean), .fieldLink RX10 93 "LivingNumbersModel" "people" "I", .methodLink RX10 82 yX10_in, .static yX10_in, .code yX10_in cX10_in 6 (some .boolean), .methodLink RX10 206 yX10_traced, .instanceMethod yX10_traced, .selects RX10 yX10_traced yX10_traced, .code yX10_traced cX10_traced 2 none, .fieldLink RX10 203 "LivingNumbersModel" "traceNow" "I"] ++ wsX100)
def wsX10_as : List Cond := .code yX10_as cX10_as 3 (some .int) :: ([.constantLong RX10 80 (2), .fieldLink RX10 7 "LivingNumbersModel" "kindOf" "[I", .methodLink RX10 127 yX10_noOne, .instanceMethod yX10_noOne, .selects RX10 yX10_noOne yX10_noOne, .initialized RX10, .code yX10_noOne cX10_noOne 2 (some .boolean), .fieldLink RX10 93 "LivingNumbersModel" "people" "I", .methodLink RX10 82 yX10_in, .static yX10_in, .code yX10_in cX10_in 6 (some .boolean), .methodLink RX10 76 yX10_refused, .instanceMethod yX10_refused, .selects RX10 yX10_refused yX10_refused, .code yX10_refused cX10_refused 2 (some .int), .fieldLink RX10 64 "LivingNumbersModel" "fault" "I", .methodLink RX10 86 yX10_failed, .instanceMethod yX10_failed, .selects RX10 yX10_failed yX10_failed, .code yX10_failed cX10_failed 2 (some .int)] ++ wsX100)
def wsX10_trace : List Cond := .code yX10_trace cX10_trace 1 (some .int) :: ([.fieldLink RX10 203 "LivingNumbersModel" "traceNow" "I"] ++ wsX100)
def wsX10_fault : List Cond := .code yX10_fault cX10_fault 1 (some .int) :: ([.fieldLink RX10 64 "LivingNumbersModel" "fault" "I"] ++ wsX100)
def wsX10_many : List Cond := .code yX10_many cX10_many 1 (some .int) :: ([.fieldLink RX10 93 "LivingNumbersModel" "people" "I"] ++ wsX100)
def wsJ9_min_7cf53 : List Cond := .code yJ9_min_7cf53 cJ9_min_7cf53 2 (some .int) :: ([])
abbrev vwCl : List vw_C := [(RX0, TX0, 1), (RX1, TX1, 4), (RX2, TX2, 4), (RX3, TX3, 4), (RX4, TX4, 2), (RX5, TX5, 2), (RX6, TX6, 2), (RX7, TX7, 3), (RX8, TX8, 1), (RX9, TX9, 9), (RX10, TX10, 22)]
end
section
set_option maxRecDepth 20000 in
theorem ggX0_within_X0_of : GoodIn wsX0_within wsX0_of := goodIn_r _ [5, 6, 7, 8] (by decide +kernel) (by decide +kernel)
set_option maxRecDepth 20000 in
theorem gX0_within_X0_of : GoodIn wsX0_within (wsV RX0 22 RX0 yX0_of wsX0_of) := goodIn_app (goodIn_of _ (by decide +kernel)) ggX0_within_X0_of
set_option maxRecDepth 20000 in
theorem ggX0_withinBy_X0_isReached : GoodIn wsX0_withinBy wsX0_isReached := goodIn_r _ [8, 9, 10, 11, 7, 12, 13, 14, 15, 16, 17, 18, 5, 6, 19] (by decide +kernel) (by decide +kernel)
set_option maxRecDepth 20000 in
theorem gX0_withinBy_X0_isReached : GoodIn wsX0_withinBy (va_wsS RX0 26 yX0_isReached wsX0_isReached) := goodIn_app (goodIn_of _ (by decide +kernel)) ggX0_withinBy_X0_isReached
set_option maxRecDepth 20000 in
theorem ggX0_isReached_X0_within : GoodIn wsX0_isReached wsX0_within := goodIn_r _ [5, 6, 7, 8, 4, 9, 10, 11, 14] (by decide +kernel) (by decide +kernel)
set_option maxRecDepth 20000 in
theorem gX0_isReached_X0_within : GoodIn wsX0_isReached (wsV RX0 30 RX0 yX0_within wsX0_within) := goodIn_app (goodIn_of _ (by decide +kernel)) ggX0_isReached_X0_within
set_option maxRecDepth 20000 in
theorem ggX0_isReached_X0_isReached : GoodIn wsX0_isReached wsX0_isReached := goodIn_r _ [0, 1, 2, 3, 4, 5, 6, 7, 8, 9, 10, 11, 12, 13, 14] (by decide +kernel) (by decide +kernel)
set_option maxRecDepth 20000 in
theorem gX0_isReached_X0_isReached : GoodIn wsX0_isReached (va_wsS RX0 26 yX0_isReached wsX0_isReached) := goodIn_app (goodIn_of _ (by decide +kernel)) ggX0_isReached_X0_isReached
set_option maxRecDepth 20000 in
theorem ggX1_init_X2_init : GoodIn wsX1_init wsX2_init := goodIn_r _ [4, 5, 6, 7, 8, 9, 10, 11, 12, 13, 14, 15, 16, 17, 18, 19, 20, 21, 22, 23, 24, 25, 26, 27] (by decide +kernel) (by decide +kernel)
set_option maxRecDepth 20000 in
theorem gX1_init_X2_init : GoodIn wsX1_init (wsX2_init) := ggX1_init_X2_init
set_option maxRecDepth 20000 in
theorem ggX1_telling_X8_leave : GoodIn wsX1_telling wsX8_leave := goodIn_r _ [5, 6, 26] (by decide +kernel) (by decide +kernel)
set_option maxRecDepth 20000 in
theorem gX1_telling_X8_leave : GoodIn wsX1_telling (wsV RX1 7 RX8 yX8_leave wsX8_leave) := goodIn_app (goodIn_of _ (by decide +kernel)) ggX1_telling_X8_leave
set_option maxRecDepth 20000 in
theorem ggX1_telling_X2_telling : GoodIn wsX1_telling wsX2_telling := goodIn_r _ [12, 13, 2, 3, 4, 5, 6, 14, 15, 16, 17, 18, 19, 20, 21, 22, 26, 27, 28, 29, 30, 31, 32, 33, 34, 35, 36, 37, 38] (by decide +kernel) (by decide +kernel)
set_option maxRecDepth 20000 in
theorem gX1_telling_X2_telling_s13 : GoodIn wsX1_telling (va_wsSU RX1 13 yX2_telling wsX2_telling) := goodIn_app (goodIn_of _ (by decide +kernel)) ggX1_telling_X2_telling
set_option maxRecDepth 20000 in
theorem ggX1_telling_X3_namedTelling : GoodIn wsX1_telling wsX3_namedTelling := goodIn_r _ [19, 20, 21, 2, 3, 4, 5, 6, 27, 28, 29, 30, 31, 32, 33, 34, 35, 36, 37, 38, 26] (by decide +kernel) (by decide +kernel)
set_option maxRecDepth 20000 in
theorem gX1_telling_X3_namedTelling_u17X1 : GoodIn wsX1_telling (va_wsU RX1 17 RX1 "LivingNumbers$Named" ⟨"LivingNumbers$Foreign", "namedTelling", "(LLivingNumbers$Trace;)I"⟩ yX3_namedTelling wsX3_namedTelling) := goodIn_app (goodIn_of _ (by decide +kernel)) ggX1_telling_X3_namedTelling
set_option maxRecDepth 20000 in
theorem ggX1_mourning_X8_leave : GoodIn wsX1_mourning wsX8_leave := goodIn_r _ [5, 6, 7] (by decide +kernel) (by decide +kernel)
set_option maxRecDepth 20000 in
theorem gX1_mourning_X8_leave : GoodIn wsX1_mourning (wsV RX1 7 RX8 yX8_leave wsX8_leave) := goodIn_app (goodIn_of _ (by decide +kernel)) ggX1_mourning_X8_leave
set_option maxRecDepth 20000 in
theorem ggX2_init_X3_init : GoodIn wsX2_init wsX3_init := goodIn_r _ [4, 5, 6, 7, 8, 9, 10, 11, 12, 13, 14, 15, 16, 17, 18, 19, 20, 21, 22, 23] (by decide +kernel) (by decide +kernel)
set_option maxRecDepth 20000 in
theorem gX2_init_X3_init : GoodIn wsX2_init (wsX3_init) := ggX2_init_X3_init
set_option maxRecDepth 20000 in
theorem ggX2_telling_X8_leave : GoodIn wsX2_telling wsX8_leave := goodIn_r _ [5, 6, 16] (by decide +kernel) (by decide +kernel)
set_option maxRecDepth 20000 in
theorem gX2_telling_X8_leave : GoodIn wsX2_telling (wsV RX2 7 RX8 yX8_leave wsX8_leave) := goodIn_app (goodIn_of _ (by decide +kernel)) ggX2_telling_X8_leave
set_option maxRecDepth 20000 in
theorem ggX2_telling_X3_namedTelling : GoodIn wsX2_telling wsX3_namedTelling := goodIn_r _ [12, 13, 14, 2, 3, 4, 5, 6, 17, 18, 19, 20, 21, 22, 23, 24, 25, 26, 27, 28, 16] (by decide +kernel) (by decide +kernel)
set_option maxRecDepth 20000 in
theorem gX2_telling_X3_namedTelling_u13X1 : GoodIn wsX2_telling (va_wsU RX2 13 RX1 "LivingNumbers$Named" ⟨"LivingNumbers$Lent", "namedTelling", "(LLivingNumbers$Trace;)I"⟩ yX3_namedTelling wsX3_namedTelling) := goodIn_app (goodIn_of _ (by decide +kernel)) ggX2_telling_X3_namedTelling
set_option maxRecDepth 20000 in
theorem gX2_telling_X3_namedTelling_u13X2 : GoodIn wsX2_telling (va_wsU RX2 13 RX2 "LivingNumbers$Named" ⟨"LivingNumbers$Lent", "namedTelling", "(LLivingNumbers$Trace;)I"⟩ yX3_namedTelling wsX3_namedTelling) := goodIn_app (goodIn_of _ (by decide +kernel)) ggX2_telling_X3_namedTelling
set_option maxRecDepth 20000 in
theorem ggX3_part_X1_kind : GoodIn wsX3_part wsX1_kind := goodIn_r _ [11] (by decide +kernel) (by decide +kernel)
set_option maxRecDepth 20000 in
theorem gX3_part_X1_kind_u22X1 : GoodIn wsX3_part (va_wsO RX3 22 RX1 "LivingNumbers$Named" ⟨"LivingNumbers$Named", "kind", "()I"⟩ yX1_kind wsX1_kind) := goodIn_app (goodIn_of _ (by decide +kernel)) ggX3_part_X1_kind
set_option maxRecDepth 20000 in
theorem ggX3_part_X2_kind : GoodIn wsX3_part wsX2_kind := goodIn_r _ [16] (by decide +kernel) (by decide +kernel)
set_option maxRecDepth 20000 in
theorem gX3_part_X2_kind_u22X2 : GoodIn wsX3_part (va_wsO RX3 22 RX2 "LivingNumbers$Named" ⟨"LivingNumbers$Named", "kind", "()I"⟩ yX2_kind wsX2_kind) := goodIn_app (goodIn_of _ (by decide +kernel)) ggX3_part_X2_kind
set_option maxRecDepth 20000 in
theorem ggX3_part_X3_kind : GoodIn wsX3_part wsX3_kind := goodIn_r _ [12] (by decide +kernel) (by decide +kernel)
set_option maxRecDepth 20000 in
theorem gX3_part_X3_kind : GoodIn wsX3_part (wsV RX3 22 RX3 yX3_kind wsX3_kind) := goodIn_app (goodIn_of _ (by decide +kernel)) ggX3_part_X3_kind
set_option maxRecDepth 20000 in
theorem ggX3_isHeard_X1_isKnown : GoodIn wsX3_isHeard wsX1_isKnown := goodIn_r _ [9] (by decide +kernel) (by decide +kernel)
set_option maxRecDepth 20000 in
theorem gX3_isHeard_X1_isKnown_u26X1 : GoodIn wsX3_isHeard (va_wsO RX3 26 RX1 "LivingNumbers$Named" ⟨"LivingNumbers$Named", "isKnown", "(I)Z"⟩ yX1_isKnown wsX1_isKnown) := goodIn_app (goodIn_of _ (by decide +kernel)) ggX3_isHeard_X1_isKnown
set_option maxRecDepth 20000 in
theorem ggX3_isHeard_X3_isKnown : GoodIn wsX3_isHeard wsX3_isKnown := goodIn_r _ [10, 14, 29, 30, 31, 32, 33, 34, 35, 36, 37, 38, 39, 40] (by decide +kernel) (by decide +kernel)
set_option maxRecDepth 20000 in
theorem gX3_isHeard_X3_isKnown_u26X2 : GoodIn wsX3_isHeard (va_wsU RX3 26 RX2 "LivingNumbers$Named" ⟨"LivingNumbers$Named", "isKnown", "(I)Z"⟩ yX3_isKnown wsX3_isKnown) := goodIn_app (goodIn_of _ (by decide +kernel)) ggX3_isHeard_X3_isKnown
set_option maxRecDepth 20000 in
theorem gX3_isHeard_X3_isKnown : GoodIn wsX3_isHeard (wsV RX3 26 RX3 yX3_isKnown wsX3_isKnown) := goodIn_app (goodIn_of _ (by decide +kernel)) ggX3_isHeard_X3_isKnown
set_option maxRecDepth 20000 in
theorem ggX3_isHeard_X2_longer : GoodIn wsX3_isHeard wsX2_longer := goodIn_r _ [23] (by decide +kernel) (by decide +kernel)
set_option maxRecDepth 20000 in
theorem gX3_isHeard_X2_longer_u30X1 : GoodIn wsX3_isHeard (va_wsO RX3 30 RX1 "LivingNumbers$Named" ⟨"LivingNumbers$Named", "longer", "()I"⟩ yX2_longer wsX2_longer) := goodIn_app (goodIn_of _ (by decide +kernel)) ggX3_isHeard_X2_longer
set_option maxRecDepth 20000 in
theorem gX3_isHeard_X2_longer_u30X2 : GoodIn wsX3_isHeard (va_wsO RX3 30 RX2 "LivingNumbers$Named" ⟨"LivingNumbers$Named", "longer", "()I"⟩ yX2_longer wsX2_longer) := goodIn_app (goodIn_of _ (by decide +kernel)) ggX3_isHeard_X2_longer
set_option maxRecDepth 20000 in
theorem ggX3_isHeard_X3_longer : GoodIn wsX3_isHeard wsX3_longer := goodIn_r _ [24] (by decide +kernel) (by decide +kernel)
set_option maxRecDepth 20000 in
theorem gX3_isHeard_X3_longer : GoodIn wsX3_isHeard (wsV RX3 30 RX3 yX3_longer wsX3_longer) := goodIn_app (goodIn_of _ (by decide +kernel)) ggX3_isHeard_X3_longer
set_option maxRecDepth 20000 in
theorem ggX3_telling_X3_namedTelling : GoodIn wsX3_telling wsX3_namedTelling := goodIn_r _ [6, 7, 8, 9, 10, 11, 12, 13, 17, 18, 19, 20, 21, 22, 23, 24, 25, 26, 27, 28, 29] (by decide +kernel) (by decide +kernel)
set_option maxRecDepth 20000 in
theorem gX3_telling_X3_namedTelling_u33X1 : GoodIn wsX3_telling (va_wsU RX3 33 RX1 "LivingNumbers$Named" ⟨"LivingNumbers$Named", "namedTelling", "(LLivingNumbers$Trace;)I"⟩ yX3_namedTelling wsX3_namedTelling) := goodIn_app (goodIn_of _ (by decide +kernel)) ggX3_telling_X3_namedTelling
set_option maxRecDepth 20000 in
theorem gX3_telling_X3_namedTelling_u33X2 : GoodIn wsX3_telling (va_wsU RX3 33 RX2 "LivingNumbers$Named" ⟨"LivingNumbers$Named", "namedTelling", "(LLivingNumbers$Trace;)I"⟩ yX3_namedTelling wsX3_namedTelling) := goodIn_app (goodIn_of _ (by decide +kernel)) ggX3_telling_X3_namedTelling
set_option maxRecDepth 20000 in
theorem gX3_telling_X3_namedTelling : GoodIn wsX3_telling (wsV RX3 33 RX3 yX3_namedTelling wsX3_namedTelling) := goodIn_app (goodIn_of _ (by decide +kernel)) ggX3_telling_X3_namedTelling
set_option maxRecDepth 20000 in
theorem ggX3_namedTelling_X8_leave : GoodIn wsX3_namedTelling wsX8_leave := goodIn_r _ [6, 7, 20] (by decide +kernel) (by decide +kernel)
set_option maxRecDepth 20000 in
theorem gX3_namedTelling_X8_leave : GoodIn wsX3_namedTelling (wsV RX3 37 RX8 yX8_leave wsX8_leave) := goodIn_app (goodIn_of _ (by decide +kernel)) ggX3_namedTelling_X8_leave
set_option maxRecDepth 20000 in
theorem ggX3_mourning_X8_leave : GoodIn wsX3_mourning wsX8_leave := goodIn_r _ [5, 6, 7] (by decide +kernel) (by decide +kernel)
set_option maxRecDepth 20000 in
theorem gX3_mourning_X8_leave : GoodIn wsX3_mourning (wsV RX3 37 RX8 yX8_leave wsX8_leave) := goodIn_app (goodIn_of _ (by decide +kernel)) ggX3_mourning_X8_leave
set_option maxRecDepth 20000 in
theorem ggX4_takeFrom_X6_people : GoodIn wsX4_takeFrom wsX6_people := goodIn_r _ [11, 12, 59, 60] (by decide +kernel) (by decide +kernel)
set_option maxRecDepth 20000 in
theorem gX4_takeFrom_X6_people : GoodIn wsX4_takeFrom (wsV RX4 21 RX6 yX6_people wsX6_people) := goodIn_app (goodIn_of _ (by decide +kernel)) ggX4_takeFrom_X6_people
set_option maxRecDepth 20000 in
theorem ggX4_takeFrom_X6_one : GoodIn wsX4_takeFrom wsX6_one := goodIn_r _ [16, 17, 18, 19, 20, 21, 22, 23, 24, 25, 26, 27, 28, 10, 29, 30, 31, 32, 33, 12, 34, 35, 36, 37, 38, 39, 40, 41, 42, 43, 44, 45, 46, 47, 48, 49, 50, 51, 52, 53, 54, 55, 56, 61, 62, 63, 64, 65, 66, 67, 68, 69, 70, 71, 72, 59, 60] (by decide +kernel) (by decide +kernel)
set_option maxRecDepth 20000 in
theorem gX4_takeFrom_X6_one : GoodIn wsX4_takeFrom (wsV RX4 33 RX6 yX6_one wsX6_one) := goodIn_app (goodIn_of _ (by decide +kernel)) ggX4_takeFrom_X6_one
set_option maxRecDepth 20000 in
theorem ggX4_bearer_X4_one : GoodIn wsX4_bearer wsX4_one := goodIn_r _ [6, 1, 7, 53, 54] (by decide +kernel) (by decide +kernel)
set_option maxRecDepth 20000 in
theorem gX4_bearer_X4_one : GoodIn wsX4_bearer (wsV RX4 37 RX4 yX4_one wsX4_one) := goodIn_app (goodIn_of _ (by decide +kernel)) ggX4_bearer_X4_one
set_option maxRecDepth 20000 in
theorem ggX4_bearer_X3_number : GoodIn wsX4_bearer wsX3_number := goodIn_r _ [13, 14, 55, 56, 57, 58, 59, 60, 61, 62, 63, 64, 65, 66] (by decide +kernel) (by decide +kernel)
set_option maxRecDepth 20000 in
theorem gX4_bearer_X3_number_u38X1 : GoodIn wsX4_bearer (va_wsU RX4 38 RX1 "LivingNumbers$Named" ⟨"LivingNumbers$Named", "number", "()I"⟩ yX3_number wsX3_number) := goodIn_app (goodIn_of _ (by decide +kernel)) ggX4_bearer_X3_number
set_option maxRecDepth 20000 in
theorem gX4_bearer_X3_number_u38X2 : GoodIn wsX4_bearer (va_wsU RX4 38 RX2 "LivingNumbers$Named" ⟨"LivingNumbers$Named", "number", "()I"⟩ yX3_number wsX3_number) := goodIn_app (goodIn_of _ (by decide +kernel)) ggX4_bearer_X3_number
set_option maxRecDepth 20000 in
theorem gX4_bearer_X3_number : GoodIn wsX4_bearer (wsV RX4 38 RX3 yX3_number wsX3_number) := goodIn_app (goodIn_of _ (by decide +kernel)) ggX4_bearer_X3_number
set_option maxRecDepth 20000 in
theorem ggX4_bearer_X3_isHeard : GoodIn wsX4_bearer wsX3_isHeard := goodIn_r _ [22, 23, 24, 25, 26, 27, 28, 29, 30, 31, 32, 33, 34, 12, 35, 36, 37, 38, 39, 40, 41, 42, 43, 44, 45, 46, 47, 48, 49, 55, 56, 57, 58, 59, 60, 61, 62, 63, 64, 65, 66] (by decide +kernel) (by decide +kernel)
set_option maxRecDepth 20000 in
theorem gX4_bearer_X3_isHeard_u41X1 : GoodIn wsX4_bearer (va_wsU RX4 41 RX1 "LivingNumbers$Named" ⟨"LivingNumbers$Named", "isHeard", "(II)Z"⟩ yX3_isHeard wsX3_isHeard) := goodIn_app (goodIn_of _ (by decide +kernel)) ggX4_bearer_X3_isHeard
set_option maxRecDepth 20000 in
theorem gX4_bearer_X3_isHeard_u41X2 : GoodIn wsX4_bearer (va_wsU RX4 41 RX2 "LivingNumbers$Named" ⟨"LivingNumbers$Named", "isHeard", "(II)Z"⟩ yX3_isHeard wsX3_isHeard) := goodIn_app (goodIn_of _ (by decide +kernel)) ggX4_bearer_X3_isHeard
set_option maxRecDepth 20000 in
theorem gX4_bearer_X3_isHeard : GoodIn wsX4_bearer (wsV RX4 41 RX3 yX3_isHeard wsX3_isHeard) := goodIn_app (goodIn_of _ (by decide +kernel)) ggX4_bearer_X3_isHeard
set_option maxRecDepth 20000 in
theorem ggX4_teach_X0_clear : GoodIn wsX4_teach wsX0_clear := goodIn_r _ [6, 7, 8, 70] (by decide +kernel) (by decide +kernel)
set_option maxRecDepth 20000 in
theorem gX4_teach_X0_clear : GoodIn wsX4_teach (wsV RX4 45 RX0 yX0_clear wsX0_clear) := goodIn_app (goodIn_of _ (by decide +kernel)) ggX4_teach_X0_clear
set_option maxRecDepth 20000 in
theorem ggX4_teach_X4_one : GoodIn wsX4_teach wsX4_one := goodIn_r _ [13, 1, 14, 68, 69] (by decide +kernel) (by decide +kernel)
set_option maxRecDepth 20000 in
theorem gX4_teach_X4_one : GoodIn wsX4_teach (wsV RX4 37 RX4 yX4_one wsX4_one) := goodIn_app (goodIn_of _ (by decide +kernel)) ggX4_teach_X4_one
set_option maxRecDepth 20000 in
theorem ggX4_teach_X3_isHeard : GoodIn wsX4_teach wsX3_isHeard := goodIn_r _ [20, 21, 22, 23, 24, 25, 26, 27, 28, 29, 30, 31, 32, 19, 33, 34, 35, 36, 37, 38, 39, 40, 41, 42, 43, 44, 45, 46, 47, 71, 72, 73, 74, 75, 76, 77, 78, 79, 80, 81, 82] (by decide +kernel) (by decide +kernel)
set_option maxRecDepth 20000 in
theorem gX4_teach_X3_isHeard_u41X1 : GoodIn wsX4_teach (va_wsU RX4 41 RX1 "LivingNumbers$Named" ⟨"LivingNumbers$Named", "isHeard", "(II)Z"⟩ yX3_isHeard wsX3_isHeard) := goodIn_app (goodIn_of _ (by decide +kernel)) ggX4_teach_X3_isHeard
set_option maxRecDepth 20000 in
theorem gX4_teach_X3_isHeard_u41X2 : GoodIn wsX4_teach (va_wsU RX4 41 RX2 "LivingNumbers$Named" ⟨"LivingNumbers$Named", "isHeard", "(II)Z"⟩ yX3_isHeard wsX3_isHeard) := goodIn_app (goodIn_of _ (by decide +kernel)) ggX4_teach_X3_isHeard
set_option maxRecDepth 20000 in
theorem gX4_teach_X3_isHeard : GoodIn wsX4_teach (wsV RX4 41 RX3 yX3_isHeard wsX3_isHeard) := goodIn_app (goodIn_of _ (by decide +kernel)) ggX4_teach_X3_isHeard
set_option maxRecDepth 20000 in
theorem ggX4_teach_X3_number : GoodIn wsX4_teach wsX3_number := goodIn_r _ [55, 56, 71, 72, 73, 74, 75, 76, 77, 78, 79, 80, 81, 82] (by decide +kernel) (by decide +kernel)
set_option maxRecDepth 20000 in
theorem gX4_teach_X3_number_u38X1 : GoodIn wsX4_teach (va_wsU RX4 38 RX1 "LivingNumbers$Named" ⟨"LivingNumbers$Named", "number", "()I"⟩ yX3_number wsX3_number) := goodIn_app (goodIn_of _ (by decide +kernel)) ggX4_teach_X3_number
set_option maxRecDepth 20000 in
theorem gX4_teach_X3_number_u38X2 : GoodIn wsX4_teach (va_wsU RX4 38 RX2 "LivingNumbers$Named" ⟨"LivingNumbers$Named", "number", "()I"⟩ yX3_number wsX3_number) := goodIn_app (goodIn_of _ (by decide +kernel)) ggX4_teach_X3_number
set_option maxRecDepth 20000 in
theorem gX4_teach_X3_number : GoodIn wsX4_teach (wsV RX4 38 RX3 yX3_number wsX3_number) := goodIn_app (goodIn_of _ (by decide +kernel)) ggX4_teach_X3_number
set_option maxRecDepth 20000 in
theorem ggX4_teach_X0_add : GoodIn wsX4_teach wsX0_add := goodIn_r _ [63, 7, 64, 65, 66, 67, 70] (by decide +kernel) (by decide +kernel)
set_option maxRecDepth 20000 in
theorem gX4_teach_X0_add : GoodIn wsX4_teach (wsV RX4 50 RX0 yX0_add wsX0_add) := goodIn_app (goodIn_of _ (by decide +kernel)) ggX4_teach_X0_add
set_option maxRecDepth 20000 in
theorem ggX4_greatestStep_X4_one : GoodIn wsX4_greatestStep wsX4_one := goodIn_r _ [6, 1, 7, 60, 61] (by decide +kernel) (by decide +kernel)
set_option maxRecDepth 20000 in
theorem gX4_greatestStep_X4_one : GoodIn wsX4_greatestStep (wsV RX4 37 RX4 yX4_one wsX4_one) := goodIn_app (goodIn_of _ (by decide +kernel)) ggX4_greatestStep_X4_one
set_option maxRecDepth 20000 in
theorem ggX4_greatestStep_X3_number : GoodIn wsX4_greatestStep wsX3_number := goodIn_r _ [13, 14, 62, 63, 64, 65, 66, 67, 68, 69, 70, 71, 72, 73] (by decide +kernel) (by decide +kernel)
set_option maxRecDepth 20000 in
theorem gX4_greatestStep_X3_number_u38X1 : GoodIn wsX4_greatestStep (va_wsU RX4 38 RX1 "LivingNumbers$Named" ⟨"LivingNumbers$Named", "number", "()I"⟩ yX3_number wsX3_number) := goodIn_app (goodIn_of _ (by decide +kernel)) ggX4_greatestStep_X3_number
set_option maxRecDepth 20000 in
theorem gX4_greatestStep_X3_number_u38X2 : GoodIn wsX4_greatestStep (va_wsU RX4 38 RX2 "LivingNumbers$Named" ⟨"LivingNumbers$Named", "number", "()I"⟩ yX3_number wsX3_number) := goodIn_app (goodIn_of _ (by decide +kernel)) ggX4_greatestStep_X3_number
set_option maxRecDepth 20000 in
theorem gX4_greatestStep_X3_number : GoodIn wsX4_greatestStep (wsV RX4 38 RX3 yX3_number wsX3_number) := goodIn_app (goodIn_of _ (by decide +kernel)) ggX4_greatestStep_X3_number
set_option maxRecDepth 20000 in
theorem ggX4_greatestStep_X3_isHeard : GoodIn wsX4_greatestStep wsX3_isHeard := goodIn_r _ [22, 23, 24, 25, 26, 27, 28, 29, 30, 31, 32, 33, 34, 12, 35, 36, 37, 38, 39, 40, 41, 42, 43, 44, 45, 46, 47, 48, 49, 62, 63, 64, 65, 66, 67, 68, 69, 70, 71, 72, 73] (by decide +kernel) (by decide +kernel)
set_option maxRecDepth 20000 in
theorem gX4_greatestStep_X3_isHeard_u41X1 : GoodIn wsX4_greatestStep (va_wsU RX4 41 RX1 "LivingNumbers$Named" ⟨"LivingNumbers$Named", "isHeard", "(II)Z"⟩ yX3_isHeard wsX3_isHeard) := goodIn_app (goodIn_of _ (by decide +kernel)) ggX4_greatestStep_X3_isHeard
set_option maxRecDepth 20000 in
theorem gX4_greatestStep_X3_isHeard_u41X2 : GoodIn wsX4_greatestStep (va_wsU RX4 41 RX2 "LivingNumbers$Named" ⟨"LivingNumbers$Named", "isHeard", "(II)Z"⟩ yX3_isHeard wsX3_isHeard) := goodIn_app (goodIn_of _ (by decide +kernel)) ggX4_greatestStep_X3_isHeard
set_option maxRecDepth 20000 in
theorem gX4_greatestStep_X3_isHeard : GoodIn wsX4_greatestStep (wsV RX4 41 RX3 yX3_isHeard wsX3_isHeard) := goodIn_app (goodIn_of _ (by decide +kernel)) ggX4_greatestStep_X3_isHeard
set_option maxRecDepth 20000 in
theorem ggX4_greatestStep_X0_of : GoodIn wsX4_greatestStep wsX0_of := goodIn_r _ [57, 58, 59, 74] (by decide +kernel) (by decide +kernel)
set_option maxRecDepth 20000 in
theorem gX4_greatestStep_X0_of : GoodIn wsX4_greatestStep (wsV RX4 54 RX0 yX0_of wsX0_of) := goodIn_app (goodIn_of _ (by decide +kernel)) ggX4_greatestStep_X0_of
set_option maxRecDepth 20000 in
theorem ggX5_search_X4_size : GoodIn wsX5_search wsX4_size := goodIn_r _ [6, 7, 62, 63] (by decide +kernel) (by decide +kernel)
set_option maxRecDepth 20000 in
theorem gX5_search_X4_size : GoodIn wsX5_search (wsV RX5 18 RX4 yX4_size wsX4_size) := goodIn_app (goodIn_of _ (by decide +kernel)) ggX5_search_X4_size
set_option maxRecDepth 20000 in
theorem ggX5_search_X5_chooseFrom : GoodIn wsX5_search wsX5_chooseFrom := goodIn_r _ [12, 13, 60, 61] (by decide +kernel) (by decide +kernel)
set_option maxRecDepth 20000 in
theorem gX5_search_X5_chooseFrom : GoodIn wsX5_search (wsV RX5 24 RX5 yX5_chooseFrom wsX5_chooseFrom) := goodIn_app (goodIn_of _ (by decide +kernel)) ggX5_search_X5_chooseFrom
set_option maxRecDepth 20000 in
theorem ggX5_search_X5_readNumbers : GoodIn wsX5_search wsX5_readNumbers := goodIn_r _ [17, 13, 1, 18, 19, 20, 5, 21, 7, 22, 23, 24, 25, 26, 27, 28, 29, 30, 31, 32, 60, 61, 62, 63, 64, 65, 66, 67, 68, 69, 70, 71, 72, 73, 74, 75] (by decide +kernel) (by decide +kernel)
set_option maxRecDepth 20000 in
theorem gX5_search_X5_readNumbers : GoodIn wsX5_search (wsV RX5 28 RX5 yX5_readNumbers wsX5_readNumbers) := goodIn_app (goodIn_of _ (by decide +kernel)) ggX5_search_X5_readNumbers
set_option maxRecDepth 20000 in
theorem ggX5_search_X0_withinBy : GoodIn wsX5_search wsX0_withinBy := goodIn_r _ [37, 38, 39, 40, 41, 42, 43, 36, 44, 45, 46, 47, 48, 49, 50, 51, 52, 53, 54, 76] (by decide +kernel) (by decide +kernel)
set_option maxRecDepth 20000 in
theorem gX5_search_X0_withinBy : GoodIn wsX5_search (wsV RX5 32 RX0 yX0_withinBy wsX0_withinBy) := goodIn_app (goodIn_of _ (by decide +kernel)) ggX5_search_X0_withinBy
set_option maxRecDepth 20000 in
theorem ggX5_search_X5_chooseNext : GoodIn wsX5_search wsX5_chooseNext := goodIn_r _ [58, 13, 59, 39, 40, 41, 8, 9, 10, 11, 12, 60, 61] (by decide +kernel) (by decide +kernel)
set_option maxRecDepth 20000 in
theorem gX5_search_X5_chooseNext : GoodIn wsX5_search (wsV RX5 38 RX5 yX5_chooseNext wsX5_chooseNext) := goodIn_app (goodIn_of _ (by decide +kernel)) ggX5_search_X5_chooseNext
set_option maxRecDepth 20000 in
theorem ggX5_chooseNext_X5_chooseFrom : GoodIn wsX5_chooseNext wsX5_chooseFrom := goodIn_r _ [10, 1, 11, 12] (by decide +kernel) (by decide +kernel)
set_option maxRecDepth 20000 in
theorem gX5_chooseNext_X5_chooseFrom : GoodIn wsX5_chooseNext (wsV RX5 24 RX5 yX5_chooseFrom wsX5_chooseFrom) := goodIn_app (goodIn_of _ (by decide +kernel)) ggX5_chooseNext_X5_chooseFrom
set_option maxRecDepth 20000 in
theorem ggX5_readNumbers_X4_one : GoodIn wsX5_readNumbers wsX4_one := goodIn_r _ [7, 8, 9, 22, 23] (by decide +kernel) (by decide +kernel)
set_option maxRecDepth 20000 in
theorem gX5_readNumbers_X4_one : GoodIn wsX5_readNumbers (wsV RX5 48 RX4 yX4_one wsX4_one) := goodIn_app (goodIn_of _ (by decide +kernel)) ggX5_readNumbers_X4_one
set_option maxRecDepth 20000 in
theorem ggX5_readNumbers_X3_number : GoodIn wsX5_readNumbers wsX3_number := goodIn_r _ [15, 16, 24, 25, 26, 27, 28, 29, 30, 31, 32, 33, 34, 35] (by decide +kernel) (by decide +kernel)
set_option maxRecDepth 20000 in
theorem gX5_readNumbers_X3_number_u52X1 : GoodIn wsX5_readNumbers (va_wsU RX5 52 RX1 "LivingNumbers$Named" ⟨"LivingNumbers$Named", "number", "()I"⟩ yX3_number wsX3_number) := goodIn_app (goodIn_of _ (by decide +kernel)) ggX5_readNumbers_X3_number
set_option maxRecDepth 20000 in
theorem gX5_readNumbers_X3_number_u52X2 : GoodIn wsX5_readNumbers (va_wsU RX5 52 RX2 "LivingNumbers$Named" ⟨"LivingNumbers$Named", "number", "()I"⟩ yX3_number wsX3_number) := goodIn_app (goodIn_of _ (by decide +kernel)) ggX5_readNumbers_X3_number
set_option maxRecDepth 20000 in
theorem gX5_readNumbers_X3_number : GoodIn wsX5_readNumbers (wsV RX5 52 RX3 yX3_number wsX3_number) := goodIn_app (goodIn_of _ (by decide +kernel)) ggX5_readNumbers_X3_number
set_option maxRecDepth 20000 in
theorem ggX6_read_X7_at : GoodIn wsX6_read wsX7_at := goodIn_r _ [11, 12, 13, 14, 15, 10, 16, 17, 18, 19, 20, 21, 24, 25, 26] (by decide +kernel) (by decide +kernel)
set_option maxRecDepth 20000 in
theorem gX6_read_X7_at : GoodIn wsX6_read (wsV RX6 25 RX7 yX7_at wsX7_at) := goodIn_app (goodIn_of _ (by decide +kernel)) ggX6_read_X7_at
set_option maxRecDepth 20000 in
theorem ggX6_firstFault_X6_goesOn : GoodIn wsX6_firstFault wsX6_goesOn := goodIn_r _ [6, 7, 8, 9, 5, 10, 1, 11, 12, 13, 14, 15, 16, 17, 18, 19, 20, 21, 22, 23, 28, 29] (by decide +kernel) (by decide +kernel)
set_option maxRecDepth 20000 in
theorem gX6_firstFault_X6_goesOn : GoodIn wsX6_firstFault (wsV RX6 30 RX6 yX6_goesOn wsX6_goesOn) := goodIn_app (goodIn_of _ (by decide +kernel)) ggX6_firstFault_X6_goesOn
set_option maxRecDepth 20000 in
theorem ggX6_firstFault_X6_isSecondDigit : GoodIn wsX6_firstFault wsX6_isSecondDigit := goodIn_r _ [27, 12, 13, 14, 5, 15, 7, 8, 9, 10, 1, 11, 28, 29] (by decide +kernel) (by decide +kernel)
set_option maxRecDepth 20000 in
theorem gX6_firstFault_X6_isSecondDigit : GoodIn wsX6_firstFault (wsV RX6 34 RX6 yX6_isSecondDigit wsX6_isSecondDigit) := goodIn_app (goodIn_of _ (by decide +kernel)) ggX6_firstFault_X6_isSecondDigit
set_option maxRecDepth 20000 in
theorem ggX6_one_X6_digit : GoodIn wsX6_one wsX6_digit := goodIn_r _ [14, 15, 16, 17, 13, 18, 19, 20, 55, 56] (by decide +kernel) (by decide +kernel)
set_option maxRecDepth 20000 in
theorem gX6_one_X6_digit : GoodIn wsX6_one (wsV RX6 37 RX6 yX6_digit wsX6_digit) := goodIn_app (goodIn_of _ (by decide +kernel)) ggX6_one_X6_digit
set_option maxRecDepth 20000 in
theorem ggX6_one_X6_pair : GoodIn wsX6_one wsX6_pair := goodIn_r _ [24, 10, 11, 12, 13, 14, 15, 16, 17, 18, 19, 20, 55, 56] (by decide +kernel) (by decide +kernel)
set_option maxRecDepth 20000 in
theorem gX6_one_X6_pair : GoodIn wsX6_one (wsV RX6 41 RX6 yX6_pair wsX6_pair) := goodIn_app (goodIn_of _ (by decide +kernel)) ggX6_one_X6_pair
set_option maxRecDepth 20000 in
theorem ggX6_one_X6_code : GoodIn wsX6_one wsX6_code := goodIn_r _ [18, 19, 20, 55, 56] (by decide +kernel) (by decide +kernel)
set_option maxRecDepth 20000 in
theorem gX6_one_X6_code : GoodIn wsX6_one (wsV RX6 44 RX6 yX6_code wsX6_code) := goodIn_app (goodIn_of _ (by decide +kernel)) ggX6_one_X6_code
set_option maxRecDepth 20000 in
theorem ggX6_one_X1_init : GoodIn wsX6_one wsX1_init := goodIn_r _ [27, 28, 29, 6, 30, 31, 32, 9, 33, 34, 35, 36, 37, 38, 39, 40, 43, 44, 45, 46, 47, 48, 49, 50, 51, 52, 53, 54] (by decide +kernel) (by decide +kernel)
set_option maxRecDepth 20000 in
theorem gX6_one_X1_init : GoodIn wsX6_one (wsX1_init) := ggX6_one_X1_init
set_option maxRecDepth 20000 in
theorem ggX6_one_X2_init : GoodIn wsX6_one wsX2_init := goodIn_r _ [30, 31, 32, 9, 33, 34, 35, 36, 37, 38, 39, 40, 43, 44, 45, 46, 47, 48, 49, 50, 51, 52, 53, 54] (by decide +kernel) (by decide +kernel)
set_option maxRecDepth 20000 in
theorem gX6_one_X2_init : GoodIn wsX6_one (wsX2_init) := ggX6_one_X2_init
set_option maxRecDepth 20000 in
theorem ggX6_one_X3_init : GoodIn wsX6_one wsX3_init := goodIn_r _ [33, 34, 35, 36, 37, 38, 39, 40, 43, 44, 45, 46, 47, 48, 49, 50, 51, 52, 53, 54] (by decide +kernel) (by decide +kernel)
set_option maxRecDepth 20000 in
theorem gX6_one_X3_init : GoodIn wsX6_one (wsX3_init) := ggX6_one_X3_init
set_option maxRecDepth 20000 in
theorem ggX6_digit_X6_code : GoodIn wsX6_digit wsX6_code := goodIn_r _ [5, 6, 7, 8, 9] (by decide +kernel) (by decide +kernel)
set_option maxRecDepth 20000 in
theorem gX6_digit_X6_code : GoodIn wsX6_digit (wsV RX6 44 RX6 yX6_code wsX6_code) := goodIn_app (goodIn_of _ (by decide +kernel)) ggX6_digit_X6_code
set_option maxRecDepth 20000 in
theorem ggX6_pair_X6_digit : GoodIn wsX6_pair wsX6_digit := goodIn_r _ [5, 6, 7, 8, 4, 9, 10, 11, 12, 13] (by decide +kernel) (by decide +kernel)
set_option maxRecDepth 20000 in
theorem gX6_pair_X6_digit : GoodIn wsX6_pair (wsV RX6 37 RX6 yX6_digit wsX6_digit) := goodIn_app (goodIn_of _ (by decide +kernel)) ggX6_pair_X6_digit
set_option maxRecDepth 20000 in
theorem ggX6_goesOn_X6_code : GoodIn wsX6_goesOn wsX6_code := goodIn_r _ [5, 6, 7, 20, 21] (by decide +kernel) (by decide +kernel)
set_option maxRecDepth 20000 in
theorem gX6_goesOn_X6_code : GoodIn wsX6_goesOn (wsV RX6 44 RX6 yX6_code wsX6_code) := goodIn_app (goodIn_of _ (by decide +kernel)) ggX6_goesOn_X6_code
set_option maxRecDepth 20000 in
theorem ggX6_goesOn_X6_digit : GoodIn wsX6_goesOn wsX6_digit := goodIn_r _ [11, 1, 2, 3, 4, 5, 6, 7, 20, 21] (by decide +kernel) (by decide +kernel)
set_option maxRecDepth 20000 in
theorem gX6_goesOn_X6_digit : GoodIn wsX6_goesOn (wsV RX6 37 RX6 yX6_digit wsX6_digit) := goodIn_app (goodIn_of _ (by decide +kernel)) ggX6_goesOn_X6_digit
set_option maxRecDepth 20000 in
theorem ggX6_goesOn_X6_isPairGoingOn : GoodIn wsX6_goesOn wsX6_isPairGoingOn := goodIn_r _ [15, 8, 9, 10, 4, 11, 1, 2, 3, 5, 6, 7, 16, 17, 18, 19, 20, 21] (by decide +kernel) (by decide +kernel)
set_option maxRecDepth 20000 in
theorem gX6_goesOn_X6_isPairGoingOn : GoodIn wsX6_goesOn (wsV RX6 58 RX6 yX6_isPairGoingOn wsX6_isPairGoingOn) := goodIn_app (goodIn_of _ (by decide +kernel)) ggX6_goesOn_X6_isPairGoingOn
set_option maxRecDepth 20000 in
theorem ggX6_isPairGoingOn_X6_digit : GoodIn wsX6_isPairGoingOn wsX6_digit := goodIn_r _ [5, 6, 7, 8, 4, 9, 10, 11, 16, 17] (by decide +kernel) (by decide +kernel)
set_option maxRecDepth 20000 in
theorem gX6_isPairGoingOn_X6_digit : GoodIn wsX6_isPairGoingOn (wsV RX6 37 RX6 yX6_digit wsX6_digit) := goodIn_app (goodIn_of _ (by decide +kernel)) ggX6_isPairGoingOn_X6_digit
set_option maxRecDepth 20000 in
theorem ggX6_isPairGoingOn_X6_pair : GoodIn wsX6_isPairGoingOn wsX6_pair := goodIn_r _ [15, 1, 2, 3, 4, 5, 6, 7, 8, 9, 10, 11, 16, 17] (by decide +kernel) (by decide +kernel)
set_option maxRecDepth 20000 in
theorem gX6_isPairGoingOn_X6_pair : GoodIn wsX6_isPairGoingOn (wsV RX6 41 RX6 yX6_pair wsX6_pair) := goodIn_app (goodIn_of _ (by decide +kernel)) ggX6_isPairGoingOn_X6_pair
set_option maxRecDepth 20000 in
theorem ggX6_isSecondDigit_X6_digit : GoodIn wsX6_isSecondDigit wsX6_digit := goodIn_r _ [5, 6, 7, 8, 4, 9, 10, 11, 12, 13] (by decide +kernel) (by decide +kernel)
set_option maxRecDepth 20000 in
theorem gX6_isSecondDigit_X6_digit : GoodIn wsX6_isSecondDigit (wsV RX6 37 RX6 yX6_digit wsX6_digit) := goodIn_app (goodIn_of _ (by decide +kernel)) ggX6_isSecondDigit_X6_digit
set_option maxRecDepth 20000 in
theorem ggX7_hasRow_X7_laneOf : GoodIn wsX7_hasRow wsX7_laneOf := goodIn_r _ [5, 6, 7, 8, 9] (by decide +kernel) (by decide +kernel)
set_option maxRecDepth 20000 in
theorem gX7_hasRow_X7_laneOf : GoodIn wsX7_hasRow (wsV RX7 21 RX7 yX7_laneOf wsX7_laneOf) := goodIn_app (goodIn_of _ (by decide +kernel)) ggX7_hasRow_X7_laneOf
set_option maxRecDepth 20000 in
theorem ggX7_hasCells_X7_sizeOf : GoodIn wsX7_hasCells wsX7_sizeOf := goodIn_r _ [5, 6, 7, 8, 9] (by decide +kernel) (by decide +kernel)
set_option maxRecDepth 20000 in
theorem gX7_hasCells_X7_sizeOf : GoodIn wsX7_hasCells (wsV RX7 25 RX7 yX7_sizeOf wsX7_sizeOf) := goodIn_app (goodIn_of _ (by decide +kernel)) ggX7_hasCells_X7_sizeOf
set_option maxRecDepth 20000 in
theorem ggX7_standOf_X7_sizeOf : GoodIn wsX7_standOf wsX7_sizeOf := goodIn_r _ [6, 7, 8, 9, 10] (by decide +kernel) (by decide +kernel)
set_option maxRecDepth 20000 in
theorem gX7_standOf_X7_sizeOf : GoodIn wsX7_standOf (wsV RX7 25 RX7 yX7_sizeOf wsX7_sizeOf) := goodIn_app (goodIn_of _ (by decide +kernel)) ggX7_standOf_X7_sizeOf
set_option maxRecDepth 20000 in
theorem ggX7_hasCell_X7_standOf : GoodIn wsX7_hasCell wsX7_standOf := goodIn_r _ [5, 6, 7, 8, 9, 4, 10, 11, 12, 13, 14] (by decide +kernel) (by decide +kernel)
set_option maxRecDepth 20000 in
theorem gX7_hasCell_X7_standOf : GoodIn wsX7_hasCell (wsV RX7 28 RX7 yX7_standOf wsX7_standOf) := goodIn_app (goodIn_of _ (by decide +kernel)) ggX7_hasCell_X7_standOf
set_option maxRecDepth 20000 in
theorem ggX7_at_X7_standOf : GoodIn wsX7_at wsX7_standOf := goodIn_r _ [6, 1, 7, 8, 9, 5, 10, 11, 12, 13, 14] (by decide +kernel) (by decide +kernel)
set_option maxRecDepth 20000 in
theorem gX7_at_X7_standOf : GoodIn wsX7_at (wsV RX7 28 RX7 yX7_standOf wsX7_standOf) := goodIn_app (goodIn_of _ (by decide +kernel)) ggX7_at_X7_standOf
set_option maxRecDepth 20000 in
theorem ggX7_set_X7_standOf : GoodIn wsX7_set wsX7_standOf := goodIn_r _ [6, 1, 7, 8, 9, 5, 10, 11, 20, 21, 22] (by decide +kernel) (by decide +kernel)
set_option maxRecDepth 20000 in
theorem gX7_set_X7_standOf : GoodIn wsX7_set (wsV RX7 28 RX7 yX7_standOf wsX7_standOf) := goodIn_app (goodIn_of _ (by decide +kernel)) ggX7_set_X7_standOf
set_option maxRecDepth 20000 in
theorem ggX7_set_X7_laneOf : GoodIn wsX7_set wsX7_laneOf := goodIn_r _ [15, 16, 20, 21, 22] (by decide +kernel) (by decide +kernel)
set_option maxRecDepth 20000 in
theorem gX7_set_X7_laneOf : GoodIn wsX7_set (wsV RX7 21 RX7 yX7_laneOf wsX7_laneOf) := goodIn_app (goodIn_of _ (by decide +kernel)) ggX7_set_X7_laneOf
set_option maxRecDepth 20000 in
theorem ggX7_set_X7_cut : GoodIn wsX7_set wsX7_cut := goodIn_r _ [19] (by decide +kernel) (by decide +kernel)
set_option maxRecDepth 20000 in
theorem gX7_set_X7_cut : GoodIn wsX7_set (va_wsS RX7 32 yX7_cut wsX7_cut) := goodIn_app (goodIn_of _ (by decide +kernel)) ggX7_set_X7_cut
set_option maxRecDepth 20000 in
theorem ggX7_clear_X7_renew : GoodIn wsX7_clear wsX7_renew := goodIn_r _ [5, 6, 7, 8, 9, 10, 4, 11, 12, 13, 14, 15, 16, 17, 18, 19, 20, 21, 22, 23, 24, 25, 26, 27, 28, 29, 30] (by decide +kernel) (by decide +kernel)
set_option maxRecDepth 20000 in
theorem gX7_clear_X7_renew : GoodIn wsX7_clear (wsV RX7 35 RX7 yX7_renew wsX7_renew) := goodIn_app (goodIn_of _ (by decide +kernel)) ggX7_clear_X7_renew
set_option maxRecDepth 20000 in
theorem ggX7_renew_X7_set : GoodIn wsX7_renew wsX7_set := goodIn_r _ [7, 8, 9, 10, 11, 6, 12, 13, 14, 15, 16, 2, 17, 18, 19, 20, 1, 21, 22, 23, 24, 25, 26] (by decide +kernel) (by decide +kernel)
set_option maxRecDepth 20000 in
theorem gX7_renew_X7_set : GoodIn wsX7_renew (wsV RX7 39 RX7 yX7_set wsX7_set) := goodIn_app (goodIn_of _ (by decide +kernel)) ggX7_renew_X7_set
set_option maxRecDepth 20000 in
theorem ggX7_move_X7_hasCells : GoodIn wsX7_move wsX7_hasCells := goodIn_r _ [10, 11, 12, 13, 9, 14, 15, 16, 17, 18] (by decide +kernel) (by decide +kernel)
set_option maxRecDepth 20000 in
theorem gX7_move_X7_hasCells : GoodIn wsX7_move (wsV RX7 42 RX7 yX7_hasCells wsX7_hasCells) := goodIn_app (goodIn_of _ (by decide +kernel)) ggX7_move_X7_hasCells
set_option maxRecDepth 20000 in
theorem ggX9_init_X7_init : GoodIn wsX9_init wsX7_init := goodIn_r _ [34, 35, 2, 3, 29, 36, 37, 38, 63, 64, 65] (by decide +kernel) (by decide +kernel)
set_option maxRecDepth 20000 in
theorem gX9_init_X7_init : GoodIn wsX9_init (wsX7_init) := ggX9_init_X7_init
set_option maxRecDepth 20000 in
theorem ggX9_init_X6_init : GoodIn wsX9_init wsX6_init := goodIn_r _ [40, 41, 2, 3, 29, 42, 43, 75, 76] (by decide +kernel) (by decide +kernel)
set_option maxRecDepth 20000 in
theorem gX9_init_X6_init_n20 : GoodIn wsX9_init (wsX6_init) := ggX9_init_X6_init
set_option maxRecDepth 20000 in
theorem ggX9_init_X4_init : GoodIn wsX9_init wsX4_init := goodIn_r _ [45, 46, 2, 3, 47, 48, 49, 77, 78] (by decide +kernel) (by decide +kernel)
set_option maxRecDepth 20000 in
theorem gX9_init_X4_init_n27 : GoodIn wsX9_init (wsX4_init) := ggX9_init_X4_init
set_option maxRecDepth 20000 in
theorem ggX9_init_X8_init : GoodIn wsX9_init wsX8_init := goodIn_r _ [51, 52, 2, 3, 53, 79] (by decide +kernel) (by decide +kernel)
set_option maxRecDepth 20000 in
theorem gX9_init_X8_init_n34 : GoodIn wsX9_init (wsX8_init) := ggX9_init_X8_init
set_option maxRecDepth 20000 in
theorem ggX9_init_X0_init : GoodIn wsX9_init wsX0_init := goodIn_r _ [55, 56, 2, 3, 29, 57, 80] (by decide +kernel) (by decide +kernel)
set_option maxRecDepth 20000 in
theorem gX9_init_X0_init_n41 : GoodIn wsX9_init (wsX0_init) := ggX9_init_X0_init
set_option maxRecDepth 20000 in
theorem ggX9_init_X5_init : GoodIn wsX9_init wsX5_init := goodIn_r _ [59, 60, 2, 3, 29, 61, 62, 81, 82] (by decide +kernel) (by decide +kernel)
set_option maxRecDepth 20000 in
theorem gX9_init_X5_init_n51 : GoodIn wsX9_init (wsX5_init) := ggX9_init_X5_init
set_option maxRecDepth 20000 in
theorem ggX9_roll_X9_refusalOfCells : GoodIn wsX9_roll wsX9_refusalOfCells := goodIn_r _ [8, 9, 2, 10, 11, 7, 12, 13, 14, 15, 16, 17, 18, 19, 20, 21, 22, 23, 24, 25, 26, 27, 28, 29, 30, 31, 32, 33, 34, 35, 36, 37, 38, 39, 40, 41, 42, 43, 44, 45, 46, 142, 143, 144, 145, 146, 147, 148, 149, 150, 151, 152, 153] (by decide +kernel) (by decide +kernel)
set_option maxRecDepth 20000 in
theorem gX9_roll_X9_refusalOfCells : GoodIn wsX9_roll (wsV RX9 64 RX9 yX9_refusalOfCells wsX9_refusalOfCells) := goodIn_app (goodIn_of _ (by decide +kernel)) ggX9_roll_X9_refusalOfCells
set_option maxRecDepth 20000 in
theorem ggX9_roll_X6_read : GoodIn wsX9_roll wsX6_read := goodIn_r _ [51, 52, 53, 54, 55, 56, 57, 58, 59, 60, 26, 61, 62, 63, 64, 65, 66, 42, 43, 44, 45, 46, 154, 155, 151, 152, 153] (by decide +kernel) (by decide +kernel)
set_option maxRecDepth 20000 in
theorem gX9_roll_X6_read : GoodIn wsX9_roll (wsV RX9 68 RX6 yX6_read wsX6_read) := goodIn_app (goodIn_of _ (by decide +kernel)) ggX9_roll_X6_read
set_option maxRecDepth 20000 in
theorem ggX9_roll_X6_firstFault : GoodIn wsX9_roll wsX6_firstFault := goodIn_r _ [70, 57, 71, 72, 73, 50, 74, 75, 76, 77, 78, 52, 79, 80, 81, 82, 83, 84, 85, 86, 87, 88, 89, 90, 91, 92, 93, 94, 154, 155] (by decide +kernel) (by decide +kernel)
set_option maxRecDepth 20000 in
theorem gX9_roll_X6_firstFault : GoodIn wsX9_roll (wsV RX9 72 RX6 yX6_firstFault wsX6_firstFault) := goodIn_app (goodIn_of _ (by decide +kernel)) ggX9_roll_X6_firstFault
set_option maxRecDepth 20000 in
theorem ggX9_roll_X4_takeFrom : GoodIn wsX9_roll wsX4_takeFrom := goodIn_r _ [99, 100, 101, 54, 55, 56, 102, 103, 104, 105, 50, 106, 57, 107, 108, 109, 110, 111, 112, 113, 114, 115, 116, 117, 118, 119, 79, 80, 81, 82, 75, 76, 77, 78, 52, 87, 88, 89, 90, 120, 121, 122, 123, 124, 125, 126, 127, 128, 129, 130, 131, 132, 133, 134, 135, 136, 137, 156, 157, 154, 155, 158, 159, 160, 161, 162, 163, 164, 165, 166, 167, 168, 169] (by decide +kernel) (by decide +kernel)
set_option maxRecDepth 20000 in
theorem gX9_roll_X4_takeFrom : GoodIn wsX9_roll (wsV RX9 76 RX4 yX4_takeFrom wsX4_takeFrom) := goodIn_app (goodIn_of _ (by decide +kernel)) ggX9_roll_X4_takeFrom
set_option maxRecDepth 20000 in
theorem ggX9_roll_X4_size : GoodIn wsX9_roll wsX4_size := goodIn_r _ [141, 102, 156, 157] (by decide +kernel) (by decide +kernel)
set_option maxRecDepth 20000 in
theorem gX9_roll_X4_size : GoodIn wsX9_roll (wsV RX9 80 RX4 yX4_size wsX4_size) := goodIn_app (goodIn_of _ (by decide +kernel)) ggX9_roll_X4_size
set_option maxRecDepth 20000 in
theorem ggX9_ofOne_X4_one : GoodIn wsX9_ofOne wsX4_one := goodIn_r _ [6, 7, 8, 46, 47] (by decide +kernel) (by decide +kernel)
set_option maxRecDepth 20000 in
theorem gX9_ofOne_X4_one : GoodIn wsX9_ofOne (wsV RX9 83 RX4 yX4_one wsX4_one) := goodIn_app (goodIn_of _ (by decide +kernel)) ggX9_ofOne_X4_one
set_option maxRecDepth 20000 in
theorem ggX9_ofOne_X3_part : GoodIn wsX9_ofOne wsX3_part := goodIn_r _ [14, 15, 16, 17, 18, 19, 20, 21, 22, 23, 24, 25, 26, 27, 28, 29, 30, 31, 32, 33, 13, 48, 49, 50, 51, 52, 53, 54, 55, 56, 57, 58, 59] (by decide +kernel) (by decide +kernel)
set_option maxRecDepth 20000 in
theorem gX9_ofOne_X3_part_u87X1 : GoodIn wsX9_ofOne (va_wsU RX9 87 RX1 "LivingNumbers$Named" ⟨"LivingNumbers$Named", "part", "(I)I"⟩ yX3_part wsX3_part) := goodIn_app (goodIn_of _ (by decide +kernel)) ggX9_ofOne_X3_part
set_option maxRecDepth 20000 in
theorem gX9_ofOne_X3_part_u87X2 : GoodIn wsX9_ofOne (va_wsU RX9 87 RX2 "LivingNumbers$Named" ⟨"LivingNumbers$Named", "part", "(I)I"⟩ yX3_part wsX3_part) := goodIn_app (goodIn_of _ (by decide +kernel)) ggX9_ofOne_X3_part
set_option maxRecDepth 20000 in
theorem gX9_ofOne_X3_part : GoodIn wsX9_ofOne (wsV RX9 87 RX3 yX3_part wsX3_part) := goodIn_app (goodIn_of _ (by decide +kernel)) ggX9_ofOne_X3_part
set_option maxRecDepth 20000 in
theorem ggX9_lives_X4_one : GoodIn wsX9_lives wsX4_one := goodIn_r _ [6, 7, 8, 61, 62] (by decide +kernel) (by decide +kernel)
set_option maxRecDepth 20000 in
theorem gX9_lives_X4_one : GoodIn wsX9_lives (wsV RX9 83 RX4 yX4_one wsX4_one) := goodIn_app (goodIn_of _ (by decide +kernel)) ggX9_lives_X4_one
set_option maxRecDepth 20000 in
theorem ggX9_lives_X9_isVillage : GoodIn wsX9_lives wsX9_isVillage := goodIn_r _ [12] (by decide +kernel) (by decide +kernel)
set_option maxRecDepth 20000 in
theorem gX9_lives_X9_isVillage : GoodIn wsX9_lives (va_wsS RX9 93 yX9_isVillage wsX9_isVillage) := goodIn_app (goodIn_of _ (by decide +kernel)) ggX9_lives_X9_isVillage
set_option maxRecDepth 20000 in
theorem ggX9_lives_X9_isDay : GoodIn wsX9_lives wsX9_isDay := goodIn_r _ [15] (by decide +kernel) (by decide +kernel)
set_option maxRecDepth 20000 in
theorem gX9_lives_X9_isDay : GoodIn wsX9_lives (va_wsS RX9 97 yX9_isDay wsX9_isDay) := goodIn_app (goodIn_of _ (by decide +kernel)) ggX9_lives_X9_isDay
set_option maxRecDepth 20000 in
theorem ggX9_lives_X3_isHeard : GoodIn wsX9_lives wsX3_isHeard := goodIn_r _ [21, 22, 23, 24, 25, 26, 27, 28, 29, 30, 31, 32, 33, 20, 34, 35, 36, 37, 38, 39, 40, 41, 42, 43, 44, 45, 46, 47, 48, 63, 64, 65, 66, 67, 68, 69, 70, 71, 72, 73, 74] (by decide +kernel) (by decide +kernel)
set_option maxRecDepth 20000 in
theorem gX9_lives_X3_isHeard_u100X1 : GoodIn wsX9_lives (va_wsU RX9 100 RX1 "LivingNumbers$Named" ⟨"LivingNumbers$Named", "isHeard", "(II)Z"⟩ yX3_isHeard wsX3_isHeard) := goodIn_app (goodIn_of _ (by decide +kernel)) ggX9_lives_X3_isHeard
set_option maxRecDepth 20000 in
theorem gX9_lives_X3_isHeard_u100X2 : GoodIn wsX9_lives (va_wsU RX9 100 RX2 "LivingNumbers$Named" ⟨"LivingNumbers$Named", "isHeard", "(II)Z"⟩ yX3_isHeard wsX3_isHeard) := goodIn_app (goodIn_of _ (by decide +kernel)) ggX9_lives_X3_isHeard
set_option maxRecDepth 20000 in
theorem gX9_lives_X3_isHeard : GoodIn wsX9_lives (wsV RX9 100 RX3 yX3_isHeard wsX3_isHeard) := goodIn_app (goodIn_of _ (by decide +kernel)) ggX9_lives_X3_isHeard
set_option maxRecDepth 20000 in
theorem ggX9_word_X9_isVillage : GoodIn wsX9_word wsX9_isVillage := goodIn_r _ [5] (by decide +kernel) (by decide +kernel)
set_option maxRecDepth 20000 in
theorem gX9_word_X9_isVillage : GoodIn wsX9_word (va_wsS RX9 93 yX9_isVillage wsX9_isVillage) := goodIn_app (goodIn_of _ (by decide +kernel)) ggX9_word_X9_isVillage
set_option maxRecDepth 20000 in
theorem ggX9_word_X9_isDay : GoodIn wsX9_word wsX9_isDay := goodIn_r _ [8] (by decide +kernel) (by decide +kernel)
set_option maxRecDepth 20000 in
theorem gX9_word_X9_isDay : GoodIn wsX9_word (va_wsS RX9 97 yX9_isDay wsX9_isDay) := goodIn_app (goodIn_of _ (by decide +kernel)) ggX9_word_X9_isDay
set_option maxRecDepth 20000 in
theorem ggX9_word_X4_bearer : GoodIn wsX9_word wsX4_bearer := goodIn_r _ [13, 14, 15, 16, 17, 12, 18, 19, 20, 21, 22, 23, 24, 25, 26, 27, 28, 29, 30, 31, 32, 33, 34, 35, 36, 37, 38, 39, 40, 41, 42, 43, 44, 45, 46, 47, 48, 49, 50, 51, 52, 53, 54, 55, 56, 57, 58, 59, 60, 61, 62, 63, 64, 74, 75, 76, 77, 78, 79, 80, 81, 82, 83, 84, 85, 86, 87] (by decide +kernel) (by decide +kernel)
set_option maxRecDepth 20000 in
theorem gX9_word_X4_bearer : GoodIn wsX9_word (wsV RX9 104 RX4 yX4_bearer wsX4_bearer) := goodIn_app (goodIn_of _ (by decide +kernel)) ggX9_word_X4_bearer
set_option maxRecDepth 20000 in
theorem ggX9_sayable_X9_isVillage : GoodIn wsX9_sayable wsX9_isVillage := goodIn_r _ [5] (by decide +kernel) (by decide +kernel)
set_option maxRecDepth 20000 in
theorem gX9_sayable_X9_isVillage : GoodIn wsX9_sayable (va_wsS RX9 93 yX9_isVillage wsX9_isVillage) := goodIn_app (goodIn_of _ (by decide +kernel)) ggX9_sayable_X9_isVillage
set_option maxRecDepth 20000 in
theorem ggX9_sayable_X9_isDay : GoodIn wsX9_sayable wsX9_isDay := goodIn_r _ [8] (by decide +kernel) (by decide +kernel)
set_option maxRecDepth 20000 in
theorem gX9_sayable_X9_isDay : GoodIn wsX9_sayable (va_wsS RX9 97 yX9_isDay wsX9_isDay) := goodIn_app (goodIn_of _ (by decide +kernel)) ggX9_sayable_X9_isDay
set_option maxRecDepth 20000 in
theorem ggX9_sayable_X4_bearer : GoodIn wsX9_sayable wsX4_bearer := goodIn_r _ [13, 14, 15, 16, 17, 12, 18, 19, 20, 21, 22, 23, 24, 25, 26, 27, 28, 29, 30, 31, 32, 33, 34, 35, 36, 37, 38, 39, 40, 41, 42, 43, 44, 45, 46, 47, 48, 49, 50, 51, 52, 53, 54, 55, 56, 57, 58, 59, 60, 61, 62, 63, 64, 74, 75, 76, 77, 78, 79, 80, 81, 82, 83, 84, 85, 86, 87] (by decide +kernel) (by decide +kernel)
set_option maxRecDepth 20000 in
theorem gX9_sayable_X4_bearer : GoodIn wsX9_sayable (wsV RX9 104 RX4 yX4_bearer wsX4_bearer) := goodIn_app (goodIn_of _ (by decide +kernel)) ggX9_sayable_X4_bearer
set_option maxRecDepth 20000 in
theorem ggX9_means_X9_isDay : GoodIn wsX9_means wsX9_isDay := goodIn_r _ [4] (by decide +kernel) (by decide +kernel)
set_option maxRecDepth 20000 in
theorem gX9_means_X9_isDay : GoodIn wsX9_means (va_wsS RX9 97 yX9_isDay wsX9_isDay) := goodIn_app (goodIn_of _ (by decide +kernel)) ggX9_means_X9_isDay
set_option maxRecDepth 20000 in
theorem ggX9_means_X9_refusalOfRow : GoodIn wsX9_means wsX9_refusalOfRow := goodIn_r _ [8, 9, 10, 11, 12, 13, 3, 14, 15, 16, 17, 18, 19, 20, 21, 22, 23, 24, 25, 26, 27, 28, 29, 30, 31, 32, 33, 34, 35, 36, 37, 38, 39, 40, 41, 42, 43, 44, 45, 46, 47, 48, 49, 50, 51, 52, 53, 54, 55, 56, 57, 58, 59, 60, 61, 62, 63, 64, 65, 66, 67, 68, 118, 119, 120, 121, 122, 123, 124, 125, 126, 127, 128, 129, 130, 131] (by decide +kernel) (by decide +kernel)
set_option maxRecDepth 20000 in
theorem gX9_means_X9_refusalOfRow : GoodIn wsX9_means (wsV RX9 108 RX9 yX9_refusalOfRow wsX9_refusalOfRow) := goodIn_app (goodIn_of _ (by decide +kernel)) ggX9_means_X9_refusalOfRow
set_option maxRecDepth 20000 in
theorem ggX9_means_X9_meaning : GoodIn wsX9_means wsX9_meaning := goodIn_r _ [72, 9, 10, 53, 54, 55, 32, 56, 57, 58, 59, 60, 61, 48, 49, 50, 51, 52, 62, 63, 64, 65, 66, 67, 68, 73, 74, 75, 76, 77, 78, 79, 80, 81, 82, 83, 84, 85, 86, 87, 88, 89, 90, 91, 92, 93, 94, 95, 96, 97, 98, 99, 100, 101, 102, 103, 104, 105, 106, 107, 108, 109, 110, 111, 112, 113, 114, 115, 116, 117, 118, 119, 120, 121, 122, 123, 124, 125, 126, 127, 128, 129, 130, 131, 132, 133, 134, 135, 136, 137, 138, 139, 140, 141, 142, 143] (by decide +kernel) (by decide +kernel)
set_option maxRecDepth 20000 in
theorem gX9_means_X9_meaning : GoodIn wsX9_means (wsV RX9 111 RX9 yX9_meaning wsX9_meaning) := goodIn_app (goodIn_of _ (by decide +kernel)) ggX9_means_X9_meaning
set_option maxRecDepth 20000 in
theorem ggX9_say_X9_isVillage : GoodIn wsX9_say wsX9_isVillage := goodIn_r _ [4] (by decide +kernel) (by decide +kernel)
set_option maxRecDepth 20000 in
theorem gX9_say_X9_isVillage : GoodIn wsX9_say (va_wsS RX9 93 yX9_isVillage wsX9_isVillage) := goodIn_app (goodIn_of _ (by decide +kernel)) ggX9_say_X9_isVillage
set_option maxRecDepth 20000 in
theorem ggX9_say_X9_isQuantity : GoodIn wsX9_say wsX9_isQuantity := goodIn_r _ [7] (by decide +kernel) (by decide +kernel)
set_option maxRecDepth 20000 in
theorem gX9_say_X9_isQuantity : GoodIn wsX9_say (va_wsS RX9 115 yX9_isQuantity wsX9_isQuantity) := goodIn_app (goodIn_of _ (by decide +kernel)) ggX9_say_X9_isQuantity
set_option maxRecDepth 20000 in
theorem ggX9_say_X9_isDay : GoodIn wsX9_say wsX9_isDay := goodIn_r _ [10] (by decide +kernel) (by decide +kernel)
set_option maxRecDepth 20000 in
theorem gX9_say_X9_isDay : GoodIn wsX9_say (va_wsS RX9 97 yX9_isDay wsX9_isDay) := goodIn_app (goodIn_of _ (by decide +kernel)) ggX9_say_X9_isDay
set_option maxRecDepth 20000 in
theorem ggX9_say_X9_fewestWords : GoodIn wsX9_say wsX9_fewestWords := goodIn_r _ [14, 15, 16, 17, 18, 19, 20, 21, 22, 23, 24, 25, 26, 27, 28, 29, 30, 31, 32, 33, 34, 35, 36, 37, 38, 39, 40, 41, 42, 43, 44, 45, 46, 47, 48, 49, 50, 51, 52, 53, 54, 55, 56, 57, 58, 59, 60, 61, 62, 63, 64, 65, 66, 67, 68, 69, 70, 71, 72, 73, 74, 75, 76, 77, 78, 79, 80, 81, 82, 83, 84, 85, 86, 87, 88, 89, 90, 91, 92, 102, 103, 104, 105, 106, 107, 108, 109, 110, 111, 112, 113, 114, 115, 116, 117, 118, 119, 120, 121, 122, 123, 124, 125] (by decide +kernel) (by decide +kernel)
set_option maxRecDepth 20000 in
theorem gX9_say_X9_fewestWords : GoodIn wsX9_say (wsV RX9 118 RX9 yX9_fewestWords wsX9_fewestWords) := goodIn_app (goodIn_of _ (by decide +kernel)) ggX9_say_X9_fewestWords
set_option maxRecDepth 20000 in
theorem ggX9_say_X9_numberAt : GoodIn wsX9_say wsX9_numberAt := goodIn_r _ [96, 15, 16, 97, 98, 99, 21, 100, 23, 31, 32, 33, 34, 35, 72, 73, 74, 75, 40, 76, 77, 78, 79, 80, 36, 37, 38, 39, 41, 42, 43, 44, 45, 46, 47, 48, 49, 50, 51, 52, 53, 54, 55, 56, 57, 58, 59, 60, 61, 62, 63, 64, 65, 66, 67, 68, 69, 70, 71, 101, 90, 91, 27, 92, 29, 30, 102, 103, 104, 105, 106, 107, 108, 109, 110, 111, 112, 114, 115, 116, 117, 118, 119, 120, 121, 122, 123, 124, 125, 113] (by decide +kernel) (by decide +kernel)
end
section
set_option maxRecDepth 20000 in
theorem gX9_say_X9_numberAt : GoodIn wsX9_say (wsV RX9 121 RX9 yX9_numberAt wsX9_numberAt) := goodIn_app (goodIn_of _ (by decide +kernel)) ggX9_say_X9_numberAt
set_option maxRecDepth 20000 in
theorem ggX9_turned_X9_isDay : GoodIn wsX9_turned wsX9_isDay := goodIn_r _ [4] (by decide +kernel) (by decide +kernel)
set_option maxRecDepth 20000 in
theorem gX9_turned_X9_isDay : GoodIn wsX9_turned (va_wsS RX9 97 yX9_isDay wsX9_isDay) := goodIn_app (goodIn_of _ (by decide +kernel)) ggX9_turned_X9_isDay
set_option maxRecDepth 20000 in
theorem ggX9_turned_X9_refusalOfRow : GoodIn wsX9_turned wsX9_refusalOfRow := goodIn_r _ [8, 9, 10, 11, 12, 13, 3, 14, 15, 16, 17, 18, 19, 20, 21, 22, 23, 24, 25, 26, 27, 28, 29, 30, 31, 32, 33, 34, 35, 36, 37, 38, 39, 40, 41, 42, 43, 44, 45, 46, 47, 48, 49, 50, 51, 52, 53, 54, 55, 56, 57, 58, 59, 60, 61, 62, 63, 64, 65, 66, 67, 68, 155, 156, 157, 158, 159, 160, 161, 162, 163, 164, 165, 166, 167, 168] (by decide +kernel) (by decide +kernel)
set_option maxRecDepth 20000 in
theorem gX9_turned_X9_refusalOfRow : GoodIn wsX9_turned (wsV RX9 108 RX9 yX9_refusalOfRow wsX9_refusalOfRow) := goodIn_app (goodIn_of _ (by decide +kernel)) ggX9_turned_X9_refusalOfRow
set_option maxRecDepth 20000 in
theorem ggX9_turned_X9_meaning : GoodIn wsX9_turned wsX9_meaning := goodIn_r _ [72, 9, 10, 53, 54, 55, 32, 56, 57, 58, 59, 60, 61, 48, 49, 50, 51, 52, 62, 63, 64, 65, 66, 67, 68, 73, 74, 75, 76, 77, 78, 79, 80, 81, 82, 83, 84, 85, 86, 87, 88, 89, 90, 91, 92, 93, 94, 95, 96, 97, 98, 99, 100, 101, 102, 103, 104, 105, 106, 107, 108, 109, 110, 111, 112, 113, 114, 115, 116, 117, 155, 156, 157, 158, 159, 160, 161, 162, 163, 164, 165, 166, 167, 168, 169, 170, 171, 172, 173, 174, 175, 176, 177, 178, 179, 180] (by decide +kernel) (by decide +kernel)
set_option maxRecDepth 20000 in
theorem gX9_turned_X9_meaning : GoodIn wsX9_turned (wsV RX9 111 RX9 yX9_meaning wsX9_meaning) := goodIn_app (goodIn_of _ (by decide +kernel)) ggX9_turned_X9_meaning
set_option maxRecDepth 20000 in
theorem ggX9_turned_X9_isQuantity : GoodIn wsX9_turned wsX9_isQuantity := goodIn_r _ [120] (by decide +kernel) (by decide +kernel)
set_option maxRecDepth 20000 in
theorem gX9_turned_X9_isQuantity : GoodIn wsX9_turned (va_wsS RX9 115 yX9_isQuantity wsX9_isQuantity) := goodIn_app (goodIn_of _ (by decide +kernel)) ggX9_turned_X9_isQuantity
set_option maxRecDepth 20000 in
theorem ggX9_turned_X9_fewestWords : GoodIn wsX9_turned wsX9_fewestWords := goodIn_r _ [124, 9, 125, 126, 127, 128, 129, 65, 130, 67, 131, 132, 133, 134, 135, 136, 137, 138, 63, 64, 66, 68, 139, 74, 75, 76, 77, 78, 79, 80, 81, 82, 83, 84, 85, 86, 87, 88, 89, 90, 91, 92, 93, 94, 95, 96, 97, 98, 99, 100, 101, 102, 103, 104, 105, 106, 140, 108, 141, 110, 111, 112, 113, 114, 115, 142, 117, 143, 144, 145, 146, 147, 148, 149, 150, 151, 152, 153, 154, 155, 156, 157, 158, 159, 160, 161, 162, 163, 167, 168, 181, 169, 170, 171, 172, 173, 174, 175, 176, 177, 178, 179, 180] (by decide +kernel) (by decide +kernel)
set_option maxRecDepth 20000 in
theorem gX9_turned_X9_fewestWords : GoodIn wsX9_turned (wsV RX9 118 RX9 yX9_fewestWords wsX9_fewestWords) := goodIn_app (goodIn_of _ (by decide +kernel)) ggX9_turned_X9_fewestWords
set_option maxRecDepth 20000 in
theorem ggX9_child_X9_isDay : GoodIn wsX9_child wsX9_isDay := goodIn_r _ [6] (by decide +kernel) (by decide +kernel)
set_option maxRecDepth 20000 in
theorem gX9_child_X9_isDay : GoodIn wsX9_child (va_wsS RX9 97 yX9_isDay wsX9_isDay) := goodIn_app (goodIn_of _ (by decide +kernel)) ggX9_child_X9_isDay
set_option maxRecDepth 20000 in
theorem ggX9_child_X9_isWords : GoodIn wsX9_child wsX9_isWords := goodIn_r _ [9] (by decide +kernel) (by decide +kernel)
set_option maxRecDepth 20000 in
theorem gX9_child_X9_isWords : GoodIn wsX9_child (va_wsS RX9 125 yX9_isWords wsX9_isWords) := goodIn_app (goodIn_of _ (by decide +kernel)) ggX9_child_X9_isWords
set_option maxRecDepth 20000 in
theorem ggX9_child_X9_refusalOfCells : GoodIn wsX9_child wsX9_refusalOfCells := goodIn_r _ [13, 14, 15, 16, 17, 5, 18, 19, 20, 21, 22, 23, 24, 25, 26, 27, 28, 29, 30, 31, 32, 33, 34, 35, 36, 37, 38, 39, 40, 41, 42, 43, 44, 45, 46, 47, 48, 49, 50, 51, 52, 160, 161, 162, 163, 164, 165, 166, 167, 168, 169, 170, 171] (by decide +kernel) (by decide +kernel)
set_option maxRecDepth 20000 in
theorem gX9_child_X9_refusalOfCells : GoodIn wsX9_child (wsV RX9 64 RX9 yX9_refusalOfCells wsX9_refusalOfCells) := goodIn_app (goodIn_of _ (by decide +kernel)) ggX9_child_X9_refusalOfCells
set_option maxRecDepth 20000 in
theorem ggX9_child_X9_areBargains : GoodIn wsX9_child wsX9_areBargains := goodIn_r _ [56, 15, 57, 58, 59, 32, 60, 61, 62, 63, 64, 65, 48, 49, 50, 51, 52, 66, 67, 5, 68, 160, 161, 162, 163, 164, 165, 166, 167, 168, 169, 170, 171] (by decide +kernel) (by decide +kernel)
set_option maxRecDepth 20000 in
theorem gX9_child_X9_areBargains : GoodIn wsX9_child (wsV RX9 128 RX9 yX9_areBargains wsX9_areBargains) := goodIn_app (goodIn_of _ (by decide +kernel)) ggX9_child_X9_areBargains
set_option maxRecDepth 20000 in
theorem ggX9_child_X4_teach : GoodIn wsX9_child wsX4_teach := goodIn_r _ [73, 74, 75, 76, 77, 78, 79, 80, 81, 82, 83, 84, 72, 85, 86, 87, 88, 89, 90, 91, 92, 93, 94, 95, 96, 97, 98, 99, 100, 101, 102, 103, 104, 105, 106, 107, 108, 109, 110, 111, 112, 113, 114, 115, 116, 117, 118, 119, 120, 121, 122, 123, 124, 125, 126, 127, 128, 129, 130, 131, 132, 133, 134, 135, 136, 137, 138, 139, 172, 173, 174, 175, 176, 177, 178, 179, 180, 181, 182, 183, 184, 185, 186] (by decide +kernel) (by decide +kernel)
set_option maxRecDepth 20000 in
theorem gX9_child_X4_teach : GoodIn wsX9_child (wsV RX9 132 RX4 yX4_teach wsX4_teach) := goodIn_app (goodIn_of _ (by decide +kernel)) ggX9_child_X4_teach
set_option maxRecDepth 20000 in
theorem ggX9_child_X9_bargainsSaid : GoodIn wsX9_child wsX9_bargainsSaid := goodIn_r _ [143, 144, 2, 15, 57, 58, 59, 32, 60, 61, 62, 63, 64, 65, 48, 49, 50, 51, 52, 145, 146, 147, 78, 148, 136, 137, 138, 139, 149, 150, 151, 152, 153, 154, 155, 156, 157, 158, 159, 80, 81, 160, 161, 162, 163, 164, 165, 166, 167, 168, 169, 170, 171, 174] (by decide +kernel) (by decide +kernel)
set_option maxRecDepth 20000 in
theorem gX9_child_X9_bargainsSaid : GoodIn wsX9_child (wsV RX9 136 RX9 yX9_bargainsSaid wsX9_bargainsSaid) := goodIn_app (goodIn_of _ (by decide +kernel)) ggX9_child_X9_bargainsSaid
set_option maxRecDepth 20000 in
theorem ggX9_both_X9_isQuantity : GoodIn wsX9_both wsX9_isQuantity := goodIn_r _ [7] (by decide +kernel) (by decide +kernel)
set_option maxRecDepth 20000 in
theorem gX9_both_X9_isQuantity : GoodIn wsX9_both (va_wsS RX9 115 yX9_isQuantity wsX9_isQuantity) := goodIn_app (goodIn_of _ (by decide +kernel)) ggX9_both_X9_isQuantity
set_option maxRecDepth 20000 in
theorem ggX9_both_X9_isWords : GoodIn wsX9_both wsX9_isWords := goodIn_r _ [10] (by decide +kernel) (by decide +kernel)
set_option maxRecDepth 20000 in
theorem gX9_both_X9_isWords : GoodIn wsX9_both (va_wsS RX9 125 yX9_isWords wsX9_isWords) := goodIn_app (goodIn_of _ (by decide +kernel)) ggX9_both_X9_isWords
set_option maxRecDepth 20000 in
theorem ggX9_both_X9_isDay : GoodIn wsX9_both wsX9_isDay := goodIn_r _ [13] (by decide +kernel) (by decide +kernel)
set_option maxRecDepth 20000 in
theorem gX9_both_X9_isDay : GoodIn wsX9_both (va_wsS RX9 97 yX9_isDay wsX9_isDay) := goodIn_app (goodIn_of _ (by decide +kernel)) ggX9_both_X9_isDay
set_option maxRecDepth 20000 in
theorem ggX9_both_X4_teach : GoodIn wsX9_both wsX4_teach := goodIn_r _ [18, 19, 20, 21, 22, 23, 24, 25, 26, 27, 28, 29, 17, 30, 31, 32, 33, 34, 35, 36, 37, 38, 39, 40, 41, 42, 43, 44, 45, 46, 47, 48, 49, 50, 51, 52, 53, 54, 55, 56, 57, 58, 59, 60, 61, 62, 63, 64, 65, 66, 67, 68, 69, 70, 71, 72, 73, 74, 75, 76, 77, 78, 79, 80, 81, 82, 83, 84, 102, 103, 104, 105, 106, 107, 108, 109, 110, 111, 112, 113, 114, 115, 116] (by decide +kernel) (by decide +kernel)
set_option maxRecDepth 20000 in
theorem gX9_both_X4_teach : GoodIn wsX9_both (wsV RX9 132 RX4 yX4_teach wsX4_teach) := goodIn_app (goodIn_of _ (by decide +kernel)) ggX9_both_X4_teach
set_option maxRecDepth 20000 in
theorem ggX9_both_X0_within : GoodIn wsX9_both wsX0_within := goodIn_r _ [88, 89, 90, 91, 23, 92, 25, 26, 104] (by decide +kernel) (by decide +kernel)
set_option maxRecDepth 20000 in
theorem gX9_both_X0_within : GoodIn wsX9_both (wsV RX9 139 RX0 yX0_within wsX0_within) := goodIn_app (goodIn_of _ (by decide +kernel)) ggX9_both_X0_within
set_option maxRecDepth 20000 in
theorem ggX9_written_X9_refusalOfRow : GoodIn wsX9_written wsX9_refusalOfRow := goodIn_r _ [5, 6, 7, 8, 9, 10, 4, 11, 12, 13, 14, 15, 16, 17, 18, 19, 20, 21, 22, 23, 24, 25, 26, 27, 28, 29, 30, 31, 32, 33, 34, 35, 36, 37, 38, 39, 40, 41, 42, 43, 44, 45, 46, 47, 48, 49, 50, 51, 52, 53, 54, 55, 56, 57, 58, 59, 60, 61, 62, 63, 64, 65, 115, 116, 117, 118, 119, 120, 121, 122, 123, 124, 125, 126, 127, 128] (by decide +kernel) (by decide +kernel)
set_option maxRecDepth 20000 in
theorem gX9_written_X9_refusalOfRow : GoodIn wsX9_written (wsV RX9 108 RX9 yX9_refusalOfRow wsX9_refusalOfRow) := goodIn_app (goodIn_of _ (by decide +kernel)) ggX9_written_X9_refusalOfRow
set_option maxRecDepth 20000 in
theorem ggX9_written_X9_meaning : GoodIn wsX9_written wsX9_meaning := goodIn_r _ [69, 6, 7, 50, 51, 52, 29, 53, 54, 55, 56, 57, 58, 45, 46, 47, 48, 49, 59, 60, 61, 62, 63, 64, 65, 70, 71, 72, 73, 74, 75, 76, 77, 78, 79, 80, 81, 82, 83, 84, 85, 86, 87, 88, 89, 90, 91, 92, 93, 94, 95, 96, 97, 98, 99, 100, 101, 102, 103, 104, 105, 106, 107, 108, 109, 110, 111, 112, 113, 114, 115, 116, 117, 118, 119, 120, 121, 122, 123, 124, 125, 126, 127, 128, 129, 130, 131, 132, 133, 134, 135, 136, 137, 138, 139, 140] (by decide +kernel) (by decide +kernel)
set_option maxRecDepth 20000 in
theorem gX9_written_X9_meaning : GoodIn wsX9_written (wsV RX9 111 RX9 yX9_meaning wsX9_meaning) := goodIn_app (goodIn_of _ (by decide +kernel)) ggX9_written_X9_meaning
set_option maxRecDepth 20000 in
theorem ggX9_lost_X4_one : GoodIn wsX9_lost wsX4_one := goodIn_r _ [8, 9, 10, 103, 104] (by decide +kernel) (by decide +kernel)
set_option maxRecDepth 20000 in
theorem gX9_lost_X4_one : GoodIn wsX9_lost (wsV RX9 83 RX4 yX4_one wsX4_one) := goodIn_app (goodIn_of _ (by decide +kernel)) ggX9_lost_X4_one
set_option maxRecDepth 20000 in
theorem ggX9_lost_X9_isVillage : GoodIn wsX9_lost wsX9_isVillage := goodIn_r _ [14] (by decide +kernel) (by decide +kernel)
set_option maxRecDepth 20000 in
theorem gX9_lost_X9_isVillage : GoodIn wsX9_lost (va_wsS RX9 93 yX9_isVillage wsX9_isVillage) := goodIn_app (goodIn_of _ (by decide +kernel)) ggX9_lost_X9_isVillage
set_option maxRecDepth 20000 in
theorem ggX9_lost_X9_isDay : GoodIn wsX9_lost wsX9_isDay := goodIn_r _ [17] (by decide +kernel) (by decide +kernel)
set_option maxRecDepth 20000 in
theorem gX9_lost_X9_isDay : GoodIn wsX9_lost (va_wsS RX9 97 yX9_isDay wsX9_isDay) := goodIn_app (goodIn_of _ (by decide +kernel)) ggX9_lost_X9_isDay
set_option maxRecDepth 20000 in
theorem ggX9_lost_X9_isWords : GoodIn wsX9_lost wsX9_isWords := goodIn_r _ [20] (by decide +kernel) (by decide +kernel)
set_option maxRecDepth 20000 in
theorem gX9_lost_X9_isWords : GoodIn wsX9_lost (va_wsS RX9 125 yX9_isWords wsX9_isWords) := goodIn_app (goodIn_of _ (by decide +kernel)) ggX9_lost_X9_isWords
set_option maxRecDepth 20000 in
theorem ggX9_lost_X4_teach : GoodIn wsX9_lost wsX4_teach := goodIn_r _ [24, 9, 25, 26, 27, 28, 29, 30, 31, 32, 5, 6, 7, 8, 10, 33, 34, 35, 36, 37, 38, 39, 40, 41, 42, 43, 44, 45, 46, 47, 48, 49, 50, 51, 52, 53, 54, 55, 56, 57, 58, 59, 60, 61, 62, 63, 64, 65, 66, 67, 68, 69, 70, 71, 72, 73, 74, 75, 76, 77, 78, 79, 80, 81, 82, 83, 84, 85, 103, 104, 105, 106, 107, 108, 109, 110, 111, 112, 113, 114, 115, 116, 117] (by decide +kernel) (by decide +kernel)
set_option maxRecDepth 20000 in
theorem gX9_lost_X4_teach : GoodIn wsX9_lost (wsV RX9 132 RX4 yX4_teach wsX4_teach) := goodIn_app (goodIn_of _ (by decide +kernel)) ggX9_lost_X4_teach
set_option maxRecDepth 20000 in
theorem ggX9_lost_X0_within : GoodIn wsX9_lost wsX0_within := goodIn_r _ [89, 90, 91, 92, 28, 93, 30, 31, 105] (by decide +kernel) (by decide +kernel)
set_option maxRecDepth 20000 in
theorem gX9_lost_X0_within : GoodIn wsX9_lost (wsV RX9 139 RX0 yX0_within wsX0_within) := goodIn_app (goodIn_of _ (by decide +kernel)) ggX9_lost_X0_within
set_option maxRecDepth 20000 in
theorem ggX9_back_X9_isVillage : GoodIn wsX9_back wsX9_isVillage := goodIn_r _ [7] (by decide +kernel) (by decide +kernel)
set_option maxRecDepth 20000 in
theorem gX9_back_X9_isVillage : GoodIn wsX9_back (va_wsS RX9 93 yX9_isVillage wsX9_isVillage) := goodIn_app (goodIn_of _ (by decide +kernel)) ggX9_back_X9_isVillage
set_option maxRecDepth 20000 in
theorem ggX9_back_X9_isQuantity : GoodIn wsX9_back wsX9_isQuantity := goodIn_r _ [10] (by decide +kernel) (by decide +kernel)
set_option maxRecDepth 20000 in
theorem gX9_back_X9_isQuantity : GoodIn wsX9_back (va_wsS RX9 115 yX9_isQuantity wsX9_isQuantity) := goodIn_app (goodIn_of _ (by decide +kernel)) ggX9_back_X9_isQuantity
set_option maxRecDepth 20000 in
theorem ggX9_back_X9_isDay : GoodIn wsX9_back wsX9_isDay := goodIn_r _ [13] (by decide +kernel) (by decide +kernel)
set_option maxRecDepth 20000 in
theorem gX9_back_X9_isDay : GoodIn wsX9_back (va_wsS RX9 97 yX9_isDay wsX9_isDay) := goodIn_app (goodIn_of _ (by decide +kernel)) ggX9_back_X9_isDay
set_option maxRecDepth 20000 in
theorem ggX9_back_X9_isWords : GoodIn wsX9_back wsX9_isWords := goodIn_r _ [16] (by decide +kernel) (by decide +kernel)
set_option maxRecDepth 20000 in
theorem gX9_back_X9_isWords : GoodIn wsX9_back (va_wsS RX9 125 yX9_isWords wsX9_isWords) := goodIn_app (goodIn_of _ (by decide +kernel)) ggX9_back_X9_isWords
set_option maxRecDepth 20000 in
theorem ggX9_back_X4_teach : GoodIn wsX9_back wsX4_teach := goodIn_r _ [21, 22, 23, 24, 25, 26, 27, 28, 29, 30, 31, 32, 20, 33, 34, 35, 36, 37, 38, 39, 40, 41, 42, 43, 44, 45, 46, 47, 48, 49, 50, 51, 52, 53, 54, 55, 56, 57, 58, 59, 60, 61, 62, 63, 64, 65, 66, 67, 68, 69, 70, 71, 72, 73, 74, 75, 76, 77, 78, 79, 80, 81, 82, 83, 84, 85, 86, 87, 143, 144, 145, 146, 147, 148, 149, 150, 151, 152, 153, 154, 155, 156, 157] (by decide +kernel) (by decide +kernel)
set_option maxRecDepth 20000 in
theorem gX9_back_X4_teach : GoodIn wsX9_back (wsV RX9 132 RX4 yX4_teach wsX4_teach) := goodIn_app (goodIn_of _ (by decide +kernel)) ggX9_back_X4_teach
set_option maxRecDepth 20000 in
theorem ggX9_back_X5_search : GoodIn wsX9_back wsX5_search := goodIn_r _ [92, 93, 94, 95, 96, 20, 97, 22, 98, 99, 100, 91, 101, 102, 103, 104, 105, 106, 107, 31, 32, 33, 34, 108, 72, 73, 74, 39, 75, 76, 77, 109, 79, 110, 111, 112, 26, 113, 84, 85, 86, 87, 114, 115, 116, 117, 118, 119, 120, 121, 122, 123, 124, 28, 29, 125, 126, 127, 128, 129, 158, 159, 143, 144, 146, 147, 148, 149, 150, 151, 152, 153, 154, 155, 156, 157, 145] (by decide +kernel) (by decide +kernel)
set_option maxRecDepth 20000 in
theorem gX9_back_X5_search : GoodIn wsX9_back (wsV RX9 142 RX5 yX5_search wsX5_search) := goodIn_app (goodIn_of _ (by decide +kernel)) ggX9_back_X5_search
set_option maxRecDepth 20000 in
theorem ggX9_back_X5_calledAt : GoodIn wsX9_back wsX5_calledAt := goodIn_r _ [133, 102, 158, 159] (by decide +kernel) (by decide +kernel)
set_option maxRecDepth 20000 in
theorem gX9_back_X5_calledAt : GoodIn wsX9_back (wsV RX9 146 RX5 yX5_calledAt wsX5_calledAt) := goodIn_app (goodIn_of _ (by decide +kernel)) ggX9_back_X5_calledAt
set_option maxRecDepth 20000 in
theorem ggX9_told_X9_isVillage : GoodIn wsX9_told wsX9_isVillage := goodIn_r _ [7] (by decide +kernel) (by decide +kernel)
set_option maxRecDepth 20000 in
theorem gX9_told_X9_isVillage : GoodIn wsX9_told (va_wsS RX9 93 yX9_isVillage wsX9_isVillage) := goodIn_app (goodIn_of _ (by decide +kernel)) ggX9_told_X9_isVillage
set_option maxRecDepth 20000 in
theorem ggX9_told_X9_isDay : GoodIn wsX9_told wsX9_isDay := goodIn_r _ [10] (by decide +kernel) (by decide +kernel)
set_option maxRecDepth 20000 in
theorem gX9_told_X9_isDay : GoodIn wsX9_told (va_wsS RX9 97 yX9_isDay wsX9_isDay) := goodIn_app (goodIn_of _ (by decide +kernel)) ggX9_told_X9_isDay
set_option maxRecDepth 20000 in
theorem ggX9_told_X9_isWords : GoodIn wsX9_told wsX9_isWords := goodIn_r _ [13] (by decide +kernel) (by decide +kernel)
set_option maxRecDepth 20000 in
theorem gX9_told_X9_isWords : GoodIn wsX9_told (va_wsS RX9 125 yX9_isWords wsX9_isWords) := goodIn_app (goodIn_of _ (by decide +kernel)) ggX9_told_X9_isWords
set_option maxRecDepth 20000 in
theorem ggX9_told_X4_teach : GoodIn wsX9_told wsX4_teach := goodIn_r _ [18, 19, 20, 21, 22, 23, 24, 25, 26, 27, 28, 29, 17, 30, 31, 32, 33, 34, 35, 36, 37, 38, 39, 40, 41, 42, 43, 44, 45, 46, 47, 48, 49, 50, 51, 52, 53, 54, 55, 56, 57, 58, 59, 60, 61, 62, 63, 64, 65, 66, 67, 68, 69, 70, 71, 72, 73, 74, 75, 76, 77, 78, 79, 80, 81, 82, 83, 84, 105, 106, 107, 108, 109, 110, 111, 112, 113, 114, 115, 116, 117, 118, 119] (by decide +kernel) (by decide +kernel)
set_option maxRecDepth 20000 in
theorem gX9_told_X4_teach : GoodIn wsX9_told (wsV RX9 132 RX4 yX4_teach wsX4_teach) := goodIn_app (goodIn_of _ (by decide +kernel)) ggX9_told_X4_teach
set_option maxRecDepth 20000 in
theorem ggX9_told_X0_within : GoodIn wsX9_told wsX0_within := goodIn_r _ [88, 89, 90, 91, 23, 92, 25, 26, 107] (by decide +kernel) (by decide +kernel)
set_option maxRecDepth 20000 in
theorem gX9_told_X0_within : GoodIn wsX9_told (wsV RX9 139 RX0 yX0_within wsX0_within) := goodIn_app (goodIn_of _ (by decide +kernel)) ggX9_told_X0_within
set_option maxRecDepth 20000 in
theorem ggX9_told_X9_reduced : GoodIn wsX9_told wsX9_reduced := goodIn_r _ [95] (by decide +kernel) (by decide +kernel)
set_option maxRecDepth 20000 in
theorem gX9_told_X9_reduced : GoodIn wsX9_told (va_wsS RX9 151 yX9_reduced wsX9_reduced) := goodIn_app (goodIn_of _ (by decide +kernel)) ggX9_told_X9_reduced
set_option maxRecDepth 20000 in
theorem ggX9_sheet_X9_isSheet : GoodIn wsX9_sheet wsX9_isSheet := goodIn_r _ [6] (by decide +kernel) (by decide +kernel)
set_option maxRecDepth 20000 in
theorem gX9_sheet_X9_isSheet : GoodIn wsX9_sheet (va_wsS RX9 155 yX9_isSheet wsX9_isSheet) := goodIn_app (goodIn_of _ (by decide +kernel)) ggX9_sheet_X9_isSheet
set_option maxRecDepth 20000 in
theorem ggX9_sheet_X9_isLane : GoodIn wsX9_sheet wsX9_isLane := goodIn_r _ [9] (by decide +kernel) (by decide +kernel)
set_option maxRecDepth 20000 in
theorem gX9_sheet_X9_isLane : GoodIn wsX9_sheet (va_wsS RX9 158 yX9_isLane wsX9_isLane) := goodIn_app (goodIn_of _ (by decide +kernel)) ggX9_sheet_X9_isLane
set_option maxRecDepth 20000 in
theorem ggX9_sheet_X9_faulted : GoodIn wsX9_sheet wsX9_faulted := goodIn_r _ [13, 1, 41, 42, 43, 44, 45, 46, 47, 48, 49] (by decide +kernel) (by decide +kernel)
set_option maxRecDepth 20000 in
theorem gX9_sheet_X9_faulted : GoodIn wsX9_sheet (wsV RX9 161 RX9 yX9_faulted wsX9_faulted) := goodIn_app (goodIn_of _ (by decide +kernel)) ggX9_sheet_X9_faulted
set_option maxRecDepth 20000 in
theorem ggX9_sheet_X7_renew : GoodIn wsX9_sheet wsX7_renew := goodIn_r _ [18, 19, 20, 21, 22, 23, 17, 24, 25, 26, 27, 28, 29, 30, 31, 32, 33, 34, 35, 36, 37, 38, 39, 40, 50, 51, 52] (by decide +kernel) (by decide +kernel)
set_option maxRecDepth 20000 in
theorem gX9_sheet_X7_renew : GoodIn wsX9_sheet (wsV RX9 164 RX7 yX7_renew wsX7_renew) := goodIn_app (goodIn_of _ (by decide +kernel)) ggX9_sheet_X7_renew
set_option maxRecDepth 20000 in
theorem ggX9_lose_X9_isSheet : GoodIn wsX9_lose wsX9_isSheet := goodIn_r _ [5] (by decide +kernel) (by decide +kernel)
set_option maxRecDepth 20000 in
theorem gX9_lose_X9_isSheet : GoodIn wsX9_lose (va_wsS RX9 155 yX9_isSheet wsX9_isSheet) := goodIn_app (goodIn_of _ (by decide +kernel)) ggX9_lose_X9_isSheet
set_option maxRecDepth 20000 in
theorem ggX9_lose_X7_hasRow : GoodIn wsX9_lose wsX7_hasRow := goodIn_r _ [10, 11, 12, 13, 9, 14, 15, 50, 51, 52] (by decide +kernel) (by decide +kernel)
set_option maxRecDepth 20000 in
theorem gX9_lose_X7_hasRow : GoodIn wsX9_lose (wsV RX9 168 RX7 yX7_hasRow wsX7_hasRow) := goodIn_app (goodIn_of _ (by decide +kernel)) ggX9_lose_X7_hasRow
set_option maxRecDepth 20000 in
theorem ggX9_lose_X7_clear : GoodIn wsX9_lose wsX7_clear := goodIn_r _ [19, 20, 21, 22, 9, 23, 15, 24, 25, 26, 27, 28, 29, 30, 31, 32, 33, 34, 35, 36, 37, 11, 12, 13, 14, 38, 39, 40, 50, 51, 52] (by decide +kernel) (by decide +kernel)
set_option maxRecDepth 20000 in
theorem gX9_lose_X7_clear : GoodIn wsX9_lose (wsV RX9 171 RX7 yX7_clear wsX7_clear) := goodIn_app (goodIn_of _ (by decide +kernel)) ggX9_lose_X7_clear
set_option maxRecDepth 20000 in
theorem ggX9_put_X9_isSheet : GoodIn wsX9_put wsX9_isSheet := goodIn_r _ [6] (by decide +kernel) (by decide +kernel)
set_option maxRecDepth 20000 in
theorem gX9_put_X9_isSheet : GoodIn wsX9_put (va_wsS RX9 155 yX9_isSheet wsX9_isSheet) := goodIn_app (goodIn_of _ (by decide +kernel)) ggX9_put_X9_isSheet
set_option maxRecDepth 20000 in
theorem ggX9_put_X7_hasRow : GoodIn wsX9_put wsX7_hasRow := goodIn_r _ [11, 12, 13, 14, 10, 15, 16, 51, 52, 53] (by decide +kernel) (by decide +kernel)
set_option maxRecDepth 20000 in
theorem gX9_put_X7_hasRow : GoodIn wsX9_put (wsV RX9 168 RX7 yX7_hasRow wsX7_hasRow) := goodIn_app (goodIn_of _ (by decide +kernel)) ggX9_put_X7_hasRow
set_option maxRecDepth 20000 in
theorem ggX9_put_X9_faulted : GoodIn wsX9_put wsX9_faulted := goodIn_r _ [20, 1, 42, 43, 44, 45, 46, 47, 48, 49, 50] (by decide +kernel) (by decide +kernel)
set_option maxRecDepth 20000 in
theorem gX9_put_X9_faulted : GoodIn wsX9_put (wsV RX9 161 RX9 yX9_faulted wsX9_faulted) := goodIn_app (goodIn_of _ (by decide +kernel)) ggX9_put_X9_faulted
set_option maxRecDepth 20000 in
theorem ggX9_put_X7_hasCell : GoodIn wsX9_put wsX7_hasCell := goodIn_r _ [24, 25, 26, 27, 10, 28, 29, 30, 31, 32, 33, 34, 51, 52, 53] (by decide +kernel) (by decide +kernel)
set_option maxRecDepth 20000 in
theorem gX9_put_X7_hasCell : GoodIn wsX9_put (wsV RX9 175 RX7 yX7_hasCell wsX7_hasCell) := goodIn_app (goodIn_of _ (by decide +kernel)) ggX9_put_X7_hasCell
set_option maxRecDepth 20000 in
theorem ggX9_put_X7_set : GoodIn wsX9_put wsX7_set := goodIn_r _ [38, 29, 25, 26, 27, 10, 28, 30, 31, 32, 33, 34, 12, 13, 14, 15, 16, 39, 40, 41, 51, 52, 53] (by decide +kernel) (by decide +kernel)
set_option maxRecDepth 20000 in
theorem gX9_put_X7_set : GoodIn wsX9_put (wsV RX9 178 RX7 yX7_set wsX7_set) := goodIn_app (goodIn_of _ (by decide +kernel)) ggX9_put_X7_set
set_option maxRecDepth 20000 in
theorem ggX9_cell_X9_isSheet : GoodIn wsX9_cell wsX9_isSheet := goodIn_r _ [7] (by decide +kernel) (by decide +kernel)
set_option maxRecDepth 20000 in
theorem gX9_cell_X9_isSheet : GoodIn wsX9_cell (va_wsS RX9 155 yX9_isSheet wsX9_isSheet) := goodIn_app (goodIn_of _ (by decide +kernel)) ggX9_cell_X9_isSheet
set_option maxRecDepth 20000 in
theorem ggX9_cell_X9_isLane : GoodIn wsX9_cell wsX9_isLane := goodIn_r _ [10] (by decide +kernel) (by decide +kernel)
set_option maxRecDepth 20000 in
theorem gX9_cell_X9_isLane : GoodIn wsX9_cell (va_wsS RX9 158 yX9_isLane wsX9_isLane) := goodIn_app (goodIn_of _ (by decide +kernel)) ggX9_cell_X9_isLane
set_option maxRecDepth 20000 in
theorem ggX9_cell_X9_faultAs : GoodIn wsX9_cell wsX9_faultAs := goodIn_r _ [14, 3, 15, 16, 17, 18, 19, 20, 21, 22, 23, 24, 25, 44, 45, 46, 47, 48, 49, 50, 51, 52, 53, 54, 55] (by decide +kernel) (by decide +kernel)
set_option maxRecDepth 20000 in
theorem gX9_cell_X9_faultAs : GoodIn wsX9_cell (wsV RX9 181 RX9 yX9_faultAs wsX9_faultAs) := goodIn_app (goodIn_of _ (by decide +kernel)) ggX9_cell_X9_faultAs
set_option maxRecDepth 20000 in
theorem ggX9_cell_X7_hasCell : GoodIn wsX9_cell wsX7_hasCell := goodIn_r _ [29, 30, 31, 32, 18, 33, 34, 35, 36, 37, 38, 39, 53, 54, 55] (by decide +kernel) (by decide +kernel)
set_option maxRecDepth 20000 in
theorem gX9_cell_X7_hasCell : GoodIn wsX9_cell (wsV RX9 175 RX7 yX7_hasCell wsX7_hasCell) := goodIn_app (goodIn_of _ (by decide +kernel)) ggX9_cell_X7_hasCell
set_option maxRecDepth 20000 in
theorem ggX9_cell_X7_at : GoodIn wsX9_cell wsX7_at := goodIn_r _ [43, 34, 30, 31, 32, 18, 33, 35, 36, 37, 38, 39, 53, 54, 55] (by decide +kernel) (by decide +kernel)
set_option maxRecDepth 20000 in
theorem gX9_cell_X7_at : GoodIn wsX9_cell (wsV RX9 184 RX7 yX7_at wsX7_at) := goodIn_app (goodIn_of _ (by decide +kernel)) ggX9_cell_X7_at
set_option maxRecDepth 20000 in
theorem ggX9_copy_X9_isSheet : GoodIn wsX9_copy wsX9_isSheet := goodIn_r _ [6] (by decide +kernel) (by decide +kernel)
set_option maxRecDepth 20000 in
theorem gX9_copy_X9_isSheet : GoodIn wsX9_copy (va_wsS RX9 155 yX9_isSheet wsX9_isSheet) := goodIn_app (goodIn_of _ (by decide +kernel)) ggX9_copy_X9_isSheet
set_option maxRecDepth 20000 in
theorem ggX9_copy_X7_hasRow : GoodIn wsX9_copy wsX7_hasRow := goodIn_r _ [11, 12, 13, 14, 10, 15, 16, 50, 51, 52] (by decide +kernel) (by decide +kernel)
set_option maxRecDepth 20000 in
theorem gX9_copy_X7_hasRow : GoodIn wsX9_copy (wsV RX9 168 RX7 yX7_hasRow wsX7_hasRow) := goodIn_app (goodIn_of _ (by decide +kernel)) ggX9_copy_X7_hasRow
set_option maxRecDepth 20000 in
theorem ggX9_copy_X9_faulted : GoodIn wsX9_copy wsX9_faulted := goodIn_r _ [20, 1, 41, 42, 43, 44, 45, 46, 47, 48, 49] (by decide +kernel) (by decide +kernel)
set_option maxRecDepth 20000 in
theorem gX9_copy_X9_faulted : GoodIn wsX9_copy (wsV RX9 161 RX9 yX9_faulted wsX9_faulted) := goodIn_app (goodIn_of _ (by decide +kernel)) ggX9_copy_X9_faulted
set_option maxRecDepth 20000 in
theorem ggX9_copy_X7_laneOf : GoodIn wsX9_copy wsX7_laneOf := goodIn_r _ [15, 16, 50, 51, 52] (by decide +kernel) (by decide +kernel)
set_option maxRecDepth 20000 in
theorem gX9_copy_X7_laneOf : GoodIn wsX9_copy (wsV RX9 187 RX7 yX7_laneOf wsX7_laneOf) := goodIn_app (goodIn_of _ (by decide +kernel)) ggX9_copy_X7_laneOf
set_option maxRecDepth 20000 in
theorem ggX9_copy_X7_hasCells : GoodIn wsX9_copy wsX7_hasCells := goodIn_r _ [25, 26, 27, 28, 10, 29, 30, 50, 51, 52] (by decide +kernel) (by decide +kernel)
set_option maxRecDepth 20000 in
theorem gX9_copy_X7_hasCells : GoodIn wsX9_copy (wsV RX9 190 RX7 yX7_hasCells wsX7_hasCells) := goodIn_app (goodIn_of _ (by decide +kernel)) ggX9_copy_X7_hasCells
set_option maxRecDepth 20000 in
theorem ggX9_copy_X7_move : GoodIn wsX9_copy wsX7_move := goodIn_r _ [34, 35, 36, 37, 38, 39, 40, 23, 24, 10, 25, 26, 27, 28, 29, 30, 50, 51, 52] (by decide +kernel) (by decide +kernel)
set_option maxRecDepth 20000 in
theorem gX9_copy_X7_move : GoodIn wsX9_copy (wsV RX9 193 RX7 yX7_move wsX7_move) := goodIn_app (goodIn_of _ (by decide +kernel)) ggX9_copy_X7_move
set_option maxRecDepth 20000 in
theorem ggX9_tell_X4_one : GoodIn wsX9_tell wsX4_one := goodIn_r _ [7, 8, 9, 62, 63] (by decide +kernel) (by decide +kernel)
set_option maxRecDepth 20000 in
theorem gX9_tell_X4_one : GoodIn wsX9_tell (wsV RX9 83 RX4 yX4_one wsX4_one) := goodIn_app (goodIn_of _ (by decide +kernel)) ggX9_tell_X4_one
set_option maxRecDepth 20000 in
theorem ggX9_tell_X1_telling : GoodIn wsX9_tell wsX1_telling := goodIn_r _ [16, 17, 18, 19, 20, 21, 22, 23, 24, 25, 26, 27, 28, 29, 30, 31, 32, 33, 34, 35, 36, 37, 38, 39, 40, 41, 64, 65, 66, 67, 68, 69, 70, 71, 72, 73, 74, 75, 76] (by decide +kernel) (by decide +kernel)
set_option maxRecDepth 20000 in
theorem gX9_tell_X1_telling_u197X1 : GoodIn wsX9_tell (va_wsO RX9 197 RX1 "LivingNumbers$Named" ⟨"LivingNumbers$Named", "telling", "(LLivingNumbers$Trace;)I"⟩ yX1_telling wsX1_telling) := goodIn_app (goodIn_of _ (by decide +kernel)) ggX9_tell_X1_telling
set_option maxRecDepth 20000 in
theorem ggX9_tell_X2_telling : GoodIn wsX9_tell wsX2_telling := goodIn_r _ [28, 29, 18, 19, 20, 21, 22, 30, 31, 32, 33, 34, 35, 36, 37, 38, 64, 65, 66, 67, 68, 69, 70, 71, 72, 73, 74, 75, 76] (by decide +kernel) (by decide +kernel)
set_option maxRecDepth 20000 in
theorem gX9_tell_X2_telling_u197X2 : GoodIn wsX9_tell (va_wsO RX9 197 RX2 "LivingNumbers$Named" ⟨"LivingNumbers$Named", "telling", "(LLivingNumbers$Trace;)I"⟩ yX2_telling wsX2_telling) := goodIn_app (goodIn_of _ (by decide +kernel)) ggX9_tell_X2_telling
set_option maxRecDepth 20000 in
theorem ggX9_tell_X3_telling : GoodIn wsX9_tell wsX3_telling := goodIn_r _ [42, 47, 48, 49, 33, 34, 35, 36, 37, 18, 19, 20, 21, 22, 50, 51, 52, 65, 66, 67, 68, 69, 70, 71, 72, 73, 74, 75, 76, 64] (by decide +kernel) (by decide +kernel)
set_option maxRecDepth 20000 in
theorem gX9_tell_X3_telling : GoodIn wsX9_tell (wsV RX9 197 RX3 yX3_telling wsX3_telling) := goodIn_app (goodIn_of _ (by decide +kernel)) ggX9_tell_X3_telling
set_option maxRecDepth 20000 in
theorem ggX9_mourn_X4_one : GoodIn wsX9_mourn wsX4_one := goodIn_r _ [7, 8, 9, 39, 40] (by decide +kernel) (by decide +kernel)
set_option maxRecDepth 20000 in
theorem gX9_mourn_X4_one : GoodIn wsX9_mourn (wsV RX9 83 RX4 yX4_one wsX4_one) := goodIn_app (goodIn_of _ (by decide +kernel)) ggX9_mourn_X4_one
set_option maxRecDepth 20000 in
theorem ggX9_mourn_X1_mourning : GoodIn wsX9_mourn wsX1_mourning := goodIn_r _ [16, 17, 18, 19, 20, 21, 22, 41] (by decide +kernel) (by decide +kernel)
set_option maxRecDepth 20000 in
theorem gX9_mourn_X1_mourning_u201X1 : GoodIn wsX9_mourn (va_wsO RX9 201 RX1 "LivingNumbers$Named" ⟨"LivingNumbers$Named", "mourning", "(LLivingNumbers$Trace;I)I"⟩ yX1_mourning wsX1_mourning) := goodIn_app (goodIn_of _ (by decide +kernel)) ggX9_mourn_X1_mourning
set_option maxRecDepth 20000 in
theorem ggX9_mourn_X3_mourning : GoodIn wsX9_mourn wsX3_mourning := goodIn_r _ [23, 27, 18, 19, 20, 21, 22, 41] (by decide +kernel) (by decide +kernel)
set_option maxRecDepth 20000 in
theorem gX9_mourn_X3_mourning_u201X2 : GoodIn wsX9_mourn (va_wsU RX9 201 RX2 "LivingNumbers$Named" ⟨"LivingNumbers$Named", "mourning", "(LLivingNumbers$Trace;I)I"⟩ yX3_mourning wsX3_mourning) := goodIn_app (goodIn_of _ (by decide +kernel)) ggX9_mourn_X3_mourning
set_option maxRecDepth 20000 in
theorem gX9_mourn_X3_mourning : GoodIn wsX9_mourn (wsV RX9 201 RX3 yX3_mourning wsX3_mourning) := goodIn_app (goodIn_of _ (by decide +kernel)) ggX9_mourn_X3_mourning
set_option maxRecDepth 20000 in
theorem ggX9_as_X4_one : GoodIn wsX9_as wsX4_one := goodIn_r _ [7, 8, 9, 40, 41] (by decide +kernel) (by decide +kernel)
set_option maxRecDepth 20000 in
theorem gX9_as_X4_one : GoodIn wsX9_as (wsV RX9 83 RX4 yX4_one wsX4_one) := goodIn_app (goodIn_of _ (by decide +kernel)) ggX9_as_X4_one
set_option maxRecDepth 20000 in
theorem ggX9_as_X1_kind : GoodIn wsX9_as wsX1_kind := goodIn_r _ [16] (by decide +kernel) (by decide +kernel)
set_option maxRecDepth 20000 in
theorem gX9_as_X1_kind_u205X1 : GoodIn wsX9_as (va_wsO RX9 205 RX1 "LivingNumbers$Named" ⟨"LivingNumbers$Named", "kind", "()I"⟩ yX1_kind wsX1_kind) := goodIn_app (goodIn_of _ (by decide +kernel)) ggX9_as_X1_kind
set_option maxRecDepth 20000 in
theorem ggX9_as_X2_kind : GoodIn wsX9_as wsX2_kind := goodIn_r _ [21] (by decide +kernel) (by decide +kernel)
set_option maxRecDepth 20000 in
theorem gX9_as_X2_kind_u205X2 : GoodIn wsX9_as (va_wsO RX9 205 RX2 "LivingNumbers$Named" ⟨"LivingNumbers$Named", "kind", "()I"⟩ yX2_kind wsX2_kind) := goodIn_app (goodIn_of _ (by decide +kernel)) ggX9_as_X2_kind
set_option maxRecDepth 20000 in
theorem ggX9_as_X3_kind : GoodIn wsX9_as wsX3_kind := goodIn_r _ [17] (by decide +kernel) (by decide +kernel)
set_option maxRecDepth 20000 in
theorem gX9_as_X3_kind : GoodIn wsX9_as (wsV RX9 205 RX3 yX3_kind wsX3_kind) := goodIn_app (goodIn_of _ (by decide +kernel)) ggX9_as_X3_kind
set_option maxRecDepth 20000 in
theorem ggX9_as_X9_faulted : GoodIn wsX9_as wsX9_faulted := goodIn_r _ [30, 1, 31, 32, 33, 34, 35, 36, 37, 38, 39] (by decide +kernel) (by decide +kernel)
set_option maxRecDepth 20000 in
theorem gX9_as_X9_faulted : GoodIn wsX9_as (wsV RX9 161 RX9 yX9_faulted wsX9_faulted) := goodIn_app (goodIn_of _ (by decide +kernel)) ggX9_as_X9_faulted
set_option maxRecDepth 20000 in
theorem ggX9_trace_X8_left : GoodIn wsX9_trace wsX8_left := goodIn_r _ [6, 7, 17] (by decide +kernel) (by decide +kernel)
set_option maxRecDepth 20000 in
theorem gX9_trace_X8_left : GoodIn wsX9_trace (wsV RX9 208 RX8 yX8_left wsX8_left) := goodIn_app (goodIn_of _ (by decide +kernel)) ggX9_trace_X8_left
set_option maxRecDepth 20000 in
theorem ggX9_many_X4_size : GoodIn wsX9_many wsX4_size := goodIn_r _ [6, 7, 17, 18] (by decide +kernel) (by decide +kernel)
set_option maxRecDepth 20000 in
theorem gX9_many_X4_size : GoodIn wsX9_many (wsV RX9 80 RX4 yX4_size wsX4_size) := goodIn_app (goodIn_of _ (by decide +kernel)) ggX9_many_X4_size
set_option maxRecDepth 20000 in
theorem ggX9_faultAs_X7_hasRow : GoodIn wsX9_faultAs wsX7_hasRow := goodIn_r _ [6, 7, 8, 9, 5, 10, 11, 22, 23, 24] (by decide +kernel) (by decide +kernel)
set_option maxRecDepth 20000 in
theorem gX9_faultAs_X7_hasRow : GoodIn wsX9_faultAs (wsV RX9 168 RX7 yX7_hasRow wsX7_hasRow) := goodIn_app (goodIn_of _ (by decide +kernel)) ggX9_faultAs_X7_hasRow
set_option maxRecDepth 20000 in
theorem ggX9_faultAs_X7_laneOf : GoodIn wsX9_faultAs wsX7_laneOf := goodIn_r _ [10, 11, 22, 23, 24] (by decide +kernel) (by decide +kernel)
set_option maxRecDepth 20000 in
theorem gX9_faultAs_X7_laneOf : GoodIn wsX9_faultAs (wsV RX9 187 RX7 yX7_laneOf wsX7_laneOf) := goodIn_app (goodIn_of _ (by decide +kernel)) ggX9_faultAs_X7_laneOf
set_option maxRecDepth 20000 in
theorem ggX9_refusalOfCells_X9_isVillage : GoodIn wsX9_refusalOfCells wsX9_isVillage := goodIn_r _ [6] (by decide +kernel) (by decide +kernel)
set_option maxRecDepth 20000 in
theorem gX9_refusalOfCells_X9_isVillage : GoodIn wsX9_refusalOfCells (va_wsS RX9 93 yX9_isVillage wsX9_isVillage) := goodIn_app (goodIn_of _ (by decide +kernel)) ggX9_refusalOfCells_X9_isVillage
set_option maxRecDepth 20000 in
theorem ggX9_refusalOfCells_X9_isSheet : GoodIn wsX9_refusalOfCells wsX9_isSheet := goodIn_r _ [9] (by decide +kernel) (by decide +kernel)
set_option maxRecDepth 20000 in
theorem gX9_refusalOfCells_X9_isSheet : GoodIn wsX9_refusalOfCells (va_wsS RX9 155 yX9_isSheet wsX9_isSheet) := goodIn_app (goodIn_of _ (by decide +kernel)) ggX9_refusalOfCells_X9_isSheet
set_option maxRecDepth 20000 in
theorem ggX9_refusalOfCells_X9_isLane : GoodIn wsX9_refusalOfCells wsX9_isLane := goodIn_r _ [12] (by decide +kernel) (by decide +kernel)
set_option maxRecDepth 20000 in
theorem gX9_refusalOfCells_X9_isLane : GoodIn wsX9_refusalOfCells (va_wsS RX9 158 yX9_isLane wsX9_isLane) := goodIn_app (goodIn_of _ (by decide +kernel)) ggX9_refusalOfCells_X9_isLane
set_option maxRecDepth 20000 in
theorem ggX9_refusalOfCells_X9_faultAs : GoodIn wsX9_refusalOfCells wsX9_faultAs := goodIn_r _ [16, 2, 17, 18, 19, 20, 21, 22, 23, 24, 25, 26, 27, 41, 42, 43, 44, 45, 46, 47, 48, 49, 50, 51, 52] (by decide +kernel) (by decide +kernel)
set_option maxRecDepth 20000 in
theorem gX9_refusalOfCells_X9_faultAs : GoodIn wsX9_refusalOfCells (wsV RX9 181 RX9 yX9_faultAs wsX9_faultAs) := goodIn_app (goodIn_of _ (by decide +kernel)) ggX9_refusalOfCells_X9_faultAs
set_option maxRecDepth 20000 in
theorem ggX9_refusalOfCells_X9_faulted : GoodIn wsX9_refusalOfCells wsX9_faulted := goodIn_r _ [31, 1, 41, 42, 43, 44, 45, 46, 47, 48, 49] (by decide +kernel) (by decide +kernel)
set_option maxRecDepth 20000 in
theorem gX9_refusalOfCells_X9_faulted : GoodIn wsX9_refusalOfCells (wsV RX9 161 RX9 yX9_faulted wsX9_faulted) := goodIn_app (goodIn_of _ (by decide +kernel)) ggX9_refusalOfCells_X9_faulted
set_option maxRecDepth 20000 in
theorem ggX9_refusalOfCells_X7_hasCells : GoodIn wsX9_refusalOfCells wsX7_hasCells := goodIn_r _ [35, 36, 37, 38, 20, 39, 40, 50, 51, 52] (by decide +kernel) (by decide +kernel)
set_option maxRecDepth 20000 in
theorem gX9_refusalOfCells_X7_hasCells : GoodIn wsX9_refusalOfCells (wsV RX9 190 RX7 yX7_hasCells wsX7_hasCells) := goodIn_app (goodIn_of _ (by decide +kernel)) ggX9_refusalOfCells_X7_hasCells
set_option maxRecDepth 20000 in
theorem ggX9_refusalOfRow_X9_refusalOfCells : GoodIn wsX9_refusalOfRow wsX9_refusalOfCells := goodIn_r _ [7, 8, 2, 9, 10, 6, 11, 12, 13, 14, 15, 16, 17, 18, 19, 20, 21, 22, 23, 24, 25, 26, 27, 28, 29, 30, 31, 32, 33, 34, 35, 36, 37, 38, 39, 40, 41, 42, 43, 44, 45, 62, 63, 64, 65, 66, 67, 68, 69, 70, 71, 72, 73] (by decide +kernel) (by decide +kernel)
set_option maxRecDepth 20000 in
theorem gX9_refusalOfRow_X9_refusalOfCells : GoodIn wsX9_refusalOfRow (wsV RX9 64 RX9 yX9_refusalOfCells wsX9_refusalOfCells) := goodIn_app (goodIn_of _ (by decide +kernel)) ggX9_refusalOfRow_X9_refusalOfCells
set_option maxRecDepth 20000 in
theorem ggX9_refusalOfRow_X7_at : GoodIn wsX9_refusalOfRow wsX7_at := goodIn_r _ [49, 50, 51, 52, 53, 25, 54, 41, 42, 43, 44, 45, 71, 72, 73] (by decide +kernel) (by decide +kernel)
set_option maxRecDepth 20000 in
theorem gX9_refusalOfRow_X7_at : GoodIn wsX9_refusalOfRow (wsV RX9 184 RX7 yX7_at wsX7_at) := goodIn_app (goodIn_of _ (by decide +kernel)) ggX9_refusalOfRow_X7_at
set_option maxRecDepth 20000 in
theorem ggX9_refusalOfRow_X4_one : GoodIn wsX9_refusalOfRow wsX4_one := goodIn_r _ [59, 60, 61, 74, 75] (by decide +kernel) (by decide +kernel)
set_option maxRecDepth 20000 in
theorem gX9_refusalOfRow_X4_one : GoodIn wsX9_refusalOfRow (wsV RX9 83 RX4 yX4_one wsX4_one) := goodIn_app (goodIn_of _ (by decide +kernel)) ggX9_refusalOfRow_X4_one
set_option maxRecDepth 20000 in
theorem ggX9_areBargains_X7_at : GoodIn wsX9_areBargains wsX7_at := goodIn_r _ [6, 7, 8, 9, 10, 5, 11, 12, 13, 14, 15, 16, 30, 31, 32] (by decide +kernel) (by decide +kernel)
set_option maxRecDepth 20000 in
theorem gX9_areBargains_X7_at : GoodIn wsX9_areBargains (wsV RX9 184 RX7 yX7_at wsX7_at) := goodIn_app (goodIn_of _ (by decide +kernel)) ggX9_areBargains_X7_at
set_option maxRecDepth 20000 in
theorem ggX9_areBargains_X9_isQuantity : GoodIn wsX9_areBargains wsX9_isQuantity := goodIn_r _ [20] (by decide +kernel) (by decide +kernel)
set_option maxRecDepth 20000 in
theorem gX9_areBargains_X9_isQuantity : GoodIn wsX9_areBargains (va_wsS RX9 115 yX9_isQuantity wsX9_isQuantity) := goodIn_app (goodIn_of _ (by decide +kernel)) ggX9_areBargains_X9_isQuantity
set_option maxRecDepth 20000 in
theorem ggX9_meaning_X7_at : GoodIn wsX9_meaning wsX7_at := goodIn_r _ [7, 8, 9, 10, 11, 6, 12, 13, 14, 15, 16, 17, 79, 80, 81] (by decide +kernel) (by decide +kernel)
set_option maxRecDepth 20000 in
theorem gX9_meaning_X7_at : GoodIn wsX9_meaning (wsV RX9 184 RX7 yX7_at wsX7_at) := goodIn_app (goodIn_of _ (by decide +kernel)) ggX9_meaning_X7_at
set_option maxRecDepth 20000 in
theorem ggX9_meaning_X4_one : GoodIn wsX9_meaning wsX4_one := goodIn_r _ [22, 23, 24, 82, 83] (by decide +kernel) (by decide +kernel)
set_option maxRecDepth 20000 in
theorem gX9_meaning_X4_one : GoodIn wsX9_meaning (wsV RX9 83 RX4 yX4_one wsX4_one) := goodIn_app (goodIn_of _ (by decide +kernel)) ggX9_meaning_X4_one
set_option maxRecDepth 20000 in
theorem ggX9_meaning_X3_isHeard : GoodIn wsX9_meaning wsX3_isHeard := goodIn_r _ [30, 31, 32, 33, 34, 35, 36, 37, 38, 39, 40, 41, 42, 29, 43, 44, 45, 46, 47, 48, 49, 50, 51, 52, 53, 54, 55, 56, 57, 84, 85, 86, 87, 88, 89, 90, 91, 92, 93, 94, 95] (by decide +kernel) (by decide +kernel)
set_option maxRecDepth 20000 in
theorem gX9_meaning_X3_isHeard_u100X1 : GoodIn wsX9_meaning (va_wsU RX9 100 RX1 "LivingNumbers$Named" ⟨"LivingNumbers$Named", "isHeard", "(II)Z"⟩ yX3_isHeard wsX3_isHeard) := goodIn_app (goodIn_of _ (by decide +kernel)) ggX9_meaning_X3_isHeard
set_option maxRecDepth 20000 in
theorem gX9_meaning_X3_isHeard_u100X2 : GoodIn wsX9_meaning (va_wsU RX9 100 RX2 "LivingNumbers$Named" ⟨"LivingNumbers$Named", "isHeard", "(II)Z"⟩ yX3_isHeard wsX3_isHeard) := goodIn_app (goodIn_of _ (by decide +kernel)) ggX9_meaning_X3_isHeard
set_option maxRecDepth 20000 in
theorem gX9_meaning_X3_isHeard : GoodIn wsX9_meaning (wsV RX9 100 RX3 yX3_isHeard wsX3_isHeard) := goodIn_app (goodIn_of _ (by decide +kernel)) ggX9_meaning_X3_isHeard
set_option maxRecDepth 20000 in
theorem ggX9_meaning_X3_number : GoodIn wsX9_meaning wsX3_number := goodIn_r _ [65, 66, 84, 85, 86, 87, 88, 89, 90, 91, 92, 93, 94, 95] (by decide +kernel) (by decide +kernel)
set_option maxRecDepth 20000 in
theorem gX9_meaning_X3_number_u211X1 : GoodIn wsX9_meaning (va_wsU RX9 211 RX1 "LivingNumbers$Named" ⟨"LivingNumbers$Named", "number", "()I"⟩ yX3_number wsX3_number) := goodIn_app (goodIn_of _ (by decide +kernel)) ggX9_meaning_X3_number
set_option maxRecDepth 20000 in
theorem gX9_meaning_X3_number_u211X2 : GoodIn wsX9_meaning (va_wsU RX9 211 RX2 "LivingNumbers$Named" ⟨"LivingNumbers$Named", "number", "()I"⟩ yX3_number wsX3_number) := goodIn_app (goodIn_of _ (by decide +kernel)) ggX9_meaning_X3_number
set_option maxRecDepth 20000 in
theorem gX9_meaning_X3_number : GoodIn wsX9_meaning (wsV RX9 211 RX3 yX3_number wsX3_number) := goodIn_app (goodIn_of _ (by decide +kernel)) ggX9_meaning_X3_number
set_option maxRecDepth 20000 in
theorem ggX9_fewestWords_X4_teach : GoodIn wsX9_fewestWords wsX4_teach := goodIn_r _ [8, 9, 10, 11, 12, 13, 14, 15, 16, 17, 18, 19, 7, 20, 21, 22, 23, 24, 25, 26, 27, 28, 29, 30, 31, 32, 33, 34, 35, 36, 37, 38, 39, 40, 41, 42, 43, 44, 45, 46, 47, 48, 49, 50, 51, 52, 53, 54, 55, 56, 57, 58, 59, 60, 61, 62, 63, 64, 65, 66, 67, 68, 69, 70, 71, 72, 73, 74, 88, 89, 90, 91, 92, 93, 94, 95, 96, 97, 98, 99, 100, 101, 102] (by decide +kernel) (by decide +kernel)
set_option maxRecDepth 20000 in
theorem gX9_fewestWords_X4_teach : GoodIn wsX9_fewestWords (wsV RX9 132 RX4 yX4_teach wsX4_teach) := goodIn_app (goodIn_of _ (by decide +kernel)) ggX9_fewestWords_X4_teach
set_option maxRecDepth 20000 in
theorem ggX9_fewestWords_X0_of : GoodIn wsX9_fewestWords wsX0_of := goodIn_r _ [78, 15, 16, 90] (by decide +kernel) (by decide +kernel)
set_option maxRecDepth 20000 in
theorem gX9_fewestWords_X0_of : GoodIn wsX9_fewestWords (wsV RX9 214 RX0 yX0_of wsX0_of) := goodIn_app (goodIn_of _ (by decide +kernel)) ggX9_fewestWords_X0_of
set_option maxRecDepth 20000 in
theorem ggX9_numberAt_X4_greatestStep : GoodIn wsX9_numberAt wsX4_greatestStep := goodIn_r _ [7, 8, 9, 10, 11, 6, 12, 13, 14, 15, 16, 17, 18, 19, 20, 21, 22, 23, 24, 25, 26, 27, 28, 29, 30, 31, 32, 33, 34, 35, 36, 37, 38, 39, 40, 41, 42, 43, 44, 45, 46, 47, 48, 49, 50, 51, 52, 53, 54, 55, 56, 57, 58, 59, 60, 61, 62, 63, 64, 65, 75, 76, 77, 78, 79, 80, 81, 82, 83, 84, 85, 86, 87, 88, 89] (by decide +kernel) (by decide +kernel)
set_option maxRecDepth 20000 in
theorem gX9_numberAt_X4_greatestStep : GoodIn wsX9_numberAt (wsV RX9 218 RX4 yX4_greatestStep wsX4_greatestStep) := goodIn_app (goodIn_of _ (by decide +kernel)) ggX9_numberAt_X4_greatestStep
set_option maxRecDepth 20000 in
theorem ggX9_bargainsSaid_X7_at : GoodIn wsX9_bargainsSaid wsX7_at := goodIn_r _ [8, 9, 10, 11, 12, 7, 13, 14, 15, 16, 17, 18, 50, 51, 52] (by decide +kernel) (by decide +kernel)
set_option maxRecDepth 20000 in
theorem gX9_bargainsSaid_X7_at : GoodIn wsX9_bargainsSaid (wsV RX9 184 RX7 yX7_at wsX7_at) := goodIn_app (goodIn_of _ (by decide +kernel)) ggX9_bargainsSaid_X7_at
set_option maxRecDepth 20000 in
theorem ggX9_bargainsSaid_X0_withinBy : GoodIn wsX9_bargainsSaid wsX0_withinBy := goodIn_r _ [23, 24, 25, 26, 27, 28, 29, 22, 30, 31, 32, 33, 34, 35, 36, 37, 38, 39, 40, 53] (by decide +kernel) (by decide +kernel)
set_option maxRecDepth 20000 in
theorem gX9_bargainsSaid_X0_withinBy : GoodIn wsX9_bargainsSaid (wsV RX9 222 RX0 yX0_withinBy wsX0_withinBy) := goodIn_app (goodIn_of _ (by decide +kernel)) ggX9_bargainsSaid_X0_withinBy
set_option maxRecDepth 20000 in
theorem ggX10_failedLong_X10_nothing : GoodIn wsX10_failedLong wsX10_nothing := goodIn_r _ [5, 6] (by decide +kernel) (by decide +kernel)
set_option maxRecDepth 20000 in
theorem gX10_failedLong_X10_nothing : GoodIn wsX10_failedLong (va_wsS RX10 68 yX10_nothing wsX10_nothing) := goodIn_app (goodIn_of _ (by decide +kernel)) ggX10_failedLong_X10_nothing
set_option maxRecDepth 20000 in
theorem ggX10_barred_X10_noSheet : GoodIn wsX10_barred wsX10_noSheet := goodIn_r _ [7, 8, 9, 10, 6, 11] (by decide +kernel) (by decide +kernel)
set_option maxRecDepth 20000 in
theorem gX10_barred_X10_noSheet : GoodIn wsX10_barred (va_wsS RX10 72 yX10_noSheet wsX10_noSheet) := goodIn_app (goodIn_of _ (by decide +kernel)) ggX10_barred_X10_noSheet
set_option maxRecDepth 20000 in
theorem ggX10_barred_X10_refused : GoodIn wsX10_barred wsX10_refused := goodIn_r _ [15, 16, 24, 25, 26, 27, 28, 29, 30, 31, 32, 33, 34, 35, 36, 37, 38, 39, 40, 41, 42, 43, 44, 45] (by decide +kernel) (by decide +kernel)
set_option maxRecDepth 20000 in
theorem gX10_barred_X10_refused : GoodIn wsX10_barred (wsV RX10 76 RX10 yX10_refused wsX10_refused) := goodIn_app (goodIn_of _ (by decide +kernel)) ggX10_barred_X10_refused
set_option maxRecDepth 20000 in
theorem ggX10_barred_X10_in : GoodIn wsX10_barred wsX10_in := goodIn_r _ [11] (by decide +kernel) (by decide +kernel)
set_option maxRecDepth 20000 in
theorem gX10_barred_X10_in : GoodIn wsX10_barred (va_wsS RX10 82 yX10_in wsX10_in) := goodIn_app (goodIn_of _ (by decide +kernel)) ggX10_barred_X10_in
set_option maxRecDepth 20000 in
theorem ggX10_barred_X10_failed : GoodIn wsX10_barred wsX10_failed := goodIn_r _ [20, 16, 24, 25, 26, 27, 28, 29, 30, 31, 32, 33, 34, 35, 36, 37, 38, 39, 40, 41, 42, 43, 44, 45] (by decide +kernel) (by decide +kernel)
set_option maxRecDepth 20000 in
theorem gX10_barred_X10_failed : GoodIn wsX10_barred (wsV RX10 86 RX10 yX10_failed wsX10_failed) := goodIn_app (goodIn_of _ (by decide +kernel)) ggX10_barred_X10_failed
set_option maxRecDepth 20000 in
theorem ggX10_barred_X10_isBeyond : GoodIn wsX10_barred wsX10_isBeyond := goodIn_r _ [23] (by decide +kernel) (by decide +kernel)
set_option maxRecDepth 20000 in
theorem gX10_barred_X10_isBeyond : GoodIn wsX10_barred (va_wsS RX10 89 yX10_isBeyond wsX10_isBeyond) := goodIn_app (goodIn_of _ (by decide +kernel)) ggX10_barred_X10_isBeyond
set_option maxRecDepth 20000 in
theorem ggX10_noOne_X10_in : GoodIn wsX10_noOne wsX10_in := goodIn_r _ [5] (by decide +kernel) (by decide +kernel)
set_option maxRecDepth 20000 in
theorem gX10_noOne_X10_in : GoodIn wsX10_noOne (va_wsS RX10 82 yX10_in wsX10_in) := goodIn_app (goodIn_of _ (by decide +kernel)) ggX10_noOne_X10_in
set_option maxRecDepth 20000 in
theorem ggX10_noVillage_X10_in : GoodIn wsX10_noVillage wsX10_in := goodIn_r _ [4] (by decide +kernel) (by decide +kernel)
set_option maxRecDepth 20000 in
theorem gX10_noVillage_X10_in : GoodIn wsX10_noVillage (va_wsS RX10 82 yX10_in wsX10_in) := goodIn_app (goodIn_of _ (by decide +kernel)) ggX10_noVillage_X10_in
set_option maxRecDepth 20000 in
theorem ggX10_isDay_X10_in : GoodIn wsX10_isDay wsX10_in := goodIn_r _ [5] (by decide +kernel) (by decide +kernel)
set_option maxRecDepth 20000 in
theorem gX10_isDay_X10_in : GoodIn wsX10_isDay (va_wsS RX10 82 yX10_in wsX10_in) := goodIn_app (goodIn_of _ (by decide +kernel)) ggX10_isDay_X10_in
set_option maxRecDepth 20000 in
theorem ggX10_isFew_X10_in : GoodIn wsX10_isFew wsX10_in := goodIn_r _ [5] (by decide +kernel) (by decide +kernel)
set_option maxRecDepth 20000 in
theorem gX10_isFew_X10_in : GoodIn wsX10_isFew (va_wsS RX10 82 yX10_in wsX10_in) := goodIn_app (goodIn_of _ (by decide +kernel)) ggX10_isFew_X10_in
set_option maxRecDepth 20000 in
theorem ggX10_figureAt_X10_in : GoodIn wsX10_figureAt wsX10_in := goodIn_r _ [6] (by decide +kernel) (by decide +kernel)
set_option maxRecDepth 20000 in
theorem gX10_figureAt_X10_in : GoodIn wsX10_figureAt (va_wsS RX10 82 yX10_in wsX10_in) := goodIn_app (goodIn_of _ (by decide +kernel)) ggX10_figureAt_X10_in
set_option maxRecDepth 20000 in
theorem ggX10_two_X10_figureAt : GoodIn wsX10_two wsX10_figureAt := goodIn_r _ [7, 8, 9, 10, 11, 6, 12, 13, 14, 15, 16, 17, 18, 19, 20, 21, 22, 23, 24, 25, 26, 27, 28, 29, 30, 31, 32, 33, 34] (by decide +kernel) (by decide +kernel)
set_option maxRecDepth 20000 in
theorem gX10_two_X10_figureAt : GoodIn wsX10_two (wsV RX10 103 RX10 yX10_figureAt wsX10_figureAt) := goodIn_app (goodIn_of _ (by decide +kernel)) ggX10_two_X10_figureAt
set_option maxRecDepth 20000 in
theorem ggX10_two_X10_in : GoodIn wsX10_two wsX10_in := goodIn_r _ [12] (by decide +kernel) (by decide +kernel)
set_option maxRecDepth 20000 in
theorem gX10_two_X10_in : GoodIn wsX10_two (va_wsS RX10 82 yX10_in wsX10_in) := goodIn_app (goodIn_of _ (by decide +kernel)) ggX10_two_X10_in
set_option maxRecDepth 20000 in
theorem ggX10_readsOne_X10_figureAt : GoodIn wsX10_readsOne wsX10_figureAt := goodIn_r _ [13, 3, 14, 15, 16, 12, 17, 23, 24, 25, 26, 27, 28, 29, 30, 31, 32, 33, 34, 35, 36, 37, 38, 39, 40, 41, 42, 43, 44] (by decide +kernel) (by decide +kernel)
set_option maxRecDepth 20000 in
theorem gX10_readsOne_X10_figureAt : GoodIn wsX10_readsOne (wsV RX10 103 RX10 yX10_figureAt wsX10_figureAt) := goodIn_app (goodIn_of _ (by decide +kernel)) ggX10_readsOne_X10_figureAt
set_option maxRecDepth 20000 in
theorem ggX10_readsOne_X10_in : GoodIn wsX10_readsOne wsX10_in := goodIn_r _ [17] (by decide +kernel) (by decide +kernel)
set_option maxRecDepth 20000 in
theorem gX10_readsOne_X10_in : GoodIn wsX10_readsOne (va_wsS RX10 82 yX10_in wsX10_in) := goodIn_app (goodIn_of _ (by decide +kernel)) ggX10_readsOne_X10_in
end
section
set_option maxRecDepth 20000 in
theorem ggX10_readsOne_X10_two : GoodIn wsX10_readsOne wsX10_two := goodIn_r _ [21, 2, 22, 9, 10, 11, 12, 13, 3, 14, 15, 16, 17, 23, 24, 25, 26, 27, 28, 29, 30, 31, 32, 33, 34, 35, 36, 37, 38, 39, 40, 41, 42, 43, 44] (by decide +kernel) (by decide +kernel)
set_option maxRecDepth 20000 in
theorem gX10_readsOne_X10_two : GoodIn wsX10_readsOne (wsV RX10 112 RX10 yX10_two wsX10_two) := goodIn_app (goodIn_of _ (by decide +kernel)) ggX10_readsOne_X10_two
set_option maxRecDepth 20000 in
theorem ggX10_readsRoll_X10_readsOne : GoodIn wsX10_readsRoll wsX10_readsOne := goodIn_r _ [7, 2, 1, 8, 9, 10, 11, 12, 13, 14, 15, 16, 6, 17, 18, 19, 20, 21, 22, 23, 24, 25, 26, 27, 28, 29, 30, 31, 32, 33, 34, 35, 36, 37, 38, 39, 40, 41, 42, 43, 44, 45, 46, 47, 48] (by decide +kernel) (by decide +kernel)
set_option maxRecDepth 20000 in
theorem gX10_readsRoll_X10_readsOne : GoodIn wsX10_readsRoll (wsV RX10 116 RX10 yX10_readsOne wsX10_readsOne) := goodIn_app (goodIn_of _ (by decide +kernel)) ggX10_readsRoll_X10_readsOne
set_option maxRecDepth 20000 in
theorem ggX10_roll_X10_barred : GoodIn wsX10_roll wsX10_barred := goodIn_r _ [18, 19, 20, 21, 22, 23, 17, 24, 25, 26, 27, 28, 29, 30, 31, 32, 33, 34, 35, 36, 37, 38, 39, 40, 60, 61, 62, 63, 64, 65, 66, 67, 68, 69, 70, 71, 72, 73, 74, 75, 76, 77, 78, 79, 80, 81] (by decide +kernel) (by decide +kernel)
set_option maxRecDepth 20000 in
theorem gX10_roll_X10_barred : GoodIn wsX10_roll (wsV RX10 120 RX10 yX10_barred wsX10_barred) := goodIn_app (goodIn_of _ (by decide +kernel)) ggX10_roll_X10_barred
set_option maxRecDepth 20000 in
theorem ggX10_roll_X10_readsRoll : GoodIn wsX10_roll wsX10_readsRoll := goodIn_r _ [44, 1, 2, 45, 46, 47, 17, 48, 49, 5, 7, 9, 11, 13, 50, 51, 52, 53, 54, 26, 27, 28, 55, 56, 57, 58, 59, 60, 61, 62, 63, 64, 65, 66, 67, 68, 69, 70, 71, 72, 73, 74, 75, 76, 77, 78, 79, 80, 81] (by decide +kernel) (by decide +kernel)
set_option maxRecDepth 20000 in
theorem gX10_roll_X10_readsRoll : GoodIn wsX10_roll (wsV RX10 124 RX10 yX10_readsRoll wsX10_readsRoll) := goodIn_app (goodIn_of _ (by decide +kernel)) ggX10_roll_X10_readsRoll
set_option maxRecDepth 20000 in
theorem ggX10_roll_X10_refused : GoodIn wsX10_roll wsX10_refused := goodIn_r _ [32, 33, 60, 61, 62, 63, 64, 65, 66, 67, 68, 69, 70, 71, 72, 73, 74, 75, 76, 77, 78, 79, 80, 81] (by decide +kernel) (by decide +kernel)
set_option maxRecDepth 20000 in
theorem gX10_roll_X10_refused : GoodIn wsX10_roll (wsV RX10 76 RX10 yX10_refused wsX10_refused) := goodIn_app (goodIn_of _ (by decide +kernel)) ggX10_roll_X10_refused
set_option maxRecDepth 20000 in
theorem ggX10_ofOne_X10_noOne : GoodIn wsX10_ofOne wsX10_noOne := goodIn_r _ [10, 11, 12, 13, 9, 14, 15, 16, 17, 18, 19, 20, 21, 22, 23, 24, 25, 26, 27, 28, 29, 30, 31, 32, 33, 34, 35, 36] (by decide +kernel) (by decide +kernel)
set_option maxRecDepth 20000 in
theorem gX10_ofOne_X10_noOne : GoodIn wsX10_ofOne (wsV RX10 127 RX10 yX10_noOne wsX10_noOne) := goodIn_app (goodIn_of _ (by decide +kernel)) ggX10_ofOne_X10_noOne
set_option maxRecDepth 20000 in
theorem ggX10_lives_X10_noOne : GoodIn wsX10_lives wsX10_noOne := goodIn_r _ [5, 6, 7, 8, 4, 9, 25, 26, 27, 28, 29, 30, 31, 32, 33, 34, 35, 36, 37, 38, 39, 40, 41, 42, 43, 44, 45, 46] (by decide +kernel) (by decide +kernel)
set_option maxRecDepth 20000 in
theorem gX10_lives_X10_noOne : GoodIn wsX10_lives (wsV RX10 127 RX10 yX10_noOne wsX10_noOne) := goodIn_app (goodIn_of _ (by decide +kernel)) ggX10_lives_X10_noOne
set_option maxRecDepth 20000 in
theorem ggX10_lives_X10_noVillage : GoodIn wsX10_lives wsX10_noVillage := goodIn_r _ [12, 7, 8, 4, 9] (by decide +kernel) (by decide +kernel)
set_option maxRecDepth 20000 in
theorem gX10_lives_X10_noVillage : GoodIn wsX10_lives (va_wsS RX10 130 yX10_noVillage wsX10_noVillage) := goodIn_app (goodIn_of _ (by decide +kernel)) ggX10_lives_X10_noVillage
set_option maxRecDepth 20000 in
theorem ggX10_lives_X10_isDay : GoodIn wsX10_lives wsX10_isDay := goodIn_r _ [15, 16, 7, 8, 4, 9] (by decide +kernel) (by decide +kernel)
set_option maxRecDepth 20000 in
theorem gX10_lives_X10_isDay : GoodIn wsX10_lives (va_wsS RX10 133 yX10_isDay wsX10_isDay) := goodIn_app (goodIn_of _ (by decide +kernel)) ggX10_lives_X10_isDay
set_option maxRecDepth 20000 in
theorem ggX10_lives_X10_doesLive : GoodIn wsX10_lives wsX10_doesLive := goodIn_r _ [20, 21, 22, 23, 24, 25, 26, 27, 28, 29, 30, 31, 32, 33, 34, 35, 36, 37, 38, 39, 40, 41, 42, 43, 44, 45, 46] (by decide +kernel) (by decide +kernel)
set_option maxRecDepth 20000 in
theorem gX10_lives_X10_doesLive : GoodIn wsX10_lives (wsV RX10 136 RX10 yX10_doesLive wsX10_doesLive) := goodIn_app (goodIn_of _ (by decide +kernel)) ggX10_lives_X10_doesLive
set_option maxRecDepth 20000 in
theorem ggX10_saidBy_X10_doesLive : GoodIn wsX10_saidBy wsX10_doesLive := goodIn_r _ [7, 8, 9, 10, 11, 12, 13, 14, 15, 16, 17, 18, 19, 20, 21, 22, 23, 24, 25, 26, 27, 28, 29, 30, 31, 32, 33] (by decide +kernel) (by decide +kernel)
set_option maxRecDepth 20000 in
theorem gX10_saidBy_X10_doesLive : GoodIn wsX10_saidBy (wsV RX10 136 RX10 yX10_doesLive wsX10_doesLive) := goodIn_app (goodIn_of _ (by decide +kernel)) ggX10_saidBy_X10_doesLive
set_option maxRecDepth 20000 in
theorem ggX10_word_X10_noVillage : GoodIn wsX10_word wsX10_noVillage := goodIn_r _ [5, 6, 7, 4, 8] (by decide +kernel) (by decide +kernel)
set_option maxRecDepth 20000 in
theorem gX10_word_X10_noVillage : GoodIn wsX10_word (va_wsS RX10 130 yX10_noVillage wsX10_noVillage) := goodIn_app (goodIn_of _ (by decide +kernel)) ggX10_word_X10_noVillage
set_option maxRecDepth 20000 in
theorem ggX10_word_X10_in : GoodIn wsX10_word wsX10_in := goodIn_r _ [8] (by decide +kernel) (by decide +kernel)
set_option maxRecDepth 20000 in
theorem gX10_word_X10_in : GoodIn wsX10_word (va_wsS RX10 82 yX10_in wsX10_in) := goodIn_app (goodIn_of _ (by decide +kernel)) ggX10_word_X10_in
set_option maxRecDepth 20000 in
theorem ggX10_word_X10_isDay : GoodIn wsX10_word wsX10_isDay := goodIn_r _ [11, 12, 6, 7, 4, 8] (by decide +kernel) (by decide +kernel)
set_option maxRecDepth 20000 in
theorem gX10_word_X10_isDay : GoodIn wsX10_word (va_wsS RX10 133 yX10_isDay wsX10_isDay) := goodIn_app (goodIn_of _ (by decide +kernel)) ggX10_word_X10_isDay
set_option maxRecDepth 20000 in
theorem ggX10_word_X10_saidBy : GoodIn wsX10_word wsX10_saidBy := goodIn_r _ [16, 17, 18, 19, 20, 21, 4, 22, 23, 24, 25, 26, 27, 28, 29, 30, 31, 32, 33, 34, 35, 36, 37, 38, 39, 40, 41, 42, 43, 44, 45, 46, 47, 48] (by decide +kernel) (by decide +kernel)
set_option maxRecDepth 20000 in
theorem gX10_word_X10_saidBy : GoodIn wsX10_word (wsV RX10 142 RX10 yX10_saidBy wsX10_saidBy) := goodIn_app (goodIn_of _ (by decide +kernel)) ggX10_word_X10_saidBy
set_option maxRecDepth 20000 in
theorem ggX10_sayable_X10_noVillage : GoodIn wsX10_sayable wsX10_noVillage := goodIn_r _ [4, 5, 6, 3, 7] (by decide +kernel) (by decide +kernel)
set_option maxRecDepth 20000 in
theorem gX10_sayable_X10_noVillage : GoodIn wsX10_sayable (va_wsS RX10 130 yX10_noVillage wsX10_noVillage) := goodIn_app (goodIn_of _ (by decide +kernel)) ggX10_sayable_X10_noVillage
set_option maxRecDepth 20000 in
theorem ggX10_sayable_X10_isDay : GoodIn wsX10_sayable wsX10_isDay := goodIn_r _ [10, 11, 5, 6, 3, 7] (by decide +kernel) (by decide +kernel)
set_option maxRecDepth 20000 in
theorem gX10_sayable_X10_isDay : GoodIn wsX10_sayable (va_wsS RX10 133 yX10_isDay wsX10_isDay) := goodIn_app (goodIn_of _ (by decide +kernel)) ggX10_sayable_X10_isDay
set_option maxRecDepth 20000 in
theorem ggX10_sayable_X10_saidBy : GoodIn wsX10_sayable wsX10_saidBy := goodIn_r _ [15, 16, 17, 18, 19, 20, 3, 21, 22, 23, 24, 25, 26, 27, 28, 29, 30, 31, 32, 33, 34, 35, 36, 37, 38, 39, 40, 41, 42, 43, 44, 45, 46, 47] (by decide +kernel) (by decide +kernel)
set_option maxRecDepth 20000 in
theorem gX10_sayable_X10_saidBy : GoodIn wsX10_sayable (wsV RX10 142 RX10 yX10_saidBy wsX10_saidBy) := goodIn_app (goodIn_of _ (by decide +kernel)) ggX10_sayable_X10_saidBy
set_option maxRecDepth 20000 in
theorem ggX10_layCan_X10_doesLive : GoodIn wsX10_layCan wsX10_doesLive := goodIn_r _ [8, 9, 10, 11, 12, 13, 14, 15, 16, 17, 18, 19, 20, 21, 22, 23, 24, 25, 26, 27, 28, 29, 30, 31, 32, 33, 34] (by decide +kernel) (by decide +kernel)
set_option maxRecDepth 20000 in
theorem gX10_layCan_X10_doesLive : GoodIn wsX10_layCan (wsV RX10 136 RX10 yX10_doesLive wsX10_doesLive) := goodIn_app (goodIn_of _ (by decide +kernel)) ggX10_layCan_X10_doesLive
set_option maxRecDepth 20000 in
theorem ggX10_layFewest_X10_lesser : GoodIn wsX10_layFewest wsX10_lesser := goodIn_r _ [6] (by decide +kernel) (by decide +kernel)
set_option maxRecDepth 20000 in
theorem gX10_layFewest_X10_lesser : GoodIn wsX10_layFewest (va_wsS RX10 145 yX10_lesser wsX10_lesser) := goodIn_app (goodIn_of _ (by decide +kernel)) ggX10_layFewest_X10_lesser
set_option maxRecDepth 20000 in
theorem ggX10_laySaid_X10_layCan : GoodIn wsX10_laySaid wsX10_layCan := goodIn_r _ [5, 6, 7, 8, 9, 10, 11, 4, 12, 13, 14, 15, 16, 25, 26, 27, 28, 29, 30, 31, 32, 33, 34, 35, 36, 37, 38, 39, 40, 41, 42, 43, 44, 45, 46] (by decide +kernel) (by decide +kernel)
set_option maxRecDepth 20000 in
theorem gX10_laySaid_X10_layCan : GoodIn wsX10_laySaid (wsV RX10 149 RX10 yX10_layCan wsX10_layCan) := goodIn_app (goodIn_of _ (by decide +kernel)) ggX10_laySaid_X10_layCan
set_option maxRecDepth 20000 in
theorem ggX10_laySaid_X10_layFewest : GoodIn wsX10_laySaid wsX10_layFewest := goodIn_r _ [20, 21, 6, 22, 23, 4, 24, 25, 26, 27, 28, 29, 30, 31, 32, 33, 34, 35, 36, 37, 38, 39, 40, 41, 42, 43, 44, 45, 46] (by decide +kernel) (by decide +kernel)
set_option maxRecDepth 20000 in
theorem gX10_laySaid_X10_layFewest : GoodIn wsX10_laySaid (wsV RX10 153 RX10 yX10_layFewest wsX10_layFewest) := goodIn_app (goodIn_of _ (by decide +kernel)) ggX10_laySaid_X10_layFewest
set_option maxRecDepth 20000 in
theorem ggX10_arePeople_X10_noOne : GoodIn wsX10_arePeople wsX10_noOne := goodIn_r _ [6, 7, 8, 9, 5, 10, 11, 12, 13, 14, 15, 16, 17, 18, 19, 20, 21, 22, 23, 24, 25, 26, 27, 28, 29, 30, 31, 32] (by decide +kernel) (by decide +kernel)
set_option maxRecDepth 20000 in
theorem gX10_arePeople_X10_noOne : GoodIn wsX10_arePeople (wsV RX10 127 RX10 yX10_noOne wsX10_noOne) := goodIn_app (goodIn_of _ (by decide +kernel)) ggX10_arePeople_X10_noOne
set_option maxRecDepth 20000 in
theorem ggX10_meant_X10_doesLive : GoodIn wsX10_meant wsX10_doesLive := goodIn_r _ [7, 8, 9, 10, 11, 12, 13, 14, 15, 16, 17, 18, 19, 20, 21, 22, 23, 24, 25, 26, 27, 28, 29, 30, 31, 32, 33] (by decide +kernel) (by decide +kernel)
set_option maxRecDepth 20000 in
theorem gX10_meant_X10_doesLive : GoodIn wsX10_meant (wsV RX10 136 RX10 yX10_doesLive wsX10_doesLive) := goodIn_app (goodIn_of _ (by decide +kernel)) ggX10_meant_X10_doesLive
set_option maxRecDepth 20000 in
theorem ggX10_rowBarred_X10_noVillage : GoodIn wsX10_rowBarred wsX10_noVillage := goodIn_r _ [4, 5, 6, 3, 7] (by decide +kernel) (by decide +kernel)
set_option maxRecDepth 20000 in
theorem gX10_rowBarred_X10_noVillage : GoodIn wsX10_rowBarred (va_wsS RX10 130 yX10_noVillage wsX10_noVillage) := goodIn_app (goodIn_of _ (by decide +kernel)) ggX10_rowBarred_X10_noVillage
set_option maxRecDepth 20000 in
theorem ggX10_rowBarred_X10_refused : GoodIn wsX10_rowBarred wsX10_refused := goodIn_r _ [11, 12, 41, 42, 43, 44, 45, 46, 47, 48, 49, 50, 51, 52, 53, 54, 55, 56, 57, 58, 59, 60, 61, 62] (by decide +kernel) (by decide +kernel)
set_option maxRecDepth 20000 in
theorem gX10_rowBarred_X10_refused : GoodIn wsX10_rowBarred (wsV RX10 76 RX10 yX10_refused wsX10_refused) := goodIn_app (goodIn_of _ (by decide +kernel)) ggX10_rowBarred_X10_refused
set_option maxRecDepth 20000 in
theorem ggX10_rowBarred_X10_barred : GoodIn wsX10_rowBarred wsX10_barred := goodIn_r _ [16, 17, 18, 19, 20, 21, 3, 22, 23, 5, 6, 7, 8, 9, 10, 11, 12, 24, 25, 26, 27, 28, 29, 30, 41, 42, 43, 44, 45, 46, 47, 48, 49, 50, 51, 52, 53, 54, 55, 56, 57, 58, 59, 60, 61, 62] (by decide +kernel) (by decide +kernel)
set_option maxRecDepth 20000 in
theorem gX10_rowBarred_X10_barred : GoodIn wsX10_rowBarred (wsV RX10 120 RX10 yX10_barred wsX10_barred) := goodIn_app (goodIn_of _ (by decide +kernel)) ggX10_rowBarred_X10_barred
set_option maxRecDepth 20000 in
theorem ggX10_rowBarred_X10_arePeople : GoodIn wsX10_rowBarred wsX10_arePeople := goodIn_r _ [34, 35, 36, 37, 38, 3, 39, 40, 5, 6, 7, 41, 42, 43, 44, 45, 46, 47, 48, 49, 50, 51, 52, 53, 54, 55, 56, 57, 58, 59, 60, 61, 62] (by decide +kernel) (by decide +kernel)
set_option maxRecDepth 20000 in
theorem gX10_rowBarred_X10_arePeople : GoodIn wsX10_rowBarred (wsV RX10 157 RX10 yX10_arePeople wsX10_arePeople) := goodIn_app (goodIn_of _ (by decide +kernel)) ggX10_rowBarred_X10_arePeople
set_option maxRecDepth 20000 in
theorem ggX10_means_X10_isDay : GoodIn wsX10_means wsX10_isDay := goodIn_r _ [4, 5, 6, 7, 3, 8] (by decide +kernel) (by decide +kernel)
set_option maxRecDepth 20000 in
theorem gX10_means_X10_isDay : GoodIn wsX10_means (va_wsS RX10 133 yX10_isDay wsX10_isDay) := goodIn_app (goodIn_of _ (by decide +kernel)) ggX10_means_X10_isDay
set_option maxRecDepth 20000 in
theorem ggX10_means_X10_rowBarred : GoodIn wsX10_means wsX10_rowBarred := goodIn_r _ [12, 13, 14, 3, 15, 6, 7, 8, 16, 17, 18, 19, 20, 21, 22, 23, 24, 25, 26, 27, 28, 29, 30, 31, 32, 33, 34, 35, 36, 37, 38, 39, 40, 41, 42, 43, 44, 45, 46, 47, 48, 62, 63, 64, 65, 66, 67, 68, 69, 70, 71, 72, 73, 74, 75, 76, 77, 78, 79, 80, 81, 82, 83] (by decide +kernel) (by decide +kernel)
set_option maxRecDepth 20000 in
theorem gX10_means_X10_rowBarred : GoodIn wsX10_means (wsV RX10 160 RX10 yX10_rowBarred wsX10_rowBarred) := goodIn_app (goodIn_of _ (by decide +kernel)) ggX10_means_X10_rowBarred
set_option maxRecDepth 20000 in
theorem ggX10_means_X10_meant : GoodIn wsX10_means wsX10_meant := goodIn_r _ [52, 43, 53, 54, 55, 56, 3, 57, 58, 59, 60, 61, 62, 63, 64, 65, 66, 67, 68, 69, 70, 71, 72, 73, 74, 75, 76, 77, 78, 79, 80, 81, 82, 83] (by decide +kernel) (by decide +kernel)
set_option maxRecDepth 20000 in
theorem gX10_means_X10_meant : GoodIn wsX10_means (wsV RX10 164 RX10 yX10_meant wsX10_meant) := goodIn_app (goodIn_of _ (by decide +kernel)) ggX10_means_X10_meant
set_option maxRecDepth 20000 in
theorem ggX10_means_X10_refused : GoodIn wsX10_means wsX10_refused := goodIn_r _ [19, 20, 62, 63, 64, 65, 66, 67, 68, 69, 70, 71, 72, 73, 74, 75, 76, 77, 78, 79, 80, 81, 82, 83] (by decide +kernel) (by decide +kernel)
set_option maxRecDepth 20000 in
theorem gX10_means_X10_refused : GoodIn wsX10_means (wsV RX10 76 RX10 yX10_refused wsX10_refused) := goodIn_app (goodIn_of _ (by decide +kernel)) ggX10_means_X10_refused
set_option maxRecDepth 20000 in
theorem ggX10_say_X10_noVillage : GoodIn wsX10_say wsX10_noVillage := goodIn_r _ [7, 8, 9, 6, 10] (by decide +kernel) (by decide +kernel)
set_option maxRecDepth 20000 in
theorem gX10_say_X10_noVillage : GoodIn wsX10_say (va_wsS RX10 130 yX10_noVillage wsX10_noVillage) := goodIn_app (goodIn_of _ (by decide +kernel)) ggX10_say_X10_noVillage
set_option maxRecDepth 20000 in
theorem ggX10_say_X10_in : GoodIn wsX10_say wsX10_in := goodIn_r _ [10] (by decide +kernel) (by decide +kernel)
set_option maxRecDepth 20000 in
theorem gX10_say_X10_in : GoodIn wsX10_say (va_wsS RX10 82 yX10_in wsX10_in) := goodIn_app (goodIn_of _ (by decide +kernel)) ggX10_say_X10_in
set_option maxRecDepth 20000 in
theorem ggX10_say_X10_isDay : GoodIn wsX10_say wsX10_isDay := goodIn_r _ [13, 14, 8, 9, 6, 10] (by decide +kernel) (by decide +kernel)
set_option maxRecDepth 20000 in
theorem gX10_say_X10_isDay : GoodIn wsX10_say (va_wsS RX10 133 yX10_isDay wsX10_isDay) := goodIn_app (goodIn_of _ (by decide +kernel)) ggX10_say_X10_isDay
set_option maxRecDepth 20000 in
theorem ggX10_say_X10_laySaid : GoodIn wsX10_say wsX10_laySaid := goodIn_r _ [18, 19, 20, 21, 6, 22, 3, 23, 24, 25, 26, 27, 28, 29, 30, 31, 32, 33, 34, 35, 36, 2, 37, 38, 39, 40, 41, 42, 43, 44, 45, 46, 47, 48, 49, 50, 51, 52, 53, 54, 55, 56, 57, 58, 59, 60, 61] (by decide +kernel) (by decide +kernel)
set_option maxRecDepth 20000 in
theorem gX10_say_X10_laySaid : GoodIn wsX10_say (wsV RX10 169 RX10 yX10_laySaid wsX10_laySaid) := goodIn_app (goodIn_of _ (by decide +kernel)) ggX10_say_X10_laySaid
set_option maxRecDepth 20000 in
theorem ggX10_say_X10_lesser : GoodIn wsX10_say wsX10_lesser := goodIn_r _ [39] (by decide +kernel) (by decide +kernel)
set_option maxRecDepth 20000 in
theorem gX10_say_X10_lesser : GoodIn wsX10_say (va_wsS RX10 145 yX10_lesser wsX10_lesser) := goodIn_app (goodIn_of _ (by decide +kernel)) ggX10_say_X10_lesser
set_option maxRecDepth 20000 in
theorem ggX10_turned_X10_isDay : GoodIn wsX10_turned wsX10_isDay := goodIn_r _ [6, 7, 8, 9, 5, 10] (by decide +kernel) (by decide +kernel)
set_option maxRecDepth 20000 in
theorem gX10_turned_X10_isDay : GoodIn wsX10_turned (va_wsS RX10 133 yX10_isDay wsX10_isDay) := goodIn_app (goodIn_of _ (by decide +kernel)) ggX10_turned_X10_isDay
set_option maxRecDepth 20000 in
theorem ggX10_turned_X10_rowBarred : GoodIn wsX10_turned wsX10_rowBarred := goodIn_r _ [14, 15, 16, 5, 17, 8, 9, 10, 18, 19, 20, 21, 22, 23, 24, 25, 26, 27, 28, 29, 30, 31, 32, 33, 34, 35, 36, 37, 38, 39, 40, 41, 42, 43, 44, 45, 46, 47, 48, 49, 50, 80, 81, 82, 83, 84, 85, 86, 87, 88, 89, 90, 91, 92, 93, 94, 95, 96, 97, 98, 99, 100, 101] (by decide +kernel) (by decide +kernel)
set_option maxRecDepth 20000 in
theorem gX10_turned_X10_rowBarred : GoodIn wsX10_turned (wsV RX10 160 RX10 yX10_rowBarred wsX10_rowBarred) := goodIn_app (goodIn_of _ (by decide +kernel)) ggX10_turned_X10_rowBarred
set_option maxRecDepth 20000 in
theorem ggX10_turned_X10_meant : GoodIn wsX10_turned wsX10_meant := goodIn_r _ [54, 45, 55, 56, 57, 58, 5, 59, 60, 61, 62, 63, 80, 81, 82, 83, 84, 85, 86, 87, 88, 89, 90, 91, 92, 93, 94, 95, 96, 97, 98, 99, 100, 101] (by decide +kernel) (by decide +kernel)
set_option maxRecDepth 20000 in
theorem gX10_turned_X10_meant : GoodIn wsX10_turned (wsV RX10 164 RX10 yX10_meant wsX10_meant) := goodIn_app (goodIn_of _ (by decide +kernel)) ggX10_turned_X10_meant
set_option maxRecDepth 20000 in
theorem ggX10_turned_X10_in : GoodIn wsX10_turned wsX10_in := goodIn_r _ [10] (by decide +kernel) (by decide +kernel)
set_option maxRecDepth 20000 in
theorem gX10_turned_X10_in : GoodIn wsX10_turned (va_wsS RX10 82 yX10_in wsX10_in) := goodIn_app (goodIn_of _ (by decide +kernel)) ggX10_turned_X10_in
set_option maxRecDepth 20000 in
theorem ggX10_turned_X10_refused : GoodIn wsX10_turned wsX10_refused := goodIn_r _ [21, 22, 80, 81, 82, 83, 84, 85, 86, 87, 88, 89, 90, 91, 92, 93, 94, 95, 96, 97, 98, 99, 100, 101] (by decide +kernel) (by decide +kernel)
set_option maxRecDepth 20000 in
theorem gX10_turned_X10_refused : GoodIn wsX10_turned (wsV RX10 76 RX10 yX10_refused wsX10_refused) := goodIn_app (goodIn_of _ (by decide +kernel)) ggX10_turned_X10_refused
set_option maxRecDepth 20000 in
theorem ggX10_turned_X10_laySaid : GoodIn wsX10_turned wsX10_laySaid := goodIn_r _ [67, 68, 69, 70, 5, 71, 72, 50, 55, 56, 57, 58, 59, 60, 61, 62, 63, 73, 74, 75, 76, 2, 77, 78, 79, 80, 81, 82, 83, 84, 85, 86, 87, 88, 89, 90, 91, 92, 93, 94, 95, 96, 97, 98, 99, 100, 101] (by decide +kernel) (by decide +kernel)
set_option maxRecDepth 20000 in
theorem gX10_turned_X10_laySaid : GoodIn wsX10_turned (wsV RX10 169 RX10 yX10_laySaid wsX10_laySaid) := goodIn_app (goodIn_of _ (by decide +kernel)) ggX10_turned_X10_laySaid
set_option maxRecDepth 20000 in
theorem ggX10_child_X10_noVillage : GoodIn wsX10_child wsX10_noVillage := goodIn_r _ [8, 9, 10, 7, 11] (by decide +kernel) (by decide +kernel)
set_option maxRecDepth 20000 in
theorem gX10_child_X10_noVillage : GoodIn wsX10_child (va_wsS RX10 130 yX10_noVillage wsX10_noVillage) := goodIn_app (goodIn_of _ (by decide +kernel)) ggX10_child_X10_noVillage
set_option maxRecDepth 20000 in
theorem ggX10_child_X10_refused : GoodIn wsX10_child wsX10_refused := goodIn_r _ [15, 16, 64, 65, 66, 67, 68, 69, 70, 71, 72, 73, 74, 75, 76, 77, 78, 79, 80, 81, 82, 83, 84, 85] (by decide +kernel) (by decide +kernel)
set_option maxRecDepth 20000 in
theorem gX10_child_X10_refused : GoodIn wsX10_child (wsV RX10 76 RX10 yX10_refused wsX10_refused) := goodIn_app (goodIn_of _ (by decide +kernel)) ggX10_child_X10_refused
set_option maxRecDepth 20000 in
theorem ggX10_child_X10_isDay : GoodIn wsX10_child wsX10_isDay := goodIn_r _ [19, 20, 9, 10, 7, 11] (by decide +kernel) (by decide +kernel)
set_option maxRecDepth 20000 in
theorem gX10_child_X10_isDay : GoodIn wsX10_child (va_wsS RX10 133 yX10_isDay wsX10_isDay) := goodIn_app (goodIn_of _ (by decide +kernel)) ggX10_child_X10_isDay
set_option maxRecDepth 20000 in
theorem ggX10_child_X10_isFew : GoodIn wsX10_child wsX10_isFew := goodIn_r _ [23, 24, 9, 10, 7, 11] (by decide +kernel) (by decide +kernel)
set_option maxRecDepth 20000 in
theorem gX10_child_X10_isFew : GoodIn wsX10_child (va_wsS RX10 172 yX10_isFew wsX10_isFew) := goodIn_app (goodIn_of _ (by decide +kernel)) ggX10_child_X10_isFew
set_option maxRecDepth 20000 in
theorem ggX10_child_X10_in : GoodIn wsX10_child wsX10_in := goodIn_r _ [11] (by decide +kernel) (by decide +kernel)
set_option maxRecDepth 20000 in
theorem gX10_child_X10_in : GoodIn wsX10_child (va_wsS RX10 82 yX10_in wsX10_in) := goodIn_app (goodIn_of _ (by decide +kernel)) ggX10_child_X10_in
set_option maxRecDepth 20000 in
theorem ggX10_child_X10_barred : GoodIn wsX10_child wsX10_barred := goodIn_r _ [28, 29, 30, 31, 32, 33, 7, 34, 35, 9, 10, 11, 12, 13, 14, 15, 16, 36, 37, 38, 39, 40, 41, 42, 64, 65, 66, 67, 68, 69, 70, 71, 72, 73, 74, 75, 76, 77, 78, 79, 80, 81, 82, 83, 84, 85] (by decide +kernel) (by decide +kernel)
set_option maxRecDepth 20000 in
theorem gX10_child_X10_barred : GoodIn wsX10_child (wsV RX10 120 RX10 yX10_barred wsX10_barred) := goodIn_app (goodIn_of _ (by decide +kernel)) ggX10_child_X10_barred
set_option maxRecDepth 20000 in
theorem ggX10_child_X10_layCan : GoodIn wsX10_child wsX10_layCan := goodIn_r _ [46, 3, 47, 48, 49, 50, 51, 7, 52, 53, 54, 55, 56, 64, 65, 66, 67, 68, 69, 70, 71, 72, 73, 74, 75, 76, 77, 78, 79, 80, 81, 82, 83, 84, 85] (by decide +kernel) (by decide +kernel)
set_option maxRecDepth 20000 in
theorem gX10_child_X10_layCan : GoodIn wsX10_child (wsV RX10 149 RX10 yX10_layCan wsX10_layCan) := goodIn_app (goodIn_of _ (by decide +kernel)) ggX10_child_X10_layCan
set_option maxRecDepth 20000 in
theorem ggX10_child_X10_layFewest : GoodIn wsX10_child wsX10_layFewest := goodIn_r _ [60, 4, 3, 61, 62, 7, 63, 64, 65, 66, 67, 68, 69, 70, 71, 72, 73, 74, 75, 76, 77, 78, 79, 80, 81, 82, 83, 84, 85] (by decide +kernel) (by decide +kernel)
set_option maxRecDepth 20000 in
theorem gX10_child_X10_layFewest : GoodIn wsX10_child (wsV RX10 153 RX10 yX10_layFewest wsX10_layFewest) := goodIn_app (goodIn_of _ (by decide +kernel)) ggX10_child_X10_layFewest
set_option maxRecDepth 20000 in
theorem ggX10_both_X10_in : GoodIn wsX10_both wsX10_in := goodIn_r _ [7] (by decide +kernel) (by decide +kernel)
set_option maxRecDepth 20000 in
theorem gX10_both_X10_in : GoodIn wsX10_both (va_wsS RX10 82 yX10_in wsX10_in) := goodIn_app (goodIn_of _ (by decide +kernel)) ggX10_both_X10_in
set_option maxRecDepth 20000 in
theorem ggX10_both_X10_isFew : GoodIn wsX10_both wsX10_isFew := goodIn_r _ [10, 11, 4, 5, 6, 7] (by decide +kernel) (by decide +kernel)
set_option maxRecDepth 20000 in
theorem gX10_both_X10_isFew : GoodIn wsX10_both (va_wsS RX10 172 yX10_isFew wsX10_isFew) := goodIn_app (goodIn_of _ (by decide +kernel)) ggX10_both_X10_isFew
set_option maxRecDepth 20000 in
theorem ggX10_both_X10_isDay : GoodIn wsX10_both wsX10_isDay := goodIn_r _ [14, 15, 4, 5, 6, 7] (by decide +kernel) (by decide +kernel)
set_option maxRecDepth 20000 in
theorem gX10_both_X10_isDay : GoodIn wsX10_both (va_wsS RX10 133 yX10_isDay wsX10_isDay) := goodIn_app (goodIn_of _ (by decide +kernel)) ggX10_both_X10_isDay
set_option maxRecDepth 20000 in
theorem ggX10_both_X10_laySaid : GoodIn wsX10_both wsX10_laySaid := goodIn_r _ [19, 20, 21, 22, 6, 23, 24, 25, 26, 27, 28, 29, 30, 31, 32, 33, 34, 35, 36, 37, 38, 3, 39, 40, 41, 42, 43, 44, 45, 46, 47, 48, 49, 50, 51, 52, 53, 54, 55, 56, 57, 58, 59, 60, 61, 62, 63] (by decide +kernel) (by decide +kernel)
set_option maxRecDepth 20000 in
theorem gX10_both_X10_laySaid : GoodIn wsX10_both (wsV RX10 169 RX10 yX10_laySaid wsX10_laySaid) := goodIn_app (goodIn_of _ (by decide +kernel)) ggX10_both_X10_laySaid
set_option maxRecDepth 20000 in
theorem ggX10_written_X10_in : GoodIn wsX10_written wsX10_in := goodIn_r _ [5] (by decide +kernel) (by decide +kernel)
set_option maxRecDepth 20000 in
theorem gX10_written_X10_in : GoodIn wsX10_written (va_wsS RX10 82 yX10_in wsX10_in) := goodIn_app (goodIn_of _ (by decide +kernel)) ggX10_written_X10_in
set_option maxRecDepth 20000 in
theorem ggX10_written_X10_rowBarred : GoodIn wsX10_written wsX10_rowBarred := goodIn_r _ [9, 10, 11, 4, 12, 2, 3, 5, 13, 14, 15, 16, 17, 18, 19, 20, 21, 1, 22, 23, 24, 25, 26, 27, 28, 29, 30, 31, 32, 33, 34, 35, 36, 37, 38, 39, 40, 41, 42, 43, 44, 58, 59, 60, 61, 62, 63, 64, 65, 66, 67, 68, 69, 70, 71, 72, 73, 74, 75, 76, 77, 78, 79] (by decide +kernel) (by decide +kernel)
set_option maxRecDepth 20000 in
theorem gX10_written_X10_rowBarred : GoodIn wsX10_written (wsV RX10 160 RX10 yX10_rowBarred wsX10_rowBarred) := goodIn_app (goodIn_of _ (by decide +kernel)) ggX10_written_X10_rowBarred
set_option maxRecDepth 20000 in
theorem ggX10_written_X10_meant : GoodIn wsX10_written wsX10_meant := goodIn_r _ [48, 39, 49, 50, 51, 52, 4, 53, 54, 55, 56, 57, 58, 59, 60, 61, 62, 63, 64, 65, 66, 67, 68, 69, 70, 71, 72, 73, 74, 75, 76, 77, 78, 79] (by decide +kernel) (by decide +kernel)
set_option maxRecDepth 20000 in
theorem gX10_written_X10_meant : GoodIn wsX10_written (wsV RX10 164 RX10 yX10_meant wsX10_meant) := goodIn_app (goodIn_of _ (by decide +kernel)) ggX10_written_X10_meant
set_option maxRecDepth 20000 in
theorem ggX10_written_X10_refused : GoodIn wsX10_written wsX10_refused := goodIn_r _ [16, 17, 58, 59, 60, 61, 62, 63, 64, 65, 66, 67, 68, 69, 70, 71, 72, 73, 74, 75, 76, 77, 78, 79] (by decide +kernel) (by decide +kernel)
set_option maxRecDepth 20000 in
theorem gX10_written_X10_refused : GoodIn wsX10_written (wsV RX10 76 RX10 yX10_refused wsX10_refused) := goodIn_app (goodIn_of _ (by decide +kernel)) ggX10_written_X10_refused
set_option maxRecDepth 20000 in
theorem ggX10_lost_X10_noOne : GoodIn wsX10_lost wsX10_noOne := goodIn_r _ [5, 6, 7, 8, 4, 9, 51, 52, 53, 54, 55, 56, 57, 58, 59, 60, 61, 62, 63, 64, 65, 66, 67, 68, 69, 70, 71, 72] (by decide +kernel) (by decide +kernel)
set_option maxRecDepth 20000 in
theorem gX10_lost_X10_noOne : GoodIn wsX10_lost (wsV RX10 127 RX10 yX10_noOne wsX10_noOne) := goodIn_app (goodIn_of _ (by decide +kernel)) ggX10_lost_X10_noOne
set_option maxRecDepth 20000 in
theorem ggX10_lost_X10_noVillage : GoodIn wsX10_lost wsX10_noVillage := goodIn_r _ [12, 7, 8, 4, 9] (by decide +kernel) (by decide +kernel)
set_option maxRecDepth 20000 in
theorem gX10_lost_X10_noVillage : GoodIn wsX10_lost (va_wsS RX10 130 yX10_noVillage wsX10_noVillage) := goodIn_app (goodIn_of _ (by decide +kernel)) ggX10_lost_X10_noVillage
set_option maxRecDepth 20000 in
theorem ggX10_lost_X10_isDay : GoodIn wsX10_lost wsX10_isDay := goodIn_r _ [15, 16, 7, 8, 4, 9] (by decide +kernel) (by decide +kernel)
set_option maxRecDepth 20000 in
theorem gX10_lost_X10_isDay : GoodIn wsX10_lost (va_wsS RX10 133 yX10_isDay wsX10_isDay) := goodIn_app (goodIn_of _ (by decide +kernel)) ggX10_lost_X10_isDay
set_option maxRecDepth 20000 in
theorem ggX10_lost_X10_isFew : GoodIn wsX10_lost wsX10_isFew := goodIn_r _ [19, 20, 7, 8, 4, 9] (by decide +kernel) (by decide +kernel)
set_option maxRecDepth 20000 in
theorem gX10_lost_X10_isFew : GoodIn wsX10_lost (va_wsS RX10 172 yX10_isFew wsX10_isFew) := goodIn_app (goodIn_of _ (by decide +kernel)) ggX10_lost_X10_isFew
set_option maxRecDepth 20000 in
theorem ggX10_lost_X10_laySaid : GoodIn wsX10_lost wsX10_laySaid := goodIn_r _ [24, 25, 26, 27, 4, 28, 29, 6, 30, 31, 32, 33, 34, 35, 36, 37, 38, 39, 40, 41, 42, 43, 44, 45, 46, 51, 52, 53, 54, 55, 56, 57, 58, 59, 60, 61, 62, 63, 64, 65, 66, 67, 68, 69, 70, 71, 72] (by decide +kernel) (by decide +kernel)
set_option maxRecDepth 20000 in
theorem gX10_lost_X10_laySaid : GoodIn wsX10_lost (wsV RX10 169 RX10 yX10_laySaid wsX10_laySaid) := goodIn_app (goodIn_of _ (by decide +kernel)) ggX10_lost_X10_laySaid
set_option maxRecDepth 20000 in
theorem ggX10_lost_X10_saidOf : GoodIn wsX10_lost wsX10_saidOf := goodIn_r _ [50, 43, 51, 52, 53, 54, 55, 56, 57, 58, 59, 60, 61, 62, 63, 64, 65, 66, 67, 68, 69, 70, 71, 72] (by decide +kernel) (by decide +kernel)
set_option maxRecDepth 20000 in
theorem gX10_lost_X10_saidOf : GoodIn wsX10_lost (wsV RX10 175 RX10 yX10_saidOf wsX10_saidOf) := goodIn_app (goodIn_of _ (by decide +kernel)) ggX10_lost_X10_saidOf
set_option maxRecDepth 20000 in
theorem ggX10_lost_X10_layCan : GoodIn wsX10_lost wsX10_layCan := goodIn_r _ [28, 29, 6, 30, 31, 32, 33, 4, 34, 35, 36, 37, 38, 51, 52, 53, 54, 55, 56, 57, 58, 59, 60, 61, 62, 63, 64, 65, 66, 67, 68, 69, 70, 71, 72] (by decide +kernel) (by decide +kernel)
set_option maxRecDepth 20000 in
theorem gX10_lost_X10_layCan : GoodIn wsX10_lost (wsV RX10 149 RX10 yX10_layCan wsX10_layCan) := goodIn_app (goodIn_of _ (by decide +kernel)) ggX10_lost_X10_layCan
set_option maxRecDepth 20000 in
theorem ggX10_lost_X10_layFewest : GoodIn wsX10_lost wsX10_layFewest := goodIn_r _ [42, 43, 29, 44, 45, 4, 46, 51, 52, 53, 54, 55, 56, 57, 58, 59, 60, 61, 62, 63, 64, 65, 66, 67, 68, 69, 70, 71, 72] (by decide +kernel) (by decide +kernel)
set_option maxRecDepth 20000 in
theorem gX10_lost_X10_layFewest : GoodIn wsX10_lost (wsV RX10 153 RX10 yX10_layFewest wsX10_layFewest) := goodIn_app (goodIn_of _ (by decide +kernel)) ggX10_lost_X10_layFewest
set_option maxRecDepth 20000 in
theorem ggX10_isSaidBy_X10_layCan : GoodIn wsX10_isSaidBy wsX10_layCan := goodIn_r _ [9, 2, 1, 3, 10, 11, 12, 8, 13, 14, 15, 16, 17, 25, 26, 27, 28, 29, 30, 31, 32, 33, 34, 35, 36, 37, 38, 39, 40, 41, 42, 43, 44, 45, 46] (by decide +kernel) (by decide +kernel)
set_option maxRecDepth 20000 in
theorem gX10_isSaidBy_X10_layCan : GoodIn wsX10_isSaidBy (wsV RX10 149 RX10 yX10_layCan wsX10_layCan) := goodIn_app (goodIn_of _ (by decide +kernel)) ggX10_isSaidBy_X10_layCan
set_option maxRecDepth 20000 in
theorem ggX10_isSaidBy_X10_layFewest : GoodIn wsX10_isSaidBy wsX10_layFewest := goodIn_r _ [21, 4, 2, 22, 23, 8, 24, 25, 26, 27, 28, 29, 30, 31, 32, 33, 34, 35, 36, 37, 38, 39, 40, 41, 42, 43, 44, 45, 46] (by decide +kernel) (by decide +kernel)
set_option maxRecDepth 20000 in
theorem gX10_isSaidBy_X10_layFewest : GoodIn wsX10_isSaidBy (wsV RX10 153 RX10 yX10_layFewest wsX10_layFewest) := goodIn_app (goodIn_of _ (by decide +kernel)) ggX10_isSaidBy_X10_layFewest
set_option maxRecDepth 20000 in
theorem ggX10_setOf_X10_doesLive : GoodIn wsX10_setOf wsX10_doesLive := goodIn_r _ [6, 7, 8, 9, 10, 11, 12, 13, 14, 15, 16, 17, 18, 19, 20, 21, 22, 23, 24, 25, 26, 27, 28, 29, 30, 31, 32] (by decide +kernel) (by decide +kernel)
set_option maxRecDepth 20000 in
theorem gX10_setOf_X10_doesLive : GoodIn wsX10_setOf (wsV RX10 136 RX10 yX10_doesLive wsX10_doesLive) := goodIn_app (goodIn_of _ (by decide +kernel)) ggX10_setOf_X10_doesLive
set_option maxRecDepth 20000 in
theorem ggX10_back_X10_noVillage : GoodIn wsX10_back wsX10_noVillage := goodIn_r _ [7, 8, 9, 6, 10] (by decide +kernel) (by decide +kernel)
set_option maxRecDepth 20000 in
theorem gX10_back_X10_noVillage : GoodIn wsX10_back (va_wsS RX10 130 yX10_noVillage wsX10_noVillage) := goodIn_app (goodIn_of _ (by decide +kernel)) ggX10_back_X10_noVillage
set_option maxRecDepth 20000 in
theorem ggX10_back_X10_in : GoodIn wsX10_back wsX10_in := goodIn_r _ [10] (by decide +kernel) (by decide +kernel)
set_option maxRecDepth 20000 in
theorem gX10_back_X10_in : GoodIn wsX10_back (va_wsS RX10 82 yX10_in wsX10_in) := goodIn_app (goodIn_of _ (by decide +kernel)) ggX10_back_X10_in
set_option maxRecDepth 20000 in
theorem ggX10_back_X10_isDay : GoodIn wsX10_back wsX10_isDay := goodIn_r _ [13, 14, 8, 9, 6, 10] (by decide +kernel) (by decide +kernel)
set_option maxRecDepth 20000 in
theorem gX10_back_X10_isDay : GoodIn wsX10_back (va_wsS RX10 133 yX10_isDay wsX10_isDay) := goodIn_app (goodIn_of _ (by decide +kernel)) ggX10_back_X10_isDay
set_option maxRecDepth 20000 in
theorem ggX10_back_X10_isFew : GoodIn wsX10_back wsX10_isFew := goodIn_r _ [17, 18, 8, 9, 6, 10] (by decide +kernel) (by decide +kernel)
set_option maxRecDepth 20000 in
theorem gX10_back_X10_isFew : GoodIn wsX10_back (va_wsS RX10 172 yX10_isFew wsX10_isFew) := goodIn_app (goodIn_of _ (by decide +kernel)) ggX10_back_X10_isFew
set_option maxRecDepth 20000 in
theorem ggX10_back_X10_setOf : GoodIn wsX10_back wsX10_setOf := goodIn_r _ [22, 23, 24, 25, 26, 6, 27, 28, 29, 30, 31, 53, 54, 55, 56, 57, 58, 59, 60, 61, 62, 63, 64, 65, 66, 67, 68, 69, 70, 71, 72, 73, 74] (by decide +kernel) (by decide +kernel)
set_option maxRecDepth 20000 in
theorem gX10_back_X10_setOf : GoodIn wsX10_back (wsV RX10 180 RX10 yX10_setOf wsX10_setOf) := goodIn_app (goodIn_of _ (by decide +kernel)) ggX10_back_X10_setOf
set_option maxRecDepth 20000 in
theorem ggX10_back_X10_bits : GoodIn wsX10_back wsX10_bits := goodIn_r _ [34] (by decide +kernel) (by decide +kernel)
set_option maxRecDepth 20000 in
theorem gX10_back_X10_bits : GoodIn wsX10_back (va_wsS RX10 183 yX10_bits wsX10_bits) := goodIn_app (goodIn_of _ (by decide +kernel)) ggX10_back_X10_bits
set_option maxRecDepth 20000 in
theorem ggX10_back_X10_isSaidBy : GoodIn wsX10_back wsX10_isSaidBy := goodIn_r _ [38, 23, 39, 40, 41, 42, 43, 44, 6, 45, 24, 25, 26, 27, 28, 29, 30, 31, 46, 47, 48, 49, 50, 51, 52, 53, 54, 55, 56, 57, 58, 59, 60, 61, 62, 63, 64, 65, 66, 67, 68, 69, 70, 71, 72, 73, 74] (by decide +kernel) (by decide +kernel)
set_option maxRecDepth 20000 in
theorem gX10_back_X10_isSaidBy : GoodIn wsX10_back (wsV RX10 186 RX10 yX10_isSaidBy wsX10_isSaidBy) := goodIn_app (goodIn_of _ (by decide +kernel)) ggX10_back_X10_isSaidBy
set_option maxRecDepth 20000 in
theorem ggX10_told_X10_noVillage : GoodIn wsX10_told wsX10_noVillage := goodIn_r _ [5, 6, 7, 4, 8] (by decide +kernel) (by decide +kernel)
set_option maxRecDepth 20000 in
theorem gX10_told_X10_noVillage : GoodIn wsX10_told (va_wsS RX10 130 yX10_noVillage wsX10_noVillage) := goodIn_app (goodIn_of _ (by decide +kernel)) ggX10_told_X10_noVillage
set_option maxRecDepth 20000 in
theorem ggX10_told_X10_isDay : GoodIn wsX10_told wsX10_isDay := goodIn_r _ [11, 12, 6, 7, 4, 8] (by decide +kernel) (by decide +kernel)
set_option maxRecDepth 20000 in
theorem gX10_told_X10_isDay : GoodIn wsX10_told (va_wsS RX10 133 yX10_isDay wsX10_isDay) := goodIn_app (goodIn_of _ (by decide +kernel)) ggX10_told_X10_isDay
set_option maxRecDepth 20000 in
theorem ggX10_told_X10_isFew : GoodIn wsX10_told wsX10_isFew := goodIn_r _ [15, 16, 6, 7, 4, 8] (by decide +kernel) (by decide +kernel)
set_option maxRecDepth 20000 in
theorem gX10_told_X10_isFew : GoodIn wsX10_told (va_wsS RX10 172 yX10_isFew wsX10_isFew) := goodIn_app (goodIn_of _ (by decide +kernel)) ggX10_told_X10_isFew
set_option maxRecDepth 20000 in
theorem ggX10_told_X10_in : GoodIn wsX10_told wsX10_in := goodIn_r _ [8] (by decide +kernel) (by decide +kernel)
set_option maxRecDepth 20000 in
theorem gX10_told_X10_in : GoodIn wsX10_told (va_wsS RX10 82 yX10_in wsX10_in) := goodIn_app (goodIn_of _ (by decide +kernel)) ggX10_told_X10_in
set_option maxRecDepth 20000 in
theorem ggX10_told_X10_nothing : GoodIn wsX10_told wsX10_nothing := goodIn_r _ [19, 20] (by decide +kernel) (by decide +kernel)
set_option maxRecDepth 20000 in
theorem gX10_told_X10_nothing : GoodIn wsX10_told (va_wsS RX10 68 yX10_nothing wsX10_nothing) := goodIn_app (goodIn_of _ (by decide +kernel)) ggX10_told_X10_nothing
set_option maxRecDepth 20000 in
theorem ggX10_told_X10_laySaid : GoodIn wsX10_told wsX10_laySaid := goodIn_r _ [24, 25, 26, 27, 4, 28, 29, 30, 31, 32, 33, 34, 35, 36, 37, 38, 39, 40, 41, 42, 43, 44, 45, 46, 47, 55, 56, 57, 58, 59, 60, 61, 62, 63, 64, 65, 66, 67, 68, 69, 70, 71, 72, 73, 74, 75, 76] (by decide +kernel) (by decide +kernel)
set_option maxRecDepth 20000 in
theorem gX10_told_X10_laySaid : GoodIn wsX10_told (wsV RX10 169 RX10 yX10_laySaid wsX10_laySaid) := goodIn_app (goodIn_of _ (by decide +kernel)) ggX10_told_X10_laySaid
set_option maxRecDepth 20000 in
theorem ggX10_told_X10_saidOf : GoodIn wsX10_told wsX10_saidOf := goodIn_r _ [51, 44, 55, 56, 57, 58, 59, 60, 61, 62, 63, 64, 65, 66, 67, 68, 69, 70, 71, 72, 73, 74, 75, 76] (by decide +kernel) (by decide +kernel)
set_option maxRecDepth 20000 in
theorem gX10_told_X10_saidOf : GoodIn wsX10_told (wsV RX10 175 RX10 yX10_saidOf wsX10_saidOf) := goodIn_app (goodIn_of _ (by decide +kernel)) ggX10_told_X10_saidOf
set_option maxRecDepth 20000 in
theorem ggX10_told_X10_shared : GoodIn wsX10_told wsX10_shared := goodIn_r _ [54] (by decide +kernel) (by decide +kernel)
set_option maxRecDepth 20000 in
theorem gX10_told_X10_shared : GoodIn wsX10_told (va_wsS RX10 190 yX10_shared wsX10_shared) := goodIn_app (goodIn_of _ (by decide +kernel)) ggX10_told_X10_shared
set_option maxRecDepth 20000 in
theorem ggX10_noSheet_X10_in : GoodIn wsX10_noSheet wsX10_in := goodIn_r _ [5] (by decide +kernel) (by decide +kernel)
set_option maxRecDepth 20000 in
theorem gX10_noSheet_X10_in : GoodIn wsX10_noSheet (va_wsS RX10 82 yX10_in wsX10_in) := goodIn_app (goodIn_of _ (by decide +kernel)) ggX10_noSheet_X10_in
set_option maxRecDepth 20000 in
theorem ggX10_sheet_X10_noSheet : GoodIn wsX10_sheet wsX10_noSheet := goodIn_r _ [8, 9, 10, 11, 7, 12] (by decide +kernel) (by decide +kernel)
set_option maxRecDepth 20000 in
theorem gX10_sheet_X10_noSheet : GoodIn wsX10_sheet (va_wsS RX10 72 yX10_noSheet wsX10_noSheet) := goodIn_app (goodIn_of _ (by decide +kernel)) ggX10_sheet_X10_noSheet
set_option maxRecDepth 20000 in
theorem ggX10_sheet_X10_refused : GoodIn wsX10_sheet wsX10_refused := goodIn_r _ [16, 17, 22, 23, 24, 25, 26, 27, 28, 29, 30, 31, 32, 33, 34, 35, 36, 37, 38, 39, 40, 41, 42, 43] (by decide +kernel) (by decide +kernel)
set_option maxRecDepth 20000 in
theorem gX10_sheet_X10_refused : GoodIn wsX10_sheet (wsV RX10 76 RX10 yX10_refused wsX10_refused) := goodIn_app (goodIn_of _ (by decide +kernel)) ggX10_sheet_X10_refused
set_option maxRecDepth 20000 in
theorem ggX10_sheet_X10_in : GoodIn wsX10_sheet wsX10_in := goodIn_r _ [12] (by decide +kernel) (by decide +kernel)
set_option maxRecDepth 20000 in
theorem gX10_sheet_X10_in : GoodIn wsX10_sheet (va_wsS RX10 82 yX10_in wsX10_in) := goodIn_app (goodIn_of _ (by decide +kernel)) ggX10_sheet_X10_in
set_option maxRecDepth 20000 in
theorem ggX10_sheet_X10_failed : GoodIn wsX10_sheet wsX10_failed := goodIn_r _ [21, 17, 22, 23, 24, 25, 26, 27, 28, 29, 30, 31, 32, 33, 34, 35, 36, 37, 38, 39, 40, 41, 42, 43] (by decide +kernel) (by decide +kernel)
set_option maxRecDepth 20000 in
theorem gX10_sheet_X10_failed : GoodIn wsX10_sheet (wsV RX10 86 RX10 yX10_failed wsX10_failed) := goodIn_app (goodIn_of _ (by decide +kernel)) ggX10_sheet_X10_failed
set_option maxRecDepth 20000 in
theorem ggX10_lose_X10_noSheet : GoodIn wsX10_lose wsX10_noSheet := goodIn_r _ [5, 6, 7, 8, 4, 9] (by decide +kernel) (by decide +kernel)
set_option maxRecDepth 20000 in
theorem gX10_lose_X10_noSheet : GoodIn wsX10_lose (va_wsS RX10 72 yX10_noSheet wsX10_noSheet) := goodIn_app (goodIn_of _ (by decide +kernel)) ggX10_lose_X10_noSheet
set_option maxRecDepth 20000 in
theorem ggX10_noCell_X10_in : GoodIn wsX10_noCell wsX10_in := goodIn_r _ [5] (by decide +kernel) (by decide +kernel)
set_option maxRecDepth 20000 in
theorem gX10_noCell_X10_in : GoodIn wsX10_noCell (va_wsS RX10 82 yX10_in wsX10_in) := goodIn_app (goodIn_of _ (by decide +kernel)) ggX10_noCell_X10_in
set_option maxRecDepth 20000 in
theorem ggX10_put_X10_noSheet : GoodIn wsX10_put wsX10_noSheet := goodIn_r _ [6, 7, 8, 9, 5, 10] (by decide +kernel) (by decide +kernel)
set_option maxRecDepth 20000 in
theorem gX10_put_X10_noSheet : GoodIn wsX10_put (va_wsS RX10 72 yX10_noSheet wsX10_noSheet) := goodIn_app (goodIn_of _ (by decide +kernel)) ggX10_put_X10_noSheet
set_option maxRecDepth 20000 in
theorem ggX10_put_X10_refused : GoodIn wsX10_put wsX10_refused := goodIn_r _ [14, 15, 25, 26, 27, 28, 29, 30, 31, 32, 33, 34, 35, 36, 37, 38, 39, 40, 41, 42, 43, 44, 45, 46] (by decide +kernel) (by decide +kernel)
set_option maxRecDepth 20000 in
theorem gX10_put_X10_refused : GoodIn wsX10_put (wsV RX10 76 RX10 yX10_refused wsX10_refused) := goodIn_app (goodIn_of _ (by decide +kernel)) ggX10_put_X10_refused
set_option maxRecDepth 20000 in
theorem ggX10_put_X10_noCell : GoodIn wsX10_put wsX10_noCell := goodIn_r _ [19, 20, 8, 9, 5, 10, 25, 26, 27, 28, 29, 30, 31, 32, 33, 34, 35, 36, 37, 38, 39, 40, 41, 42, 43, 44, 45, 46] (by decide +kernel) (by decide +kernel)
set_option maxRecDepth 20000 in
theorem gX10_put_X10_noCell : GoodIn wsX10_put (wsV RX10 196 RX10 yX10_noCell wsX10_noCell) := goodIn_app (goodIn_of _ (by decide +kernel)) ggX10_put_X10_noCell
set_option maxRecDepth 20000 in
theorem ggX10_put_X10_failed : GoodIn wsX10_put wsX10_failed := goodIn_r _ [24, 15, 25, 26, 27, 28, 29, 30, 31, 32, 33, 34, 35, 36, 37, 38, 39, 40, 41, 42, 43, 44, 45, 46] (by decide +kernel) (by decide +kernel)
set_option maxRecDepth 20000 in
theorem gX10_put_X10_failed : GoodIn wsX10_put (wsV RX10 86 RX10 yX10_failed wsX10_failed) := goodIn_app (goodIn_of _ (by decide +kernel)) ggX10_put_X10_failed
set_option maxRecDepth 20000 in
theorem ggX10_cell_X10_noSheet : GoodIn wsX10_cell wsX10_noSheet := goodIn_r _ [9, 10, 11, 12, 8, 13] (by decide +kernel) (by decide +kernel)
set_option maxRecDepth 20000 in
theorem gX10_cell_X10_noSheet : GoodIn wsX10_cell (va_wsS RX10 72 yX10_noSheet wsX10_noSheet) := goodIn_app (goodIn_of _ (by decide +kernel)) ggX10_cell_X10_noSheet
set_option maxRecDepth 20000 in
theorem ggX10_cell_X10_in : GoodIn wsX10_cell wsX10_in := goodIn_r _ [13] (by decide +kernel) (by decide +kernel)
set_option maxRecDepth 20000 in
theorem gX10_cell_X10_in : GoodIn wsX10_cell (va_wsS RX10 82 yX10_in wsX10_in) := goodIn_app (goodIn_of _ (by decide +kernel)) ggX10_cell_X10_in
set_option maxRecDepth 20000 in
theorem ggX10_cell_X10_nothing : GoodIn wsX10_cell wsX10_nothing := goodIn_r _ [16, 17] (by decide +kernel) (by decide +kernel)
set_option maxRecDepth 20000 in
theorem gX10_cell_X10_nothing : GoodIn wsX10_cell (va_wsS RX10 68 yX10_nothing wsX10_nothing) := goodIn_app (goodIn_of _ (by decide +kernel)) ggX10_cell_X10_nothing
set_option maxRecDepth 20000 in
theorem ggX10_cell_X10_failedLong : GoodIn wsX10_cell wsX10_failedLong := goodIn_r _ [21, 1, 14, 15, 8, 16, 17, 26, 27, 28, 29, 30, 31, 32, 33, 34, 35, 36, 37, 38, 39, 40, 41, 42, 43, 44, 45, 46, 47] (by decide +kernel) (by decide +kernel)
set_option maxRecDepth 20000 in
theorem gX10_cell_X10_failedLong : GoodIn wsX10_cell (wsV RX10 199 RX10 yX10_failedLong wsX10_failedLong) := goodIn_app (goodIn_of _ (by decide +kernel)) ggX10_cell_X10_failedLong
set_option maxRecDepth 20000 in
theorem ggX10_cell_X10_noCell : GoodIn wsX10_cell wsX10_noCell := goodIn_r _ [25, 3, 11, 12, 8, 13, 26, 27, 28, 29, 30, 31, 32, 33, 34, 35, 36, 37, 38, 39, 40, 41, 42, 43, 44, 45, 46, 47] (by decide +kernel) (by decide +kernel)
set_option maxRecDepth 20000 in
theorem gX10_cell_X10_noCell : GoodIn wsX10_cell (wsV RX10 196 RX10 yX10_noCell wsX10_noCell) := goodIn_app (goodIn_of _ (by decide +kernel)) ggX10_cell_X10_noCell
set_option maxRecDepth 20000 in
theorem ggX10_copy_X10_noSheet : GoodIn wsX10_copy wsX10_noSheet := goodIn_r _ [8, 9, 10, 11, 7, 12] (by decide +kernel) (by decide +kernel)
set_option maxRecDepth 20000 in
theorem gX10_copy_X10_noSheet : GoodIn wsX10_copy (va_wsS RX10 72 yX10_noSheet wsX10_noSheet) := goodIn_app (goodIn_of _ (by decide +kernel)) ggX10_copy_X10_noSheet
set_option maxRecDepth 20000 in
theorem ggX10_copy_X10_refused : GoodIn wsX10_copy wsX10_refused := goodIn_r _ [16, 17, 25, 26, 27, 28, 29, 30, 31, 32, 33, 34, 35, 36, 37, 38, 39, 40, 41, 42, 43, 44, 45, 46] (by decide +kernel) (by decide +kernel)
set_option maxRecDepth 20000 in
theorem gX10_copy_X10_refused : GoodIn wsX10_copy (wsV RX10 76 RX10 yX10_refused wsX10_refused) := goodIn_app (goodIn_of _ (by decide +kernel)) ggX10_copy_X10_refused
set_option maxRecDepth 20000 in
theorem ggX10_copy_X10_failed : GoodIn wsX10_copy wsX10_failed := goodIn_r _ [21, 17, 25, 26, 27, 28, 29, 30, 31, 32, 33, 34, 35, 36, 37, 38, 39, 40, 41, 42, 43, 44, 45, 46] (by decide +kernel) (by decide +kernel)
set_option maxRecDepth 20000 in
theorem gX10_copy_X10_failed : GoodIn wsX10_copy (wsV RX10 86 RX10 yX10_failed wsX10_failed) := goodIn_app (goodIn_of _ (by decide +kernel)) ggX10_copy_X10_failed
set_option maxRecDepth 20000 in
theorem ggX10_copy_X10_isBeyond : GoodIn wsX10_copy wsX10_isBeyond := goodIn_r _ [24] (by decide +kernel) (by decide +kernel)
set_option maxRecDepth 20000 in
theorem gX10_copy_X10_isBeyond : GoodIn wsX10_copy (va_wsS RX10 89 yX10_isBeyond wsX10_isBeyond) := goodIn_app (goodIn_of _ (by decide +kernel)) ggX10_copy_X10_isBeyond
set_option maxRecDepth 20000 in
theorem ggX10_tell_X10_noOne : GoodIn wsX10_tell wsX10_noOne := goodIn_r _ [7, 8, 9, 10, 6, 11, 17, 18, 19, 20, 21, 22, 23, 24, 25, 26, 27, 28, 29, 30, 31, 32, 33, 34, 35, 36, 37, 38] (by decide +kernel) (by decide +kernel)
set_option maxRecDepth 20000 in
theorem gX10_tell_X10_noOne : GoodIn wsX10_tell (wsV RX10 127 RX10 yX10_noOne wsX10_noOne) := goodIn_app (goodIn_of _ (by decide +kernel)) ggX10_tell_X10_noOne
set_option maxRecDepth 20000 in
theorem ggX10_tell_X10_traced : GoodIn wsX10_tell wsX10_traced := goodIn_r _ [15, 16, 17, 18, 19, 20, 21, 22, 23, 24, 25, 26, 27, 28, 29, 30, 31, 32, 33, 34, 35, 36, 37, 38] (by decide +kernel) (by decide +kernel)
set_option maxRecDepth 20000 in
theorem gX10_tell_X10_traced : GoodIn wsX10_tell (wsV RX10 206 RX10 yX10_traced wsX10_traced) := goodIn_app (goodIn_of _ (by decide +kernel)) ggX10_tell_X10_traced
set_option maxRecDepth 20000 in
theorem ggX10_mourn_X10_noOne : GoodIn wsX10_mourn wsX10_noOne := goodIn_r _ [6, 7, 8, 9, 5, 10, 16, 17, 18, 19, 20, 21, 22, 23, 24, 25, 26, 27, 28, 29, 30, 31, 32, 33, 34, 35, 36, 37] (by decide +kernel) (by decide +kernel)
set_option maxRecDepth 20000 in
theorem gX10_mourn_X10_noOne : GoodIn wsX10_mourn (wsV RX10 127 RX10 yX10_noOne wsX10_noOne) := goodIn_app (goodIn_of _ (by decide +kernel)) ggX10_mourn_X10_noOne
set_option maxRecDepth 20000 in
theorem ggX10_mourn_X10_traced : GoodIn wsX10_mourn wsX10_traced := goodIn_r _ [14, 15, 16, 17, 18, 19, 20, 21, 22, 23, 24, 25, 26, 27, 28, 29, 30, 31, 32, 33, 34, 35, 36, 37] (by decide +kernel) (by decide +kernel)
set_option maxRecDepth 20000 in
theorem gX10_mourn_X10_traced : GoodIn wsX10_mourn (wsV RX10 206 RX10 yX10_traced wsX10_traced) := goodIn_app (goodIn_of _ (by decide +kernel)) ggX10_mourn_X10_traced
set_option maxRecDepth 20000 in
theorem ggX10_as_X10_noOne : GoodIn wsX10_as wsX10_noOne := goodIn_r _ [7, 8, 9, 10, 6, 11, 21, 22, 23, 24, 25, 26, 27, 28, 29, 30, 31, 32, 33, 34, 35, 36, 37, 38, 39, 40, 41, 42] (by decide +kernel) (by decide +kernel)
set_option maxRecDepth 20000 in
theorem gX10_as_X10_noOne : GoodIn wsX10_as (wsV RX10 127 RX10 yX10_noOne wsX10_noOne) := goodIn_app (goodIn_of _ (by decide +kernel)) ggX10_as_X10_noOne
set_option maxRecDepth 20000 in
theorem ggX10_as_X10_refused : GoodIn wsX10_as wsX10_refused := goodIn_r _ [15, 16, 21, 22, 23, 24, 25, 26, 27, 28, 29, 30, 31, 32, 33, 34, 35, 36, 37, 38, 39, 40, 41, 42] (by decide +kernel) (by decide +kernel)
set_option maxRecDepth 20000 in
theorem gX10_as_X10_refused : GoodIn wsX10_as (wsV RX10 76 RX10 yX10_refused wsX10_refused) := goodIn_app (goodIn_of _ (by decide +kernel)) ggX10_as_X10_refused
set_option maxRecDepth 20000 in
theorem ggX10_as_X10_in : GoodIn wsX10_as wsX10_in := goodIn_r _ [11] (by decide +kernel) (by decide +kernel)
set_option maxRecDepth 20000 in
theorem gX10_as_X10_in : GoodIn wsX10_as (va_wsS RX10 82 yX10_in wsX10_in) := goodIn_app (goodIn_of _ (by decide +kernel)) ggX10_as_X10_in
set_option maxRecDepth 20000 in
theorem ggX10_as_X10_failed : GoodIn wsX10_as wsX10_failed := goodIn_r _ [20, 16, 21, 22, 23, 24, 25, 26, 27, 28, 29, 30, 31, 32, 33, 34, 35, 36, 37, 38, 39, 40, 41, 42] (by decide +kernel) (by decide +kernel)
set_option maxRecDepth 20000 in
theorem gX10_as_X10_failed : GoodIn wsX10_as (wsV RX10 86 RX10 yX10_failed wsX10_failed) := goodIn_app (goodIn_of _ (by decide +kernel)) ggX10_as_X10_failed
end
section
theorem dX0_init_0 : decode cX0_init 0 = .ok (.aload_n 0, 1) := by decide +kernel
theorem dX0_init_1 : decode cX0_init 1 = .ok (.invokespecial 3, 3) := by decide +kernel
theorem dX0_init_4 : decode cX0_init 4 = .ok (.aload_n 0, 1) := by decide +kernel
theorem dX0_init_5 : decode cX0_init 5 = .ok (.sipush 1000, 3) := by decide +kernel
theorem dX0_init_8 : decode cX0_init 8 = .ok (.newarray .int, 2) := by decide +kernel
theorem dX0_init_10 : decode cX0_init 10 = .ok (.putfield 9, 3) := by decide +kernel
theorem dX0_init_13 : decode cX0_init 13 = .ok (.return_, 1) := by decide +kernel
theorem dX0_clear_0 : decode cX0_clear 0 = .ok (.iconst 0, 1) := by decide +kernel
theorem dX0_clear_1 : decode cX0_clear 1 = .ok (.istore_n 1, 1) := by decide +kernel
theorem dX0_clear_2 : decode cX0_clear 2 = .ok (.iload_n 1, 1) := by decide +kernel
theorem dX0_clear_3 : decode cX0_clear 3 = .ok (.aload_n 0, 1) := by decide +kernel
theorem dX0_clear_4 : decode cX0_clear 4 = .ok (.getfield 9, 3) := by decide +kernel
theorem dX0_clear_7 : decode cX0_clear 7 = .ok (.arraylength, 1) := by decide +kernel
theorem dX0_clear_8 : decode cX0_clear 8 = .ok (.if_icmp .ge 25, 3) := by decide +kernel
theorem dX0_clear_11 : decode cX0_clear 11 = .ok (.aload_n 0, 1) := by decide +kernel
theorem dX0_clear_12 : decode cX0_clear 12 = .ok (.getfield 9, 3) := by decide +kernel
theorem dX0_clear_15 : decode cX0_clear 15 = .ok (.iload_n 1, 1) := by decide +kernel
theorem dX0_clear_16 : decode cX0_clear 16 = .ok (.iload_n 1, 1) := by decide +kernel
theorem dX0_clear_17 : decode cX0_clear 17 = .ok (.ifCond .ne 7, 3) := by decide +kernel
theorem dX0_clear_20 : decode cX0_clear 20 = .ok (.iconst 0, 1) := by decide +kernel
theorem dX0_clear_21 : decode cX0_clear 21 = .ok (.goto 5, 3) := by decide +kernel
theorem dX0_clear_24 : decode cX0_clear 24 = .ok (.ldc 15, 2) := by decide +kernel
theorem dX0_clear_26 : decode cX0_clear 26 = .ok (.iastore, 1) := by decide +kernel
theorem dX0_clear_27 : decode cX0_clear 27 = .ok (.iinc 1 1, 3) := by decide +kernel
theorem dX0_clear_30 : decode cX0_clear 30 = .ok (.goto (-28), 3) := by decide +kernel
theorem dX0_clear_33 : decode cX0_clear 33 = .ok (.return_, 1) := by decide +kernel
theorem dX0_add_0 : decode cX0_add 0 = .ok (.iload_n 1, 1) := by decide +kernel
theorem dX0_add_1 : decode cX0_add 1 = .ok (.iconst 1, 1) := by decide +kernel
theorem dX0_add_2 : decode cX0_add 2 = .ok (.if_icmp .ge 4, 3) := by decide +kernel
theorem dX0_add_5 : decode cX0_add 5 = .ok (.return_, 1) := by decide +kernel
theorem dX0_add_6 : decode cX0_add 6 = .ok (.iload_n 1, 1) := by decide +kernel
theorem dX0_add_7 : decode cX0_add 7 = .ok (.istore_n 2, 1) := by decide +kernel
theorem dX0_add_8 : decode cX0_add 8 = .ok (.iload_n 2, 1) := by decide +kernel
theorem dX0_add_9 : decode cX0_add 9 = .ok (.aload_n 0, 1) := by decide +kernel
theorem dX0_add_10 : decode cX0_add 10 = .ok (.getfield 9, 3) := by decide +kernel
theorem dX0_add_13 : decode cX0_add 13 = .ok (.arraylength, 1) := by decide +kernel
theorem dX0_add_14 : decode cX0_add 14 = .ok (.if_icmp .ge 34, 3) := by decide +kernel
theorem dX0_add_17 : decode cX0_add 17 = .ok (.aload_n 0, 1) := by decide +kernel
theorem dX0_add_18 : decode cX0_add 18 = .ok (.getfield 9, 3) := by decide +kernel
theorem dX0_add_21 : decode cX0_add 21 = .ok (.iload_n 2, 1) := by decide +kernel
theorem dX0_add_22 : decode cX0_add 22 = .ok (.aload_n 0, 1) := by decide +kernel
theorem dX0_add_23 : decode cX0_add 23 = .ok (.getfield 9, 3) := by decide +kernel
theorem dX0_add_26 : decode cX0_add 26 = .ok (.iload_n 2, 1) := by decide +kernel
theorem dX0_add_27 : decode cX0_add 27 = .ok (.iaload, 1) := by decide +kernel
theorem dX0_add_28 : decode cX0_add 28 = .ok (.aload_n 0, 1) := by decide +kernel
theorem dX0_add_29 : decode cX0_add 29 = .ok (.getfield 9, 3) := by decide +kernel
theorem dX0_add_32 : decode cX0_add 32 = .ok (.iload_n 2, 1) := by decide +kernel
theorem dX0_add_33 : decode cX0_add 33 = .ok (.iload_n 1, 1) := by decide +kernel
theorem dX0_add_34 : decode cX0_add 34 = .ok (.isub, 1) := by decide +kernel
theorem dX0_add_35 : decode cX0_add 35 = .ok (.iaload, 1) := by decide +kernel
theorem dX0_add_36 : decode cX0_add 36 = .ok (.iconst 1, 1) := by decide +kernel
theorem dX0_add_37 : decode cX0_add 37 = .ok (.iadd, 1) := by decide +kernel
theorem dX0_add_38 : decode cX0_add 38 = .ok (.invokestatic 16, 3) := by decide +kernel
theorem dX0_add_41 : decode cX0_add 41 = .ok (.iastore, 1) := by decide +kernel
theorem dX0_add_42 : decode cX0_add 42 = .ok (.iinc 2 1, 3) := by decide +kernel
theorem dX0_add_45 : decode cX0_add 45 = .ok (.goto (-37), 3) := by decide +kernel
theorem dX0_add_48 : decode cX0_add 48 = .ok (.return_, 1) := by decide +kernel
theorem dX0_of_0 : decode cX0_of 0 = .ok (.iload_n 1, 1) := by decide +kernel
theorem dX0_of_1 : decode cX0_of 1 = .ok (.ifCond .lt 21, 3) := by decide +kernel
theorem dX0_of_4 : decode cX0_of 4 = .ok (.iload_n 1, 1) := by decide +kernel
theorem dX0_of_5 : decode cX0_of 5 = .ok (.aload_n 0, 1) := by decide +kernel
theorem dX0_of_6 : decode cX0_of 6 = .ok (.getfield 9, 3) := by decide +kernel
theorem dX0_of_9 : decode cX0_of 9 = .ok (.arraylength, 1) := by decide +kernel
theorem dX0_of_10 : decode cX0_of 10 = .ok (.if_icmp .ge 12, 3) := by decide +kernel
theorem dX0_of_13 : decode cX0_of 13 = .ok (.aload_n 0, 1) := by decide +kernel
theorem dX0_of_14 : decode cX0_of 14 = .ok (.getfield 9, 3) := by decide +kernel
theorem dX0_of_17 : decode cX0_of 17 = .ok (.iload_n 1, 1) := by decide +kernel
theorem dX0_of_18 : decode cX0_of 18 = .ok (.iaload, 1) := by decide +kernel
theorem dX0_of_19 : decode cX0_of 19 = .ok (.goto 5, 3) := by decide +kernel
theorem dX0_of_22 : decode cX0_of 22 = .ok (.ldc 15, 2) := by decide +kernel
theorem dX0_of_24 : decode cX0_of 24 = .ok (.ireturn, 1) := by decide +kernel
theorem dX0_within_0 : decode cX0_within 0 = .ok (.aload_n 0, 1) := by decide +kernel
theorem dX0_within_1 : decode cX0_within 1 = .ok (.iload_n 1, 1) := by decide +kernel
theorem dX0_within_2 : decode cX0_within 2 = .ok (.invokevirtual 22, 3) := by decide +kernel
theorem dX0_within_5 : decode cX0_within 5 = .ok (.iload_n 2, 1) := by decide +kernel
theorem dX0_within_6 : decode cX0_within 6 = .ok (.if_icmp .gt 7, 3) := by decide +kernel
theorem dX0_within_9 : decode cX0_within 9 = .ok (.iconst 1, 1) := by decide +kernel
theorem dX0_within_10 : decode cX0_within 10 = .ok (.goto 4, 3) := by decide +kernel
theorem dX0_within_13 : decode cX0_within 13 = .ok (.iconst 0, 1) := by decide +kernel
theorem dX0_within_14 : decode cX0_within 14 = .ok (.ireturn, 1) := by decide +kernel
theorem dX0_withinBy_0 : decode cX0_withinBy 0 = .ok (.aload_n 0, 1) := by decide +kernel
theorem dX0_withinBy_1 : decode cX0_withinBy 1 = .ok (.aload_n 1, 1) := by decide +kernel
theorem dX0_withinBy_2 : decode cX0_withinBy 2 = .ok (.iload_n 2, 1) := by decide +kernel
theorem dX0_withinBy_3 : decode cX0_withinBy 3 = .ok (.aload_n 1, 1) := by decide +kernel
theorem dX0_withinBy_4 : decode cX0_withinBy 4 = .ok (.arraylength, 1) := by decide +kernel
theorem dX0_withinBy_5 : decode cX0_withinBy 5 = .ok (.invokestatic 16, 3) := by decide +kernel
theorem dX0_withinBy_8 : decode cX0_withinBy 8 = .ok (.iload_n 3, 1) := by decide +kernel
theorem dX0_withinBy_9 : decode cX0_withinBy 9 = .ok (.iload 4, 2) := by decide +kernel
theorem dX0_withinBy_11 : decode cX0_withinBy 11 = .ok (.invokestatic 26, 3) := by decide +kernel
theorem dX0_withinBy_14 : decode cX0_withinBy 14 = .ok (.ireturn, 1) := by decide +kernel
theorem dX0_isReached_0 : decode cX0_isReached 0 = .ok (.iload_n 2, 1) := by decide +kernel
theorem dX0_isReached_1 : decode cX0_isReached 1 = .ok (.ifCond .le 13, 3) := by decide +kernel
theorem dX0_isReached_4 : decode cX0_isReached 4 = .ok (.iload_n 2, 1) := by decide +kernel
theorem dX0_isReached_5 : decode cX0_isReached 5 = .ok (.aload_n 1, 1) := by decide +kernel
theorem dX0_isReached_6 : decode cX0_isReached 6 = .ok (.arraylength, 1) := by decide +kernel
theorem dX0_isReached_7 : decode cX0_isReached 7 = .ok (.if_icmp .gt 7, 3) := by decide +kernel
theorem dX0_isReached_10 : decode cX0_isReached 10 = .ok (.iload_n 3, 1) := by decide +kernel
theorem dX0_isReached_11 : decode cX0_isReached 11 = .ok (.ifCond .ge 11, 3) := by decide +kernel
theorem dX0_isReached_14 : decode cX0_isReached 14 = .ok (.aload_n 0, 1) := by decide +kernel
theorem dX0_isReached_15 : decode cX0_isReached 15 = .ok (.iload_n 3, 1) := by decide +kernel
theorem dX0_isReached_16 : decode cX0_isReached 16 = .ok (.iload 4, 2) := by decide +kernel
theorem dX0_isReached_18 : decode cX0_isReached 18 = .ok (.invokevirtual 30, 3) := by decide +kernel
theorem dX0_isReached_21 : decode cX0_isReached 21 = .ok (.ireturn, 1) := by decide +kernel
theorem dX0_isReached_22 : decode cX0_isReached 22 = .ok (.iconst 0, 1) := by decide +kernel
theorem dX0_isReached_23 : decode cX0_isReached 23 = .ok (.istore 5, 2) := by decide +kernel
theorem dX0_isReached_25 : decode cX0_isReached 25 = .ok (.iload 5, 2) := by decide +kernel
theorem dX0_isReached_27 : decode cX0_isReached 27 = .ok (.iload 4, 2) := by decide +kernel
theorem dX0_isReached_29 : decode cX0_isReached 29 = .ok (.if_icmp .gt 37, 3) := by decide +kernel
theorem dX0_isReached_32 : decode cX0_isReached 32 = .ok (.aload_n 0, 1) := by decide +kernel
theorem dX0_isReached_33 : decode cX0_isReached 33 = .ok (.aload_n 1, 1) := by decide +kernel
theorem dX0_isReached_34 : decode cX0_isReached 34 = .ok (.iload_n 2, 1) := by decide +kernel
theorem dX0_isReached_35 : decode cX0_isReached 35 = .ok (.iconst 1, 1) := by decide +kernel
theorem dX0_isReached_36 : decode cX0_isReached 36 = .ok (.isub, 1) := by decide +kernel
theorem dX0_isReached_37 : decode cX0_isReached 37 = .ok (.iload_n 3, 1) := by decide +kernel
theorem dX0_isReached_38 : decode cX0_isReached 38 = .ok (.iload 5, 2) := by decide +kernel
theorem dX0_isReached_40 : decode cX0_isReached 40 = .ok (.aload_n 1, 1) := by decide +kernel
theorem dX0_isReached_41 : decode cX0_isReached 41 = .ok (.iload_n 2, 1) := by decide +kernel
theorem dX0_isReached_42 : decode cX0_isReached 42 = .ok (.iconst 1, 1) := by decide +kernel
theorem dX0_isReached_43 : decode cX0_isReached 43 = .ok (.isub, 1) := by decide +kernel
theorem dX0_isReached_44 : decode cX0_isReached 44 = .ok (.iaload, 1) := by decide +kernel
theorem dX0_isReached_45 : decode cX0_isReached 45 = .ok (.imul, 1) := by decide +kernel
theorem dX0_isReached_46 : decode cX0_isReached 46 = .ok (.isub, 1) := by decide +kernel
theorem dX0_isReached_47 : decode cX0_isReached 47 = .ok (.iload 4, 2) := by decide +kernel
theorem dX0_isReached_49 : decode cX0_isReached 49 = .ok (.iload 5, 2) := by decide +kernel
theorem dX0_isReached_51 : decode cX0_isReached 51 = .ok (.isub, 1) := by decide +kernel
theorem dX0_isReached_52 : decode cX0_isReached 52 = .ok (.invokestatic 26, 3) := by decide +kernel
theorem dX0_isReached_55 : decode cX0_isReached 55 = .ok (.ifCond .eq 5, 3) := by decide +kernel
theorem dX0_isReached_58 : decode cX0_isReached 58 = .ok (.iconst 1, 1) := by decide +kernel
theorem dX0_isReached_59 : decode cX0_isReached 59 = .ok (.ireturn, 1) := by decide +kernel
theorem dX0_isReached_60 : decode cX0_isReached 60 = .ok (.iinc 5 1, 3) := by decide +kernel
theorem dX0_isReached_63 : decode cX0_isReached 63 = .ok (.goto (-38), 3) := by decide +kernel
theorem dX0_isReached_66 : decode cX0_isReached 66 = .ok (.iconst 0, 1) := by decide +kernel
theorem dX0_isReached_67 : decode cX0_isReached 67 = .ok (.ireturn, 1) := by decide +kernel
theorem dX1_init_0 : decode cX1_init 0 = .ok (.aload_n 0, 1) := by decide +kernel
theorem dX1_init_1 : decode cX1_init 1 = .ok (.iload_n 1, 1) := by decide +kernel
theorem dX1_init_2 : decode cX1_init 2 = .ok (.iload_n 2, 1) := by decide +kernel
theorem dX1_init_3 : decode cX1_init 3 = .ok (.iload_n 3, 1) := by decide +kernel
theorem dX1_init_4 : decode cX1_init 4 = .ok (.iload 4, 2) := by decide +kernel
theorem dX1_init_6 : decode cX1_init 6 = .ok (.invokespecial 1, 3) := by decide +kernel
theorem dX1_init_9 : decode cX1_init 9 = .ok (.return_, 1) := by decide +kernel
theorem dX1_kind_0 : decode cX1_kind 0 = .ok (.iconst 2, 1) := by decide +kernel
theorem dX1_kind_1 : decode cX1_kind 1 = .ok (.ireturn, 1) := by decide +kernel
theorem dX1_isKnown_0 : decode cX1_isKnown 0 = .ok (.iconst 1, 1) := by decide +kernel
theorem dX1_isKnown_1 : decode cX1_isKnown 1 = .ok (.ireturn, 1) := by decide +kernel
theorem dX1_telling_0 : decode cX1_telling 0 = .ok (.aload_n 1, 1) := by decide +kernel
theorem dX1_telling_1 : decode cX1_telling 1 = .ok (.iconst 3, 1) := by decide +kernel
theorem dX1_telling_2 : decode cX1_telling 2 = .ok (.invokevirtual 7, 3) := by decide +kernel
theorem dX1_telling_5 : decode cX1_telling 5 = .ok (.aload_n 0, 1) := by decide +kernel
theorem dX1_telling_6 : decode cX1_telling 6 = .ok (.aload_n 1, 1) := by decide +kernel
theorem dX1_telling_7 : decode cX1_telling 7 = .ok (.invokespecial 13, 3) := by decide +kernel
theorem dX1_telling_10 : decode cX1_telling 10 = .ok (.istore_n 2, 1) := by decide +kernel
theorem dX1_telling_11 : decode cX1_telling 11 = .ok (.iload_n 2, 1) := by decide +kernel
theorem dX1_telling_12 : decode cX1_telling 12 = .ok (.aload_n 0, 1) := by decide +kernel
theorem dX1_telling_13 : decode cX1_telling 13 = .ok (.aload_n 1, 1) := by decide +kernel
theorem dX1_telling_14 : decode cX1_telling 14 = .ok (.invokevirtual 17, 3) := by decide +kernel
theorem dX1_telling_17 : decode cX1_telling 17 = .ok (.iadd, 1) := by decide +kernel
theorem dX1_telling_18 : decode cX1_telling 18 = .ok (.ireturn, 1) := by decide +kernel
theorem dX1_mourning_0 : decode cX1_mourning 0 = .ok (.aload_n 1, 1) := by decide +kernel
theorem dX1_mourning_1 : decode cX1_mourning 1 = .ok (.iconst 5, 1) := by decide +kernel
theorem dX1_mourning_2 : decode cX1_mourning 2 = .ok (.invokevirtual 7, 3) := by decide +kernel
theorem dX1_mourning_5 : decode cX1_mourning 5 = .ok (.bipush 80, 2) := by decide +kernel
theorem dX1_mourning_7 : decode cX1_mourning 7 = .ok (.ireturn, 1) := by decide +kernel
theorem dX2_init_0 : decode cX2_init 0 = .ok (.aload_n 0, 1) := by decide +kernel
theorem dX2_init_1 : decode cX2_init 1 = .ok (.iload_n 1, 1) := by decide +kernel
theorem dX2_init_2 : decode cX2_init 2 = .ok (.iload_n 2, 1) := by decide +kernel
theorem dX2_init_3 : decode cX2_init 3 = .ok (.iload_n 3, 1) := by decide +kernel
theorem dX2_init_4 : decode cX2_init 4 = .ok (.iload 4, 2) := by decide +kernel
theorem dX2_init_6 : decode cX2_init 6 = .ok (.invokespecial 1, 3) := by decide +kernel
theorem dX2_init_9 : decode cX2_init 9 = .ok (.return_, 1) := by decide +kernel
theorem dX2_kind_0 : decode cX2_kind 0 = .ok (.iconst 1, 1) := by decide +kernel
theorem dX2_kind_1 : decode cX2_kind 1 = .ok (.ireturn, 1) := by decide +kernel
theorem dX2_longer_0 : decode cX2_longer 0 = .ok (.bipush 10, 2) := by decide +kernel
theorem dX2_longer_2 : decode cX2_longer 2 = .ok (.ireturn, 1) := by decide +kernel
theorem dX2_telling_0 : decode cX2_telling 0 = .ok (.aload_n 1, 1) := by decide +kernel
theorem dX2_telling_1 : decode cX2_telling 1 = .ok (.iconst 2, 1) := by decide +kernel
theorem dX2_telling_2 : decode cX2_telling 2 = .ok (.invokevirtual 7, 3) := by decide +kernel
theorem dX2_telling_5 : decode cX2_telling 5 = .ok (.aload_n 0, 1) := by decide +kernel
theorem dX2_telling_6 : decode cX2_telling 6 = .ok (.aload_n 1, 1) := by decide +kernel
theorem dX2_telling_7 : decode cX2_telling 7 = .ok (.invokevirtual 13, 3) := by decide +kernel
theorem dX2_telling_10 : decode cX2_telling 10 = .ok (.bipush 100, 2) := by decide +kernel
theorem dX2_telling_12 : decode cX2_telling 12 = .ok (.iadd, 1) := by decide +kernel
theorem dX2_telling_13 : decode cX2_telling 13 = .ok (.ireturn, 1) := by decide +kernel
theorem dX3_init_0 : decode cX3_init 0 = .ok (.aload_n 0, 1) := by decide +kernel
theorem dX3_init_1 : decode cX3_init 1 = .ok (.invokespecial 1, 3) := by decide +kernel
theorem dX3_init_4 : decode cX3_init 4 = .ok (.aload_n 0, 1) := by decide +kernel
theorem dX3_init_5 : decode cX3_init 5 = .ok (.iload_n 1, 1) := by decide +kernel
theorem dX3_init_6 : decode cX3_init 6 = .ok (.putfield 7, 3) := by decide +kernel
theorem dX3_init_9 : decode cX3_init 9 = .ok (.aload_n 0, 1) := by decide +kernel
theorem dX3_init_10 : decode cX3_init 10 = .ok (.iload_n 2, 1) := by decide +kernel
theorem dX3_init_11 : decode cX3_init 11 = .ok (.putfield 13, 3) := by decide +kernel
theorem dX3_init_14 : decode cX3_init 14 = .ok (.aload_n 0, 1) := by decide +kernel
theorem dX3_init_15 : decode cX3_init 15 = .ok (.iload_n 3, 1) := by decide +kernel
theorem dX3_init_16 : decode cX3_init 16 = .ok (.putfield 16, 3) := by decide +kernel
theorem dX3_init_19 : decode cX3_init 19 = .ok (.aload_n 0, 1) := by decide +kernel
theorem dX3_init_20 : decode cX3_init 20 = .ok (.iload 4, 2) := by decide +kernel
theorem dX3_init_22 : decode cX3_init 22 = .ok (.putfield 19, 3) := by decide +kernel
theorem dX3_init_25 : decode cX3_init 25 = .ok (.return_, 1) := by decide +kernel
theorem dX3_kind_0 : decode cX3_kind 0 = .ok (.iconst 0, 1) := by decide +kernel
theorem dX3_kind_1 : decode cX3_kind 1 = .ok (.ireturn, 1) := by decide +kernel
theorem dX3_number_0 : decode cX3_number 0 = .ok (.aload_n 0, 1) := by decide +kernel
theorem dX3_number_1 : decode cX3_number 1 = .ok (.getfield 13, 3) := by decide +kernel
theorem dX3_number_4 : decode cX3_number 4 = .ok (.ireturn, 1) := by decide +kernel
theorem dX3_part_0 : decode cX3_part 0 = .ok (.iload_n 1, 1) := by decide +kernel
theorem dX3_part_1 : decode cX3_part 1 = .ok (.tableswitch 51 0 3 #[31, 36, 41, 46], 31) := by decide +kernel
theorem dX3_part_32 : decode cX3_part 32 = .ok (.aload_n 0, 1) := by decide +kernel
theorem dX3_part_33 : decode cX3_part 33 = .ok (.invokevirtual 22, 3) := by decide +kernel
theorem dX3_part_36 : decode cX3_part 36 = .ok (.ireturn, 1) := by decide +kernel
theorem dX3_part_37 : decode cX3_part 37 = .ok (.aload_n 0, 1) := by decide +kernel
theorem dX3_part_38 : decode cX3_part 38 = .ok (.getfield 7, 3) := by decide +kernel
theorem dX3_part_41 : decode cX3_part 41 = .ok (.ireturn, 1) := by decide +kernel
theorem dX3_part_42 : decode cX3_part 42 = .ok (.aload_n 0, 1) := by decide +kernel
theorem dX3_part_43 : decode cX3_part 43 = .ok (.getfield 13, 3) := by decide +kernel
theorem dX3_part_46 : decode cX3_part 46 = .ok (.ireturn, 1) := by decide +kernel
theorem dX3_part_47 : decode cX3_part 47 = .ok (.aload_n 0, 1) := by decide +kernel
theorem dX3_part_48 : decode cX3_part 48 = .ok (.getfield 16, 3) := by decide +kernel
theorem dX3_part_51 : decode cX3_part 51 = .ok (.ireturn, 1) := by decide +kernel
theorem dX3_part_52 : decode cX3_part 52 = .ok (.aload_n 0, 1) := by decide +kernel
theorem dX3_part_53 : decode cX3_part 53 = .ok (.getfield 19, 3) := by decide +kernel
theorem dX3_part_56 : decode cX3_part 56 = .ok (.ireturn, 1) := by decide +kernel
theorem dX3_isHeard_0 : decode cX3_isHeard 0 = .ok (.aload_n 0, 1) := by decide +kernel
theorem dX3_isHeard_1 : decode cX3_isHeard 1 = .ok (.iload_n 1, 1) := by decide +kernel
theorem dX3_isHeard_2 : decode cX3_isHeard 2 = .ok (.invokevirtual 26, 3) := by decide +kernel
theorem dX3_isHeard_5 : decode cX3_isHeard 5 = .ok (.ifCond .eq 28, 3) := by decide +kernel
theorem dX3_isHeard_8 : decode cX3_isHeard 8 = .ok (.iload_n 2, 1) := by decide +kernel
theorem dX3_isHeard_9 : decode cX3_isHeard 9 = .ok (.aload_n 0, 1) := by decide +kernel
theorem dX3_isHeard_10 : decode cX3_isHeard 10 = .ok (.getfield 16, 3) := by decide +kernel
theorem dX3_isHeard_13 : decode cX3_isHeard 13 = .ok (.if_icmp .lt 20, 3) := by decide +kernel
theorem dX3_isHeard_16 : decode cX3_isHeard 16 = .ok (.iload_n 2, 1) := by decide +kernel
theorem dX3_isHeard_17 : decode cX3_isHeard 17 = .ok (.aload_n 0, 1) := by decide +kernel
theorem dX3_isHeard_18 : decode cX3_isHeard 18 = .ok (.getfield 19, 3) := by decide +kernel
theorem dX3_isHeard_21 : decode cX3_isHeard 21 = .ok (.aload_n 0, 1) := by decide +kernel
theorem dX3_isHeard_22 : decode cX3_isHeard 22 = .ok (.invokevirtual 30, 3) := by decide +kernel
theorem dX3_isHeard_25 : decode cX3_isHeard 25 = .ok (.iadd, 1) := by decide +kernel
theorem dX3_isHeard_26 : decode cX3_isHeard 26 = .ok (.if_icmp .ge 7, 3) := by decide +kernel
theorem dX3_isHeard_29 : decode cX3_isHeard 29 = .ok (.iconst 1, 1) := by decide +kernel
theorem dX3_isHeard_30 : decode cX3_isHeard 30 = .ok (.goto 4, 3) := by decide +kernel
theorem dX3_isHeard_33 : decode cX3_isHeard 33 = .ok (.iconst 0, 1) := by decide +kernel
theorem dX3_isHeard_34 : decode cX3_isHeard 34 = .ok (.ireturn, 1) := by decide +kernel
theorem dX3_isKnown_0 : decode cX3_isKnown 0 = .ok (.iload_n 1, 1) := by decide +kernel
theorem dX3_isKnown_1 : decode cX3_isKnown 1 = .ok (.aload_n 0, 1) := by decide +kernel
theorem dX3_isKnown_2 : decode cX3_isKnown 2 = .ok (.getfield 7, 3) := by decide +kernel
theorem dX3_isKnown_5 : decode cX3_isKnown 5 = .ok (.if_icmp .ne 7, 3) := by decide +kernel
theorem dX3_isKnown_8 : decode cX3_isKnown 8 = .ok (.iconst 1, 1) := by decide +kernel
theorem dX3_isKnown_9 : decode cX3_isKnown 9 = .ok (.goto 4, 3) := by decide +kernel
theorem dX3_isKnown_12 : decode cX3_isKnown 12 = .ok (.iconst 0, 1) := by decide +kernel
theorem dX3_isKnown_13 : decode cX3_isKnown 13 = .ok (.ireturn, 1) := by decide +kernel
theorem dX3_longer_0 : decode cX3_longer 0 = .ok (.iconst 0, 1) := by decide +kernel
theorem dX3_longer_1 : decode cX3_longer 1 = .ok (.ireturn, 1) := by decide +kernel
theorem dX3_telling_0 : decode cX3_telling 0 = .ok (.aload_n 0, 1) := by decide +kernel
theorem dX3_telling_1 : decode cX3_telling 1 = .ok (.aload_n 1, 1) := by decide +kernel
theorem dX3_telling_2 : decode cX3_telling 2 = .ok (.invokevirtual 33, 3) := by decide +kernel
theorem dX3_telling_5 : decode cX3_telling 5 = .ok (.ireturn, 1) := by decide +kernel
theorem dX3_namedTelling_0 : decode cX3_namedTelling 0 = .ok (.aload_n 1, 1) := by decide +kernel
theorem dX3_namedTelling_1 : decode cX3_namedTelling 1 = .ok (.iconst 1, 1) := by decide +kernel
theorem dX3_namedTelling_2 : decode cX3_namedTelling 2 = .ok (.invokevirtual 37, 3) := by decide +kernel
theorem dX3_namedTelling_5 : decode cX3_namedTelling 5 = .ok (.aload_n 0, 1) := by decide +kernel
theorem dX3_namedTelling_6 : decode cX3_namedTelling 6 = .ok (.getfield 13, 3) := by decide +kernel
theorem dX3_namedTelling_9 : decode cX3_namedTelling 9 = .ok (.ireturn, 1) := by decide +kernel
theorem dX3_mourning_0 : decode cX3_mourning 0 = .ok (.aload_n 1, 1) := by decide +kernel
theorem dX3_mourning_1 : decode cX3_mourning 1 = .ok (.iconst 4, 1) := by decide +kernel
theorem dX3_mourning_2 : decode cX3_mourning 2 = .ok (.invokevirtual 37, 3) := by decide +kernel
theorem dX3_mourning_5 : decode cX3_mourning 5 = .ok (.iload_n 2, 1) := by decide +kernel
theorem dX3_mourning_6 : decode cX3_mourning 6 = .ok (.ireturn, 1) := by decide +kernel
theorem dX4_init_0 : decode cX4_init 0 = .ok (.aload_n 0, 1) := by decide +kernel
theorem dX4_init_1 : decode cX4_init 1 = .ok (.invokespecial 3, 3) := by decide +kernel
theorem dX4_init_4 : decode cX4_init 4 = .ok (.aload_n 0, 1) := by decide +kernel
theorem dX4_init_5 : decode cX4_init 5 = .ok (.bipush 10, 2) := by decide +kernel
theorem dX4_init_7 : decode cX4_init 7 = .ok (.anewarray 9, 3) := by decide +kernel
theorem dX4_init_10 : decode cX4_init 10 = .ok (.putfield 11, 3) := by decide +kernel
theorem dX4_init_13 : decode cX4_init 13 = .ok (.aload_n 0, 1) := by decide +kernel
theorem dX4_init_14 : decode cX4_init 14 = .ok (.iconst 0, 1) := by decide +kernel
theorem dX4_init_15 : decode cX4_init 15 = .ok (.putfield 17, 3) := by decide +kernel
theorem dX4_init_18 : decode cX4_init 18 = .ok (.return_, 1) := by decide +kernel
theorem dX4_size_0 : decode cX4_size 0 = .ok (.aload_n 0, 1) := by decide +kernel
theorem dX4_size_1 : decode cX4_size 1 = .ok (.getfield 17, 3) := by decide +kernel
theorem dX4_size_4 : decode cX4_size 4 = .ok (.ireturn, 1) := by decide +kernel
theorem dX4_one_0 : decode cX4_one 0 = .ok (.iload_n 1, 1) := by decide +kernel
theorem dX4_one_1 : decode cX4_one 1 = .ok (.ifCond .lt 29, 3) := by decide +kernel
theorem dX4_one_4 : decode cX4_one 4 = .ok (.iload_n 1, 1) := by decide +kernel
theorem dX4_one_5 : decode cX4_one 5 = .ok (.aload_n 0, 1) := by decide +kernel
theorem dX4_one_6 : decode cX4_one 6 = .ok (.getfield 17, 3) := by decide +kernel
theorem dX4_one_9 : decode cX4_one 9 = .ok (.if_icmp .ge 21, 3) := by decide +kernel
theorem dX4_one_12 : decode cX4_one 12 = .ok (.iload_n 1, 1) := by decide +kernel
theorem dX4_one_13 : decode cX4_one 13 = .ok (.aload_n 0, 1) := by decide +kernel
theorem dX4_one_14 : decode cX4_one 14 = .ok (.getfield 11, 3) := by decide +kernel
theorem dX4_one_17 : decode cX4_one 17 = .ok (.arraylength, 1) := by decide +kernel
theorem dX4_one_18 : decode cX4_one 18 = .ok (.if_icmp .ge 12, 3) := by decide +kernel
theorem dX4_one_21 : decode cX4_one 21 = .ok (.aload_n 0, 1) := by decide +kernel
theorem dX4_one_22 : decode cX4_one 22 = .ok (.getfield 11, 3) := by decide +kernel
theorem dX4_one_25 : decode cX4_one 25 = .ok (.iload_n 1, 1) := by decide +kernel
theorem dX4_one_26 : decode cX4_one 26 = .ok (.aaload, 1) := by decide +kernel
theorem dX4_one_27 : decode cX4_one 27 = .ok (.goto 4, 3) := by decide +kernel
theorem dX4_one_30 : decode cX4_one 30 = .ok (.aconst_null, 1) := by decide +kernel
theorem dX4_one_31 : decode cX4_one 31 = .ok (.areturn, 1) := by decide +kernel
theorem dX4_takeFrom_0 : decode cX4_takeFrom 0 = .ok (.aload_n 0, 1) := by decide +kernel
theorem dX4_takeFrom_1 : decode cX4_takeFrom 1 = .ok (.aload_n 1, 1) := by decide +kernel
theorem dX4_takeFrom_2 : decode cX4_takeFrom 2 = .ok (.invokevirtual 21, 3) := by decide +kernel
theorem dX4_takeFrom_5 : decode cX4_takeFrom 5 = .ok (.aload_n 0, 1) := by decide +kernel
theorem dX4_takeFrom_6 : decode cX4_takeFrom 6 = .ok (.getfield 11, 3) := by decide +kernel
theorem dX4_takeFrom_9 : decode cX4_takeFrom 9 = .ok (.arraylength, 1) := by decide +kernel
theorem dX4_takeFrom_10 : decode cX4_takeFrom 10 = .ok (.invokestatic 27, 3) := by decide +kernel
theorem dX4_takeFrom_13 : decode cX4_takeFrom 13 = .ok (.putfield 17, 3) := by decide +kernel
theorem dX4_takeFrom_16 : decode cX4_takeFrom 16 = .ok (.iconst 0, 1) := by decide +kernel
theorem dX4_takeFrom_17 : decode cX4_takeFrom 17 = .ok (.istore_n 2, 1) := by decide +kernel
theorem dX4_takeFrom_18 : decode cX4_takeFrom 18 = .ok (.iload_n 2, 1) := by decide +kernel
theorem dX4_takeFrom_19 : decode cX4_takeFrom 19 = .ok (.aload_n 0, 1) := by decide +kernel
theorem dX4_takeFrom_20 : decode cX4_takeFrom 20 = .ok (.getfield 11, 3) := by decide +kernel
theorem dX4_takeFrom_23 : decode cX4_takeFrom 23 = .ok (.arraylength, 1) := by decide +kernel
theorem dX4_takeFrom_24 : decode cX4_takeFrom 24 = .ok (.if_icmp .ge 32, 3) := by decide +kernel
theorem dX4_takeFrom_27 : decode cX4_takeFrom 27 = .ok (.aload_n 0, 1) := by decide +kernel
theorem dX4_takeFrom_28 : decode cX4_takeFrom 28 = .ok (.getfield 11, 3) := by decide +kernel
theorem dX4_takeFrom_31 : decode cX4_takeFrom 31 = .ok (.iload_n 2, 1) := by decide +kernel
theorem dX4_takeFrom_32 : decode cX4_takeFrom 32 = .ok (.iload_n 2, 1) := by decide +kernel
theorem dX4_takeFrom_33 : decode cX4_takeFrom 33 = .ok (.aload_n 0, 1) := by decide +kernel
theorem dX4_takeFrom_34 : decode cX4_takeFrom 34 = .ok (.getfield 17, 3) := by decide +kernel
theorem dX4_takeFrom_37 : decode cX4_takeFrom 37 = .ok (.if_icmp .ge 11, 3) := by decide +kernel
theorem dX4_takeFrom_40 : decode cX4_takeFrom 40 = .ok (.aload_n 1, 1) := by decide +kernel
theorem dX4_takeFrom_41 : decode cX4_takeFrom 41 = .ok (.iload_n 2, 1) := by decide +kernel
theorem dX4_takeFrom_42 : decode cX4_takeFrom 42 = .ok (.invokevirtual 33, 3) := by decide +kernel
theorem dX4_takeFrom_45 : decode cX4_takeFrom 45 = .ok (.goto 4, 3) := by decide +kernel
theorem dX4_takeFrom_48 : decode cX4_takeFrom 48 = .ok (.aconst_null, 1) := by decide +kernel
theorem dX4_takeFrom_49 : decode cX4_takeFrom 49 = .ok (.aastore, 1) := by decide +kernel
theorem dX4_takeFrom_50 : decode cX4_takeFrom 50 = .ok (.iinc 2 1, 3) := by decide +kernel
theorem dX4_takeFrom_53 : decode cX4_takeFrom 53 = .ok (.goto (-35), 3) := by decide +kernel
theorem dX4_takeFrom_56 : decode cX4_takeFrom 56 = .ok (.return_, 1) := by decide +kernel
theorem dX4_bearer_0 : decode cX4_bearer 0 = .ok (.iconst 0, 1) := by decide +kernel
theorem dX4_bearer_1 : decode cX4_bearer 1 = .ok (.istore 4, 2) := by decide +kernel
theorem dX4_bearer_3 : decode cX4_bearer 3 = .ok (.iload 4, 2) := by decide +kernel
theorem dX4_bearer_5 : decode cX4_bearer 5 = .ok (.aload_n 0, 1) := by decide +kernel
theorem dX4_bearer_6 : decode cX4_bearer 6 = .ok (.getfield 17, 3) := by decide +kernel
theorem dX4_bearer_9 : decode cX4_bearer 9 = .ok (.if_icmp .ge 44, 3) := by decide +kernel
theorem dX4_bearer_12 : decode cX4_bearer 12 = .ok (.aload_n 0, 1) := by decide +kernel
theorem dX4_bearer_13 : decode cX4_bearer 13 = .ok (.iload 4, 2) := by decide +kernel
theorem dX4_bearer_15 : decode cX4_bearer 15 = .ok (.invokevirtual 37, 3) := by decide +kernel
theorem dX4_bearer_18 : decode cX4_bearer 18 = .ok (.astore 5, 2) := by decide +kernel
theorem dX4_bearer_20 : decode cX4_bearer 20 = .ok (.aload 5, 2) := by decide +kernel
theorem dX4_bearer_22 : decode cX4_bearer 22 = .ok (.ifnull 25, 3) := by decide +kernel
theorem dX4_bearer_25 : decode cX4_bearer 25 = .ok (.aload 5, 2) := by decide +kernel
theorem dX4_bearer_27 : decode cX4_bearer 27 = .ok (.invokevirtual 38, 3) := by decide +kernel
theorem dX4_bearer_30 : decode cX4_bearer 30 = .ok (.iload_n 1, 1) := by decide +kernel
theorem dX4_bearer_31 : decode cX4_bearer 31 = .ok (.if_icmp .ne 16, 3) := by decide +kernel
theorem dX4_bearer_34 : decode cX4_bearer 34 = .ok (.aload 5, 2) := by decide +kernel
theorem dX4_bearer_36 : decode cX4_bearer 36 = .ok (.iload_n 2, 1) := by decide +kernel
theorem dX4_bearer_37 : decode cX4_bearer 37 = .ok (.iload_n 3, 1) := by decide +kernel
theorem dX4_bearer_38 : decode cX4_bearer 38 = .ok (.invokevirtual 41, 3) := by decide +kernel
theorem dX4_bearer_41 : decode cX4_bearer 41 = .ok (.ifCond .eq 6, 3) := by decide +kernel
theorem dX4_bearer_44 : decode cX4_bearer 44 = .ok (.iload 4, 2) := by decide +kernel
theorem dX4_bearer_46 : decode cX4_bearer 46 = .ok (.ireturn, 1) := by decide +kernel
theorem dX4_bearer_47 : decode cX4_bearer 47 = .ok (.iinc 4 1, 3) := by decide +kernel
theorem dX4_bearer_50 : decode cX4_bearer 50 = .ok (.goto (-47), 3) := by decide +kernel
theorem dX4_bearer_53 : decode cX4_bearer 53 = .ok (.bipush (-9), 2) := by decide +kernel
theorem dX4_bearer_55 : decode cX4_bearer 55 = .ok (.ireturn, 1) := by decide +kernel
theorem dX4_teach_0 : decode cX4_teach 0 = .ok (.aload_n 1, 1) := by decide +kernel
theorem dX4_teach_1 : decode cX4_teach 1 = .ok (.invokevirtual 45, 3) := by decide +kernel
theorem dX4_teach_4 : decode cX4_teach 4 = .ok (.iconst 0, 1) := by decide +kernel
theorem dX4_teach_5 : decode cX4_teach 5 = .ok (.istore 5, 2) := by decide +kernel
theorem dX4_teach_7 : decode cX4_teach 7 = .ok (.iload 5, 2) := by decide +kernel
theorem dX4_teach_9 : decode cX4_teach 9 = .ok (.aload_n 0, 1) := by decide +kernel
theorem dX4_teach_10 : decode cX4_teach 10 = .ok (.getfield 17, 3) := by decide +kernel
theorem dX4_teach_13 : decode cX4_teach 13 = .ok (.if_icmp .ge 48, 3) := by decide +kernel
theorem dX4_teach_16 : decode cX4_teach 16 = .ok (.aload_n 0, 1) := by decide +kernel
theorem dX4_teach_17 : decode cX4_teach 17 = .ok (.iload 5, 2) := by decide +kernel
theorem dX4_teach_19 : decode cX4_teach 19 = .ok (.invokevirtual 37, 3) := by decide +kernel
theorem dX4_teach_22 : decode cX4_teach 22 = .ok (.astore 6, 2) := by decide +kernel
theorem dX4_teach_24 : decode cX4_teach 24 = .ok (.aload 6, 2) := by decide +kernel
theorem dX4_teach_26 : decode cX4_teach 26 = .ok (.ifnull 29, 3) := by decide +kernel
theorem dX4_teach_29 : decode cX4_teach 29 = .ok (.iload 5, 2) := by decide +kernel
theorem dX4_teach_31 : decode cX4_teach 31 = .ok (.iload 4, 2) := by decide +kernel
theorem dX4_teach_33 : decode cX4_teach 33 = .ok (.if_icmp .eq 22, 3) := by decide +kernel
theorem dX4_teach_36 : decode cX4_teach 36 = .ok (.aload 6, 2) := by decide +kernel
theorem dX4_teach_38 : decode cX4_teach 38 = .ok (.iload_n 2, 1) := by decide +kernel
theorem dX4_teach_39 : decode cX4_teach 39 = .ok (.iload_n 3, 1) := by decide +kernel
theorem dX4_teach_40 : decode cX4_teach 40 = .ok (.invokevirtual 41, 3) := by decide +kernel
theorem dX4_teach_43 : decode cX4_teach 43 = .ok (.ifCond .eq 12, 3) := by decide +kernel
theorem dX4_teach_46 : decode cX4_teach 46 = .ok (.aload_n 1, 1) := by decide +kernel
theorem dX4_teach_47 : decode cX4_teach 47 = .ok (.aload 6, 2) := by decide +kernel
theorem dX4_teach_49 : decode cX4_teach 49 = .ok (.invokevirtual 38, 3) := by decide +kernel
theorem dX4_teach_52 : decode cX4_teach 52 = .ok (.invokevirtual 50, 3) := by decide +kernel
theorem dX4_teach_55 : decode cX4_teach 55 = .ok (.iinc 5 1, 3) := by decide +kernel
theorem dX4_teach_58 : decode cX4_teach 58 = .ok (.goto (-51), 3) := by decide +kernel
theorem dX4_teach_61 : decode cX4_teach 61 = .ok (.return_, 1) := by decide +kernel
theorem dX4_greatestStep_0 : decode cX4_greatestStep 0 = .ok (.iconst 0, 1) := by decide +kernel
theorem dX4_greatestStep_1 : decode cX4_greatestStep 1 = .ok (.istore 5, 2) := by decide +kernel
theorem dX4_greatestStep_3 : decode cX4_greatestStep 3 = .ok (.iconst 0, 1) := by decide +kernel
theorem dX4_greatestStep_4 : decode cX4_greatestStep 4 = .ok (.istore 6, 2) := by decide +kernel
theorem dX4_greatestStep_6 : decode cX4_greatestStep 6 = .ok (.iload 6, 2) := by decide +kernel
theorem dX4_greatestStep_8 : decode cX4_greatestStep 8 = .ok (.aload_n 0, 1) := by decide +kernel
theorem dX4_greatestStep_9 : decode cX4_greatestStep 9 = .ok (.getfield 17, 3) := by decide +kernel
theorem dX4_greatestStep_12 : decode cX4_greatestStep 12 = .ok (.if_icmp .ge 71, 3) := by decide +kernel
theorem dX4_greatestStep_15 : decode cX4_greatestStep 15 = .ok (.aload_n 0, 1) := by decide +kernel
theorem dX4_greatestStep_16 : decode cX4_greatestStep 16 = .ok (.iload 6, 2) := by decide +kernel
theorem dX4_greatestStep_18 : decode cX4_greatestStep 18 = .ok (.invokevirtual 37, 3) := by decide +kernel
theorem dX4_greatestStep_21 : decode cX4_greatestStep 21 = .ok (.astore 7, 2) := by decide +kernel
theorem dX4_greatestStep_23 : decode cX4_greatestStep 23 = .ok (.aload 7, 2) := by decide +kernel
theorem dX4_greatestStep_25 : decode cX4_greatestStep 25 = .ok (.ifnull 52, 3) := by decide +kernel
theorem dX4_greatestStep_28 : decode cX4_greatestStep 28 = .ok (.aload 7, 2) := by decide +kernel
theorem dX4_greatestStep_30 : decode cX4_greatestStep 30 = .ok (.invokevirtual 38, 3) := by decide +kernel
theorem dX4_greatestStep_33 : decode cX4_greatestStep 33 = .ok (.iload 5, 2) := by decide +kernel
theorem dX4_greatestStep_35 : decode cX4_greatestStep 35 = .ok (.if_icmp .le 42, 3) := by decide +kernel
theorem dX4_greatestStep_38 : decode cX4_greatestStep 38 = .ok (.aload 7, 2) := by decide +kernel
theorem dX4_greatestStep_40 : decode cX4_greatestStep 40 = .ok (.iload_n 3, 1) := by decide +kernel
theorem dX4_greatestStep_41 : decode cX4_greatestStep 41 = .ok (.iload 4, 2) := by decide +kernel
theorem dX4_greatestStep_43 : decode cX4_greatestStep 43 = .ok (.invokevirtual 41, 3) := by decide +kernel
theorem dX4_greatestStep_46 : decode cX4_greatestStep 46 = .ok (.ifCond .eq 31, 3) := by decide +kernel
theorem dX4_greatestStep_49 : decode cX4_greatestStep 49 = .ok (.aload_n 1, 1) := by decide +kernel
theorem dX4_greatestStep_50 : decode cX4_greatestStep 50 = .ok (.iload_n 2, 1) := by decide +kernel
theorem dX4_greatestStep_51 : decode cX4_greatestStep 51 = .ok (.aload 7, 2) := by decide +kernel
theorem dX4_greatestStep_53 : decode cX4_greatestStep 53 = .ok (.invokevirtual 38, 3) := by decide +kernel
theorem dX4_greatestStep_56 : decode cX4_greatestStep 56 = .ok (.isub, 1) := by decide +kernel
theorem dX4_greatestStep_57 : decode cX4_greatestStep 57 = .ok (.invokevirtual 54, 3) := by decide +kernel
theorem dX4_greatestStep_60 : decode cX4_greatestStep 60 = .ok (.aload_n 1, 1) := by decide +kernel
theorem dX4_greatestStep_61 : decode cX4_greatestStep 61 = .ok (.iload_n 2, 1) := by decide +kernel
theorem dX4_greatestStep_62 : decode cX4_greatestStep 62 = .ok (.invokevirtual 54, 3) := by decide +kernel
theorem dX4_greatestStep_65 : decode cX4_greatestStep 65 = .ok (.iconst 1, 1) := by decide +kernel
theorem dX4_greatestStep_66 : decode cX4_greatestStep 66 = .ok (.isub, 1) := by decide +kernel
theorem dX4_greatestStep_67 : decode cX4_greatestStep 67 = .ok (.if_icmp .ne 10, 3) := by decide +kernel
theorem dX4_greatestStep_70 : decode cX4_greatestStep 70 = .ok (.aload 7, 2) := by decide +kernel
theorem dX4_greatestStep_72 : decode cX4_greatestStep 72 = .ok (.invokevirtual 38, 3) := by decide +kernel
theorem dX4_greatestStep_75 : decode cX4_greatestStep 75 = .ok (.istore 5, 2) := by decide +kernel
theorem dX4_greatestStep_77 : decode cX4_greatestStep 77 = .ok (.iinc 6 1, 3) := by decide +kernel
theorem dX4_greatestStep_80 : decode cX4_greatestStep 80 = .ok (.goto (-74), 3) := by decide +kernel
theorem dX4_greatestStep_83 : decode cX4_greatestStep 83 = .ok (.iload 5, 2) := by decide +kernel
theorem dX4_greatestStep_85 : decode cX4_greatestStep 85 = .ok (.ireturn, 1) := by decide +kernel
theorem dX5_init_0 : decode cX5_init 0 = .ok (.aload_n 0, 1) := by decide +kernel
theorem dX5_init_1 : decode cX5_init 1 = .ok (.invokespecial 3, 3) := by decide +kernel
theorem dX5_init_4 : decode cX5_init 4 = .ok (.aload_n 0, 1) := by decide +kernel
theorem dX5_init_5 : decode cX5_init 5 = .ok (.iconst 3, 1) := by decide +kernel
theorem dX5_init_6 : decode cX5_init 6 = .ok (.newarray .int, 2) := by decide +kernel
theorem dX5_init_8 : decode cX5_init 8 = .ok (.putfield 9, 3) := by decide +kernel
theorem dX5_init_11 : decode cX5_init 11 = .ok (.aload_n 0, 1) := by decide +kernel
theorem dX5_init_12 : decode cX5_init 12 = .ok (.iconst 3, 1) := by decide +kernel
theorem dX5_init_13 : decode cX5_init 13 = .ok (.newarray .int, 2) := by decide +kernel
theorem dX5_init_15 : decode cX5_init 15 = .ok (.putfield 15, 3) := by decide +kernel
theorem dX5_init_18 : decode cX5_init 18 = .ok (.return_, 1) := by decide +kernel
theorem dX5_search_0 : decode cX5_search 0 = .ok (.iconst 0, 1) := by decide +kernel
theorem dX5_search_1 : decode cX5_search 1 = .ok (.istore 5, 2) := by decide +kernel
theorem dX5_search_3 : decode cX5_search 3 = .ok (.iload 5, 2) := by decide +kernel
theorem dX5_search_5 : decode cX5_search 5 = .ok (.iconst 3, 1) := by decide +kernel
theorem dX5_search_6 : decode cX5_search 6 = .ok (.if_icmp .gt 88, 3) := by decide +kernel
theorem dX5_search_9 : decode cX5_search 9 = .ok (.iload 5, 2) := by decide +kernel
theorem dX5_search_11 : decode cX5_search 11 = .ok (.aload_n 1, 1) := by decide +kernel
theorem dX5_search_12 : decode cX5_search 12 = .ok (.invokevirtual 18, 3) := by decide +kernel
theorem dX5_search_15 : decode cX5_search 15 = .ok (.if_icmp .gt 79, 3) := by decide +kernel
theorem dX5_search_18 : decode cX5_search 18 = .ok (.aload_n 0, 1) := by decide +kernel
theorem dX5_search_19 : decode cX5_search 19 = .ok (.iconst 0, 1) := by decide +kernel
theorem dX5_search_20 : decode cX5_search 20 = .ok (.iconst 0, 1) := by decide +kernel
theorem dX5_search_21 : decode cX5_search 21 = .ok (.iload 5, 2) := by decide +kernel
theorem dX5_search_23 : decode cX5_search 23 = .ok (.invokevirtual 24, 3) := by decide +kernel
theorem dX5_search_26 : decode cX5_search 26 = .ok (.iconst 1, 1) := by decide +kernel
theorem dX5_search_27 : decode cX5_search 27 = .ok (.istore 6, 2) := by decide +kernel
theorem dX5_search_29 : decode cX5_search 29 = .ok (.iconst 0, 1) := by decide +kernel
theorem dX5_search_30 : decode cX5_search 30 = .ok (.istore 7, 2) := by decide +kernel
theorem dX5_search_32 : decode cX5_search 32 = .ok (.iload 7, 2) := by decide +kernel
theorem dX5_search_34 : decode cX5_search 34 = .ok (.bipush 120, 2) := by decide +kernel
theorem dX5_search_36 : decode cX5_search 36 = .ok (.if_icmp .ge 52, 3) := by decide +kernel
theorem dX5_search_39 : decode cX5_search 39 = .ok (.iload 6, 2) := by decide +kernel
theorem dX5_search_41 : decode cX5_search 41 = .ok (.ifCond .eq 47, 3) := by decide +kernel
theorem dX5_search_44 : decode cX5_search 44 = .ok (.aload_n 0, 1) := by decide +kernel
theorem dX5_search_45 : decode cX5_search 45 = .ok (.aload_n 1, 1) := by decide +kernel
theorem dX5_search_46 : decode cX5_search 46 = .ok (.iload 5, 2) := by decide +kernel
theorem dX5_search_48 : decode cX5_search 48 = .ok (.invokevirtual 28, 3) := by decide +kernel
theorem dX5_search_51 : decode cX5_search 51 = .ok (.aload_n 2, 1) := by decide +kernel
theorem dX5_search_52 : decode cX5_search 52 = .ok (.aload_n 0, 1) := by decide +kernel
theorem dX5_search_53 : decode cX5_search 53 = .ok (.getfield 15, 3) := by decide +kernel
theorem dX5_search_56 : decode cX5_search 56 = .ok (.iload 5, 2) := by decide +kernel
theorem dX5_search_58 : decode cX5_search 58 = .ok (.iload_n 3, 1) := by decide +kernel
theorem dX5_search_59 : decode cX5_search 59 = .ok (.iload 4, 2) := by decide +kernel
theorem dX5_search_61 : decode cX5_search 61 = .ok (.invokevirtual 32, 3) := by decide +kernel
theorem dX5_search_64 : decode cX5_search 64 = .ok (.ifCond .eq 6, 3) := by decide +kernel
theorem dX5_search_67 : decode cX5_search 67 = .ok (.iload 5, 2) := by decide +kernel
theorem dX5_search_69 : decode cX5_search 69 = .ok (.ireturn, 1) := by decide +kernel
theorem dX5_search_70 : decode cX5_search 70 = .ok (.aload_n 0, 1) := by decide +kernel
theorem dX5_search_71 : decode cX5_search 71 = .ok (.aload_n 1, 1) := by decide +kernel
theorem dX5_search_72 : decode cX5_search 72 = .ok (.invokevirtual 18, 3) := by decide +kernel
theorem dX5_search_75 : decode cX5_search 75 = .ok (.iload 5, 2) := by decide +kernel
theorem dX5_search_77 : decode cX5_search 77 = .ok (.invokevirtual 38, 3) := by decide +kernel
theorem dX5_search_80 : decode cX5_search 80 = .ok (.istore 6, 2) := by decide +kernel
theorem dX5_search_82 : decode cX5_search 82 = .ok (.iinc 7 1, 3) := by decide +kernel
theorem dX5_search_85 : decode cX5_search 85 = .ok (.goto (-53), 3) := by decide +kernel
theorem dX5_search_88 : decode cX5_search 88 = .ok (.iinc 5 1, 3) := by decide +kernel
theorem dX5_search_91 : decode cX5_search 91 = .ok (.goto (-88), 3) := by decide +kernel
theorem dX5_search_94 : decode cX5_search 94 = .ok (.bipush (-9), 2) := by decide +kernel
theorem dX5_search_96 : decode cX5_search 96 = .ok (.ireturn, 1) := by decide +kernel
theorem dX5_calledAt_0 : decode cX5_calledAt 0 = .ok (.iload_n 1, 1) := by decide +kernel
theorem dX5_calledAt_1 : decode cX5_calledAt 1 = .ok (.ifCond .lt 21, 3) := by decide +kernel
theorem dX5_calledAt_4 : decode cX5_calledAt 4 = .ok (.iload_n 1, 1) := by decide +kernel
theorem dX5_calledAt_5 : decode cX5_calledAt 5 = .ok (.aload_n 0, 1) := by decide +kernel
theorem dX5_calledAt_6 : decode cX5_calledAt 6 = .ok (.getfield 9, 3) := by decide +kernel
theorem dX5_calledAt_9 : decode cX5_calledAt 9 = .ok (.arraylength, 1) := by decide +kernel
theorem dX5_calledAt_10 : decode cX5_calledAt 10 = .ok (.if_icmp .ge 12, 3) := by decide +kernel
theorem dX5_calledAt_13 : decode cX5_calledAt 13 = .ok (.aload_n 0, 1) := by decide +kernel
theorem dX5_calledAt_14 : decode cX5_calledAt 14 = .ok (.getfield 9, 3) := by decide +kernel
theorem dX5_calledAt_17 : decode cX5_calledAt 17 = .ok (.iload_n 1, 1) := by decide +kernel
theorem dX5_calledAt_18 : decode cX5_calledAt 18 = .ok (.iaload, 1) := by decide +kernel
theorem dX5_calledAt_19 : decode cX5_calledAt 19 = .ok (.goto 5, 3) := by decide +kernel
theorem dX5_calledAt_22 : decode cX5_calledAt 22 = .ok (.bipush (-9), 2) := by decide +kernel
theorem dX5_calledAt_24 : decode cX5_calledAt 24 = .ok (.ireturn, 1) := by decide +kernel
theorem dX5_chooseFrom_0 : decode cX5_chooseFrom 0 = .ok (.iload_n 1, 1) := by decide +kernel
theorem dX5_chooseFrom_1 : decode cX5_chooseFrom 1 = .ok (.istore 4, 2) := by decide +kernel
theorem dX5_chooseFrom_3 : decode cX5_chooseFrom 3 = .ok (.iload 4, 2) := by decide +kernel
theorem dX5_chooseFrom_5 : decode cX5_chooseFrom 5 = .ok (.ifCond .lt 38, 3) := by decide +kernel
theorem dX5_chooseFrom_8 : decode cX5_chooseFrom 8 = .ok (.iload 4, 2) := by decide +kernel
theorem dX5_chooseFrom_10 : decode cX5_chooseFrom 10 = .ok (.iload_n 3, 1) := by decide +kernel
theorem dX5_chooseFrom_11 : decode cX5_chooseFrom 11 = .ok (.if_icmp .ge 32, 3) := by decide +kernel
theorem dX5_chooseFrom_14 : decode cX5_chooseFrom 14 = .ok (.iload 4, 2) := by decide +kernel
theorem dX5_chooseFrom_16 : decode cX5_chooseFrom 16 = .ok (.aload_n 0, 1) := by decide +kernel
theorem dX5_chooseFrom_17 : decode cX5_chooseFrom 17 = .ok (.getfield 9, 3) := by decide +kernel
theorem dX5_chooseFrom_20 : decode cX5_chooseFrom 20 = .ok (.arraylength, 1) := by decide +kernel
theorem dX5_chooseFrom_21 : decode cX5_chooseFrom 21 = .ok (.if_icmp .ge 22, 3) := by decide +kernel
theorem dX5_chooseFrom_24 : decode cX5_chooseFrom 24 = .ok (.aload_n 0, 1) := by decide +kernel
theorem dX5_chooseFrom_25 : decode cX5_chooseFrom 25 = .ok (.getfield 9, 3) := by decide +kernel
theorem dX5_chooseFrom_28 : decode cX5_chooseFrom 28 = .ok (.iload 4, 2) := by decide +kernel
theorem dX5_chooseFrom_30 : decode cX5_chooseFrom 30 = .ok (.iload_n 2, 1) := by decide +kernel
theorem dX5_chooseFrom_31 : decode cX5_chooseFrom 31 = .ok (.iload 4, 2) := by decide +kernel
theorem dX5_chooseFrom_33 : decode cX5_chooseFrom 33 = .ok (.iadd, 1) := by decide +kernel
theorem dX5_chooseFrom_34 : decode cX5_chooseFrom 34 = .ok (.iload_n 1, 1) := by decide +kernel
theorem dX5_chooseFrom_35 : decode cX5_chooseFrom 35 = .ok (.isub, 1) := by decide +kernel
theorem dX5_chooseFrom_36 : decode cX5_chooseFrom 36 = .ok (.iastore, 1) := by decide +kernel
theorem dX5_chooseFrom_37 : decode cX5_chooseFrom 37 = .ok (.iinc 4 1, 3) := by decide +kernel
theorem dX5_chooseFrom_40 : decode cX5_chooseFrom 40 = .ok (.goto (-37), 3) := by decide +kernel
theorem dX5_chooseFrom_43 : decode cX5_chooseFrom 43 = .ok (.return_, 1) := by decide +kernel
theorem dX5_chooseNext_0 : decode cX5_chooseNext 0 = .ok (.iload_n 2, 1) := by decide +kernel
theorem dX5_chooseNext_1 : decode cX5_chooseNext 1 = .ok (.aload_n 0, 1) := by decide +kernel
theorem dX5_chooseNext_2 : decode cX5_chooseNext 2 = .ok (.getfield 9, 3) := by decide +kernel
theorem dX5_chooseNext_5 : decode cX5_chooseNext 5 = .ok (.arraylength, 1) := by decide +kernel
theorem dX5_chooseNext_6 : decode cX5_chooseNext 6 = .ok (.invokestatic 42, 3) := by decide +kernel
theorem dX5_chooseNext_9 : decode cX5_chooseNext 9 = .ok (.iconst 1, 1) := by decide +kernel
theorem dX5_chooseNext_10 : decode cX5_chooseNext 10 = .ok (.isub, 1) := by decide +kernel
theorem dX5_chooseNext_11 : decode cX5_chooseNext 11 = .ok (.istore_n 3, 1) := by decide +kernel
theorem dX5_chooseNext_12 : decode cX5_chooseNext 12 = .ok (.iload_n 3, 1) := by decide +kernel
theorem dX5_chooseNext_13 : decode cX5_chooseNext 13 = .ok (.ifCond .lt 39, 3) := by decide +kernel
theorem dX5_chooseNext_16 : decode cX5_chooseNext 16 = .ok (.aload_n 0, 1) := by decide +kernel
theorem dX5_chooseNext_17 : decode cX5_chooseNext 17 = .ok (.getfield 9, 3) := by decide +kernel
theorem dX5_chooseNext_20 : decode cX5_chooseNext 20 = .ok (.iload_n 3, 1) := by decide +kernel
theorem dX5_chooseNext_21 : decode cX5_chooseNext 21 = .ok (.iaload, 1) := by decide +kernel
theorem dX5_chooseNext_22 : decode cX5_chooseNext 22 = .ok (.iload_n 1, 1) := by decide +kernel
theorem dX5_chooseNext_23 : decode cX5_chooseNext 23 = .ok (.iload_n 2, 1) := by decide +kernel
theorem dX5_chooseNext_24 : decode cX5_chooseNext 24 = .ok (.isub, 1) := by decide +kernel
theorem dX5_chooseNext_25 : decode cX5_chooseNext 25 = .ok (.iload_n 3, 1) := by decide +kernel
theorem dX5_chooseNext_26 : decode cX5_chooseNext 26 = .ok (.iadd, 1) := by decide +kernel
theorem dX5_chooseNext_27 : decode cX5_chooseNext 27 = .ok (.if_icmp .ge 19, 3) := by decide +kernel
theorem dX5_chooseNext_30 : decode cX5_chooseNext 30 = .ok (.aload_n 0, 1) := by decide +kernel
theorem dX5_chooseNext_31 : decode cX5_chooseNext 31 = .ok (.iload_n 3, 1) := by decide +kernel
theorem dX5_chooseNext_32 : decode cX5_chooseNext 32 = .ok (.aload_n 0, 1) := by decide +kernel
theorem dX5_chooseNext_33 : decode cX5_chooseNext 33 = .ok (.getfield 9, 3) := by decide +kernel
theorem dX5_chooseNext_36 : decode cX5_chooseNext 36 = .ok (.iload_n 3, 1) := by decide +kernel
theorem dX5_chooseNext_37 : decode cX5_chooseNext 37 = .ok (.iaload, 1) := by decide +kernel
theorem dX5_chooseNext_38 : decode cX5_chooseNext 38 = .ok (.iconst 1, 1) := by decide +kernel
theorem dX5_chooseNext_39 : decode cX5_chooseNext 39 = .ok (.iadd, 1) := by decide +kernel
theorem dX5_chooseNext_40 : decode cX5_chooseNext 40 = .ok (.iload_n 2, 1) := by decide +kernel
theorem dX5_chooseNext_41 : decode cX5_chooseNext 41 = .ok (.invokevirtual 24, 3) := by decide +kernel
theorem dX5_chooseNext_44 : decode cX5_chooseNext 44 = .ok (.iconst 1, 1) := by decide +kernel
theorem dX5_chooseNext_45 : decode cX5_chooseNext 45 = .ok (.ireturn, 1) := by decide +kernel
theorem dX5_chooseNext_46 : decode cX5_chooseNext 46 = .ok (.iinc 3 (-1), 3) := by decide +kernel
theorem dX5_chooseNext_49 : decode cX5_chooseNext 49 = .ok (.goto (-37), 3) := by decide +kernel
theorem dX5_chooseNext_52 : decode cX5_chooseNext 52 = .ok (.iconst 0, 1) := by decide +kernel
theorem dX5_chooseNext_53 : decode cX5_chooseNext 53 = .ok (.ireturn, 1) := by decide +kernel
theorem dX5_readNumbers_0 : decode cX5_readNumbers 0 = .ok (.iconst 0, 1) := by decide +kernel
theorem dX5_readNumbers_1 : decode cX5_readNumbers 1 = .ok (.istore_n 3, 1) := by decide +kernel
theorem dX5_readNumbers_2 : decode cX5_readNumbers 2 = .ok (.iload_n 3, 1) := by decide +kernel
theorem dX5_readNumbers_3 : decode cX5_readNumbers 3 = .ok (.iload_n 2, 1) := by decide +kernel
theorem dX5_readNumbers_4 : decode cX5_readNumbers 4 = .ok (.if_icmp .ge 59, 3) := by decide +kernel
theorem dX5_readNumbers_7 : decode cX5_readNumbers 7 = .ok (.iload_n 3, 1) := by decide +kernel
theorem dX5_readNumbers_8 : decode cX5_readNumbers 8 = .ok (.aload_n 0, 1) := by decide +kernel
theorem dX5_readNumbers_9 : decode cX5_readNumbers 9 = .ok (.getfield 9, 3) := by decide +kernel
theorem dX5_readNumbers_12 : decode cX5_readNumbers 12 = .ok (.arraylength, 1) := by decide +kernel
theorem dX5_readNumbers_13 : decode cX5_readNumbers 13 = .ok (.if_icmp .ge 50, 3) := by decide +kernel
theorem dX5_readNumbers_16 : decode cX5_readNumbers 16 = .ok (.iload_n 3, 1) := by decide +kernel
theorem dX5_readNumbers_17 : decode cX5_readNumbers 17 = .ok (.aload_n 0, 1) := by decide +kernel
theorem dX5_readNumbers_18 : decode cX5_readNumbers 18 = .ok (.getfield 15, 3) := by decide +kernel
theorem dX5_readNumbers_21 : decode cX5_readNumbers 21 = .ok (.arraylength, 1) := by decide +kernel
theorem dX5_readNumbers_22 : decode cX5_readNumbers 22 = .ok (.if_icmp .ge 41, 3) := by decide +kernel
theorem dX5_readNumbers_25 : decode cX5_readNumbers 25 = .ok (.aload_n 1, 1) := by decide +kernel
theorem dX5_readNumbers_26 : decode cX5_readNumbers 26 = .ok (.aload_n 0, 1) := by decide +kernel
theorem dX5_readNumbers_27 : decode cX5_readNumbers 27 = .ok (.getfield 9, 3) := by decide +kernel
theorem dX5_readNumbers_30 : decode cX5_readNumbers 30 = .ok (.iload_n 3, 1) := by decide +kernel
theorem dX5_readNumbers_31 : decode cX5_readNumbers 31 = .ok (.iaload, 1) := by decide +kernel
theorem dX5_readNumbers_32 : decode cX5_readNumbers 32 = .ok (.invokevirtual 48, 3) := by decide +kernel
theorem dX5_readNumbers_35 : decode cX5_readNumbers 35 = .ok (.astore 4, 2) := by decide +kernel
theorem dX5_readNumbers_37 : decode cX5_readNumbers 37 = .ok (.aload_n 0, 1) := by decide +kernel
theorem dX5_readNumbers_38 : decode cX5_readNumbers 38 = .ok (.getfield 15, 3) := by decide +kernel
theorem dX5_readNumbers_41 : decode cX5_readNumbers 41 = .ok (.iload_n 3, 1) := by decide +kernel
theorem dX5_readNumbers_42 : decode cX5_readNumbers 42 = .ok (.aload 4, 2) := by decide +kernel
theorem dX5_readNumbers_44 : decode cX5_readNumbers 44 = .ok (.ifnonnull 7, 3) := by decide +kernel
theorem dX5_readNumbers_47 : decode cX5_readNumbers 47 = .ok (.iconst 0, 1) := by decide +kernel
theorem dX5_readNumbers_48 : decode cX5_readNumbers 48 = .ok (.goto 8, 3) := by decide +kernel
theorem dX5_readNumbers_51 : decode cX5_readNumbers 51 = .ok (.aload 4, 2) := by decide +kernel
theorem dX5_readNumbers_53 : decode cX5_readNumbers 53 = .ok (.invokevirtual 52, 3) := by decide +kernel
theorem dX5_readNumbers_56 : decode cX5_readNumbers 56 = .ok (.iastore, 1) := by decide +kernel
theorem dX5_readNumbers_57 : decode cX5_readNumbers 57 = .ok (.iinc 3 1, 3) := by decide +kernel
theorem dX5_readNumbers_60 : decode cX5_readNumbers 60 = .ok (.goto (-58), 3) := by decide +kernel
theorem dX5_readNumbers_63 : decode cX5_readNumbers 63 = .ok (.return_, 1) := by decide +kernel
theorem dX6_init_0 : decode cX6_init 0 = .ok (.aload_n 0, 1) := by decide +kernel
theorem dX6_init_1 : decode cX6_init 1 = .ok (.invokespecial 3, 3) := by decide +kernel
theorem dX6_init_4 : decode cX6_init 4 = .ok (.aload_n 0, 1) := by decide +kernel
theorem dX6_init_5 : decode cX6_init 5 = .ok (.bipush 100, 2) := by decide +kernel
theorem dX6_init_7 : decode cX6_init 7 = .ok (.newarray .int, 2) := by decide +kernel
theorem dX6_init_9 : decode cX6_init 9 = .ok (.putfield 9, 3) := by decide +kernel
theorem dX6_init_12 : decode cX6_init 12 = .ok (.aload_n 0, 1) := by decide +kernel
theorem dX6_init_13 : decode cX6_init 13 = .ok (.iconst 0, 1) := by decide +kernel
theorem dX6_init_14 : decode cX6_init 14 = .ok (.putfield 15, 3) := by decide +kernel
theorem dX6_init_17 : decode cX6_init 17 = .ok (.return_, 1) := by decide +kernel
theorem dX6_read_0 : decode cX6_read 0 = .ok (.aload_n 0, 1) := by decide +kernel
theorem dX6_read_1 : decode cX6_read 1 = .ok (.iload 4, 2) := by decide +kernel
theorem dX6_read_3 : decode cX6_read 3 = .ok (.aload_n 0, 1) := by decide +kernel
theorem dX6_read_4 : decode cX6_read 4 = .ok (.getfield 9, 3) := by decide +kernel
theorem dX6_read_7 : decode cX6_read 7 = .ok (.arraylength, 1) := by decide +kernel
theorem dX6_read_8 : decode cX6_read 8 = .ok (.invokestatic 19, 3) := by decide +kernel
theorem dX6_read_11 : decode cX6_read 11 = .ok (.putfield 15, 3) := by decide +kernel
theorem dX6_read_14 : decode cX6_read 14 = .ok (.iconst 0, 1) := by decide +kernel
theorem dX6_read_15 : decode cX6_read 15 = .ok (.istore 5, 2) := by decide +kernel
theorem dX6_read_17 : decode cX6_read 17 = .ok (.iload 5, 2) := by decide +kernel
theorem dX6_read_19 : decode cX6_read 19 = .ok (.aload_n 0, 1) := by decide +kernel
theorem dX6_read_20 : decode cX6_read 20 = .ok (.getfield 15, 3) := by decide +kernel
theorem dX6_read_23 : decode cX6_read 23 = .ok (.if_icmp .ge 35, 3) := by decide +kernel
theorem dX6_read_26 : decode cX6_read 26 = .ok (.iload 5, 2) := by decide +kernel
theorem dX6_read_28 : decode cX6_read 28 = .ok (.aload_n 0, 1) := by decide +kernel
theorem dX6_read_29 : decode cX6_read 29 = .ok (.getfield 9, 3) := by decide +kernel
theorem dX6_read_32 : decode cX6_read 32 = .ok (.arraylength, 1) := by decide +kernel
theorem dX6_read_33 : decode cX6_read 33 = .ok (.if_icmp .ge 25, 3) := by decide +kernel
theorem dX6_read_36 : decode cX6_read 36 = .ok (.aload_n 0, 1) := by decide +kernel
theorem dX6_read_37 : decode cX6_read 37 = .ok (.getfield 9, 3) := by decide +kernel
theorem dX6_read_40 : decode cX6_read 40 = .ok (.iload 5, 2) := by decide +kernel
theorem dX6_read_42 : decode cX6_read 42 = .ok (.aload_n 1, 1) := by decide +kernel
theorem dX6_read_43 : decode cX6_read 43 = .ok (.iload_n 2, 1) := by decide +kernel
theorem dX6_read_44 : decode cX6_read 44 = .ok (.iload_n 3, 1) := by decide +kernel
theorem dX6_read_45 : decode cX6_read 45 = .ok (.iload 5, 2) := by decide +kernel
theorem dX6_read_47 : decode cX6_read 47 = .ok (.iadd, 1) := by decide +kernel
theorem dX6_read_48 : decode cX6_read 48 = .ok (.invokevirtual 25, 3) := by decide +kernel
theorem dX6_read_51 : decode cX6_read 51 = .ok (.iastore, 1) := by decide +kernel
theorem dX6_read_52 : decode cX6_read 52 = .ok (.iinc 5 1, 3) := by decide +kernel
theorem dX6_read_55 : decode cX6_read 55 = .ok (.goto (-38), 3) := by decide +kernel
theorem dX6_read_58 : decode cX6_read 58 = .ok (.return_, 1) := by decide +kernel
theorem dX6_firstFault_0 : decode cX6_firstFault 0 = .ok (.iconst 0, 1) := by decide +kernel
theorem dX6_firstFault_1 : decode cX6_firstFault 1 = .ok (.istore_n 1, 1) := by decide +kernel
theorem dX6_firstFault_2 : decode cX6_firstFault 2 = .ok (.iload_n 1, 1) := by decide +kernel
theorem dX6_firstFault_3 : decode cX6_firstFault 3 = .ok (.aload_n 0, 1) := by decide +kernel
theorem dX6_firstFault_4 : decode cX6_firstFault 4 = .ok (.getfield 15, 3) := by decide +kernel
theorem dX6_firstFault_7 : decode cX6_firstFault 7 = .ok (.if_icmp .ge 33, 3) := by decide +kernel
theorem dX6_firstFault_10 : decode cX6_firstFault 10 = .ok (.aload_n 0, 1) := by decide +kernel
theorem dX6_firstFault_11 : decode cX6_firstFault 11 = .ok (.iload_n 1, 1) := by decide +kernel
theorem dX6_firstFault_12 : decode cX6_firstFault 12 = .ok (.invokevirtual 30, 3) := by decide +kernel
theorem dX6_firstFault_15 : decode cX6_firstFault 15 = .ok (.ifCond .ne 19, 3) := by decide +kernel
theorem dX6_firstFault_18 : decode cX6_firstFault 18 = .ok (.aload_n 0, 1) := by decide +kernel
theorem dX6_firstFault_19 : decode cX6_firstFault 19 = .ok (.iload_n 1, 1) := by decide +kernel
theorem dX6_firstFault_20 : decode cX6_firstFault 20 = .ok (.invokevirtual 34, 3) := by decide +kernel
theorem dX6_firstFault_23 : decode cX6_firstFault 23 = .ok (.ifCond .eq 9, 3) := by decide +kernel
theorem dX6_firstFault_26 : decode cX6_firstFault 26 = .ok (.iload_n 1, 1) := by decide +kernel
theorem dX6_firstFault_27 : decode cX6_firstFault 27 = .ok (.iconst 1, 1) := by decide +kernel
theorem dX6_firstFault_28 : decode cX6_firstFault 28 = .ok (.isub, 1) := by decide +kernel
theorem dX6_firstFault_29 : decode cX6_firstFault 29 = .ok (.goto 4, 3) := by decide +kernel
theorem dX6_firstFault_32 : decode cX6_firstFault 32 = .ok (.iload_n 1, 1) := by decide +kernel
theorem dX6_firstFault_33 : decode cX6_firstFault 33 = .ok (.ireturn, 1) := by decide +kernel
theorem dX6_firstFault_34 : decode cX6_firstFault 34 = .ok (.iinc 1 1, 3) := by decide +kernel
theorem dX6_firstFault_37 : decode cX6_firstFault 37 = .ok (.goto (-35), 3) := by decide +kernel
theorem dX6_firstFault_40 : decode cX6_firstFault 40 = .ok (.aload_n 0, 1) := by decide +kernel
theorem dX6_firstFault_41 : decode cX6_firstFault 41 = .ok (.getfield 15, 3) := by decide +kernel
theorem dX6_firstFault_44 : decode cX6_firstFault 44 = .ok (.bipush 9, 2) := by decide +kernel
theorem dX6_firstFault_46 : decode cX6_firstFault 46 = .ok (.irem, 1) := by decide +kernel
theorem dX6_firstFault_47 : decode cX6_firstFault 47 = .ok (.bipush 8, 2) := by decide +kernel
theorem dX6_firstFault_49 : decode cX6_firstFault 49 = .ok (.if_icmp .ne 7, 3) := by decide +kernel
theorem dX6_firstFault_52 : decode cX6_firstFault 52 = .ok (.iconst (-1), 1) := by decide +kernel
theorem dX6_firstFault_53 : decode cX6_firstFault 53 = .ok (.goto 7, 3) := by decide +kernel
theorem dX6_firstFault_56 : decode cX6_firstFault 56 = .ok (.aload_n 0, 1) := by decide +kernel
theorem dX6_firstFault_57 : decode cX6_firstFault 57 = .ok (.getfield 15, 3) := by decide +kernel
theorem dX6_firstFault_60 : decode cX6_firstFault 60 = .ok (.ireturn, 1) := by decide +kernel
theorem dX6_people_0 : decode cX6_people 0 = .ok (.aload_n 0, 1) := by decide +kernel
theorem dX6_people_1 : decode cX6_people 1 = .ok (.getfield 15, 3) := by decide +kernel
theorem dX6_people_4 : decode cX6_people 4 = .ok (.iconst 1, 1) := by decide +kernel
theorem dX6_people_5 : decode cX6_people 5 = .ok (.iadd, 1) := by decide +kernel
theorem dX6_people_6 : decode cX6_people 6 = .ok (.bipush 9, 2) := by decide +kernel
theorem dX6_people_8 : decode cX6_people 8 = .ok (.idiv, 1) := by decide +kernel
theorem dX6_people_9 : decode cX6_people 9 = .ok (.ireturn, 1) := by decide +kernel
theorem dX6_one_0 : decode cX6_one 0 = .ok (.iload_n 1, 1) := by decide +kernel
theorem dX6_one_1 : decode cX6_one 1 = .ok (.bipush 9, 2) := by decide +kernel
theorem dX6_one_3 : decode cX6_one 3 = .ok (.imul, 1) := by decide +kernel
theorem dX6_one_4 : decode cX6_one 4 = .ok (.istore_n 2, 1) := by decide +kernel
theorem dX6_one_5 : decode cX6_one 5 = .ok (.aload_n 0, 1) := by decide +kernel
theorem dX6_one_6 : decode cX6_one 6 = .ok (.iload_n 2, 1) := by decide +kernel
theorem dX6_one_7 : decode cX6_one 7 = .ok (.iconst 1, 1) := by decide +kernel
theorem dX6_one_8 : decode cX6_one 8 = .ok (.iadd, 1) := by decide +kernel
theorem dX6_one_9 : decode cX6_one 9 = .ok (.invokevirtual 37, 3) := by decide +kernel
theorem dX6_one_12 : decode cX6_one 12 = .ok (.istore_n 3, 1) := by decide +kernel
theorem dX6_one_13 : decode cX6_one 13 = .ok (.aload_n 0, 1) := by decide +kernel
theorem dX6_one_14 : decode cX6_one 14 = .ok (.iload_n 2, 1) := by decide +kernel
theorem dX6_one_15 : decode cX6_one 15 = .ok (.iconst 2, 1) := by decide +kernel
theorem dX6_one_16 : decode cX6_one 16 = .ok (.iadd, 1) := by decide +kernel
theorem dX6_one_17 : decode cX6_one 17 = .ok (.invokevirtual 41, 3) := by decide +kernel
theorem dX6_one_20 : decode cX6_one 20 = .ok (.istore 4, 2) := by decide +kernel
theorem dX6_one_22 : decode cX6_one 22 = .ok (.aload_n 0, 1) := by decide +kernel
theorem dX6_one_23 : decode cX6_one 23 = .ok (.iload_n 2, 1) := by decide +kernel
theorem dX6_one_24 : decode cX6_one 24 = .ok (.iconst 4, 1) := by decide +kernel
theorem dX6_one_25 : decode cX6_one 25 = .ok (.iadd, 1) := by decide +kernel
theorem dX6_one_26 : decode cX6_one 26 = .ok (.invokevirtual 41, 3) := by decide +kernel
theorem dX6_one_29 : decode cX6_one 29 = .ok (.istore 5, 2) := by decide +kernel
theorem dX6_one_31 : decode cX6_one 31 = .ok (.aload_n 0, 1) := by decide +kernel
theorem dX6_one_32 : decode cX6_one 32 = .ok (.iload_n 2, 1) := by decide +kernel
theorem dX6_one_33 : decode cX6_one 33 = .ok (.bipush 6, 2) := by decide +kernel
theorem dX6_one_35 : decode cX6_one 35 = .ok (.iadd, 1) := by decide +kernel
theorem dX6_one_36 : decode cX6_one 36 = .ok (.invokevirtual 41, 3) := by decide +kernel
theorem dX6_one_39 : decode cX6_one 39 = .ok (.istore 6, 2) := by decide +kernel
theorem dX6_one_41 : decode cX6_one 41 = .ok (.aload_n 0, 1) := by decide +kernel
theorem dX6_one_42 : decode cX6_one 42 = .ok (.iload_n 2, 1) := by decide +kernel
theorem dX6_one_43 : decode cX6_one 43 = .ok (.invokevirtual 44, 3) := by decide +kernel
theorem dX6_one_46 : decode cX6_one 46 = .ok (.bipush 102, 2) := by decide +kernel
theorem dX6_one_48 : decode cX6_one 48 = .ok (.if_icmp .ne 18, 3) := by decide +kernel
theorem dX6_one_51 : decode cX6_one 51 = .ok (.new 47, 3) := by decide +kernel
theorem dX6_one_54 : decode cX6_one 54 = .ok (.dup, 1) := by decide +kernel
theorem dX6_one_55 : decode cX6_one 55 = .ok (.iload_n 3, 1) := by decide +kernel
theorem dX6_one_56 : decode cX6_one 56 = .ok (.iload 4, 2) := by decide +kernel
theorem dX6_one_58 : decode cX6_one 58 = .ok (.iload 5, 2) := by decide +kernel
theorem dX6_one_60 : decode cX6_one 60 = .ok (.iload 6, 2) := by decide +kernel
theorem dX6_one_62 : decode cX6_one 62 = .ok (.invokespecial 49, 3) := by decide +kernel
theorem dX6_one_65 : decode cX6_one 65 = .ok (.areturn, 1) := by decide +kernel
theorem dX6_one_66 : decode cX6_one 66 = .ok (.aload_n 0, 1) := by decide +kernel
theorem dX6_one_67 : decode cX6_one 67 = .ok (.iload_n 2, 1) := by decide +kernel
theorem dX6_one_68 : decode cX6_one 68 = .ok (.invokevirtual 44, 3) := by decide +kernel
theorem dX6_one_71 : decode cX6_one 71 = .ok (.bipush 108, 2) := by decide +kernel
theorem dX6_one_73 : decode cX6_one 73 = .ok (.if_icmp .ne 18, 3) := by decide +kernel
theorem dX6_one_76 : decode cX6_one 76 = .ok (.new 52, 3) := by decide +kernel
theorem dX6_one_79 : decode cX6_one 79 = .ok (.dup, 1) := by decide +kernel
theorem dX6_one_80 : decode cX6_one 80 = .ok (.iload_n 3, 1) := by decide +kernel
theorem dX6_one_81 : decode cX6_one 81 = .ok (.iload 4, 2) := by decide +kernel
theorem dX6_one_83 : decode cX6_one 83 = .ok (.iload 5, 2) := by decide +kernel
theorem dX6_one_85 : decode cX6_one 85 = .ok (.iload 6, 2) := by decide +kernel
theorem dX6_one_87 : decode cX6_one 87 = .ok (.invokespecial 54, 3) := by decide +kernel
theorem dX6_one_90 : decode cX6_one 90 = .ok (.areturn, 1) := by decide +kernel
theorem dX6_one_91 : decode cX6_one 91 = .ok (.new 55, 3) := by decide +kernel
theorem dX6_one_94 : decode cX6_one 94 = .ok (.dup, 1) := by decide +kernel
theorem dX6_one_95 : decode cX6_one 95 = .ok (.iload_n 3, 1) := by decide +kernel
theorem dX6_one_96 : decode cX6_one 96 = .ok (.iload 4, 2) := by decide +kernel
theorem dX6_one_98 : decode cX6_one 98 = .ok (.iload 5, 2) := by decide +kernel
theorem dX6_one_100 : decode cX6_one 100 = .ok (.iload 6, 2) := by decide +kernel
theorem dX6_one_102 : decode cX6_one 102 = .ok (.invokespecial 57, 3) := by decide +kernel
theorem dX6_one_105 : decode cX6_one 105 = .ok (.areturn, 1) := by decide +kernel
theorem dX6_code_0 : decode cX6_code 0 = .ok (.iload_n 1, 1) := by decide +kernel
theorem dX6_code_1 : decode cX6_code 1 = .ok (.ifCond .lt 29, 3) := by decide +kernel
theorem dX6_code_4 : decode cX6_code 4 = .ok (.iload_n 1, 1) := by decide +kernel
theorem dX6_code_5 : decode cX6_code 5 = .ok (.aload_n 0, 1) := by decide +kernel
theorem dX6_code_6 : decode cX6_code 6 = .ok (.getfield 15, 3) := by decide +kernel
theorem dX6_code_9 : decode cX6_code 9 = .ok (.if_icmp .ge 21, 3) := by decide +kernel
theorem dX6_code_12 : decode cX6_code 12 = .ok (.iload_n 1, 1) := by decide +kernel
theorem dX6_code_13 : decode cX6_code 13 = .ok (.aload_n 0, 1) := by decide +kernel
theorem dX6_code_14 : decode cX6_code 14 = .ok (.getfield 9, 3) := by decide +kernel
theorem dX6_code_17 : decode cX6_code 17 = .ok (.arraylength, 1) := by decide +kernel
theorem dX6_code_18 : decode cX6_code 18 = .ok (.if_icmp .ge 12, 3) := by decide +kernel
theorem dX6_code_21 : decode cX6_code 21 = .ok (.aload_n 0, 1) := by decide +kernel
theorem dX6_code_22 : decode cX6_code 22 = .ok (.getfield 9, 3) := by decide +kernel
theorem dX6_code_25 : decode cX6_code 25 = .ok (.iload_n 1, 1) := by decide +kernel
theorem dX6_code_26 : decode cX6_code 26 = .ok (.iaload, 1) := by decide +kernel
theorem dX6_code_27 : decode cX6_code 27 = .ok (.goto 4, 3) := by decide +kernel
theorem dX6_code_30 : decode cX6_code 30 = .ok (.iconst (-1), 1) := by decide +kernel
theorem dX6_code_31 : decode cX6_code 31 = .ok (.ireturn, 1) := by decide +kernel
theorem dX6_digit_0 : decode cX6_digit 0 = .ok (.aload_n 0, 1) := by decide +kernel
theorem dX6_digit_1 : decode cX6_digit 1 = .ok (.iload_n 1, 1) := by decide +kernel
theorem dX6_digit_2 : decode cX6_digit 2 = .ok (.invokevirtual 44, 3) := by decide +kernel
theorem dX6_digit_5 : decode cX6_digit 5 = .ok (.istore_n 2, 1) := by decide +kernel
theorem dX6_digit_6 : decode cX6_digit 6 = .ok (.iload_n 2, 1) := by decide +kernel
theorem dX6_digit_7 : decode cX6_digit 7 = .ok (.bipush 48, 2) := by decide +kernel
theorem dX6_digit_9 : decode cX6_digit 9 = .ok (.if_icmp .lt 16, 3) := by decide +kernel
theorem dX6_digit_12 : decode cX6_digit 12 = .ok (.iload_n 2, 1) := by decide +kernel
theorem dX6_digit_13 : decode cX6_digit 13 = .ok (.bipush 57, 2) := by decide +kernel
theorem dX6_digit_15 : decode cX6_digit 15 = .ok (.if_icmp .gt 10, 3) := by decide +kernel
theorem dX6_digit_18 : decode cX6_digit 18 = .ok (.iload_n 2, 1) := by decide +kernel
theorem dX6_digit_19 : decode cX6_digit 19 = .ok (.bipush 48, 2) := by decide +kernel
theorem dX6_digit_21 : decode cX6_digit 21 = .ok (.isub, 1) := by decide +kernel
theorem dX6_digit_22 : decode cX6_digit 22 = .ok (.goto 4, 3) := by decide +kernel
theorem dX6_digit_25 : decode cX6_digit 25 = .ok (.iconst (-1), 1) := by decide +kernel
theorem dX6_digit_26 : decode cX6_digit 26 = .ok (.ireturn, 1) := by decide +kernel
theorem dX6_pair_0 : decode cX6_pair 0 = .ok (.bipush 10, 2) := by decide +kernel
theorem dX6_pair_2 : decode cX6_pair 2 = .ok (.aload_n 0, 1) := by decide +kernel
theorem dX6_pair_3 : decode cX6_pair 3 = .ok (.iload_n 1, 1) := by decide +kernel
theorem dX6_pair_4 : decode cX6_pair 4 = .ok (.invokevirtual 37, 3) := by decide +kernel
theorem dX6_pair_7 : decode cX6_pair 7 = .ok (.imul, 1) := by decide +kernel
theorem dX6_pair_8 : decode cX6_pair 8 = .ok (.aload_n 0, 1) := by decide +kernel
theorem dX6_pair_9 : decode cX6_pair 9 = .ok (.iload_n 1, 1) := by decide +kernel
theorem dX6_pair_10 : decode cX6_pair 10 = .ok (.iconst 1, 1) := by decide +kernel
theorem dX6_pair_11 : decode cX6_pair 11 = .ok (.iadd, 1) := by decide +kernel
end
section
theorem dX6_pair_12 : decode cX6_pair 12 = .ok (.invokevirtual 37, 3) := by decide +kernel
theorem dX6_pair_15 : decode cX6_pair 15 = .ok (.iadd, 1) := by decide +kernel
theorem dX6_pair_16 : decode cX6_pair 16 = .ok (.ireturn, 1) := by decide +kernel
theorem dX6_goesOn_0 : decode cX6_goesOn 0 = .ok (.aload_n 0, 1) := by decide +kernel
theorem dX6_goesOn_1 : decode cX6_goesOn 1 = .ok (.iload_n 1, 1) := by decide +kernel
theorem dX6_goesOn_2 : decode cX6_goesOn 2 = .ok (.invokevirtual 44, 3) := by decide +kernel
theorem dX6_goesOn_5 : decode cX6_goesOn 5 = .ok (.istore_n 2, 1) := by decide +kernel
theorem dX6_goesOn_6 : decode cX6_goesOn 6 = .ok (.iload_n 1, 1) := by decide +kernel
theorem dX6_goesOn_7 : decode cX6_goesOn 7 = .ok (.bipush 9, 2) := by decide +kernel
theorem dX6_goesOn_9 : decode cX6_goesOn 9 = .ok (.irem, 1) := by decide +kernel
theorem dX6_goesOn_10 : decode cX6_goesOn 10 = .ok (.istore_n 3, 1) := by decide +kernel
theorem dX6_goesOn_11 : decode cX6_goesOn 11 = .ok (.iload_n 3, 1) := by decide +kernel
theorem dX6_goesOn_12 : decode cX6_goesOn 12 = .ok (.ifCond .ne 27, 3) := by decide +kernel
theorem dX6_goesOn_15 : decode cX6_goesOn 15 = .ok (.iload_n 2, 1) := by decide +kernel
theorem dX6_goesOn_16 : decode cX6_goesOn 16 = .ok (.bipush 110, 2) := by decide +kernel
theorem dX6_goesOn_18 : decode cX6_goesOn 18 = .ok (.if_icmp .eq 15, 3) := by decide +kernel
theorem dX6_goesOn_21 : decode cX6_goesOn 21 = .ok (.iload_n 2, 1) := by decide +kernel
theorem dX6_goesOn_22 : decode cX6_goesOn 22 = .ok (.bipush 108, 2) := by decide +kernel
theorem dX6_goesOn_24 : decode cX6_goesOn 24 = .ok (.if_icmp .eq 9, 3) := by decide +kernel
theorem dX6_goesOn_27 : decode cX6_goesOn 27 = .ok (.iload_n 2, 1) := by decide +kernel
theorem dX6_goesOn_28 : decode cX6_goesOn 28 = .ok (.bipush 102, 2) := by decide +kernel
theorem dX6_goesOn_30 : decode cX6_goesOn 30 = .ok (.if_icmp .ne 7, 3) := by decide +kernel
theorem dX6_goesOn_33 : decode cX6_goesOn 33 = .ok (.iconst 1, 1) := by decide +kernel
theorem dX6_goesOn_34 : decode cX6_goesOn 34 = .ok (.goto 4, 3) := by decide +kernel
theorem dX6_goesOn_37 : decode cX6_goesOn 37 = .ok (.iconst 0, 1) := by decide +kernel
theorem dX6_goesOn_38 : decode cX6_goesOn 38 = .ok (.ireturn, 1) := by decide +kernel
theorem dX6_goesOn_39 : decode cX6_goesOn 39 = .ok (.iload_n 3, 1) := by decide +kernel
theorem dX6_goesOn_40 : decode cX6_goesOn 40 = .ok (.iconst 1, 1) := by decide +kernel
theorem dX6_goesOn_41 : decode cX6_goesOn 41 = .ok (.if_icmp .ne 21, 3) := by decide +kernel
theorem dX6_goesOn_44 : decode cX6_goesOn 44 = .ok (.iload_n 2, 1) := by decide +kernel
theorem dX6_goesOn_45 : decode cX6_goesOn 45 = .ok (.bipush 48, 2) := by decide +kernel
theorem dX6_goesOn_47 : decode cX6_goesOn 47 = .ok (.if_icmp .eq 9, 3) := by decide +kernel
theorem dX6_goesOn_50 : decode cX6_goesOn 50 = .ok (.iload_n 2, 1) := by decide +kernel
theorem dX6_goesOn_51 : decode cX6_goesOn 51 = .ok (.bipush 49, 2) := by decide +kernel
theorem dX6_goesOn_53 : decode cX6_goesOn 53 = .ok (.if_icmp .ne 7, 3) := by decide +kernel
theorem dX6_goesOn_56 : decode cX6_goesOn 56 = .ok (.iconst 1, 1) := by decide +kernel
theorem dX6_goesOn_57 : decode cX6_goesOn 57 = .ok (.goto 4, 3) := by decide +kernel
theorem dX6_goesOn_60 : decode cX6_goesOn 60 = .ok (.iconst 0, 1) := by decide +kernel
theorem dX6_goesOn_61 : decode cX6_goesOn 61 = .ok (.ireturn, 1) := by decide +kernel
theorem dX6_goesOn_62 : decode cX6_goesOn 62 = .ok (.iload_n 3, 1) := by decide +kernel
theorem dX6_goesOn_63 : decode cX6_goesOn 63 = .ok (.bipush 8, 2) := by decide +kernel
theorem dX6_goesOn_65 : decode cX6_goesOn 65 = .ok (.if_icmp .ne 21, 3) := by decide +kernel
theorem dX6_goesOn_68 : decode cX6_goesOn 68 = .ok (.iload_n 2, 1) := by decide +kernel
theorem dX6_goesOn_69 : decode cX6_goesOn 69 = .ok (.bipush 59, 2) := by decide +kernel
theorem dX6_goesOn_71 : decode cX6_goesOn 71 = .ok (.if_icmp .ne 13, 3) := by decide +kernel
theorem dX6_goesOn_74 : decode cX6_goesOn 74 = .ok (.iload_n 1, 1) := by decide +kernel
theorem dX6_goesOn_75 : decode cX6_goesOn 75 = .ok (.bipush 89, 2) := by decide +kernel
theorem dX6_goesOn_77 : decode cX6_goesOn 77 = .ok (.if_icmp .ge 7, 3) := by decide +kernel
theorem dX6_goesOn_80 : decode cX6_goesOn 80 = .ok (.iconst 1, 1) := by decide +kernel
theorem dX6_goesOn_81 : decode cX6_goesOn 81 = .ok (.goto 4, 3) := by decide +kernel
theorem dX6_goesOn_84 : decode cX6_goesOn 84 = .ok (.iconst 0, 1) := by decide +kernel
theorem dX6_goesOn_85 : decode cX6_goesOn 85 = .ok (.ireturn, 1) := by decide +kernel
theorem dX6_goesOn_86 : decode cX6_goesOn 86 = .ok (.aload_n 0, 1) := by decide +kernel
theorem dX6_goesOn_87 : decode cX6_goesOn 87 = .ok (.iload_n 1, 1) := by decide +kernel
theorem dX6_goesOn_88 : decode cX6_goesOn 88 = .ok (.invokevirtual 37, 3) := by decide +kernel
theorem dX6_goesOn_91 : decode cX6_goesOn 91 = .ok (.ifCond .lt 18, 3) := by decide +kernel
theorem dX6_goesOn_94 : decode cX6_goesOn 94 = .ok (.aload_n 0, 1) := by decide +kernel
theorem dX6_goesOn_95 : decode cX6_goesOn 95 = .ok (.iload_n 1, 1) := by decide +kernel
theorem dX6_goesOn_96 : decode cX6_goesOn 96 = .ok (.iload_n 3, 1) := by decide +kernel
theorem dX6_goesOn_97 : decode cX6_goesOn 97 = .ok (.isub, 1) := by decide +kernel
theorem dX6_goesOn_98 : decode cX6_goesOn 98 = .ok (.iload_n 3, 1) := by decide +kernel
theorem dX6_goesOn_99 : decode cX6_goesOn 99 = .ok (.invokevirtual 58, 3) := by decide +kernel
theorem dX6_goesOn_102 : decode cX6_goesOn 102 = .ok (.ifCond .eq 7, 3) := by decide +kernel
theorem dX6_goesOn_105 : decode cX6_goesOn 105 = .ok (.iconst 1, 1) := by decide +kernel
theorem dX6_goesOn_106 : decode cX6_goesOn 106 = .ok (.goto 4, 3) := by decide +kernel
theorem dX6_goesOn_109 : decode cX6_goesOn 109 = .ok (.iconst 0, 1) := by decide +kernel
theorem dX6_goesOn_110 : decode cX6_goesOn 110 = .ok (.ireturn, 1) := by decide +kernel
theorem dX6_isPairGoingOn_0 : decode cX6_isPairGoingOn 0 = .ok (.iload_n 2, 1) := by decide +kernel
theorem dX6_isPairGoingOn_1 : decode cX6_isPairGoingOn 1 = .ok (.iconst 2, 1) := by decide +kernel
theorem dX6_isPairGoingOn_2 : decode cX6_isPairGoingOn 2 = .ok (.irem, 1) := by decide +kernel
theorem dX6_isPairGoingOn_3 : decode cX6_isPairGoingOn 3 = .ok (.ifCond .ne 7, 3) := by decide +kernel
theorem dX6_isPairGoingOn_6 : decode cX6_isPairGoingOn 6 = .ok (.iconst 1, 1) := by decide +kernel
theorem dX6_isPairGoingOn_7 : decode cX6_isPairGoingOn 7 = .ok (.goto 4, 3) := by decide +kernel
theorem dX6_isPairGoingOn_10 : decode cX6_isPairGoingOn 10 = .ok (.iconst 0, 1) := by decide +kernel
theorem dX6_isPairGoingOn_11 : decode cX6_isPairGoingOn 11 = .ok (.istore_n 3, 1) := by decide +kernel
theorem dX6_isPairGoingOn_12 : decode cX6_isPairGoingOn 12 = .ok (.iload_n 3, 1) := by decide +kernel
theorem dX6_isPairGoingOn_13 : decode cX6_isPairGoingOn 13 = .ok (.ifCond .eq 16, 3) := by decide +kernel
theorem dX6_isPairGoingOn_16 : decode cX6_isPairGoingOn 16 = .ok (.bipush 10, 2) := by decide +kernel
theorem dX6_isPairGoingOn_18 : decode cX6_isPairGoingOn 18 = .ok (.aload_n 0, 1) := by decide +kernel
theorem dX6_isPairGoingOn_19 : decode cX6_isPairGoingOn 19 = .ok (.iload_n 1, 1) := by decide +kernel
theorem dX6_isPairGoingOn_20 : decode cX6_isPairGoingOn 20 = .ok (.iload_n 2, 1) := by decide +kernel
theorem dX6_isPairGoingOn_21 : decode cX6_isPairGoingOn 21 = .ok (.iadd, 1) := by decide +kernel
theorem dX6_isPairGoingOn_22 : decode cX6_isPairGoingOn 22 = .ok (.invokevirtual 37, 3) := by decide +kernel
theorem dX6_isPairGoingOn_25 : decode cX6_isPairGoingOn 25 = .ok (.imul, 1) := by decide +kernel
theorem dX6_isPairGoingOn_26 : decode cX6_isPairGoingOn 26 = .ok (.goto 12, 3) := by decide +kernel
theorem dX6_isPairGoingOn_29 : decode cX6_isPairGoingOn 29 = .ok (.aload_n 0, 1) := by decide +kernel
theorem dX6_isPairGoingOn_30 : decode cX6_isPairGoingOn 30 = .ok (.iload_n 1, 1) := by decide +kernel
theorem dX6_isPairGoingOn_31 : decode cX6_isPairGoingOn 31 = .ok (.iload_n 2, 1) := by decide +kernel
theorem dX6_isPairGoingOn_32 : decode cX6_isPairGoingOn 32 = .ok (.iadd, 1) := by decide +kernel
theorem dX6_isPairGoingOn_33 : decode cX6_isPairGoingOn 33 = .ok (.iconst 1, 1) := by decide +kernel
theorem dX6_isPairGoingOn_34 : decode cX6_isPairGoingOn 34 = .ok (.isub, 1) := by decide +kernel
theorem dX6_isPairGoingOn_35 : decode cX6_isPairGoingOn 35 = .ok (.invokevirtual 41, 3) := by decide +kernel
theorem dX6_isPairGoingOn_38 : decode cX6_isPairGoingOn 38 = .ok (.istore 4, 2) := by decide +kernel
theorem dX6_isPairGoingOn_40 : decode cX6_isPairGoingOn 40 = .ok (.iload_n 3, 1) := by decide +kernel
theorem dX6_isPairGoingOn_41 : decode cX6_isPairGoingOn 41 = .ok (.ifCond .eq 11, 3) := by decide +kernel
theorem dX6_isPairGoingOn_44 : decode cX6_isPairGoingOn 44 = .ok (.iload 4, 2) := by decide +kernel
theorem dX6_isPairGoingOn_46 : decode cX6_isPairGoingOn 46 = .ok (.bipush 9, 2) := by decide +kernel
theorem dX6_isPairGoingOn_48 : decode cX6_isPairGoingOn 48 = .ok (.iadd, 1) := by decide +kernel
theorem dX6_isPairGoingOn_49 : decode cX6_isPairGoingOn 49 = .ok (.goto 5, 3) := by decide +kernel
theorem dX6_isPairGoingOn_52 : decode cX6_isPairGoingOn 52 = .ok (.iload 4, 2) := by decide +kernel
theorem dX6_isPairGoingOn_54 : decode cX6_isPairGoingOn 54 = .ok (.istore 5, 2) := by decide +kernel
theorem dX6_isPairGoingOn_56 : decode cX6_isPairGoingOn 56 = .ok (.iload_n 3, 1) := by decide +kernel
theorem dX6_isPairGoingOn_57 : decode cX6_isPairGoingOn 57 = .ok (.ifCond .eq 7, 3) := by decide +kernel
theorem dX6_isPairGoingOn_60 : decode cX6_isPairGoingOn 60 = .ok (.iload_n 2, 1) := by decide +kernel
theorem dX6_isPairGoingOn_61 : decode cX6_isPairGoingOn 61 = .ok (.goto 6, 3) := by decide +kernel
theorem dX6_isPairGoingOn_64 : decode cX6_isPairGoingOn 64 = .ok (.iload_n 2, 1) := by decide +kernel
theorem dX6_isPairGoingOn_65 : decode cX6_isPairGoingOn 65 = .ok (.iconst 1, 1) := by decide +kernel
theorem dX6_isPairGoingOn_66 : decode cX6_isPairGoingOn 66 = .ok (.isub, 1) := by decide +kernel
theorem dX6_isPairGoingOn_67 : decode cX6_isPairGoingOn 67 = .ok (.istore 6, 2) := by decide +kernel
theorem dX6_isPairGoingOn_69 : decode cX6_isPairGoingOn 69 = .ok (.iload 6, 2) := by decide +kernel
theorem dX6_isPairGoingOn_71 : decode cX6_isPairGoingOn 71 = .ok (.iconst 2, 1) := by decide +kernel
theorem dX6_isPairGoingOn_72 : decode cX6_isPairGoingOn 72 = .ok (.if_icmp .ne 15, 3) := by decide +kernel
theorem dX6_isPairGoingOn_75 : decode cX6_isPairGoingOn 75 = .ok (.iload 5, 2) := by decide +kernel
theorem dX6_isPairGoingOn_77 : decode cX6_isPairGoingOn 77 = .ok (.iconst 1, 1) := by decide +kernel
theorem dX6_isPairGoingOn_78 : decode cX6_isPairGoingOn 78 = .ok (.if_icmp .lt 7, 3) := by decide +kernel
theorem dX6_isPairGoingOn_81 : decode cX6_isPairGoingOn 81 = .ok (.iconst 1, 1) := by decide +kernel
theorem dX6_isPairGoingOn_82 : decode cX6_isPairGoingOn 82 = .ok (.goto 4, 3) := by decide +kernel
theorem dX6_isPairGoingOn_85 : decode cX6_isPairGoingOn 85 = .ok (.iconst 0, 1) := by decide +kernel
theorem dX6_isPairGoingOn_86 : decode cX6_isPairGoingOn 86 = .ok (.ireturn, 1) := by decide +kernel
theorem dX6_isPairGoingOn_87 : decode cX6_isPairGoingOn 87 = .ok (.iload 6, 2) := by decide +kernel
theorem dX6_isPairGoingOn_89 : decode cX6_isPairGoingOn 89 = .ok (.iconst 4, 1) := by decide +kernel
theorem dX6_isPairGoingOn_90 : decode cX6_isPairGoingOn 90 = .ok (.if_icmp .ne 16, 3) := by decide +kernel
theorem dX6_isPairGoingOn_93 : decode cX6_isPairGoingOn 93 = .ok (.iload 4, 2) := by decide +kernel
theorem dX6_isPairGoingOn_95 : decode cX6_isPairGoingOn 95 = .ok (.bipush 98, 2) := by decide +kernel
theorem dX6_isPairGoingOn_97 : decode cX6_isPairGoingOn 97 = .ok (.if_icmp .gt 7, 3) := by decide +kernel
theorem dX6_isPairGoingOn_100 : decode cX6_isPairGoingOn 100 = .ok (.iconst 1, 1) := by decide +kernel
theorem dX6_isPairGoingOn_101 : decode cX6_isPairGoingOn 101 = .ok (.goto 4, 3) := by decide +kernel
theorem dX6_isPairGoingOn_104 : decode cX6_isPairGoingOn 104 = .ok (.iconst 0, 1) := by decide +kernel
theorem dX6_isPairGoingOn_105 : decode cX6_isPairGoingOn 105 = .ok (.ireturn, 1) := by decide +kernel
theorem dX6_isPairGoingOn_106 : decode cX6_isPairGoingOn 106 = .ok (.iload 5, 2) := by decide +kernel
theorem dX6_isPairGoingOn_108 : decode cX6_isPairGoingOn 108 = .ok (.aload_n 0, 1) := by decide +kernel
theorem dX6_isPairGoingOn_109 : decode cX6_isPairGoingOn 109 = .ok (.iload_n 1, 1) := by decide +kernel
theorem dX6_isPairGoingOn_110 : decode cX6_isPairGoingOn 110 = .ok (.iconst 4, 1) := by decide +kernel
theorem dX6_isPairGoingOn_111 : decode cX6_isPairGoingOn 111 = .ok (.iadd, 1) := by decide +kernel
theorem dX6_isPairGoingOn_112 : decode cX6_isPairGoingOn 112 = .ok (.invokevirtual 41, 3) := by decide +kernel
theorem dX6_isPairGoingOn_115 : decode cX6_isPairGoingOn 115 = .ok (.if_icmp .le 7, 3) := by decide +kernel
theorem dX6_isPairGoingOn_118 : decode cX6_isPairGoingOn 118 = .ok (.iconst 1, 1) := by decide +kernel
theorem dX6_isPairGoingOn_119 : decode cX6_isPairGoingOn 119 = .ok (.goto 4, 3) := by decide +kernel
theorem dX6_isPairGoingOn_122 : decode cX6_isPairGoingOn 122 = .ok (.iconst 0, 1) := by decide +kernel
theorem dX6_isPairGoingOn_123 : decode cX6_isPairGoingOn 123 = .ok (.ireturn, 1) := by decide +kernel
theorem dX6_isSecondDigit_0 : decode cX6_isSecondDigit 0 = .ok (.iload_n 1, 1) := by decide +kernel
theorem dX6_isSecondDigit_1 : decode cX6_isSecondDigit 1 = .ok (.bipush 9, 2) := by decide +kernel
theorem dX6_isSecondDigit_3 : decode cX6_isSecondDigit 3 = .ok (.irem, 1) := by decide +kernel
theorem dX6_isSecondDigit_4 : decode cX6_isSecondDigit 4 = .ok (.istore_n 2, 1) := by decide +kernel
theorem dX6_isSecondDigit_5 : decode cX6_isSecondDigit 5 = .ok (.iload_n 2, 1) := by decide +kernel
theorem dX6_isSecondDigit_6 : decode cX6_isSecondDigit 6 = .ok (.iconst 2, 1) := by decide +kernel
theorem dX6_isSecondDigit_7 : decode cX6_isSecondDigit 7 = .ok (.if_icmp .le 28, 3) := by decide +kernel
theorem dX6_isSecondDigit_10 : decode cX6_isSecondDigit 10 = .ok (.iload_n 2, 1) := by decide +kernel
theorem dX6_isSecondDigit_11 : decode cX6_isSecondDigit 11 = .ok (.bipush 8, 2) := by decide +kernel
theorem dX6_isSecondDigit_13 : decode cX6_isSecondDigit 13 = .ok (.if_icmp .ge 22, 3) := by decide +kernel
theorem dX6_isSecondDigit_16 : decode cX6_isSecondDigit 16 = .ok (.iload_n 2, 1) := by decide +kernel
theorem dX6_isSecondDigit_17 : decode cX6_isSecondDigit 17 = .ok (.iconst 2, 1) := by decide +kernel
theorem dX6_isSecondDigit_18 : decode cX6_isSecondDigit 18 = .ok (.irem, 1) := by decide +kernel
theorem dX6_isSecondDigit_19 : decode cX6_isSecondDigit 19 = .ok (.iconst 1, 1) := by decide +kernel
theorem dX6_isSecondDigit_20 : decode cX6_isSecondDigit 20 = .ok (.if_icmp .ne 15, 3) := by decide +kernel
theorem dX6_isSecondDigit_23 : decode cX6_isSecondDigit 23 = .ok (.aload_n 0, 1) := by decide +kernel
theorem dX6_isSecondDigit_24 : decode cX6_isSecondDigit 24 = .ok (.iload_n 1, 1) := by decide +kernel
theorem dX6_isSecondDigit_25 : decode cX6_isSecondDigit 25 = .ok (.invokevirtual 37, 3) := by decide +kernel
theorem dX6_isSecondDigit_28 : decode cX6_isSecondDigit 28 = .ok (.ifCond .lt 7, 3) := by decide +kernel
theorem dX6_isSecondDigit_31 : decode cX6_isSecondDigit 31 = .ok (.iconst 1, 1) := by decide +kernel
theorem dX6_isSecondDigit_32 : decode cX6_isSecondDigit 32 = .ok (.goto 4, 3) := by decide +kernel
theorem dX6_isSecondDigit_35 : decode cX6_isSecondDigit 35 = .ok (.iconst 0, 1) := by decide +kernel
theorem dX6_isSecondDigit_36 : decode cX6_isSecondDigit 36 = .ok (.ireturn, 1) := by decide +kernel
theorem dX7_init_0 : decode cX7_init 0 = .ok (.aload_n 0, 1) := by decide +kernel
theorem dX7_init_1 : decode cX7_init 1 = .ok (.invokespecial 3, 3) := by decide +kernel
theorem dX7_init_4 : decode cX7_init 4 = .ok (.aload_n 0, 1) := by decide +kernel
theorem dX7_init_5 : decode cX7_init 5 = .ok (.sipush 400, 3) := by decide +kernel
theorem dX7_init_8 : decode cX7_init 8 = .ok (.newarray .int, 2) := by decide +kernel
theorem dX7_init_10 : decode cX7_init 10 = .ok (.putfield 9, 3) := by decide +kernel
theorem dX7_init_13 : decode cX7_init 13 = .ok (.aload_n 0, 1) := by decide +kernel
theorem dX7_init_14 : decode cX7_init 14 = .ok (.iconst 4, 1) := by decide +kernel
theorem dX7_init_15 : decode cX7_init 15 = .ok (.newarray .int, 2) := by decide +kernel
theorem dX7_init_17 : decode cX7_init 17 = .ok (.putfield 15, 3) := by decide +kernel
theorem dX7_init_20 : decode cX7_init 20 = .ok (.aload_n 0, 1) := by decide +kernel
theorem dX7_init_21 : decode cX7_init 21 = .ok (.iconst 4, 1) := by decide +kernel
theorem dX7_init_22 : decode cX7_init 22 = .ok (.newarray .int, 2) := by decide +kernel
theorem dX7_init_24 : decode cX7_init 24 = .ok (.putfield 18, 3) := by decide +kernel
theorem dX7_init_27 : decode cX7_init 27 = .ok (.iconst 0, 1) := by decide +kernel
theorem dX7_init_28 : decode cX7_init 28 = .ok (.istore_n 1, 1) := by decide +kernel
theorem dX7_init_29 : decode cX7_init 29 = .ok (.iload_n 1, 1) := by decide +kernel
theorem dX7_init_30 : decode cX7_init 30 = .ok (.aload_n 0, 1) := by decide +kernel
theorem dX7_init_31 : decode cX7_init 31 = .ok (.getfield 15, 3) := by decide +kernel
theorem dX7_init_34 : decode cX7_init 34 = .ok (.arraylength, 1) := by decide +kernel
theorem dX7_init_35 : decode cX7_init 35 = .ok (.if_icmp .ge 16, 3) := by decide +kernel
theorem dX7_init_38 : decode cX7_init 38 = .ok (.aload_n 0, 1) := by decide +kernel
theorem dX7_init_39 : decode cX7_init 39 = .ok (.getfield 15, 3) := by decide +kernel
theorem dX7_init_42 : decode cX7_init 42 = .ok (.iload_n 1, 1) := by decide +kernel
theorem dX7_init_43 : decode cX7_init 43 = .ok (.iconst (-1), 1) := by decide +kernel
theorem dX7_init_44 : decode cX7_init 44 = .ok (.iastore, 1) := by decide +kernel
theorem dX7_init_45 : decode cX7_init 45 = .ok (.iinc 1 1, 3) := by decide +kernel
theorem dX7_init_48 : decode cX7_init 48 = .ok (.goto (-19), 3) := by decide +kernel
theorem dX7_init_51 : decode cX7_init 51 = .ok (.return_, 1) := by decide +kernel
theorem dX7_laneOf_0 : decode cX7_laneOf 0 = .ok (.iload_n 1, 1) := by decide +kernel
theorem dX7_laneOf_1 : decode cX7_laneOf 1 = .ok (.ifCond .lt 21, 3) := by decide +kernel
theorem dX7_laneOf_4 : decode cX7_laneOf 4 = .ok (.iload_n 1, 1) := by decide +kernel
theorem dX7_laneOf_5 : decode cX7_laneOf 5 = .ok (.aload_n 0, 1) := by decide +kernel
theorem dX7_laneOf_6 : decode cX7_laneOf 6 = .ok (.getfield 15, 3) := by decide +kernel
theorem dX7_laneOf_9 : decode cX7_laneOf 9 = .ok (.arraylength, 1) := by decide +kernel
theorem dX7_laneOf_10 : decode cX7_laneOf 10 = .ok (.if_icmp .ge 12, 3) := by decide +kernel
theorem dX7_laneOf_13 : decode cX7_laneOf 13 = .ok (.aload_n 0, 1) := by decide +kernel
theorem dX7_laneOf_14 : decode cX7_laneOf 14 = .ok (.getfield 15, 3) := by decide +kernel
theorem dX7_laneOf_17 : decode cX7_laneOf 17 = .ok (.iload_n 1, 1) := by decide +kernel
theorem dX7_laneOf_18 : decode cX7_laneOf 18 = .ok (.iaload, 1) := by decide +kernel
theorem dX7_laneOf_19 : decode cX7_laneOf 19 = .ok (.goto 4, 3) := by decide +kernel
theorem dX7_laneOf_22 : decode cX7_laneOf 22 = .ok (.iconst (-1), 1) := by decide +kernel
theorem dX7_laneOf_23 : decode cX7_laneOf 23 = .ok (.ireturn, 1) := by decide +kernel
theorem dX7_hasRow_0 : decode cX7_hasRow 0 = .ok (.aload_n 0, 1) := by decide +kernel
theorem dX7_hasRow_1 : decode cX7_hasRow 1 = .ok (.iload_n 1, 1) := by decide +kernel
theorem dX7_hasRow_2 : decode cX7_hasRow 2 = .ok (.invokevirtual 21, 3) := by decide +kernel
theorem dX7_hasRow_5 : decode cX7_hasRow 5 = .ok (.iconst (-1), 1) := by decide +kernel
theorem dX7_hasRow_6 : decode cX7_hasRow 6 = .ok (.if_icmp .eq 7, 3) := by decide +kernel
theorem dX7_hasRow_9 : decode cX7_hasRow 9 = .ok (.iconst 1, 1) := by decide +kernel
theorem dX7_hasRow_10 : decode cX7_hasRow 10 = .ok (.goto 4, 3) := by decide +kernel
theorem dX7_hasRow_13 : decode cX7_hasRow 13 = .ok (.iconst 0, 1) := by decide +kernel
theorem dX7_hasRow_14 : decode cX7_hasRow 14 = .ok (.ireturn, 1) := by decide +kernel
theorem dX7_sizeOf_0 : decode cX7_sizeOf 0 = .ok (.iload_n 1, 1) := by decide +kernel
theorem dX7_sizeOf_1 : decode cX7_sizeOf 1 = .ok (.ifCond .lt 21, 3) := by decide +kernel
theorem dX7_sizeOf_4 : decode cX7_sizeOf 4 = .ok (.iload_n 1, 1) := by decide +kernel
theorem dX7_sizeOf_5 : decode cX7_sizeOf 5 = .ok (.aload_n 0, 1) := by decide +kernel
theorem dX7_sizeOf_6 : decode cX7_sizeOf 6 = .ok (.getfield 18, 3) := by decide +kernel
theorem dX7_sizeOf_9 : decode cX7_sizeOf 9 = .ok (.arraylength, 1) := by decide +kernel
theorem dX7_sizeOf_10 : decode cX7_sizeOf 10 = .ok (.if_icmp .ge 12, 3) := by decide +kernel
theorem dX7_sizeOf_13 : decode cX7_sizeOf 13 = .ok (.aload_n 0, 1) := by decide +kernel
theorem dX7_sizeOf_14 : decode cX7_sizeOf 14 = .ok (.getfield 18, 3) := by decide +kernel
theorem dX7_sizeOf_17 : decode cX7_sizeOf 17 = .ok (.iload_n 1, 1) := by decide +kernel
theorem dX7_sizeOf_18 : decode cX7_sizeOf 18 = .ok (.iaload, 1) := by decide +kernel
theorem dX7_sizeOf_19 : decode cX7_sizeOf 19 = .ok (.goto 4, 3) := by decide +kernel
theorem dX7_sizeOf_22 : decode cX7_sizeOf 22 = .ok (.iconst 0, 1) := by decide +kernel
theorem dX7_sizeOf_23 : decode cX7_sizeOf 23 = .ok (.ireturn, 1) := by decide +kernel
theorem dX7_hasCells_0 : decode cX7_hasCells 0 = .ok (.aload_n 0, 1) := by decide +kernel
theorem dX7_hasCells_1 : decode cX7_hasCells 1 = .ok (.iload_n 1, 1) := by decide +kernel
theorem dX7_hasCells_2 : decode cX7_hasCells 2 = .ok (.invokevirtual 25, 3) := by decide +kernel
theorem dX7_hasCells_5 : decode cX7_hasCells 5 = .ok (.istore 4, 2) := by decide +kernel
theorem dX7_hasCells_7 : decode cX7_hasCells 7 = .ok (.iload_n 3, 1) := by decide +kernel
theorem dX7_hasCells_8 : decode cX7_hasCells 8 = .ok (.ifCond .lt 25, 3) := by decide +kernel
theorem dX7_hasCells_11 : decode cX7_hasCells 11 = .ok (.iload_n 2, 1) := by decide +kernel
theorem dX7_hasCells_12 : decode cX7_hasCells 12 = .ok (.ifCond .lt 21, 3) := by decide +kernel
theorem dX7_hasCells_15 : decode cX7_hasCells 15 = .ok (.iload_n 2, 1) := by decide +kernel
theorem dX7_hasCells_16 : decode cX7_hasCells 16 = .ok (.iload 4, 2) := by decide +kernel
theorem dX7_hasCells_18 : decode cX7_hasCells 18 = .ok (.if_icmp .gt 15, 3) := by decide +kernel
theorem dX7_hasCells_21 : decode cX7_hasCells 21 = .ok (.iload_n 3, 1) := by decide +kernel
theorem dX7_hasCells_22 : decode cX7_hasCells 22 = .ok (.iload 4, 2) := by decide +kernel
theorem dX7_hasCells_24 : decode cX7_hasCells 24 = .ok (.iload_n 2, 1) := by decide +kernel
theorem dX7_hasCells_25 : decode cX7_hasCells 25 = .ok (.isub, 1) := by decide +kernel
theorem dX7_hasCells_26 : decode cX7_hasCells 26 = .ok (.if_icmp .gt 7, 3) := by decide +kernel
theorem dX7_hasCells_29 : decode cX7_hasCells 29 = .ok (.iconst 1, 1) := by decide +kernel
theorem dX7_hasCells_30 : decode cX7_hasCells 30 = .ok (.goto 4, 3) := by decide +kernel
theorem dX7_hasCells_33 : decode cX7_hasCells 33 = .ok (.iconst 0, 1) := by decide +kernel
theorem dX7_hasCells_34 : decode cX7_hasCells 34 = .ok (.ireturn, 1) := by decide +kernel
theorem dX7_standOf_0 : decode cX7_standOf 0 = .ok (.iload_n 1, 1) := by decide +kernel
theorem dX7_standOf_1 : decode cX7_standOf 1 = .ok (.bipush 100, 2) := by decide +kernel
theorem dX7_standOf_3 : decode cX7_standOf 3 = .ok (.imul, 1) := by decide +kernel
theorem dX7_standOf_4 : decode cX7_standOf 4 = .ok (.iload_n 2, 1) := by decide +kernel
theorem dX7_standOf_5 : decode cX7_standOf 5 = .ok (.iadd, 1) := by decide +kernel
theorem dX7_standOf_6 : decode cX7_standOf 6 = .ok (.istore_n 3, 1) := by decide +kernel
theorem dX7_standOf_7 : decode cX7_standOf 7 = .ok (.iload_n 2, 1) := by decide +kernel
theorem dX7_standOf_8 : decode cX7_standOf 8 = .ok (.ifCond .lt 29, 3) := by decide +kernel
theorem dX7_standOf_11 : decode cX7_standOf 11 = .ok (.iload_n 2, 1) := by decide +kernel
theorem dX7_standOf_12 : decode cX7_standOf 12 = .ok (.aload_n 0, 1) := by decide +kernel
theorem dX7_standOf_13 : decode cX7_standOf 13 = .ok (.iload_n 1, 1) := by decide +kernel
theorem dX7_standOf_14 : decode cX7_standOf 14 = .ok (.invokevirtual 25, 3) := by decide +kernel
theorem dX7_standOf_17 : decode cX7_standOf 17 = .ok (.if_icmp .ge 20, 3) := by decide +kernel
theorem dX7_standOf_20 : decode cX7_standOf 20 = .ok (.iload_n 3, 1) := by decide +kernel
theorem dX7_standOf_21 : decode cX7_standOf 21 = .ok (.ifCond .lt 16, 3) := by decide +kernel
theorem dX7_standOf_24 : decode cX7_standOf 24 = .ok (.iload_n 3, 1) := by decide +kernel
theorem dX7_standOf_25 : decode cX7_standOf 25 = .ok (.aload_n 0, 1) := by decide +kernel
theorem dX7_standOf_26 : decode cX7_standOf 26 = .ok (.getfield 9, 3) := by decide +kernel
theorem dX7_standOf_29 : decode cX7_standOf 29 = .ok (.arraylength, 1) := by decide +kernel
theorem dX7_standOf_30 : decode cX7_standOf 30 = .ok (.if_icmp .ge 7, 3) := by decide +kernel
theorem dX7_standOf_33 : decode cX7_standOf 33 = .ok (.iload_n 3, 1) := by decide +kernel
theorem dX7_standOf_34 : decode cX7_standOf 34 = .ok (.goto 4, 3) := by decide +kernel
theorem dX7_standOf_37 : decode cX7_standOf 37 = .ok (.iconst (-1), 1) := by decide +kernel
theorem dX7_standOf_38 : decode cX7_standOf 38 = .ok (.ireturn, 1) := by decide +kernel
theorem dX7_hasCell_0 : decode cX7_hasCell 0 = .ok (.aload_n 0, 1) := by decide +kernel
theorem dX7_hasCell_1 : decode cX7_hasCell 1 = .ok (.iload_n 1, 1) := by decide +kernel
theorem dX7_hasCell_2 : decode cX7_hasCell 2 = .ok (.iload_n 2, 1) := by decide +kernel
theorem dX7_hasCell_3 : decode cX7_hasCell 3 = .ok (.invokevirtual 28, 3) := by decide +kernel
theorem dX7_hasCell_6 : decode cX7_hasCell 6 = .ok (.ifCond .lt 7, 3) := by decide +kernel
theorem dX7_hasCell_9 : decode cX7_hasCell 9 = .ok (.iconst 1, 1) := by decide +kernel
theorem dX7_hasCell_10 : decode cX7_hasCell 10 = .ok (.goto 4, 3) := by decide +kernel
theorem dX7_hasCell_13 : decode cX7_hasCell 13 = .ok (.iconst 0, 1) := by decide +kernel
theorem dX7_hasCell_14 : decode cX7_hasCell 14 = .ok (.ireturn, 1) := by decide +kernel
theorem dX7_at_0 : decode cX7_at 0 = .ok (.aload_n 0, 1) := by decide +kernel
theorem dX7_at_1 : decode cX7_at 1 = .ok (.iload_n 1, 1) := by decide +kernel
theorem dX7_at_2 : decode cX7_at 2 = .ok (.iload_n 2, 1) := by decide +kernel
theorem dX7_at_3 : decode cX7_at 3 = .ok (.invokevirtual 28, 3) := by decide +kernel
theorem dX7_at_6 : decode cX7_at 6 = .ok (.istore_n 3, 1) := by decide +kernel
theorem dX7_at_7 : decode cX7_at 7 = .ok (.iload_n 3, 1) := by decide +kernel
theorem dX7_at_8 : decode cX7_at 8 = .ok (.ifCond .ge 7, 3) := by decide +kernel
theorem dX7_at_11 : decode cX7_at 11 = .ok (.iconst 0, 1) := by decide +kernel
theorem dX7_at_12 : decode cX7_at 12 = .ok (.goto 9, 3) := by decide +kernel
theorem dX7_at_15 : decode cX7_at 15 = .ok (.aload_n 0, 1) := by decide +kernel
theorem dX7_at_16 : decode cX7_at 16 = .ok (.getfield 9, 3) := by decide +kernel
theorem dX7_at_19 : decode cX7_at 19 = .ok (.iload_n 3, 1) := by decide +kernel
theorem dX7_at_20 : decode cX7_at 20 = .ok (.iaload, 1) := by decide +kernel
theorem dX7_at_21 : decode cX7_at 21 = .ok (.ireturn, 1) := by decide +kernel
theorem dX7_set_0 : decode cX7_set 0 = .ok (.aload_n 0, 1) := by decide +kernel
theorem dX7_set_1 : decode cX7_set 1 = .ok (.iload_n 1, 1) := by decide +kernel
theorem dX7_set_2 : decode cX7_set 2 = .ok (.iload_n 2, 1) := by decide +kernel
theorem dX7_set_3 : decode cX7_set 3 = .ok (.invokevirtual 28, 3) := by decide +kernel
theorem dX7_set_6 : decode cX7_set 6 = .ok (.istore 4, 2) := by decide +kernel
theorem dX7_set_8 : decode cX7_set 8 = .ok (.iload 4, 2) := by decide +kernel
theorem dX7_set_10 : decode cX7_set 10 = .ok (.ifCond .lt 19, 3) := by decide +kernel
theorem dX7_set_13 : decode cX7_set 13 = .ok (.aload_n 0, 1) := by decide +kernel
theorem dX7_set_14 : decode cX7_set 14 = .ok (.getfield 9, 3) := by decide +kernel
theorem dX7_set_17 : decode cX7_set 17 = .ok (.iload 4, 2) := by decide +kernel
theorem dX7_set_19 : decode cX7_set 19 = .ok (.iload_n 3, 1) := by decide +kernel
theorem dX7_set_20 : decode cX7_set 20 = .ok (.aload_n 0, 1) := by decide +kernel
theorem dX7_set_21 : decode cX7_set 21 = .ok (.iload_n 1, 1) := by decide +kernel
theorem dX7_set_22 : decode cX7_set 22 = .ok (.invokevirtual 21, 3) := by decide +kernel
theorem dX7_set_25 : decode cX7_set 25 = .ok (.invokestatic 32, 3) := by decide +kernel
theorem dX7_set_28 : decode cX7_set 28 = .ok (.iastore, 1) := by decide +kernel
theorem dX7_set_29 : decode cX7_set 29 = .ok (.return_, 1) := by decide +kernel
theorem dX7_cut_0 : decode cX7_cut 0 = .ok (.iload_n 1, 1) := by decide +kernel
theorem dX7_cut_1 : decode cX7_cut 1 = .ok (.ifCond .ne 6, 3) := by decide +kernel
theorem dX7_cut_4 : decode cX7_cut 4 = .ok (.iload_n 0, 1) := by decide +kernel
theorem dX7_cut_5 : decode cX7_cut 5 = .ok (.i2b, 1) := by decide +kernel
theorem dX7_cut_6 : decode cX7_cut 6 = .ok (.ireturn, 1) := by decide +kernel
theorem dX7_cut_7 : decode cX7_cut 7 = .ok (.iload_n 1, 1) := by decide +kernel
theorem dX7_cut_8 : decode cX7_cut 8 = .ok (.iconst 1, 1) := by decide +kernel
theorem dX7_cut_9 : decode cX7_cut 9 = .ok (.if_icmp .ne 8, 3) := by decide +kernel
theorem dX7_cut_12 : decode cX7_cut 12 = .ok (.iload_n 0, 1) := by decide +kernel
theorem dX7_cut_13 : decode cX7_cut 13 = .ok (.i2s, 1) := by decide +kernel
theorem dX7_cut_14 : decode cX7_cut 14 = .ok (.goto 4, 3) := by decide +kernel
theorem dX7_cut_17 : decode cX7_cut 17 = .ok (.iload_n 0, 1) := by decide +kernel
theorem dX7_cut_18 : decode cX7_cut 18 = .ok (.ireturn, 1) := by decide +kernel
theorem dX7_clear_0 : decode cX7_clear 0 = .ok (.aload_n 0, 1) := by decide +kernel
theorem dX7_clear_1 : decode cX7_clear 1 = .ok (.iload_n 1, 1) := by decide +kernel
theorem dX7_clear_2 : decode cX7_clear 2 = .ok (.iconst (-1), 1) := by decide +kernel
theorem dX7_clear_3 : decode cX7_clear 3 = .ok (.iconst 0, 1) := by decide +kernel
theorem dX7_clear_4 : decode cX7_clear 4 = .ok (.invokevirtual 35, 3) := by decide +kernel
theorem dX7_clear_7 : decode cX7_clear 7 = .ok (.return_, 1) := by decide +kernel
theorem dX7_renew_0 : decode cX7_renew 0 = .ok (.iload_n 1, 1) := by decide +kernel
theorem dX7_renew_1 : decode cX7_renew 1 = .ok (.ifCond .lt 21, 3) := by decide +kernel
theorem dX7_renew_4 : decode cX7_renew 4 = .ok (.iload_n 1, 1) := by decide +kernel
theorem dX7_renew_5 : decode cX7_renew 5 = .ok (.aload_n 0, 1) := by decide +kernel
theorem dX7_renew_6 : decode cX7_renew 6 = .ok (.getfield 15, 3) := by decide +kernel
theorem dX7_renew_9 : decode cX7_renew 9 = .ok (.arraylength, 1) := by decide +kernel
theorem dX7_renew_10 : decode cX7_renew 10 = .ok (.if_icmp .ge 12, 3) := by decide +kernel
theorem dX7_renew_13 : decode cX7_renew 13 = .ok (.iload_n 1, 1) := by decide +kernel
theorem dX7_renew_14 : decode cX7_renew 14 = .ok (.aload_n 0, 1) := by decide +kernel
theorem dX7_renew_15 : decode cX7_renew 15 = .ok (.getfield 18, 3) := by decide +kernel
theorem dX7_renew_18 : decode cX7_renew 18 = .ok (.arraylength, 1) := by decide +kernel
theorem dX7_renew_19 : decode cX7_renew 19 = .ok (.if_icmp .lt 4, 3) := by decide +kernel
theorem dX7_renew_22 : decode cX7_renew 22 = .ok (.return_, 1) := by decide +kernel
theorem dX7_renew_23 : decode cX7_renew 23 = .ok (.aload_n 0, 1) := by decide +kernel
theorem dX7_renew_24 : decode cX7_renew 24 = .ok (.getfield 15, 3) := by decide +kernel
theorem dX7_renew_27 : decode cX7_renew 27 = .ok (.iload_n 1, 1) := by decide +kernel
theorem dX7_renew_28 : decode cX7_renew 28 = .ok (.iload_n 2, 1) := by decide +kernel
theorem dX7_renew_29 : decode cX7_renew 29 = .ok (.iastore, 1) := by decide +kernel
theorem dX7_renew_30 : decode cX7_renew 30 = .ok (.aload_n 0, 1) := by decide +kernel
theorem dX7_renew_31 : decode cX7_renew 31 = .ok (.getfield 18, 3) := by decide +kernel
theorem dX7_renew_34 : decode cX7_renew 34 = .ok (.iload_n 1, 1) := by decide +kernel
theorem dX7_renew_35 : decode cX7_renew 35 = .ok (.iload_n 3, 1) := by decide +kernel
theorem dX7_renew_36 : decode cX7_renew 36 = .ok (.iastore, 1) := by decide +kernel
theorem dX7_renew_37 : decode cX7_renew 37 = .ok (.iconst 0, 1) := by decide +kernel
theorem dX7_renew_38 : decode cX7_renew 38 = .ok (.istore 4, 2) := by decide +kernel
theorem dX7_renew_40 : decode cX7_renew 40 = .ok (.iload 4, 2) := by decide +kernel
theorem dX7_renew_42 : decode cX7_renew 42 = .ok (.iload_n 3, 1) := by decide +kernel
theorem dX7_renew_43 : decode cX7_renew 43 = .ok (.if_icmp .ge 17, 3) := by decide +kernel
theorem dX7_renew_46 : decode cX7_renew 46 = .ok (.aload_n 0, 1) := by decide +kernel
theorem dX7_renew_47 : decode cX7_renew 47 = .ok (.iload_n 1, 1) := by decide +kernel
theorem dX7_renew_48 : decode cX7_renew 48 = .ok (.iload 4, 2) := by decide +kernel
theorem dX7_renew_50 : decode cX7_renew 50 = .ok (.iconst 0, 1) := by decide +kernel
theorem dX7_renew_51 : decode cX7_renew 51 = .ok (.invokevirtual 39, 3) := by decide +kernel
theorem dX7_renew_54 : decode cX7_renew 54 = .ok (.iinc 4 1, 3) := by decide +kernel
theorem dX7_renew_57 : decode cX7_renew 57 = .ok (.goto (-17), 3) := by decide +kernel
theorem dX7_renew_60 : decode cX7_renew 60 = .ok (.return_, 1) := by decide +kernel
theorem dX7_move_0 : decode cX7_move 0 = .ok (.iload 5, 2) := by decide +kernel
theorem dX7_move_2 : decode cX7_move 2 = .ok (.ifCond .le 52, 3) := by decide +kernel
theorem dX7_move_5 : decode cX7_move 5 = .ok (.aload_n 0, 1) := by decide +kernel
theorem dX7_move_6 : decode cX7_move 6 = .ok (.iload_n 1, 1) := by decide +kernel
theorem dX7_move_7 : decode cX7_move 7 = .ok (.iload_n 2, 1) := by decide +kernel
theorem dX7_move_8 : decode cX7_move 8 = .ok (.iload 5, 2) := by decide +kernel
theorem dX7_move_10 : decode cX7_move 10 = .ok (.invokevirtual 42, 3) := by decide +kernel
theorem dX7_move_13 : decode cX7_move 13 = .ok (.ifCond .eq 41, 3) := by decide +kernel
theorem dX7_move_16 : decode cX7_move 16 = .ok (.aload_n 0, 1) := by decide +kernel
theorem dX7_move_17 : decode cX7_move 17 = .ok (.iload_n 3, 1) := by decide +kernel
theorem dX7_move_18 : decode cX7_move 18 = .ok (.iload 4, 2) := by decide +kernel
theorem dX7_move_20 : decode cX7_move 20 = .ok (.iload 5, 2) := by decide +kernel
theorem dX7_move_22 : decode cX7_move 22 = .ok (.invokevirtual 42, 3) := by decide +kernel
theorem dX7_move_25 : decode cX7_move 25 = .ok (.ifCond .eq 29, 3) := by decide +kernel
theorem dX7_move_28 : decode cX7_move 28 = .ok (.aload_n 0, 1) := by decide +kernel
theorem dX7_move_29 : decode cX7_move 29 = .ok (.getfield 9, 3) := by decide +kernel
theorem dX7_move_32 : decode cX7_move 32 = .ok (.iload_n 1, 1) := by decide +kernel
theorem dX7_move_33 : decode cX7_move 33 = .ok (.bipush 100, 2) := by decide +kernel
theorem dX7_move_35 : decode cX7_move 35 = .ok (.imul, 1) := by decide +kernel
theorem dX7_move_36 : decode cX7_move 36 = .ok (.iload_n 2, 1) := by decide +kernel
theorem dX7_move_37 : decode cX7_move 37 = .ok (.iadd, 1) := by decide +kernel
theorem dX7_move_38 : decode cX7_move 38 = .ok (.aload_n 0, 1) := by decide +kernel
theorem dX7_move_39 : decode cX7_move 39 = .ok (.getfield 9, 3) := by decide +kernel
theorem dX7_move_42 : decode cX7_move 42 = .ok (.iload_n 3, 1) := by decide +kernel
theorem dX7_move_43 : decode cX7_move 43 = .ok (.bipush 100, 2) := by decide +kernel
theorem dX7_move_45 : decode cX7_move 45 = .ok (.imul, 1) := by decide +kernel
theorem dX7_move_46 : decode cX7_move 46 = .ok (.iload 4, 2) := by decide +kernel
theorem dX7_move_48 : decode cX7_move 48 = .ok (.iadd, 1) := by decide +kernel
theorem dX7_move_49 : decode cX7_move 49 = .ok (.iload 5, 2) := by decide +kernel
theorem dX7_move_51 : decode cX7_move 51 = .ok (.invokestatic 46, 3) := by decide +kernel
theorem dX7_move_54 : decode cX7_move 54 = .ok (.return_, 1) := by decide +kernel
theorem dX8_init_0 : decode cX8_init 0 = .ok (.aload_n 0, 1) := by decide +kernel
theorem dX8_init_1 : decode cX8_init 1 = .ok (.invokespecial 1, 3) := by decide +kernel
theorem dX8_init_4 : decode cX8_init 4 = .ok (.aload_n 0, 1) := by decide +kernel
theorem dX8_init_5 : decode cX8_init 5 = .ok (.iconst 0, 1) := by decide +kernel
theorem dX8_init_6 : decode cX8_init 6 = .ok (.putfield 7, 3) := by decide +kernel
theorem dX8_init_9 : decode cX8_init 9 = .ok (.return_, 1) := by decide +kernel
theorem dX8_leave_0 : decode cX8_leave 0 = .ok (.aload_n 0, 1) := by decide +kernel
theorem dX8_leave_1 : decode cX8_leave 1 = .ok (.bipush 31, 2) := by decide +kernel
theorem dX8_leave_3 : decode cX8_leave 3 = .ok (.aload_n 0, 1) := by decide +kernel
theorem dX8_leave_4 : decode cX8_leave 4 = .ok (.getfield 7, 3) := by decide +kernel
theorem dX8_leave_7 : decode cX8_leave 7 = .ok (.imul, 1) := by decide +kernel
theorem dX8_leave_8 : decode cX8_leave 8 = .ok (.iload_n 1, 1) := by decide +kernel
theorem dX8_leave_9 : decode cX8_leave 9 = .ok (.iadd, 1) := by decide +kernel
theorem dX8_leave_10 : decode cX8_leave 10 = .ok (.putfield 7, 3) := by decide +kernel
theorem dX8_leave_13 : decode cX8_leave 13 = .ok (.return_, 1) := by decide +kernel
theorem dX8_left_0 : decode cX8_left 0 = .ok (.aload_n 0, 1) := by decide +kernel
theorem dX8_left_1 : decode cX8_left 1 = .ok (.getfield 7, 3) := by decide +kernel
theorem dX8_left_4 : decode cX8_left 4 = .ok (.ireturn, 1) := by decide +kernel
theorem dX9_init_0 : decode cX9_init 0 = .ok (.aload_n 0, 1) := by decide +kernel
theorem dX9_init_1 : decode cX9_init 1 = .ok (.invokespecial 3, 3) := by decide +kernel
theorem dX9_init_4 : decode cX9_init 4 = .ok (.aload_n 0, 1) := by decide +kernel
theorem dX9_init_5 : decode cX9_init 5 = .ok (.new 9, 3) := by decide +kernel
theorem dX9_init_8 : decode cX9_init 8 = .ok (.dup, 1) := by decide +kernel
theorem dX9_init_9 : decode cX9_init 9 = .ok (.invokespecial 11, 3) := by decide +kernel
theorem dX9_init_12 : decode cX9_init 12 = .ok (.putfield 12, 3) := by decide +kernel
theorem dX9_init_15 : decode cX9_init 15 = .ok (.aload_n 0, 1) := by decide +kernel
theorem dX9_init_16 : decode cX9_init 16 = .ok (.new 18, 3) := by decide +kernel
theorem dX9_init_19 : decode cX9_init 19 = .ok (.dup, 1) := by decide +kernel
theorem dX9_init_20 : decode cX9_init 20 = .ok (.invokespecial 20, 3) := by decide +kernel
theorem dX9_init_23 : decode cX9_init 23 = .ok (.putfield 21, 3) := by decide +kernel
theorem dX9_init_26 : decode cX9_init 26 = .ok (.aload_n 0, 1) := by decide +kernel
theorem dX9_init_27 : decode cX9_init 27 = .ok (.new 25, 3) := by decide +kernel
theorem dX9_init_30 : decode cX9_init 30 = .ok (.dup, 1) := by decide +kernel
theorem dX9_init_31 : decode cX9_init 31 = .ok (.invokespecial 27, 3) := by decide +kernel
theorem dX9_init_34 : decode cX9_init 34 = .ok (.putfield 28, 3) := by decide +kernel
theorem dX9_init_37 : decode cX9_init 37 = .ok (.aload_n 0, 1) := by decide +kernel
theorem dX9_init_38 : decode cX9_init 38 = .ok (.new 32, 3) := by decide +kernel
theorem dX9_init_41 : decode cX9_init 41 = .ok (.dup, 1) := by decide +kernel
theorem dX9_init_42 : decode cX9_init 42 = .ok (.invokespecial 34, 3) := by decide +kernel
theorem dX9_init_45 : decode cX9_init 45 = .ok (.putfield 35, 3) := by decide +kernel
theorem dX9_init_48 : decode cX9_init 48 = .ok (.aload_n 0, 1) := by decide +kernel
theorem dX9_init_49 : decode cX9_init 49 = .ok (.new 39, 3) := by decide +kernel
theorem dX9_init_52 : decode cX9_init 52 = .ok (.dup, 1) := by decide +kernel
theorem dX9_init_53 : decode cX9_init 53 = .ok (.invokespecial 41, 3) := by decide +kernel
theorem dX9_init_56 : decode cX9_init 56 = .ok (.putfield 42, 3) := by decide +kernel
theorem dX9_init_59 : decode cX9_init 59 = .ok (.aload_n 0, 1) := by decide +kernel
theorem dX9_init_60 : decode cX9_init 60 = .ok (.new 39, 3) := by decide +kernel
theorem dX9_init_63 : decode cX9_init 63 = .ok (.dup, 1) := by decide +kernel
theorem dX9_init_64 : decode cX9_init 64 = .ok (.invokespecial 41, 3) := by decide +kernel
theorem dX9_init_67 : decode cX9_init 67 = .ok (.putfield 46, 3) := by decide +kernel
theorem dX9_init_70 : decode cX9_init 70 = .ok (.aload_n 0, 1) := by decide +kernel
theorem dX9_init_71 : decode cX9_init 71 = .ok (.new 49, 3) := by decide +kernel
theorem dX9_init_74 : decode cX9_init 74 = .ok (.dup, 1) := by decide +kernel
theorem dX9_init_75 : decode cX9_init 75 = .ok (.invokespecial 51, 3) := by decide +kernel
theorem dX9_init_78 : decode cX9_init 78 = .ok (.putfield 52, 3) := by decide +kernel
theorem dX9_init_81 : decode cX9_init 81 = .ok (.aload_n 0, 1) := by decide +kernel
theorem dX9_init_82 : decode cX9_init 82 = .ok (.iconst 1, 1) := by decide +kernel
theorem dX9_init_83 : decode cX9_init 83 = .ok (.newarray .int, 2) := by decide +kernel
theorem dX9_init_85 : decode cX9_init 85 = .ok (.putfield 56, 3) := by decide +kernel
theorem dX9_init_88 : decode cX9_init 88 = .ok (.aload_n 0, 1) := by decide +kernel
theorem dX9_init_89 : decode cX9_init 89 = .ok (.iconst 0, 1) := by decide +kernel
theorem dX9_init_90 : decode cX9_init 90 = .ok (.putfield 60, 3) := by decide +kernel
theorem dX9_init_93 : decode cX9_init 93 = .ok (.return_, 1) := by decide +kernel
theorem dX9_roll_0 : decode cX9_roll 0 = .ok (.aload_n 0, 1) := by decide +kernel
theorem dX9_roll_1 : decode cX9_roll 1 = .ok (.iconst 0, 1) := by decide +kernel
theorem dX9_roll_2 : decode cX9_roll 2 = .ok (.iload_n 1, 1) := by decide +kernel
theorem dX9_roll_3 : decode cX9_roll 3 = .ok (.iconst 0, 1) := by decide +kernel
theorem dX9_roll_4 : decode cX9_roll 4 = .ok (.iload_n 2, 1) := by decide +kernel
theorem dX9_roll_5 : decode cX9_roll 5 = .ok (.iload_n 3, 1) := by decide +kernel
theorem dX9_roll_6 : decode cX9_roll 6 = .ok (.iload 4, 2) := by decide +kernel
theorem dX9_roll_8 : decode cX9_roll 8 = .ok (.invokevirtual 64, 3) := by decide +kernel
theorem dX9_roll_11 : decode cX9_roll 11 = .ok (.istore 5, 2) := by decide +kernel
theorem dX9_roll_13 : decode cX9_roll 13 = .ok (.iload 5, 2) := by decide +kernel
theorem dX9_roll_15 : decode cX9_roll 15 = .ok (.ifCond .ge 6, 3) := by decide +kernel
theorem dX9_roll_18 : decode cX9_roll 18 = .ok (.iload 5, 2) := by decide +kernel
theorem dX9_roll_20 : decode cX9_roll 20 = .ok (.ireturn, 1) := by decide +kernel
theorem dX9_roll_21 : decode cX9_roll 21 = .ok (.aload_n 0, 1) := by decide +kernel
theorem dX9_roll_22 : decode cX9_roll 22 = .ok (.getfield 21, 3) := by decide +kernel
theorem dX9_roll_25 : decode cX9_roll 25 = .ok (.aload_n 0, 1) := by decide +kernel
theorem dX9_roll_26 : decode cX9_roll 26 = .ok (.getfield 12, 3) := by decide +kernel
theorem dX9_roll_29 : decode cX9_roll 29 = .ok (.iload_n 1, 1) := by decide +kernel
theorem dX9_roll_30 : decode cX9_roll 30 = .ok (.iload_n 3, 1) := by decide +kernel
theorem dX9_roll_31 : decode cX9_roll 31 = .ok (.iload 4, 2) := by decide +kernel
theorem dX9_roll_33 : decode cX9_roll 33 = .ok (.invokevirtual 68, 3) := by decide +kernel
theorem dX9_roll_36 : decode cX9_roll 36 = .ok (.aload_n 0, 1) := by decide +kernel
theorem dX9_roll_37 : decode cX9_roll 37 = .ok (.getfield 21, 3) := by decide +kernel
theorem dX9_roll_40 : decode cX9_roll 40 = .ok (.invokevirtual 72, 3) := by decide +kernel
theorem dX9_roll_43 : decode cX9_roll 43 = .ok (.istore 6, 2) := by decide +kernel
theorem dX9_roll_45 : decode cX9_roll 45 = .ok (.iload 6, 2) := by decide +kernel
theorem dX9_roll_47 : decode cX9_roll 47 = .ok (.ifCond .lt 9, 3) := by decide +kernel
theorem dX9_roll_50 : decode cX9_roll 50 = .ok (.bipush (-100), 2) := by decide +kernel
theorem dX9_roll_52 : decode cX9_roll 52 = .ok (.iload 6, 2) := by decide +kernel
theorem dX9_roll_54 : decode cX9_roll 54 = .ok (.isub, 1) := by decide +kernel
theorem dX9_roll_55 : decode cX9_roll 55 = .ok (.ireturn, 1) := by decide +kernel
theorem dX9_roll_56 : decode cX9_roll 56 = .ok (.aload_n 0, 1) := by decide +kernel
theorem dX9_roll_57 : decode cX9_roll 57 = .ok (.getfield 28, 3) := by decide +kernel
theorem dX9_roll_60 : decode cX9_roll 60 = .ok (.aload_n 0, 1) := by decide +kernel
theorem dX9_roll_61 : decode cX9_roll 61 = .ok (.getfield 21, 3) := by decide +kernel
theorem dX9_roll_64 : decode cX9_roll 64 = .ok (.invokevirtual 76, 3) := by decide +kernel
theorem dX9_roll_67 : decode cX9_roll 67 = .ok (.aload_n 0, 1) := by decide +kernel
theorem dX9_roll_68 : decode cX9_roll 68 = .ok (.getfield 28, 3) := by decide +kernel
theorem dX9_roll_71 : decode cX9_roll 71 = .ok (.invokevirtual 80, 3) := by decide +kernel
theorem dX9_roll_74 : decode cX9_roll 74 = .ok (.ireturn, 1) := by decide +kernel
theorem dX9_ofOne_0 : decode cX9_ofOne 0 = .ok (.aload_n 0, 1) := by decide +kernel
theorem dX9_ofOne_1 : decode cX9_ofOne 1 = .ok (.getfield 28, 3) := by decide +kernel
theorem dX9_ofOne_4 : decode cX9_ofOne 4 = .ok (.iload_n 1, 1) := by decide +kernel
theorem dX9_ofOne_5 : decode cX9_ofOne 5 = .ok (.invokevirtual 83, 3) := by decide +kernel
theorem dX9_ofOne_8 : decode cX9_ofOne 8 = .ok (.astore_n 3, 1) := by decide +kernel
theorem dX9_ofOne_9 : decode cX9_ofOne 9 = .ok (.aload_n 3, 1) := by decide +kernel
theorem dX9_ofOne_10 : decode cX9_ofOne 10 = .ok (.ifnonnull 5, 3) := by decide +kernel
theorem dX9_ofOne_13 : decode cX9_ofOne 13 = .ok (.iconst (-1), 1) := by decide +kernel
theorem dX9_ofOne_14 : decode cX9_ofOne 14 = .ok (.ireturn, 1) := by decide +kernel
theorem dX9_ofOne_15 : decode cX9_ofOne 15 = .ok (.iload_n 2, 1) := by decide +kernel
theorem dX9_ofOne_16 : decode cX9_ofOne 16 = .ok (.ifCond .lt 8, 3) := by decide +kernel
theorem dX9_ofOne_19 : decode cX9_ofOne 19 = .ok (.iload_n 2, 1) := by decide +kernel
theorem dX9_ofOne_20 : decode cX9_ofOne 20 = .ok (.iconst 5, 1) := by decide +kernel
theorem dX9_ofOne_21 : decode cX9_ofOne 21 = .ok (.if_icmp .lt 8, 3) := by decide +kernel
theorem dX9_ofOne_24 : decode cX9_ofOne 24 = .ok (.bipush (-2), 2) := by decide +kernel
theorem dX9_ofOne_26 : decode cX9_ofOne 26 = .ok (.goto 8, 3) := by decide +kernel
theorem dX9_ofOne_29 : decode cX9_ofOne 29 = .ok (.aload_n 3, 1) := by decide +kernel
theorem dX9_ofOne_30 : decode cX9_ofOne 30 = .ok (.iload_n 2, 1) := by decide +kernel
theorem dX9_ofOne_31 : decode cX9_ofOne 31 = .ok (.invokevirtual 87, 3) := by decide +kernel
theorem dX9_ofOne_34 : decode cX9_ofOne 34 = .ok (.ireturn, 1) := by decide +kernel
theorem dX9_lives_0 : decode cX9_lives 0 = .ok (.aload_n 0, 1) := by decide +kernel
theorem dX9_lives_1 : decode cX9_lives 1 = .ok (.getfield 28, 3) := by decide +kernel
theorem dX9_lives_4 : decode cX9_lives 4 = .ok (.iload_n 1, 1) := by decide +kernel
theorem dX9_lives_5 : decode cX9_lives 5 = .ok (.invokevirtual 83, 3) := by decide +kernel
theorem dX9_lives_8 : decode cX9_lives 8 = .ok (.astore 4, 2) := by decide +kernel
theorem dX9_lives_10 : decode cX9_lives 10 = .ok (.aload 4, 2) := by decide +kernel
theorem dX9_lives_12 : decode cX9_lives 12 = .ok (.ifnull 10, 3) := by decide +kernel
theorem dX9_lives_15 : decode cX9_lives 15 = .ok (.iload_n 2, 1) := by decide +kernel
theorem dX9_lives_16 : decode cX9_lives 16 = .ok (.invokestatic 93, 3) := by decide +kernel
theorem dX9_lives_19 : decode cX9_lives 19 = .ok (.ifCond .ne 5, 3) := by decide +kernel
theorem dX9_lives_22 : decode cX9_lives 22 = .ok (.iconst (-1), 1) := by decide +kernel
theorem dX9_lives_23 : decode cX9_lives 23 = .ok (.ireturn, 1) := by decide +kernel
theorem dX9_lives_24 : decode cX9_lives 24 = .ok (.iload_n 3, 1) := by decide +kernel
theorem dX9_lives_25 : decode cX9_lives 25 = .ok (.invokestatic 97, 3) := by decide +kernel
theorem dX9_lives_28 : decode cX9_lives 28 = .ok (.ifCond .ne 6, 3) := by decide +kernel
theorem dX9_lives_31 : decode cX9_lives 31 = .ok (.bipush (-2), 2) := by decide +kernel
theorem dX9_lives_33 : decode cX9_lives 33 = .ok (.ireturn, 1) := by decide +kernel
theorem dX9_lives_34 : decode cX9_lives 34 = .ok (.aload 4, 2) := by decide +kernel
theorem dX9_lives_36 : decode cX9_lives 36 = .ok (.iload_n 2, 1) := by decide +kernel
theorem dX9_lives_37 : decode cX9_lives 37 = .ok (.iload_n 3, 1) := by decide +kernel
theorem dX9_lives_38 : decode cX9_lives 38 = .ok (.invokevirtual 100, 3) := by decide +kernel
theorem dX9_lives_41 : decode cX9_lives 41 = .ok (.ifCond .eq 7, 3) := by decide +kernel
theorem dX9_lives_44 : decode cX9_lives 44 = .ok (.iconst 1, 1) := by decide +kernel
theorem dX9_lives_45 : decode cX9_lives 45 = .ok (.goto 4, 3) := by decide +kernel
theorem dX9_lives_48 : decode cX9_lives 48 = .ok (.iconst 0, 1) := by decide +kernel
theorem dX9_lives_49 : decode cX9_lives 49 = .ok (.ireturn, 1) := by decide +kernel
theorem dX9_word_0 : decode cX9_word 0 = .ok (.iload_n 2, 1) := by decide +kernel
theorem dX9_word_1 : decode cX9_word 1 = .ok (.invokestatic 93, 3) := by decide +kernel
theorem dX9_word_4 : decode cX9_word 4 = .ok (.ifCond .ne 5, 3) := by decide +kernel
theorem dX9_word_7 : decode cX9_word 7 = .ok (.iconst (-1), 1) := by decide +kernel
theorem dX9_word_8 : decode cX9_word 8 = .ok (.ireturn, 1) := by decide +kernel
theorem dX9_word_9 : decode cX9_word 9 = .ok (.iload_n 1, 1) := by decide +kernel
theorem dX9_word_10 : decode cX9_word 10 = .ok (.iconst 1, 1) := by decide +kernel
theorem dX9_word_11 : decode cX9_word 11 = .ok (.if_icmp .lt 16, 3) := by decide +kernel
theorem dX9_word_14 : decode cX9_word 14 = .ok (.iload_n 1, 1) := by decide +kernel
theorem dX9_word_15 : decode cX9_word 15 = .ok (.bipush 99, 2) := by decide +kernel
theorem dX9_word_17 : decode cX9_word 17 = .ok (.if_icmp .gt 10, 3) := by decide +kernel
theorem dX9_word_20 : decode cX9_word 20 = .ok (.iload_n 3, 1) := by decide +kernel
theorem dX9_word_21 : decode cX9_word 21 = .ok (.invokestatic 97, 3) := by decide +kernel
theorem dX9_word_24 : decode cX9_word 24 = .ok (.ifCond .ne 6, 3) := by decide +kernel
theorem dX9_word_27 : decode cX9_word 27 = .ok (.bipush (-2), 2) := by decide +kernel
theorem dX9_word_29 : decode cX9_word 29 = .ok (.ireturn, 1) := by decide +kernel
theorem dX9_word_30 : decode cX9_word 30 = .ok (.aload_n 0, 1) := by decide +kernel
theorem dX9_word_31 : decode cX9_word 31 = .ok (.getfield 28, 3) := by decide +kernel
theorem dX9_word_34 : decode cX9_word 34 = .ok (.iload_n 1, 1) := by decide +kernel
theorem dX9_word_35 : decode cX9_word 35 = .ok (.iload_n 2, 1) := by decide +kernel
theorem dX9_word_36 : decode cX9_word 36 = .ok (.iload_n 3, 1) := by decide +kernel
theorem dX9_word_37 : decode cX9_word 37 = .ok (.invokevirtual 104, 3) := by decide +kernel
theorem dX9_word_40 : decode cX9_word 40 = .ok (.ireturn, 1) := by decide +kernel
theorem dX9_sayable_0 : decode cX9_sayable 0 = .ok (.iload_n 1, 1) := by decide +kernel
theorem dX9_sayable_1 : decode cX9_sayable 1 = .ok (.invokestatic 93, 3) := by decide +kernel
theorem dX9_sayable_4 : decode cX9_sayable 4 = .ok (.ifCond .eq 8, 3) := by decide +kernel
theorem dX9_sayable_7 : decode cX9_sayable 7 = .ok (.iload_n 3, 1) := by decide +kernel
theorem dX9_sayable_8 : decode cX9_sayable 8 = .ok (.iconst (-1), 1) := by decide +kernel
theorem dX9_sayable_9 : decode cX9_sayable 9 = .ok (.if_icmp .ge 5, 3) := by decide +kernel
theorem dX9_sayable_12 : decode cX9_sayable 12 = .ok (.iconst (-1), 1) := by decide +kernel
theorem dX9_sayable_13 : decode cX9_sayable 13 = .ok (.ireturn, 1) := by decide +kernel
theorem dX9_sayable_14 : decode cX9_sayable 14 = .ok (.iload_n 2, 1) := by decide +kernel
theorem dX9_sayable_15 : decode cX9_sayable 15 = .ok (.invokestatic 97, 3) := by decide +kernel
theorem dX9_sayable_18 : decode cX9_sayable 18 = .ok (.ifCond .ne 6, 3) := by decide +kernel
theorem dX9_sayable_21 : decode cX9_sayable 21 = .ok (.bipush (-2), 2) := by decide +kernel
theorem dX9_sayable_23 : decode cX9_sayable 23 = .ok (.ireturn, 1) := by decide +kernel
theorem dX9_sayable_24 : decode cX9_sayable 24 = .ok (.iconst 0, 1) := by decide +kernel
theorem dX9_sayable_25 : decode cX9_sayable 25 = .ok (.istore 4, 2) := by decide +kernel
theorem dX9_sayable_27 : decode cX9_sayable 27 = .ok (.iconst 1, 1) := by decide +kernel
theorem dX9_sayable_28 : decode cX9_sayable 28 = .ok (.istore 5, 2) := by decide +kernel
theorem dX9_sayable_30 : decode cX9_sayable 30 = .ok (.iload 5, 2) := by decide +kernel
theorem dX9_sayable_32 : decode cX9_sayable 32 = .ok (.bipush 99, 2) := by decide +kernel
theorem dX9_sayable_34 : decode cX9_sayable 34 = .ok (.if_icmp .gt 37, 3) := by decide +kernel
theorem dX9_sayable_37 : decode cX9_sayable 37 = .ok (.aload_n 0, 1) := by decide +kernel
theorem dX9_sayable_38 : decode cX9_sayable 38 = .ok (.getfield 28, 3) := by decide +kernel
theorem dX9_sayable_41 : decode cX9_sayable 41 = .ok (.iload 5, 2) := by decide +kernel
theorem dX9_sayable_43 : decode cX9_sayable 43 = .ok (.iload_n 1, 1) := by decide +kernel
theorem dX9_sayable_44 : decode cX9_sayable 44 = .ok (.iload_n 2, 1) := by decide +kernel
theorem dX9_sayable_45 : decode cX9_sayable 45 = .ok (.invokevirtual 104, 3) := by decide +kernel
theorem dX9_sayable_48 : decode cX9_sayable 48 = .ok (.bipush (-9), 2) := by decide +kernel
theorem dX9_sayable_50 : decode cX9_sayable 50 = .ok (.if_icmp .eq 15, 3) := by decide +kernel
theorem dX9_sayable_53 : decode cX9_sayable 53 = .ok (.iload 4, 2) := by decide +kernel
theorem dX9_sayable_55 : decode cX9_sayable 55 = .ok (.iload_n 3, 1) := by decide +kernel
theorem dX9_sayable_56 : decode cX9_sayable 56 = .ok (.if_icmp .ne 6, 3) := by decide +kernel
theorem dX9_sayable_59 : decode cX9_sayable 59 = .ok (.iload 5, 2) := by decide +kernel
theorem dX9_sayable_61 : decode cX9_sayable 61 = .ok (.ireturn, 1) := by decide +kernel
theorem dX9_sayable_62 : decode cX9_sayable 62 = .ok (.iinc 4 1, 3) := by decide +kernel
theorem dX9_sayable_65 : decode cX9_sayable 65 = .ok (.iinc 5 1, 3) := by decide +kernel
theorem dX9_sayable_68 : decode cX9_sayable 68 = .ok (.goto (-38), 3) := by decide +kernel
theorem dX9_sayable_71 : decode cX9_sayable 71 = .ok (.iload_n 3, 1) := by decide +kernel
theorem dX9_sayable_72 : decode cX9_sayable 72 = .ok (.iconst (-1), 1) := by decide +kernel
theorem dX9_sayable_73 : decode cX9_sayable 73 = .ok (.if_icmp .ne 8, 3) := by decide +kernel
theorem dX9_sayable_76 : decode cX9_sayable 76 = .ok (.iload 4, 2) := by decide +kernel
theorem dX9_sayable_78 : decode cX9_sayable 78 = .ok (.goto 5, 3) := by decide +kernel
theorem dX9_sayable_81 : decode cX9_sayable 81 = .ok (.bipush (-9), 2) := by decide +kernel
theorem dX9_sayable_83 : decode cX9_sayable 83 = .ok (.ireturn, 1) := by decide +kernel
theorem dX9_means_0 : decode cX9_means 0 = .ok (.aload_n 0, 1) := by decide +kernel
theorem dX9_means_1 : decode cX9_means 1 = .ok (.iload_n 1, 1) := by decide +kernel
theorem dX9_means_2 : decode cX9_means 2 = .ok (.iload_n 3, 1) := by decide +kernel
theorem dX9_means_3 : decode cX9_means 3 = .ok (.iload_n 2, 1) := by decide +kernel
theorem dX9_means_4 : decode cX9_means 4 = .ok (.invokestatic 97, 3) := by decide +kernel
theorem dX9_means_7 : decode cX9_means 7 = .ok (.ifCond .ne 7, 3) := by decide +kernel
theorem dX9_means_10 : decode cX9_means 10 = .ok (.iconst 1, 1) := by decide +kernel
theorem dX9_means_11 : decode cX9_means 11 = .ok (.goto 4, 3) := by decide +kernel
theorem dX9_means_14 : decode cX9_means 14 = .ok (.iconst 0, 1) := by decide +kernel
theorem dX9_means_15 : decode cX9_means 15 = .ok (.iload 4, 2) := by decide +kernel
theorem dX9_means_17 : decode cX9_means 17 = .ok (.iload 5, 2) := by decide +kernel
theorem dX9_means_19 : decode cX9_means 19 = .ok (.iload 6, 2) := by decide +kernel
theorem dX9_means_21 : decode cX9_means 21 = .ok (.invokevirtual 108, 3) := by decide +kernel
theorem dX9_means_24 : decode cX9_means 24 = .ok (.istore 7, 2) := by decide +kernel
theorem dX9_means_26 : decode cX9_means 26 = .ok (.iload 7, 2) := by decide +kernel
theorem dX9_means_28 : decode cX9_means 28 = .ok (.ifCond .ge 8, 3) := by decide +kernel
theorem dX9_means_31 : decode cX9_means 31 = .ok (.iload 7, 2) := by decide +kernel
theorem dX9_means_33 : decode cX9_means 33 = .ok (.goto 14, 3) := by decide +kernel
theorem dX9_means_36 : decode cX9_means 36 = .ok (.aload_n 0, 1) := by decide +kernel
theorem dX9_means_37 : decode cX9_means 37 = .ok (.iload_n 3, 1) := by decide +kernel
theorem dX9_means_38 : decode cX9_means 38 = .ok (.iload 5, 2) := by decide +kernel
theorem dX9_means_40 : decode cX9_means 40 = .ok (.iload 6, 2) := by decide +kernel
theorem dX9_means_42 : decode cX9_means 42 = .ok (.iload_n 1, 1) := by decide +kernel
theorem dX9_means_43 : decode cX9_means 43 = .ok (.iload_n 2, 1) := by decide +kernel
theorem dX9_means_44 : decode cX9_means 44 = .ok (.invokevirtual 111, 3) := by decide +kernel
theorem dX9_means_47 : decode cX9_means 47 = .ok (.ireturn, 1) := by decide +kernel
theorem dX9_say_0 : decode cX9_say 0 = .ok (.iload_n 2, 1) := by decide +kernel
theorem dX9_say_1 : decode cX9_say 1 = .ok (.invokestatic 93, 3) := by decide +kernel
theorem dX9_say_4 : decode cX9_say 4 = .ok (.ifCond .eq 9, 3) := by decide +kernel
theorem dX9_say_7 : decode cX9_say 7 = .ok (.iload 4, 2) := by decide +kernel
theorem dX9_say_9 : decode cX9_say 9 = .ok (.iconst (-1), 1) := by decide +kernel
theorem dX9_say_10 : decode cX9_say 10 = .ok (.if_icmp .ge 5, 3) := by decide +kernel
theorem dX9_say_13 : decode cX9_say 13 = .ok (.iconst (-1), 1) := by decide +kernel
theorem dX9_say_14 : decode cX9_say 14 = .ok (.ireturn, 1) := by decide +kernel
theorem dX9_say_15 : decode cX9_say 15 = .ok (.iload_n 1, 1) := by decide +kernel
theorem dX9_say_16 : decode cX9_say 16 = .ok (.invokestatic 115, 3) := by decide +kernel
theorem dX9_say_19 : decode cX9_say 19 = .ok (.ifCond .eq 10, 3) := by decide +kernel
theorem dX9_say_22 : decode cX9_say 22 = .ok (.iload_n 3, 1) := by decide +kernel
theorem dX9_say_23 : decode cX9_say 23 = .ok (.invokestatic 97, 3) := by decide +kernel
theorem dX9_say_26 : decode cX9_say 26 = .ok (.ifCond .ne 6, 3) := by decide +kernel
theorem dX9_say_29 : decode cX9_say 29 = .ok (.bipush (-2), 2) := by decide +kernel
theorem dX9_say_31 : decode cX9_say 31 = .ok (.ireturn, 1) := by decide +kernel
theorem dX9_say_32 : decode cX9_say 32 = .ok (.aload_n 0, 1) := by decide +kernel
theorem dX9_say_33 : decode cX9_say 33 = .ok (.iload_n 1, 1) := by decide +kernel
theorem dX9_say_34 : decode cX9_say 34 = .ok (.iload_n 2, 1) := by decide +kernel
theorem dX9_say_35 : decode cX9_say 35 = .ok (.iload_n 3, 1) := by decide +kernel
theorem dX9_say_36 : decode cX9_say 36 = .ok (.invokevirtual 118, 3) := by decide +kernel
theorem dX9_say_39 : decode cX9_say 39 = .ok (.istore 5, 2) := by decide +kernel
theorem dX9_say_41 : decode cX9_say 41 = .ok (.iload 4, 2) := by decide +kernel
theorem dX9_say_43 : decode cX9_say 43 = .ok (.iconst (-1), 1) := by decide +kernel
theorem dX9_say_44 : decode cX9_say 44 = .ok (.if_icmp .eq 10, 3) := by decide +kernel
theorem dX9_say_47 : decode cX9_say 47 = .ok (.iload 5, 2) := by decide +kernel
theorem dX9_say_49 : decode cX9_say 49 = .ok (.bipush (-9), 2) := by decide +kernel
theorem dX9_say_51 : decode cX9_say 51 = .ok (.if_icmp .ne 6, 3) := by decide +kernel
theorem dX9_say_54 : decode cX9_say 54 = .ok (.iload 5, 2) := by decide +kernel
theorem dX9_say_56 : decode cX9_say 56 = .ok (.ireturn, 1) := by decide +kernel
theorem dX9_say_57 : decode cX9_say 57 = .ok (.iload 4, 2) := by decide +kernel
theorem dX9_say_59 : decode cX9_say 59 = .ok (.iload 5, 2) := by decide +kernel
theorem dX9_say_61 : decode cX9_say 61 = .ok (.if_icmp .ge 15, 3) := by decide +kernel
theorem dX9_say_64 : decode cX9_say 64 = .ok (.aload_n 0, 1) := by decide +kernel
theorem dX9_say_65 : decode cX9_say 65 = .ok (.iload 4, 2) := by decide +kernel
theorem dX9_say_67 : decode cX9_say 67 = .ok (.iload_n 1, 1) := by decide +kernel
theorem dX9_say_68 : decode cX9_say 68 = .ok (.iload_n 2, 1) := by decide +kernel
theorem dX9_say_69 : decode cX9_say 69 = .ok (.iload_n 3, 1) := by decide +kernel
theorem dX9_say_70 : decode cX9_say 70 = .ok (.invokevirtual 121, 3) := by decide +kernel
theorem dX9_say_73 : decode cX9_say 73 = .ok (.goto 5, 3) := by decide +kernel
theorem dX9_say_76 : decode cX9_say 76 = .ok (.bipush (-9), 2) := by decide +kernel
theorem dX9_say_78 : decode cX9_say 78 = .ok (.ireturn, 1) := by decide +kernel
theorem dX9_turned_0 : decode cX9_turned 0 = .ok (.aload_n 0, 1) := by decide +kernel
theorem dX9_turned_1 : decode cX9_turned 1 = .ok (.iload_n 1, 1) := by decide +kernel
theorem dX9_turned_2 : decode cX9_turned 2 = .ok (.iload 4, 2) := by decide +kernel
theorem dX9_turned_4 : decode cX9_turned 4 = .ok (.iload_n 2, 1) := by decide +kernel
theorem dX9_turned_5 : decode cX9_turned 5 = .ok (.invokestatic 97, 3) := by decide +kernel
theorem dX9_turned_8 : decode cX9_turned 8 = .ok (.ifCond .eq 10, 3) := by decide +kernel
theorem dX9_turned_11 : decode cX9_turned 11 = .ok (.iload_n 3, 1) := by decide +kernel
theorem dX9_turned_12 : decode cX9_turned 12 = .ok (.invokestatic 97, 3) := by decide +kernel
theorem dX9_turned_15 : decode cX9_turned 15 = .ok (.ifCond .ne 7, 3) := by decide +kernel
theorem dX9_turned_18 : decode cX9_turned 18 = .ok (.iconst 1, 1) := by decide +kernel
theorem dX9_turned_19 : decode cX9_turned 19 = .ok (.goto 4, 3) := by decide +kernel
theorem dX9_turned_22 : decode cX9_turned 22 = .ok (.iconst 0, 1) := by decide +kernel
theorem dX9_turned_23 : decode cX9_turned 23 = .ok (.iload 5, 2) := by decide +kernel
theorem dX9_turned_25 : decode cX9_turned 25 = .ok (.iload 6, 2) := by decide +kernel
theorem dX9_turned_27 : decode cX9_turned 27 = .ok (.iload 7, 2) := by decide +kernel
theorem dX9_turned_29 : decode cX9_turned 29 = .ok (.invokevirtual 108, 3) := by decide +kernel
theorem dX9_turned_32 : decode cX9_turned 32 = .ok (.istore 8, 2) := by decide +kernel
theorem dX9_turned_34 : decode cX9_turned 34 = .ok (.iload 8, 2) := by decide +kernel
theorem dX9_turned_36 : decode cX9_turned 36 = .ok (.ifCond .ge 6, 3) := by decide +kernel
theorem dX9_turned_39 : decode cX9_turned 39 = .ok (.iload 8, 2) := by decide +kernel
theorem dX9_turned_41 : decode cX9_turned 41 = .ok (.ireturn, 1) := by decide +kernel
theorem dX9_turned_42 : decode cX9_turned 42 = .ok (.aload_n 0, 1) := by decide +kernel
theorem dX9_turned_43 : decode cX9_turned 43 = .ok (.iload 4, 2) := by decide +kernel
theorem dX9_turned_45 : decode cX9_turned 45 = .ok (.iload 6, 2) := by decide +kernel
theorem dX9_turned_47 : decode cX9_turned 47 = .ok (.iload 7, 2) := by decide +kernel
theorem dX9_turned_49 : decode cX9_turned 49 = .ok (.iload_n 1, 1) := by decide +kernel
theorem dX9_turned_50 : decode cX9_turned 50 = .ok (.iload_n 2, 1) := by decide +kernel
theorem dX9_turned_51 : decode cX9_turned 51 = .ok (.invokevirtual 111, 3) := by decide +kernel
theorem dX9_turned_54 : decode cX9_turned 54 = .ok (.istore 9, 2) := by decide +kernel
theorem dX9_turned_56 : decode cX9_turned 56 = .ok (.iload 9, 2) := by decide +kernel
theorem dX9_turned_58 : decode cX9_turned 58 = .ok (.invokestatic 115, 3) := by decide +kernel
theorem dX9_turned_61 : decode cX9_turned 61 = .ok (.ifCond .eq 14, 3) := by decide +kernel
theorem dX9_turned_64 : decode cX9_turned 64 = .ok (.aload_n 0, 1) := by decide +kernel
theorem dX9_turned_65 : decode cX9_turned 65 = .ok (.iload 9, 2) := by decide +kernel
theorem dX9_turned_67 : decode cX9_turned 67 = .ok (.iload_n 1, 1) := by decide +kernel
theorem dX9_turned_68 : decode cX9_turned 68 = .ok (.iload_n 3, 1) := by decide +kernel
theorem dX9_turned_69 : decode cX9_turned 69 = .ok (.invokevirtual 118, 3) := by decide +kernel
theorem dX9_turned_72 : decode cX9_turned 72 = .ok (.goto 5, 3) := by decide +kernel
theorem dX9_turned_75 : decode cX9_turned 75 = .ok (.bipush (-9), 2) := by decide +kernel
theorem dX9_turned_77 : decode cX9_turned 77 = .ok (.ireturn, 1) := by decide +kernel
theorem dX9_child_0 : decode cX9_child 0 = .ok (.iload_n 2, 1) := by decide +kernel
theorem dX9_child_1 : decode cX9_child 1 = .ok (.invokestatic 97, 3) := by decide +kernel
theorem dX9_child_4 : decode cX9_child 4 = .ok (.ifCond .eq 21, 3) := by decide +kernel
theorem dX9_child_7 : decode cX9_child 7 = .ok (.iload_n 3, 1) := by decide +kernel
theorem dX9_child_8 : decode cX9_child 8 = .ok (.invokestatic 125, 3) := by decide +kernel
theorem dX9_child_11 : decode cX9_child 11 = .ok (.ifCond .eq 14, 3) := by decide +kernel
theorem dX9_child_14 : decode cX9_child 14 = .ok (.iload 8, 2) := by decide +kernel
theorem dX9_child_16 : decode cX9_child 16 = .ok (.ifCond .lt 9, 3) := by decide +kernel
theorem dX9_child_19 : decode cX9_child 19 = .ok (.iload 8, 2) := by decide +kernel
theorem dX9_child_21 : decode cX9_child 21 = .ok (.iconst 1, 1) := by decide +kernel
theorem dX9_child_22 : decode cX9_child 22 = .ok (.if_icmp .le 7, 3) := by decide +kernel
theorem dX9_child_25 : decode cX9_child 25 = .ok (.iconst 1, 1) := by decide +kernel
theorem dX9_child_26 : decode cX9_child 26 = .ok (.goto 4, 3) := by decide +kernel
theorem dX9_child_29 : decode cX9_child 29 = .ok (.iconst 0, 1) := by decide +kernel
theorem dX9_child_30 : decode cX9_child 30 = .ok (.istore 9, 2) := by decide +kernel
theorem dX9_child_32 : decode cX9_child 32 = .ok (.aload_n 0, 1) := by decide +kernel
theorem dX9_child_33 : decode cX9_child 33 = .ok (.iload_n 1, 1) := by decide +kernel
theorem dX9_child_34 : decode cX9_child 34 = .ok (.iload 4, 2) := by decide +kernel
theorem dX9_child_36 : decode cX9_child 36 = .ok (.iload 9, 2) := by decide +kernel
theorem dX9_child_38 : decode cX9_child 38 = .ok (.iload 5, 2) := by decide +kernel
theorem dX9_child_40 : decode cX9_child 40 = .ok (.iload 6, 2) := by decide +kernel
theorem dX9_child_42 : decode cX9_child 42 = .ok (.iload 7, 2) := by decide +kernel
theorem dX9_child_44 : decode cX9_child 44 = .ok (.invokevirtual 64, 3) := by decide +kernel
theorem dX9_child_47 : decode cX9_child 47 = .ok (.istore 10, 2) := by decide +kernel
theorem dX9_child_49 : decode cX9_child 49 = .ok (.iload 10, 2) := by decide +kernel
theorem dX9_child_51 : decode cX9_child 51 = .ok (.ifCond .ge 6, 3) := by decide +kernel
theorem dX9_child_54 : decode cX9_child 54 = .ok (.iload 10, 2) := by decide +kernel
theorem dX9_child_56 : decode cX9_child 56 = .ok (.ireturn, 1) := by decide +kernel
theorem dX9_child_57 : decode cX9_child 57 = .ok (.iload 7, 2) := by decide +kernel
theorem dX9_child_59 : decode cX9_child 59 = .ok (.bipush 12, 2) := by decide +kernel
theorem dX9_child_61 : decode cX9_child 61 = .ok (.if_icmp .gt 16, 3) := by decide +kernel
theorem dX9_child_64 : decode cX9_child 64 = .ok (.aload_n 0, 1) := by decide +kernel
theorem dX9_child_65 : decode cX9_child 65 = .ok (.iload 4, 2) := by decide +kernel
theorem dX9_child_67 : decode cX9_child 67 = .ok (.iload 6, 2) := by decide +kernel
theorem dX9_child_69 : decode cX9_child 69 = .ok (.iload 7, 2) := by decide +kernel
theorem dX9_child_71 : decode cX9_child 71 = .ok (.invokevirtual 128, 3) := by decide +kernel
theorem dX9_child_74 : decode cX9_child 74 = .ok (.ifCond .ne 6, 3) := by decide +kernel
theorem dX9_child_77 : decode cX9_child 77 = .ok (.bipush (-2), 2) := by decide +kernel
theorem dX9_child_79 : decode cX9_child 79 = .ok (.ireturn, 1) := by decide +kernel
theorem dX9_child_80 : decode cX9_child 80 = .ok (.aload_n 0, 1) := by decide +kernel
theorem dX9_child_81 : decode cX9_child 81 = .ok (.getfield 28, 3) := by decide +kernel
theorem dX9_child_84 : decode cX9_child 84 = .ok (.aload_n 0, 1) := by decide +kernel
theorem dX9_child_85 : decode cX9_child 85 = .ok (.getfield 42, 3) := by decide +kernel
theorem dX9_child_88 : decode cX9_child 88 = .ok (.iload_n 1, 1) := by decide +kernel
theorem dX9_child_89 : decode cX9_child 89 = .ok (.iload_n 2, 1) := by decide +kernel
theorem dX9_child_90 : decode cX9_child 90 = .ok (.iconst (-1), 1) := by decide +kernel
theorem dX9_child_91 : decode cX9_child 91 = .ok (.invokevirtual 132, 3) := by decide +kernel
theorem dX9_child_94 : decode cX9_child 94 = .ok (.bipush (-9), 2) := by decide +kernel
theorem dX9_child_96 : decode cX9_child 96 = .ok (.istore 11, 2) := by decide +kernel
theorem dX9_child_98 : decode cX9_child 98 = .ok (.iconst (-1), 1) := by decide +kernel
theorem dX9_child_99 : decode cX9_child 99 = .ok (.istore 12, 2) := by decide +kernel
theorem dX9_child_101 : decode cX9_child 101 = .ok (.iconst 1, 1) := by decide +kernel
theorem dX9_child_102 : decode cX9_child 102 = .ok (.istore 13, 2) := by decide +kernel
theorem dX9_child_104 : decode cX9_child 104 = .ok (.iload 13, 2) := by decide +kernel
theorem dX9_child_106 : decode cX9_child 106 = .ok (.bipush 99, 2) := by decide +kernel
theorem dX9_child_108 : decode cX9_child 108 = .ok (.if_icmp .gt 39, 3) := by decide +kernel
end
section
theorem dX9_child_111 : decode cX9_child 111 = .ok (.aload_n 0, 1) := by decide +kernel
theorem dX9_child_112 : decode cX9_child 112 = .ok (.iload 13, 2) := by decide +kernel
theorem dX9_child_114 : decode cX9_child 114 = .ok (.iload_n 3, 1) := by decide +kernel
theorem dX9_child_115 : decode cX9_child 115 = .ok (.iload 4, 2) := by decide +kernel
theorem dX9_child_117 : decode cX9_child 117 = .ok (.iload 6, 2) := by decide +kernel
theorem dX9_child_119 : decode cX9_child 119 = .ok (.iload 7, 2) := by decide +kernel
theorem dX9_child_121 : decode cX9_child 121 = .ok (.invokevirtual 136, 3) := by decide +kernel
theorem dX9_child_124 : decode cX9_child 124 = .ok (.istore 14, 2) := by decide +kernel
theorem dX9_child_126 : decode cX9_child 126 = .ok (.iload 14, 2) := by decide +kernel
theorem dX9_child_128 : decode cX9_child 128 = .ok (.iload 12, 2) := by decide +kernel
theorem dX9_child_130 : decode cX9_child 130 = .ok (.if_icmp .le 11, 3) := by decide +kernel
theorem dX9_child_133 : decode cX9_child 133 = .ok (.iload 14, 2) := by decide +kernel
theorem dX9_child_135 : decode cX9_child 135 = .ok (.istore 12, 2) := by decide +kernel
theorem dX9_child_137 : decode cX9_child 137 = .ok (.iload 13, 2) := by decide +kernel
theorem dX9_child_139 : decode cX9_child 139 = .ok (.istore 11, 2) := by decide +kernel
theorem dX9_child_141 : decode cX9_child 141 = .ok (.iinc 13 1, 3) := by decide +kernel
theorem dX9_child_144 : decode cX9_child 144 = .ok (.goto (-40), 3) := by decide +kernel
theorem dX9_child_147 : decode cX9_child 147 = .ok (.iload 8, 2) := by decide +kernel
theorem dX9_child_149 : decode cX9_child 149 = .ok (.ifCond .ne 8, 3) := by decide +kernel
theorem dX9_child_152 : decode cX9_child 152 = .ok (.iload 11, 2) := by decide +kernel
theorem dX9_child_154 : decode cX9_child 154 = .ok (.goto 5, 3) := by decide +kernel
theorem dX9_child_157 : decode cX9_child 157 = .ok (.iload 12, 2) := by decide +kernel
theorem dX9_child_159 : decode cX9_child 159 = .ok (.ireturn, 1) := by decide +kernel
theorem dX9_both_0 : decode cX9_both 0 = .ok (.iload_n 1, 1) := by decide +kernel
theorem dX9_both_1 : decode cX9_both 1 = .ok (.invokestatic 115, 3) := by decide +kernel
theorem dX9_both_4 : decode cX9_both 4 = .ok (.ifCond .eq 17, 3) := by decide +kernel
theorem dX9_both_7 : decode cX9_both 7 = .ok (.iload_n 2, 1) := by decide +kernel
theorem dX9_both_8 : decode cX9_both 8 = .ok (.invokestatic 125, 3) := by decide +kernel
theorem dX9_both_11 : decode cX9_both 11 = .ok (.ifCond .eq 10, 3) := by decide +kernel
theorem dX9_both_14 : decode cX9_both 14 = .ok (.iload_n 3, 1) := by decide +kernel
theorem dX9_both_15 : decode cX9_both 15 = .ok (.invokestatic 97, 3) := by decide +kernel
theorem dX9_both_18 : decode cX9_both 18 = .ok (.ifCond .ne 6, 3) := by decide +kernel
theorem dX9_both_21 : decode cX9_both 21 = .ok (.bipush (-2), 2) := by decide +kernel
theorem dX9_both_23 : decode cX9_both 23 = .ok (.ireturn, 1) := by decide +kernel
theorem dX9_both_24 : decode cX9_both 24 = .ok (.aload_n 0, 1) := by decide +kernel
theorem dX9_both_25 : decode cX9_both 25 = .ok (.getfield 28, 3) := by decide +kernel
theorem dX9_both_28 : decode cX9_both 28 = .ok (.aload_n 0, 1) := by decide +kernel
theorem dX9_both_29 : decode cX9_both 29 = .ok (.getfield 42, 3) := by decide +kernel
theorem dX9_both_32 : decode cX9_both 32 = .ok (.iconst 0, 1) := by decide +kernel
theorem dX9_both_33 : decode cX9_both 33 = .ok (.iload_n 3, 1) := by decide +kernel
theorem dX9_both_34 : decode cX9_both 34 = .ok (.iconst (-1), 1) := by decide +kernel
theorem dX9_both_35 : decode cX9_both 35 = .ok (.invokevirtual 132, 3) := by decide +kernel
theorem dX9_both_38 : decode cX9_both 38 = .ok (.aload_n 0, 1) := by decide +kernel
theorem dX9_both_39 : decode cX9_both 39 = .ok (.getfield 28, 3) := by decide +kernel
theorem dX9_both_42 : decode cX9_both 42 = .ok (.aload_n 0, 1) := by decide +kernel
theorem dX9_both_43 : decode cX9_both 43 = .ok (.getfield 46, 3) := by decide +kernel
theorem dX9_both_46 : decode cX9_both 46 = .ok (.iconst 1, 1) := by decide +kernel
theorem dX9_both_47 : decode cX9_both 47 = .ok (.iload_n 3, 1) := by decide +kernel
theorem dX9_both_48 : decode cX9_both 48 = .ok (.iconst (-1), 1) := by decide +kernel
theorem dX9_both_49 : decode cX9_both 49 = .ok (.invokevirtual 132, 3) := by decide +kernel
theorem dX9_both_52 : decode cX9_both 52 = .ok (.iload_n 1, 1) := by decide +kernel
theorem dX9_both_53 : decode cX9_both 53 = .ok (.istore 4, 2) := by decide +kernel
theorem dX9_both_55 : decode cX9_both 55 = .ok (.iload 4, 2) := by decide +kernel
theorem dX9_both_57 : decode cX9_both 57 = .ok (.sipush 1000, 3) := by decide +kernel
theorem dX9_both_60 : decode cX9_both 60 = .ok (.if_icmp .ge 38, 3) := by decide +kernel
theorem dX9_both_63 : decode cX9_both 63 = .ok (.aload_n 0, 1) := by decide +kernel
theorem dX9_both_64 : decode cX9_both 64 = .ok (.getfield 42, 3) := by decide +kernel
theorem dX9_both_67 : decode cX9_both 67 = .ok (.iload 4, 2) := by decide +kernel
theorem dX9_both_69 : decode cX9_both 69 = .ok (.iload_n 2, 1) := by decide +kernel
theorem dX9_both_70 : decode cX9_both 70 = .ok (.invokevirtual 139, 3) := by decide +kernel
theorem dX9_both_73 : decode cX9_both 73 = .ok (.ifCond .eq 19, 3) := by decide +kernel
theorem dX9_both_76 : decode cX9_both 76 = .ok (.aload_n 0, 1) := by decide +kernel
theorem dX9_both_77 : decode cX9_both 77 = .ok (.getfield 46, 3) := by decide +kernel
theorem dX9_both_80 : decode cX9_both 80 = .ok (.iload 4, 2) := by decide +kernel
theorem dX9_both_82 : decode cX9_both 82 = .ok (.iload_n 2, 1) := by decide +kernel
theorem dX9_both_83 : decode cX9_both 83 = .ok (.invokevirtual 139, 3) := by decide +kernel
theorem dX9_both_86 : decode cX9_both 86 = .ok (.ifCond .eq 6, 3) := by decide +kernel
theorem dX9_both_89 : decode cX9_both 89 = .ok (.iload 4, 2) := by decide +kernel
theorem dX9_both_91 : decode cX9_both 91 = .ok (.ireturn, 1) := by decide +kernel
theorem dX9_both_92 : decode cX9_both 92 = .ok (.iinc 4 1, 3) := by decide +kernel
theorem dX9_both_95 : decode cX9_both 95 = .ok (.goto (-40), 3) := by decide +kernel
theorem dX9_both_98 : decode cX9_both 98 = .ok (.bipush (-9), 2) := by decide +kernel
theorem dX9_both_100 : decode cX9_both 100 = .ok (.ireturn, 1) := by decide +kernel
theorem dX9_written_0 : decode cX9_written 0 = .ok (.aload_n 0, 1) := by decide +kernel
theorem dX9_written_1 : decode cX9_written 1 = .ok (.iload_n 1, 1) := by decide +kernel
theorem dX9_written_2 : decode cX9_written 2 = .ok (.iload_n 2, 1) := by decide +kernel
theorem dX9_written_3 : decode cX9_written 3 = .ok (.iload 6, 2) := by decide +kernel
theorem dX9_written_5 : decode cX9_written 5 = .ok (.ifCond .lt 9, 3) := by decide +kernel
theorem dX9_written_8 : decode cX9_written 8 = .ok (.iload 6, 2) := by decide +kernel
theorem dX9_written_10 : decode cX9_written 10 = .ok (.iconst 2, 1) := by decide +kernel
theorem dX9_written_11 : decode cX9_written 11 = .ok (.if_icmp .le 7, 3) := by decide +kernel
theorem dX9_written_14 : decode cX9_written 14 = .ok (.iconst 1, 1) := by decide +kernel
theorem dX9_written_15 : decode cX9_written 15 = .ok (.goto 4, 3) := by decide +kernel
theorem dX9_written_18 : decode cX9_written 18 = .ok (.iconst 0, 1) := by decide +kernel
theorem dX9_written_19 : decode cX9_written 19 = .ok (.iload_n 3, 1) := by decide +kernel
theorem dX9_written_20 : decode cX9_written 20 = .ok (.iload 4, 2) := by decide +kernel
theorem dX9_written_22 : decode cX9_written 22 = .ok (.iload 5, 2) := by decide +kernel
theorem dX9_written_24 : decode cX9_written 24 = .ok (.invokevirtual 108, 3) := by decide +kernel
theorem dX9_written_27 : decode cX9_written 27 = .ok (.istore 7, 2) := by decide +kernel
theorem dX9_written_29 : decode cX9_written 29 = .ok (.iload 7, 2) := by decide +kernel
theorem dX9_written_31 : decode cX9_written 31 = .ok (.ifCond .ge 6, 3) := by decide +kernel
theorem dX9_written_34 : decode cX9_written 34 = .ok (.iload 7, 2) := by decide +kernel
theorem dX9_written_36 : decode cX9_written 36 = .ok (.ireturn, 1) := by decide +kernel
theorem dX9_written_37 : decode cX9_written 37 = .ok (.iconst 0, 1) := by decide +kernel
theorem dX9_written_38 : decode cX9_written 38 = .ok (.istore 8, 2) := by decide +kernel
theorem dX9_written_40 : decode cX9_written 40 = .ok (.bipush (-9), 2) := by decide +kernel
theorem dX9_written_42 : decode cX9_written 42 = .ok (.istore 9, 2) := by decide +kernel
theorem dX9_written_44 : decode cX9_written 44 = .ok (.bipush (-9), 2) := by decide +kernel
theorem dX9_written_46 : decode cX9_written 46 = .ok (.istore 10, 2) := by decide +kernel
theorem dX9_written_48 : decode cX9_written 48 = .ok (.iconst 0, 1) := by decide +kernel
theorem dX9_written_49 : decode cX9_written 49 = .ok (.istore 11, 2) := by decide +kernel
theorem dX9_written_51 : decode cX9_written 51 = .ok (.iload 11, 2) := by decide +kernel
theorem dX9_written_53 : decode cX9_written 53 = .ok (.bipush 110, 2) := by decide +kernel
theorem dX9_written_55 : decode cX9_written 55 = .ok (.if_icmp .ge 47, 3) := by decide +kernel
theorem dX9_written_58 : decode cX9_written 58 = .ok (.aload_n 0, 1) := by decide +kernel
theorem dX9_written_59 : decode cX9_written 59 = .ok (.iload_n 2, 1) := by decide +kernel
theorem dX9_written_60 : decode cX9_written 60 = .ok (.iload 4, 2) := by decide +kernel
theorem dX9_written_62 : decode cX9_written 62 = .ok (.iload 5, 2) := by decide +kernel
theorem dX9_written_64 : decode cX9_written 64 = .ok (.iload_n 1, 1) := by decide +kernel
theorem dX9_written_65 : decode cX9_written 65 = .ok (.iload 11, 2) := by decide +kernel
theorem dX9_written_67 : decode cX9_written 67 = .ok (.invokevirtual 111, 3) := by decide +kernel
theorem dX9_written_70 : decode cX9_written 70 = .ok (.ifCond .lt 26, 3) := by decide +kernel
theorem dX9_written_73 : decode cX9_written 73 = .ok (.iinc 8 1, 3) := by decide +kernel
theorem dX9_written_76 : decode cX9_written 76 = .ok (.iload 9, 2) := by decide +kernel
theorem dX9_written_78 : decode cX9_written 78 = .ok (.bipush (-9), 2) := by decide +kernel
theorem dX9_written_80 : decode cX9_written 80 = .ok (.if_icmp .ne 8, 3) := by decide +kernel
theorem dX9_written_83 : decode cX9_written 83 = .ok (.iload 11, 2) := by decide +kernel
theorem dX9_written_85 : decode cX9_written 85 = .ok (.goto 5, 3) := by decide +kernel
theorem dX9_written_88 : decode cX9_written 88 = .ok (.iload 9, 2) := by decide +kernel
theorem dX9_written_90 : decode cX9_written 90 = .ok (.istore 9, 2) := by decide +kernel
theorem dX9_written_92 : decode cX9_written 92 = .ok (.iload 11, 2) := by decide +kernel
theorem dX9_written_94 : decode cX9_written 94 = .ok (.istore 10, 2) := by decide +kernel
theorem dX9_written_96 : decode cX9_written 96 = .ok (.iinc 11 1, 3) := by decide +kernel
theorem dX9_written_99 : decode cX9_written 99 = .ok (.goto (-48), 3) := by decide +kernel
theorem dX9_written_102 : decode cX9_written 102 = .ok (.iload 6, 2) := by decide +kernel
theorem dX9_written_104 : decode cX9_written 104 = .ok (.ifCond .ne 6, 3) := by decide +kernel
theorem dX9_written_107 : decode cX9_written 107 = .ok (.iload 8, 2) := by decide +kernel
theorem dX9_written_109 : decode cX9_written 109 = .ok (.ireturn, 1) := by decide +kernel
theorem dX9_written_110 : decode cX9_written 110 = .ok (.iload 6, 2) := by decide +kernel
theorem dX9_written_112 : decode cX9_written 112 = .ok (.iconst 1, 1) := by decide +kernel
theorem dX9_written_113 : decode cX9_written 113 = .ok (.if_icmp .ne 8, 3) := by decide +kernel
theorem dX9_written_116 : decode cX9_written 116 = .ok (.iload 9, 2) := by decide +kernel
theorem dX9_written_118 : decode cX9_written 118 = .ok (.goto 5, 3) := by decide +kernel
theorem dX9_written_121 : decode cX9_written 121 = .ok (.iload 10, 2) := by decide +kernel
theorem dX9_written_123 : decode cX9_written 123 = .ok (.ireturn, 1) := by decide +kernel
theorem dX9_lost_0 : decode cX9_lost 0 = .ok (.aload_n 0, 1) := by decide +kernel
theorem dX9_lost_1 : decode cX9_lost 1 = .ok (.getfield 28, 3) := by decide +kernel
theorem dX9_lost_4 : decode cX9_lost 4 = .ok (.iload_n 1, 1) := by decide +kernel
theorem dX9_lost_5 : decode cX9_lost 5 = .ok (.invokevirtual 83, 3) := by decide +kernel
theorem dX9_lost_8 : decode cX9_lost 8 = .ok (.ifnull 10, 3) := by decide +kernel
theorem dX9_lost_11 : decode cX9_lost 11 = .ok (.iload_n 2, 1) := by decide +kernel
theorem dX9_lost_12 : decode cX9_lost 12 = .ok (.invokestatic 93, 3) := by decide +kernel
theorem dX9_lost_15 : decode cX9_lost 15 = .ok (.ifCond .ne 5, 3) := by decide +kernel
theorem dX9_lost_18 : decode cX9_lost 18 = .ok (.iconst (-1), 1) := by decide +kernel
theorem dX9_lost_19 : decode cX9_lost 19 = .ok (.ireturn, 1) := by decide +kernel
theorem dX9_lost_20 : decode cX9_lost 20 = .ok (.iload_n 3, 1) := by decide +kernel
theorem dX9_lost_21 : decode cX9_lost 21 = .ok (.invokestatic 97, 3) := by decide +kernel
theorem dX9_lost_24 : decode cX9_lost 24 = .ok (.ifCond .eq 11, 3) := by decide +kernel
theorem dX9_lost_27 : decode cX9_lost 27 = .ok (.iload 4, 2) := by decide +kernel
theorem dX9_lost_29 : decode cX9_lost 29 = .ok (.invokestatic 125, 3) := by decide +kernel
theorem dX9_lost_32 : decode cX9_lost 32 = .ok (.ifCond .ne 6, 3) := by decide +kernel
theorem dX9_lost_35 : decode cX9_lost 35 = .ok (.bipush (-2), 2) := by decide +kernel
theorem dX9_lost_37 : decode cX9_lost 37 = .ok (.ireturn, 1) := by decide +kernel
theorem dX9_lost_38 : decode cX9_lost 38 = .ok (.aload_n 0, 1) := by decide +kernel
theorem dX9_lost_39 : decode cX9_lost 39 = .ok (.getfield 28, 3) := by decide +kernel
theorem dX9_lost_42 : decode cX9_lost 42 = .ok (.aload_n 0, 1) := by decide +kernel
theorem dX9_lost_43 : decode cX9_lost 43 = .ok (.getfield 42, 3) := by decide +kernel
theorem dX9_lost_46 : decode cX9_lost 46 = .ok (.iload_n 2, 1) := by decide +kernel
theorem dX9_lost_47 : decode cX9_lost 47 = .ok (.iload_n 3, 1) := by decide +kernel
theorem dX9_lost_48 : decode cX9_lost 48 = .ok (.iconst (-1), 1) := by decide +kernel
theorem dX9_lost_49 : decode cX9_lost 49 = .ok (.invokevirtual 132, 3) := by decide +kernel
theorem dX9_lost_52 : decode cX9_lost 52 = .ok (.aload_n 0, 1) := by decide +kernel
theorem dX9_lost_53 : decode cX9_lost 53 = .ok (.getfield 28, 3) := by decide +kernel
theorem dX9_lost_56 : decode cX9_lost 56 = .ok (.aload_n 0, 1) := by decide +kernel
theorem dX9_lost_57 : decode cX9_lost 57 = .ok (.getfield 46, 3) := by decide +kernel
theorem dX9_lost_60 : decode cX9_lost 60 = .ok (.iload_n 2, 1) := by decide +kernel
theorem dX9_lost_61 : decode cX9_lost 61 = .ok (.iload_n 3, 1) := by decide +kernel
theorem dX9_lost_62 : decode cX9_lost 62 = .ok (.iload_n 1, 1) := by decide +kernel
theorem dX9_lost_63 : decode cX9_lost 63 = .ok (.invokevirtual 132, 3) := by decide +kernel
theorem dX9_lost_66 : decode cX9_lost 66 = .ok (.iconst 0, 1) := by decide +kernel
theorem dX9_lost_67 : decode cX9_lost 67 = .ok (.istore 5, 2) := by decide +kernel
theorem dX9_lost_69 : decode cX9_lost 69 = .ok (.iconst 1, 1) := by decide +kernel
theorem dX9_lost_70 : decode cX9_lost 70 = .ok (.istore 6, 2) := by decide +kernel
theorem dX9_lost_72 : decode cX9_lost 72 = .ok (.iload 6, 2) := by decide +kernel
theorem dX9_lost_74 : decode cX9_lost 74 = .ok (.bipush 99, 2) := by decide +kernel
theorem dX9_lost_76 : decode cX9_lost 76 = .ok (.if_icmp .gt 40, 3) := by decide +kernel
theorem dX9_lost_79 : decode cX9_lost 79 = .ok (.aload_n 0, 1) := by decide +kernel
theorem dX9_lost_80 : decode cX9_lost 80 = .ok (.getfield 42, 3) := by decide +kernel
theorem dX9_lost_83 : decode cX9_lost 83 = .ok (.iload 6, 2) := by decide +kernel
theorem dX9_lost_85 : decode cX9_lost 85 = .ok (.iload 4, 2) := by decide +kernel
theorem dX9_lost_87 : decode cX9_lost 87 = .ok (.invokevirtual 139, 3) := by decide +kernel
theorem dX9_lost_90 : decode cX9_lost 90 = .ok (.ifCond .eq 20, 3) := by decide +kernel
theorem dX9_lost_93 : decode cX9_lost 93 = .ok (.aload_n 0, 1) := by decide +kernel
theorem dX9_lost_94 : decode cX9_lost 94 = .ok (.getfield 46, 3) := by decide +kernel
theorem dX9_lost_97 : decode cX9_lost 97 = .ok (.iload 6, 2) := by decide +kernel
theorem dX9_lost_99 : decode cX9_lost 99 = .ok (.iload 4, 2) := by decide +kernel
theorem dX9_lost_101 : decode cX9_lost 101 = .ok (.invokevirtual 139, 3) := by decide +kernel
theorem dX9_lost_104 : decode cX9_lost 104 = .ok (.ifCond .ne 6, 3) := by decide +kernel
theorem dX9_lost_107 : decode cX9_lost 107 = .ok (.iinc 5 1, 3) := by decide +kernel
theorem dX9_lost_110 : decode cX9_lost 110 = .ok (.iinc 6 1, 3) := by decide +kernel
theorem dX9_lost_113 : decode cX9_lost 113 = .ok (.goto (-41), 3) := by decide +kernel
theorem dX9_lost_116 : decode cX9_lost 116 = .ok (.iload 5, 2) := by decide +kernel
theorem dX9_lost_118 : decode cX9_lost 118 = .ok (.ireturn, 1) := by decide +kernel
theorem dX9_back_0 : decode cX9_back 0 = .ok (.iload_n 2, 1) := by decide +kernel
theorem dX9_back_1 : decode cX9_back 1 = .ok (.invokestatic 93, 3) := by decide +kernel
theorem dX9_back_4 : decode cX9_back 4 = .ok (.ifCond .eq 15, 3) := by decide +kernel
theorem dX9_back_7 : decode cX9_back 7 = .ok (.iload 5, 2) := by decide +kernel
theorem dX9_back_9 : decode cX9_back 9 = .ok (.iconst (-1), 1) := by decide +kernel
theorem dX9_back_10 : decode cX9_back 10 = .ok (.if_icmp .lt 9, 3) := by decide +kernel
theorem dX9_back_13 : decode cX9_back 13 = .ok (.iload 5, 2) := by decide +kernel
theorem dX9_back_15 : decode cX9_back 15 = .ok (.iconst 3, 1) := by decide +kernel
theorem dX9_back_16 : decode cX9_back 16 = .ok (.if_icmp .lt 5, 3) := by decide +kernel
theorem dX9_back_19 : decode cX9_back 19 = .ok (.iconst (-1), 1) := by decide +kernel
theorem dX9_back_20 : decode cX9_back 20 = .ok (.ireturn, 1) := by decide +kernel
theorem dX9_back_21 : decode cX9_back 21 = .ok (.iload_n 1, 1) := by decide +kernel
theorem dX9_back_22 : decode cX9_back 22 = .ok (.invokestatic 115, 3) := by decide +kernel
theorem dX9_back_25 : decode cX9_back 25 = .ok (.ifCond .eq 18, 3) := by decide +kernel
theorem dX9_back_28 : decode cX9_back 28 = .ok (.iload_n 3, 1) := by decide +kernel
theorem dX9_back_29 : decode cX9_back 29 = .ok (.invokestatic 97, 3) := by decide +kernel
theorem dX9_back_32 : decode cX9_back 32 = .ok (.ifCond .eq 11, 3) := by decide +kernel
theorem dX9_back_35 : decode cX9_back 35 = .ok (.iload 4, 2) := by decide +kernel
theorem dX9_back_37 : decode cX9_back 37 = .ok (.invokestatic 125, 3) := by decide +kernel
theorem dX9_back_40 : decode cX9_back 40 = .ok (.ifCond .ne 6, 3) := by decide +kernel
theorem dX9_back_43 : decode cX9_back 43 = .ok (.bipush (-2), 2) := by decide +kernel
theorem dX9_back_45 : decode cX9_back 45 = .ok (.ireturn, 1) := by decide +kernel
theorem dX9_back_46 : decode cX9_back 46 = .ok (.aload_n 0, 1) := by decide +kernel
theorem dX9_back_47 : decode cX9_back 47 = .ok (.getfield 28, 3) := by decide +kernel
theorem dX9_back_50 : decode cX9_back 50 = .ok (.aload_n 0, 1) := by decide +kernel
theorem dX9_back_51 : decode cX9_back 51 = .ok (.getfield 42, 3) := by decide +kernel
theorem dX9_back_54 : decode cX9_back 54 = .ok (.iload_n 2, 1) := by decide +kernel
theorem dX9_back_55 : decode cX9_back 55 = .ok (.iload_n 3, 1) := by decide +kernel
theorem dX9_back_56 : decode cX9_back 56 = .ok (.iconst (-1), 1) := by decide +kernel
theorem dX9_back_57 : decode cX9_back 57 = .ok (.invokevirtual 132, 3) := by decide +kernel
theorem dX9_back_60 : decode cX9_back 60 = .ok (.aload_n 0, 1) := by decide +kernel
theorem dX9_back_61 : decode cX9_back 61 = .ok (.getfield 52, 3) := by decide +kernel
theorem dX9_back_64 : decode cX9_back 64 = .ok (.aload_n 0, 1) := by decide +kernel
theorem dX9_back_65 : decode cX9_back 65 = .ok (.getfield 28, 3) := by decide +kernel
theorem dX9_back_68 : decode cX9_back 68 = .ok (.aload_n 0, 1) := by decide +kernel
theorem dX9_back_69 : decode cX9_back 69 = .ok (.getfield 42, 3) := by decide +kernel
theorem dX9_back_72 : decode cX9_back 72 = .ok (.iload_n 1, 1) := by decide +kernel
theorem dX9_back_73 : decode cX9_back 73 = .ok (.iload 4, 2) := by decide +kernel
theorem dX9_back_75 : decode cX9_back 75 = .ok (.invokevirtual 142, 3) := by decide +kernel
theorem dX9_back_78 : decode cX9_back 78 = .ok (.istore 6, 2) := by decide +kernel
theorem dX9_back_80 : decode cX9_back 80 = .ok (.iload 5, 2) := by decide +kernel
theorem dX9_back_82 : decode cX9_back 82 = .ok (.iconst (-1), 1) := by decide +kernel
theorem dX9_back_83 : decode cX9_back 83 = .ok (.if_icmp .eq 10, 3) := by decide +kernel
theorem dX9_back_86 : decode cX9_back 86 = .ok (.iload 6, 2) := by decide +kernel
theorem dX9_back_88 : decode cX9_back 88 = .ok (.bipush (-9), 2) := by decide +kernel
theorem dX9_back_90 : decode cX9_back 90 = .ok (.if_icmp .ne 6, 3) := by decide +kernel
theorem dX9_back_93 : decode cX9_back 93 = .ok (.iload 6, 2) := by decide +kernel
theorem dX9_back_95 : decode cX9_back 95 = .ok (.ireturn, 1) := by decide +kernel
theorem dX9_back_96 : decode cX9_back 96 = .ok (.iload 5, 2) := by decide +kernel
theorem dX9_back_98 : decode cX9_back 98 = .ok (.iload 6, 2) := by decide +kernel
theorem dX9_back_100 : decode cX9_back 100 = .ok (.if_icmp .ge 15, 3) := by decide +kernel
theorem dX9_back_103 : decode cX9_back 103 = .ok (.aload_n 0, 1) := by decide +kernel
theorem dX9_back_104 : decode cX9_back 104 = .ok (.getfield 52, 3) := by decide +kernel
theorem dX9_back_107 : decode cX9_back 107 = .ok (.iload 5, 2) := by decide +kernel
theorem dX9_back_109 : decode cX9_back 109 = .ok (.invokevirtual 146, 3) := by decide +kernel
theorem dX9_back_112 : decode cX9_back 112 = .ok (.goto 5, 3) := by decide +kernel
theorem dX9_back_115 : decode cX9_back 115 = .ok (.bipush (-9), 2) := by decide +kernel
theorem dX9_back_117 : decode cX9_back 117 = .ok (.ireturn, 1) := by decide +kernel
theorem dX9_told_0 : decode cX9_told 0 = .ok (.iload_n 1, 1) := by decide +kernel
theorem dX9_told_1 : decode cX9_told 1 = .ok (.invokestatic 93, 3) := by decide +kernel
theorem dX9_told_4 : decode cX9_told 4 = .ok (.ifCond .eq 28, 3) := by decide +kernel
theorem dX9_told_7 : decode cX9_told 7 = .ok (.iload_n 2, 1) := by decide +kernel
theorem dX9_told_8 : decode cX9_told 8 = .ok (.invokestatic 97, 3) := by decide +kernel
theorem dX9_told_11 : decode cX9_told 11 = .ok (.ifCond .eq 21, 3) := by decide +kernel
theorem dX9_told_14 : decode cX9_told 14 = .ok (.iload_n 3, 1) := by decide +kernel
theorem dX9_told_15 : decode cX9_told 15 = .ok (.invokestatic 125, 3) := by decide +kernel
theorem dX9_told_18 : decode cX9_told 18 = .ok (.ifCond .eq 14, 3) := by decide +kernel
theorem dX9_told_21 : decode cX9_told 21 = .ok (.iload 4, 2) := by decide +kernel
theorem dX9_told_23 : decode cX9_told 23 = .ok (.ifCond .lt 9, 3) := by decide +kernel
theorem dX9_told_26 : decode cX9_told 26 = .ok (.iload 4, 2) := by decide +kernel
theorem dX9_told_28 : decode cX9_told 28 = .ok (.iconst 1, 1) := by decide +kernel
theorem dX9_told_29 : decode cX9_told 29 = .ok (.if_icmp .le 7, 3) := by decide +kernel
theorem dX9_told_32 : decode cX9_told 32 = .ok (.ldc2_w 149, 3) := by decide +kernel
theorem dX9_told_35 : decode cX9_told 35 = .ok (.lreturn, 1) := by decide +kernel
theorem dX9_told_36 : decode cX9_told 36 = .ok (.aload_n 0, 1) := by decide +kernel
theorem dX9_told_37 : decode cX9_told 37 = .ok (.getfield 28, 3) := by decide +kernel
theorem dX9_told_40 : decode cX9_told 40 = .ok (.aload_n 0, 1) := by decide +kernel
theorem dX9_told_41 : decode cX9_told 41 = .ok (.getfield 42, 3) := by decide +kernel
theorem dX9_told_44 : decode cX9_told 44 = .ok (.iload_n 1, 1) := by decide +kernel
theorem dX9_told_45 : decode cX9_told 45 = .ok (.iload_n 2, 1) := by decide +kernel
theorem dX9_told_46 : decode cX9_told 46 = .ok (.iconst (-1), 1) := by decide +kernel
theorem dX9_told_47 : decode cX9_told 47 = .ok (.invokevirtual 132, 3) := by decide +kernel
theorem dX9_told_50 : decode cX9_told 50 = .ok (.iconst 0, 1) := by decide +kernel
theorem dX9_told_51 : decode cX9_told 51 = .ok (.istore 5, 2) := by decide +kernel
theorem dX9_told_53 : decode cX9_told 53 = .ok (.iconst 1, 1) := by decide +kernel
theorem dX9_told_54 : decode cX9_told 54 = .ok (.istore 6, 2) := by decide +kernel
theorem dX9_told_56 : decode cX9_told 56 = .ok (.iload 6, 2) := by decide +kernel
theorem dX9_told_58 : decode cX9_told 58 = .ok (.bipush 99, 2) := by decide +kernel
theorem dX9_told_60 : decode cX9_told 60 = .ok (.if_icmp .gt 25, 3) := by decide +kernel
theorem dX9_told_63 : decode cX9_told 63 = .ok (.aload_n 0, 1) := by decide +kernel
theorem dX9_told_64 : decode cX9_told 64 = .ok (.getfield 42, 3) := by decide +kernel
theorem dX9_told_67 : decode cX9_told 67 = .ok (.iload 6, 2) := by decide +kernel
theorem dX9_told_69 : decode cX9_told 69 = .ok (.iload_n 3, 1) := by decide +kernel
theorem dX9_told_70 : decode cX9_told 70 = .ok (.invokevirtual 139, 3) := by decide +kernel
theorem dX9_told_73 : decode cX9_told 73 = .ok (.ifCond .eq 6, 3) := by decide +kernel
theorem dX9_told_76 : decode cX9_told 76 = .ok (.iinc 5 1, 3) := by decide +kernel
theorem dX9_told_79 : decode cX9_told 79 = .ok (.iinc 6 1, 3) := by decide +kernel
theorem dX9_told_82 : decode cX9_told 82 = .ok (.goto (-26), 3) := by decide +kernel
theorem dX9_told_85 : decode cX9_told 85 = .ok (.iload 4, 2) := by decide +kernel
theorem dX9_told_87 : decode cX9_told 87 = .ok (.ifCond .ne 14, 3) := by decide +kernel
theorem dX9_told_90 : decode cX9_told 90 = .ok (.iload 5, 2) := by decide +kernel
theorem dX9_told_92 : decode cX9_told 92 = .ok (.bipush 99, 2) := by decide +kernel
theorem dX9_told_94 : decode cX9_told 94 = .ok (.invokestatic 151, 3) := by decide +kernel
theorem dX9_told_97 : decode cX9_told 97 = .ok (.i2l, 1) := by decide +kernel
theorem dX9_told_98 : decode cX9_told 98 = .ok (.goto 11, 3) := by decide +kernel
theorem dX9_told_101 : decode cX9_told 101 = .ok (.bipush 99, 2) := by decide +kernel
theorem dX9_told_103 : decode cX9_told 103 = .ok (.iload 5, 2) := by decide +kernel
theorem dX9_told_105 : decode cX9_told 105 = .ok (.invokestatic 151, 3) := by decide +kernel
theorem dX9_told_108 : decode cX9_told 108 = .ok (.i2l, 1) := by decide +kernel
theorem dX9_told_109 : decode cX9_told 109 = .ok (.lreturn, 1) := by decide +kernel
theorem dX9_sheet_0 : decode cX9_sheet 0 = .ok (.aload_n 0, 1) := by decide +kernel
theorem dX9_sheet_1 : decode cX9_sheet 1 = .ok (.iconst 0, 1) := by decide +kernel
theorem dX9_sheet_2 : decode cX9_sheet 2 = .ok (.putfield 60, 3) := by decide +kernel
theorem dX9_sheet_5 : decode cX9_sheet 5 = .ok (.iload_n 1, 1) := by decide +kernel
theorem dX9_sheet_6 : decode cX9_sheet 6 = .ok (.invokestatic 155, 3) := by decide +kernel
theorem dX9_sheet_9 : decode cX9_sheet 9 = .ok (.ifCond .ne 5, 3) := by decide +kernel
theorem dX9_sheet_12 : decode cX9_sheet 12 = .ok (.iconst (-1), 1) := by decide +kernel
theorem dX9_sheet_13 : decode cX9_sheet 13 = .ok (.ireturn, 1) := by decide +kernel
theorem dX9_sheet_14 : decode cX9_sheet 14 = .ok (.iload_n 2, 1) := by decide +kernel
theorem dX9_sheet_15 : decode cX9_sheet 15 = .ok (.invokestatic 158, 3) := by decide +kernel
theorem dX9_sheet_18 : decode cX9_sheet 18 = .ok (.ifCond .eq 9, 3) := by decide +kernel
theorem dX9_sheet_21 : decode cX9_sheet 21 = .ok (.iload_n 3, 1) := by decide +kernel
theorem dX9_sheet_22 : decode cX9_sheet 22 = .ok (.bipush 100, 2) := by decide +kernel
theorem dX9_sheet_24 : decode cX9_sheet 24 = .ok (.if_icmp .le 6, 3) := by decide +kernel
theorem dX9_sheet_27 : decode cX9_sheet 27 = .ok (.bipush (-2), 2) := by decide +kernel
theorem dX9_sheet_29 : decode cX9_sheet 29 = .ok (.ireturn, 1) := by decide +kernel
theorem dX9_sheet_30 : decode cX9_sheet 30 = .ok (.iload_n 3, 1) := by decide +kernel
theorem dX9_sheet_31 : decode cX9_sheet 31 = .ok (.ifCond .ge 9, 3) := by decide +kernel
theorem dX9_sheet_34 : decode cX9_sheet 34 = .ok (.aload_n 0, 1) := by decide +kernel
theorem dX9_sheet_35 : decode cX9_sheet 35 = .ok (.iconst 4, 1) := by decide +kernel
theorem dX9_sheet_36 : decode cX9_sheet 36 = .ok (.invokevirtual 161, 3) := by decide +kernel
theorem dX9_sheet_39 : decode cX9_sheet 39 = .ok (.ireturn, 1) := by decide +kernel
theorem dX9_sheet_40 : decode cX9_sheet 40 = .ok (.aload_n 0, 1) := by decide +kernel
theorem dX9_sheet_41 : decode cX9_sheet 41 = .ok (.getfield 12, 3) := by decide +kernel
theorem dX9_sheet_44 : decode cX9_sheet 44 = .ok (.iload_n 1, 1) := by decide +kernel
theorem dX9_sheet_45 : decode cX9_sheet 45 = .ok (.iload_n 2, 1) := by decide +kernel
theorem dX9_sheet_46 : decode cX9_sheet 46 = .ok (.iload_n 3, 1) := by decide +kernel
theorem dX9_sheet_47 : decode cX9_sheet 47 = .ok (.invokevirtual 164, 3) := by decide +kernel
theorem dX9_sheet_50 : decode cX9_sheet 50 = .ok (.iconst 1, 1) := by decide +kernel
theorem dX9_sheet_51 : decode cX9_sheet 51 = .ok (.ireturn, 1) := by decide +kernel
theorem dX9_lose_0 : decode cX9_lose 0 = .ok (.iload_n 1, 1) := by decide +kernel
theorem dX9_lose_1 : decode cX9_lose 1 = .ok (.invokestatic 155, 3) := by decide +kernel
theorem dX9_lose_4 : decode cX9_lose 4 = .ok (.ifCond .ne 5, 3) := by decide +kernel
theorem dX9_lose_7 : decode cX9_lose 7 = .ok (.iconst (-1), 1) := by decide +kernel
theorem dX9_lose_8 : decode cX9_lose 8 = .ok (.ireturn, 1) := by decide +kernel
theorem dX9_lose_9 : decode cX9_lose 9 = .ok (.aload_n 0, 1) := by decide +kernel
theorem dX9_lose_10 : decode cX9_lose 10 = .ok (.getfield 12, 3) := by decide +kernel
theorem dX9_lose_13 : decode cX9_lose 13 = .ok (.iload_n 1, 1) := by decide +kernel
theorem dX9_lose_14 : decode cX9_lose 14 = .ok (.invokevirtual 168, 3) := by decide +kernel
theorem dX9_lose_17 : decode cX9_lose 17 = .ok (.ifCond .ne 5, 3) := by decide +kernel
theorem dX9_lose_20 : decode cX9_lose 20 = .ok (.iconst 0, 1) := by decide +kernel
theorem dX9_lose_21 : decode cX9_lose 21 = .ok (.ireturn, 1) := by decide +kernel
theorem dX9_lose_22 : decode cX9_lose 22 = .ok (.aload_n 0, 1) := by decide +kernel
theorem dX9_lose_23 : decode cX9_lose 23 = .ok (.getfield 12, 3) := by decide +kernel
theorem dX9_lose_26 : decode cX9_lose 26 = .ok (.iload_n 1, 1) := by decide +kernel
theorem dX9_lose_27 : decode cX9_lose 27 = .ok (.invokevirtual 171, 3) := by decide +kernel
theorem dX9_lose_30 : decode cX9_lose 30 = .ok (.iconst 1, 1) := by decide +kernel
theorem dX9_lose_31 : decode cX9_lose 31 = .ok (.ireturn, 1) := by decide +kernel
theorem dX9_put_0 : decode cX9_put 0 = .ok (.aload_n 0, 1) := by decide +kernel
theorem dX9_put_1 : decode cX9_put 1 = .ok (.iconst 0, 1) := by decide +kernel
theorem dX9_put_2 : decode cX9_put 2 = .ok (.putfield 60, 3) := by decide +kernel
theorem dX9_put_5 : decode cX9_put 5 = .ok (.iload_n 1, 1) := by decide +kernel
theorem dX9_put_6 : decode cX9_put 6 = .ok (.invokestatic 155, 3) := by decide +kernel
theorem dX9_put_9 : decode cX9_put 9 = .ok (.ifCond .ne 5, 3) := by decide +kernel
theorem dX9_put_12 : decode cX9_put 12 = .ok (.iconst (-1), 1) := by decide +kernel
theorem dX9_put_13 : decode cX9_put 13 = .ok (.ireturn, 1) := by decide +kernel
theorem dX9_put_14 : decode cX9_put 14 = .ok (.aload_n 0, 1) := by decide +kernel
theorem dX9_put_15 : decode cX9_put 15 = .ok (.getfield 12, 3) := by decide +kernel
theorem dX9_put_18 : decode cX9_put 18 = .ok (.iload_n 1, 1) := by decide +kernel
theorem dX9_put_19 : decode cX9_put 19 = .ok (.invokevirtual 168, 3) := by decide +kernel
theorem dX9_put_22 : decode cX9_put 22 = .ok (.ifCond .ne 9, 3) := by decide +kernel
theorem dX9_put_25 : decode cX9_put 25 = .ok (.aload_n 0, 1) := by decide +kernel
theorem dX9_put_26 : decode cX9_put 26 = .ok (.iconst 1, 1) := by decide +kernel
theorem dX9_put_27 : decode cX9_put 27 = .ok (.invokevirtual 161, 3) := by decide +kernel
theorem dX9_put_30 : decode cX9_put 30 = .ok (.ireturn, 1) := by decide +kernel
theorem dX9_put_31 : decode cX9_put 31 = .ok (.aload_n 0, 1) := by decide +kernel
theorem dX9_put_32 : decode cX9_put 32 = .ok (.getfield 12, 3) := by decide +kernel
theorem dX9_put_35 : decode cX9_put 35 = .ok (.iload_n 1, 1) := by decide +kernel
theorem dX9_put_36 : decode cX9_put 36 = .ok (.iload_n 2, 1) := by decide +kernel
theorem dX9_put_37 : decode cX9_put 37 = .ok (.invokevirtual 175, 3) := by decide +kernel
theorem dX9_put_40 : decode cX9_put 40 = .ok (.ifCond .ne 9, 3) := by decide +kernel
theorem dX9_put_43 : decode cX9_put 43 = .ok (.aload_n 0, 1) := by decide +kernel
theorem dX9_put_44 : decode cX9_put 44 = .ok (.iconst 3, 1) := by decide +kernel
theorem dX9_put_45 : decode cX9_put 45 = .ok (.invokevirtual 161, 3) := by decide +kernel
theorem dX9_put_48 : decode cX9_put 48 = .ok (.ireturn, 1) := by decide +kernel
theorem dX9_put_49 : decode cX9_put 49 = .ok (.aload_n 0, 1) := by decide +kernel
theorem dX9_put_50 : decode cX9_put 50 = .ok (.getfield 12, 3) := by decide +kernel
theorem dX9_put_53 : decode cX9_put 53 = .ok (.iload_n 1, 1) := by decide +kernel
theorem dX9_put_54 : decode cX9_put 54 = .ok (.iload_n 2, 1) := by decide +kernel
theorem dX9_put_55 : decode cX9_put 55 = .ok (.iload_n 3, 1) := by decide +kernel
theorem dX9_put_56 : decode cX9_put 56 = .ok (.invokevirtual 178, 3) := by decide +kernel
theorem dX9_put_59 : decode cX9_put 59 = .ok (.iconst 1, 1) := by decide +kernel
theorem dX9_put_60 : decode cX9_put 60 = .ok (.ireturn, 1) := by decide +kernel
theorem dX9_cell_0 : decode cX9_cell 0 = .ok (.aload_n 0, 1) := by decide +kernel
theorem dX9_cell_1 : decode cX9_cell 1 = .ok (.iconst 0, 1) := by decide +kernel
theorem dX9_cell_2 : decode cX9_cell 2 = .ok (.putfield 60, 3) := by decide +kernel
theorem dX9_cell_5 : decode cX9_cell 5 = .ok (.iload_n 1, 1) := by decide +kernel
theorem dX9_cell_6 : decode cX9_cell 6 = .ok (.invokestatic 155, 3) := by decide +kernel
theorem dX9_cell_9 : decode cX9_cell 9 = .ok (.ifCond .eq 10, 3) := by decide +kernel
theorem dX9_cell_12 : decode cX9_cell 12 = .ok (.iload_n 3, 1) := by decide +kernel
theorem dX9_cell_13 : decode cX9_cell 13 = .ok (.invokestatic 158, 3) := by decide +kernel
theorem dX9_cell_16 : decode cX9_cell 16 = .ok (.ifCond .ne 7, 3) := by decide +kernel
theorem dX9_cell_19 : decode cX9_cell 19 = .ok (.ldc2_w 149, 3) := by decide +kernel
theorem dX9_cell_22 : decode cX9_cell 22 = .ok (.lreturn, 1) := by decide +kernel
theorem dX9_cell_23 : decode cX9_cell 23 = .ok (.aload_n 0, 1) := by decide +kernel
theorem dX9_cell_24 : decode cX9_cell 24 = .ok (.iload_n 1, 1) := by decide +kernel
theorem dX9_cell_25 : decode cX9_cell 25 = .ok (.iload_n 3, 1) := by decide +kernel
theorem dX9_cell_26 : decode cX9_cell 26 = .ok (.invokevirtual 181, 3) := by decide +kernel
theorem dX9_cell_29 : decode cX9_cell 29 = .ok (.istore 4, 2) := by decide +kernel
theorem dX9_cell_31 : decode cX9_cell 31 = .ok (.iload 4, 2) := by decide +kernel
theorem dX9_cell_33 : decode cX9_cell 33 = .ok (.ifCond .ne 18, 3) := by decide +kernel
theorem dX9_cell_36 : decode cX9_cell 36 = .ok (.aload_n 0, 1) := by decide +kernel
theorem dX9_cell_37 : decode cX9_cell 37 = .ok (.getfield 12, 3) := by decide +kernel
theorem dX9_cell_40 : decode cX9_cell 40 = .ok (.iload_n 1, 1) := by decide +kernel
theorem dX9_cell_41 : decode cX9_cell 41 = .ok (.iload_n 2, 1) := by decide +kernel
theorem dX9_cell_42 : decode cX9_cell 42 = .ok (.invokevirtual 175, 3) := by decide +kernel
theorem dX9_cell_45 : decode cX9_cell 45 = .ok (.ifCond .ne 6, 3) := by decide +kernel
theorem dX9_cell_48 : decode cX9_cell 48 = .ok (.iconst 3, 1) := by decide +kernel
theorem dX9_cell_49 : decode cX9_cell 49 = .ok (.istore 4, 2) := by decide +kernel
theorem dX9_cell_51 : decode cX9_cell 51 = .ok (.aload_n 0, 1) := by decide +kernel
theorem dX9_cell_52 : decode cX9_cell 52 = .ok (.iload 4, 2) := by decide +kernel
theorem dX9_cell_54 : decode cX9_cell 54 = .ok (.putfield 60, 3) := by decide +kernel
theorem dX9_cell_57 : decode cX9_cell 57 = .ok (.iload 4, 2) := by decide +kernel
theorem dX9_cell_59 : decode cX9_cell 59 = .ok (.ifCond .ne 16, 3) := by decide +kernel
theorem dX9_cell_62 : decode cX9_cell 62 = .ok (.aload_n 0, 1) := by decide +kernel
theorem dX9_cell_63 : decode cX9_cell 63 = .ok (.getfield 12, 3) := by decide +kernel
theorem dX9_cell_66 : decode cX9_cell 66 = .ok (.iload_n 1, 1) := by decide +kernel
theorem dX9_cell_67 : decode cX9_cell 67 = .ok (.iload_n 2, 1) := by decide +kernel
theorem dX9_cell_68 : decode cX9_cell 68 = .ok (.invokevirtual 184, 3) := by decide +kernel
theorem dX9_cell_71 : decode cX9_cell 71 = .ok (.i2l, 1) := by decide +kernel
theorem dX9_cell_72 : decode cX9_cell 72 = .ok (.goto 6, 3) := by decide +kernel
theorem dX9_cell_75 : decode cX9_cell 75 = .ok (.ldc2_w 149, 3) := by decide +kernel
theorem dX9_cell_78 : decode cX9_cell 78 = .ok (.lreturn, 1) := by decide +kernel
theorem dX9_copy_0 : decode cX9_copy 0 = .ok (.aload_n 0, 1) := by decide +kernel
theorem dX9_copy_1 : decode cX9_copy 1 = .ok (.iconst 0, 1) := by decide +kernel
theorem dX9_copy_2 : decode cX9_copy 2 = .ok (.putfield 60, 3) := by decide +kernel
theorem dX9_copy_5 : decode cX9_copy 5 = .ok (.iload_n 1, 1) := by decide +kernel
theorem dX9_copy_6 : decode cX9_copy 6 = .ok (.invokestatic 155, 3) := by decide +kernel
theorem dX9_copy_9 : decode cX9_copy 9 = .ok (.ifCond .eq 10, 3) := by decide +kernel
theorem dX9_copy_12 : decode cX9_copy 12 = .ok (.iload_n 3, 1) := by decide +kernel
theorem dX9_copy_13 : decode cX9_copy 13 = .ok (.invokestatic 155, 3) := by decide +kernel
theorem dX9_copy_16 : decode cX9_copy 16 = .ok (.ifCond .ne 5, 3) := by decide +kernel
theorem dX9_copy_19 : decode cX9_copy 19 = .ok (.iconst (-1), 1) := by decide +kernel
theorem dX9_copy_20 : decode cX9_copy 20 = .ok (.ireturn, 1) := by decide +kernel
theorem dX9_copy_21 : decode cX9_copy 21 = .ok (.aload_n 0, 1) := by decide +kernel
theorem dX9_copy_22 : decode cX9_copy 22 = .ok (.getfield 12, 3) := by decide +kernel
theorem dX9_copy_25 : decode cX9_copy 25 = .ok (.iload_n 1, 1) := by decide +kernel
theorem dX9_copy_26 : decode cX9_copy 26 = .ok (.invokevirtual 168, 3) := by decide +kernel
theorem dX9_copy_29 : decode cX9_copy 29 = .ok (.ifCond .eq 14, 3) := by decide +kernel
theorem dX9_copy_32 : decode cX9_copy 32 = .ok (.aload_n 0, 1) := by decide +kernel
theorem dX9_copy_33 : decode cX9_copy 33 = .ok (.getfield 12, 3) := by decide +kernel
theorem dX9_copy_36 : decode cX9_copy 36 = .ok (.iload_n 3, 1) := by decide +kernel
theorem dX9_copy_37 : decode cX9_copy 37 = .ok (.invokevirtual 168, 3) := by decide +kernel
theorem dX9_copy_40 : decode cX9_copy 40 = .ok (.ifCond .ne 9, 3) := by decide +kernel
theorem dX9_copy_43 : decode cX9_copy 43 = .ok (.aload_n 0, 1) := by decide +kernel
theorem dX9_copy_44 : decode cX9_copy 44 = .ok (.iconst 1, 1) := by decide +kernel
theorem dX9_copy_45 : decode cX9_copy 45 = .ok (.invokevirtual 161, 3) := by decide +kernel
theorem dX9_copy_48 : decode cX9_copy 48 = .ok (.ireturn, 1) := by decide +kernel
theorem dX9_copy_49 : decode cX9_copy 49 = .ok (.aload_n 0, 1) := by decide +kernel
theorem dX9_copy_50 : decode cX9_copy 50 = .ok (.getfield 12, 3) := by decide +kernel
theorem dX9_copy_53 : decode cX9_copy 53 = .ok (.iload_n 1, 1) := by decide +kernel
theorem dX9_copy_54 : decode cX9_copy 54 = .ok (.invokevirtual 187, 3) := by decide +kernel
theorem dX9_copy_57 : decode cX9_copy 57 = .ok (.aload_n 0, 1) := by decide +kernel
theorem dX9_copy_58 : decode cX9_copy 58 = .ok (.getfield 12, 3) := by decide +kernel
theorem dX9_copy_61 : decode cX9_copy 61 = .ok (.iload_n 3, 1) := by decide +kernel
theorem dX9_copy_62 : decode cX9_copy 62 = .ok (.invokevirtual 187, 3) := by decide +kernel
theorem dX9_copy_65 : decode cX9_copy 65 = .ok (.if_icmp .eq 9, 3) := by decide +kernel
theorem dX9_copy_68 : decode cX9_copy 68 = .ok (.aload_n 0, 1) := by decide +kernel
theorem dX9_copy_69 : decode cX9_copy 69 = .ok (.iconst 2, 1) := by decide +kernel
theorem dX9_copy_70 : decode cX9_copy 70 = .ok (.invokevirtual 161, 3) := by decide +kernel
theorem dX9_copy_73 : decode cX9_copy 73 = .ok (.ireturn, 1) := by decide +kernel
theorem dX9_copy_74 : decode cX9_copy 74 = .ok (.aload_n 0, 1) := by decide +kernel
theorem dX9_copy_75 : decode cX9_copy 75 = .ok (.getfield 12, 3) := by decide +kernel
theorem dX9_copy_78 : decode cX9_copy 78 = .ok (.iload_n 1, 1) := by decide +kernel
theorem dX9_copy_79 : decode cX9_copy 79 = .ok (.iload_n 2, 1) := by decide +kernel
theorem dX9_copy_80 : decode cX9_copy 80 = .ok (.iload 5, 2) := by decide +kernel
theorem dX9_copy_82 : decode cX9_copy 82 = .ok (.invokevirtual 190, 3) := by decide +kernel
theorem dX9_copy_85 : decode cX9_copy 85 = .ok (.ifCond .eq 18, 3) := by decide +kernel
theorem dX9_copy_88 : decode cX9_copy 88 = .ok (.aload_n 0, 1) := by decide +kernel
theorem dX9_copy_89 : decode cX9_copy 89 = .ok (.getfield 12, 3) := by decide +kernel
theorem dX9_copy_92 : decode cX9_copy 92 = .ok (.iload_n 3, 1) := by decide +kernel
theorem dX9_copy_93 : decode cX9_copy 93 = .ok (.iload 4, 2) := by decide +kernel
theorem dX9_copy_95 : decode cX9_copy 95 = .ok (.iload 5, 2) := by decide +kernel
theorem dX9_copy_97 : decode cX9_copy 97 = .ok (.invokevirtual 190, 3) := by decide +kernel
theorem dX9_copy_100 : decode cX9_copy 100 = .ok (.ifCond .ne 9, 3) := by decide +kernel
theorem dX9_copy_103 : decode cX9_copy 103 = .ok (.aload_n 0, 1) := by decide +kernel
theorem dX9_copy_104 : decode cX9_copy 104 = .ok (.iconst 3, 1) := by decide +kernel
theorem dX9_copy_105 : decode cX9_copy 105 = .ok (.invokevirtual 161, 3) := by decide +kernel
theorem dX9_copy_108 : decode cX9_copy 108 = .ok (.ireturn, 1) := by decide +kernel
theorem dX9_copy_109 : decode cX9_copy 109 = .ok (.aload_n 0, 1) := by decide +kernel
theorem dX9_copy_110 : decode cX9_copy 110 = .ok (.getfield 12, 3) := by decide +kernel
theorem dX9_copy_113 : decode cX9_copy 113 = .ok (.iload_n 1, 1) := by decide +kernel
theorem dX9_copy_114 : decode cX9_copy 114 = .ok (.iload_n 2, 1) := by decide +kernel
theorem dX9_copy_115 : decode cX9_copy 115 = .ok (.iload_n 3, 1) := by decide +kernel
theorem dX9_copy_116 : decode cX9_copy 116 = .ok (.iload 4, 2) := by decide +kernel
theorem dX9_copy_118 : decode cX9_copy 118 = .ok (.iload 5, 2) := by decide +kernel
theorem dX9_copy_120 : decode cX9_copy 120 = .ok (.invokevirtual 193, 3) := by decide +kernel
theorem dX9_copy_123 : decode cX9_copy 123 = .ok (.iload 5, 2) := by decide +kernel
theorem dX9_copy_125 : decode cX9_copy 125 = .ok (.ireturn, 1) := by decide +kernel
theorem dX9_tell_0 : decode cX9_tell 0 = .ok (.aload_n 0, 1) := by decide +kernel
theorem dX9_tell_1 : decode cX9_tell 1 = .ok (.getfield 28, 3) := by decide +kernel
theorem dX9_tell_4 : decode cX9_tell 4 = .ok (.iload_n 1, 1) := by decide +kernel
theorem dX9_tell_5 : decode cX9_tell 5 = .ok (.invokevirtual 83, 3) := by decide +kernel
theorem dX9_tell_8 : decode cX9_tell 8 = .ok (.astore_n 2, 1) := by decide +kernel
theorem dX9_tell_9 : decode cX9_tell 9 = .ok (.aload_n 2, 1) := by decide +kernel
theorem dX9_tell_10 : decode cX9_tell 10 = .ok (.ifnonnull 7, 3) := by decide +kernel
theorem dX9_tell_13 : decode cX9_tell 13 = .ok (.iconst (-1), 1) := by decide +kernel
theorem dX9_tell_14 : decode cX9_tell 14 = .ok (.goto 11, 3) := by decide +kernel
theorem dX9_tell_17 : decode cX9_tell 17 = .ok (.aload_n 2, 1) := by decide +kernel
theorem dX9_tell_18 : decode cX9_tell 18 = .ok (.aload_n 0, 1) := by decide +kernel
theorem dX9_tell_19 : decode cX9_tell 19 = .ok (.getfield 35, 3) := by decide +kernel
theorem dX9_tell_22 : decode cX9_tell 22 = .ok (.invokevirtual 197, 3) := by decide +kernel
theorem dX9_tell_25 : decode cX9_tell 25 = .ok (.ireturn, 1) := by decide +kernel
theorem dX9_mourn_0 : decode cX9_mourn 0 = .ok (.aload_n 0, 1) := by decide +kernel
theorem dX9_mourn_1 : decode cX9_mourn 1 = .ok (.getfield 28, 3) := by decide +kernel
theorem dX9_mourn_4 : decode cX9_mourn 4 = .ok (.iload_n 1, 1) := by decide +kernel
theorem dX9_mourn_5 : decode cX9_mourn 5 = .ok (.invokevirtual 83, 3) := by decide +kernel
theorem dX9_mourn_8 : decode cX9_mourn 8 = .ok (.astore_n 2, 1) := by decide +kernel
theorem dX9_mourn_9 : decode cX9_mourn 9 = .ok (.aload_n 2, 1) := by decide +kernel
theorem dX9_mourn_10 : decode cX9_mourn 10 = .ok (.ifnonnull 7, 3) := by decide +kernel
theorem dX9_mourn_13 : decode cX9_mourn 13 = .ok (.iconst (-1), 1) := by decide +kernel
theorem dX9_mourn_14 : decode cX9_mourn 14 = .ok (.goto 12, 3) := by decide +kernel
theorem dX9_mourn_17 : decode cX9_mourn 17 = .ok (.aload_n 2, 1) := by decide +kernel
theorem dX9_mourn_18 : decode cX9_mourn 18 = .ok (.aload_n 0, 1) := by decide +kernel
theorem dX9_mourn_19 : decode cX9_mourn 19 = .ok (.getfield 35, 3) := by decide +kernel
theorem dX9_mourn_22 : decode cX9_mourn 22 = .ok (.iload_n 1, 1) := by decide +kernel
theorem dX9_mourn_23 : decode cX9_mourn 23 = .ok (.invokevirtual 201, 3) := by decide +kernel
theorem dX9_mourn_26 : decode cX9_mourn 26 = .ok (.ireturn, 1) := by decide +kernel
theorem dX9_as_0 : decode cX9_as 0 = .ok (.aload_n 0, 1) := by decide +kernel
theorem dX9_as_1 : decode cX9_as 1 = .ok (.iconst 0, 1) := by decide +kernel
theorem dX9_as_2 : decode cX9_as 2 = .ok (.putfield 60, 3) := by decide +kernel
theorem dX9_as_5 : decode cX9_as 5 = .ok (.aload_n 0, 1) := by decide +kernel
theorem dX9_as_6 : decode cX9_as 6 = .ok (.getfield 28, 3) := by decide +kernel
theorem dX9_as_9 : decode cX9_as 9 = .ok (.iload_n 1, 1) := by decide +kernel
theorem dX9_as_10 : decode cX9_as 10 = .ok (.invokevirtual 83, 3) := by decide +kernel
theorem dX9_as_13 : decode cX9_as 13 = .ok (.astore_n 3, 1) := by decide +kernel
theorem dX9_as_14 : decode cX9_as 14 = .ok (.aload_n 3, 1) := by decide +kernel
theorem dX9_as_15 : decode cX9_as 15 = .ok (.ifnonnull 5, 3) := by decide +kernel
theorem dX9_as_18 : decode cX9_as 18 = .ok (.iconst (-1), 1) := by decide +kernel
theorem dX9_as_19 : decode cX9_as 19 = .ok (.ireturn, 1) := by decide +kernel
theorem dX9_as_20 : decode cX9_as 20 = .ok (.iload_n 2, 1) := by decide +kernel
theorem dX9_as_21 : decode cX9_as 21 = .ok (.ifCond .lt 8, 3) := by decide +kernel
theorem dX9_as_24 : decode cX9_as 24 = .ok (.iload_n 2, 1) := by decide +kernel
theorem dX9_as_25 : decode cX9_as 25 = .ok (.iconst 3, 1) := by decide +kernel
theorem dX9_as_26 : decode cX9_as 26 = .ok (.if_icmp .lt 6, 3) := by decide +kernel
theorem dX9_as_29 : decode cX9_as 29 = .ok (.bipush (-2), 2) := by decide +kernel
theorem dX9_as_31 : decode cX9_as 31 = .ok (.ireturn, 1) := by decide +kernel
theorem dX9_as_32 : decode cX9_as 32 = .ok (.aload_n 3, 1) := by decide +kernel
theorem dX9_as_33 : decode cX9_as 33 = .ok (.invokevirtual 205, 3) := by decide +kernel
theorem dX9_as_36 : decode cX9_as 36 = .ok (.iload_n 2, 1) := by decide +kernel
theorem dX9_as_37 : decode cX9_as 37 = .ok (.if_icmp .ge 11, 3) := by decide +kernel
theorem dX9_as_40 : decode cX9_as 40 = .ok (.aload_n 0, 1) := by decide +kernel
theorem dX9_as_41 : decode cX9_as 41 = .ok (.iconst 2, 1) := by decide +kernel
theorem dX9_as_42 : decode cX9_as 42 = .ok (.invokevirtual 161, 3) := by decide +kernel
theorem dX9_as_45 : decode cX9_as 45 = .ok (.goto 4, 3) := by decide +kernel
theorem dX9_as_48 : decode cX9_as 48 = .ok (.iconst 1, 1) := by decide +kernel
theorem dX9_as_49 : decode cX9_as 49 = .ok (.ireturn, 1) := by decide +kernel
theorem dX9_trace_0 : decode cX9_trace 0 = .ok (.aload_n 0, 1) := by decide +kernel
theorem dX9_trace_1 : decode cX9_trace 1 = .ok (.getfield 35, 3) := by decide +kernel
theorem dX9_trace_4 : decode cX9_trace 4 = .ok (.invokevirtual 208, 3) := by decide +kernel
theorem dX9_trace_7 : decode cX9_trace 7 = .ok (.ireturn, 1) := by decide +kernel
theorem dX9_fault_0 : decode cX9_fault 0 = .ok (.aload_n 0, 1) := by decide +kernel
theorem dX9_fault_1 : decode cX9_fault 1 = .ok (.getfield 60, 3) := by decide +kernel
theorem dX9_fault_4 : decode cX9_fault 4 = .ok (.ireturn, 1) := by decide +kernel
theorem dX9_many_0 : decode cX9_many 0 = .ok (.aload_n 0, 1) := by decide +kernel
theorem dX9_many_1 : decode cX9_many 1 = .ok (.getfield 28, 3) := by decide +kernel
theorem dX9_many_4 : decode cX9_many 4 = .ok (.invokevirtual 80, 3) := by decide +kernel
theorem dX9_many_7 : decode cX9_many 7 = .ok (.ireturn, 1) := by decide +kernel
theorem dX9_isVillage_0 : decode cX9_isVillage 0 = .ok (.iload_n 0, 1) := by decide +kernel
theorem dX9_isVillage_1 : decode cX9_isVillage 1 = .ok (.ifCond .lt 12, 3) := by decide +kernel
theorem dX9_isVillage_4 : decode cX9_isVillage 4 = .ok (.iload_n 0, 1) := by decide +kernel
theorem dX9_isVillage_5 : decode cX9_isVillage 5 = .ok (.iconst 2, 1) := by decide +kernel
theorem dX9_isVillage_6 : decode cX9_isVillage 6 = .ok (.if_icmp .ge 7, 3) := by decide +kernel
theorem dX9_isVillage_9 : decode cX9_isVillage 9 = .ok (.iconst 1, 1) := by decide +kernel
theorem dX9_isVillage_10 : decode cX9_isVillage 10 = .ok (.goto 4, 3) := by decide +kernel
theorem dX9_isVillage_13 : decode cX9_isVillage 13 = .ok (.iconst 0, 1) := by decide +kernel
theorem dX9_isVillage_14 : decode cX9_isVillage 14 = .ok (.ireturn, 1) := by decide +kernel
theorem dX9_isDay_0 : decode cX9_isDay 0 = .ok (.iload_n 0, 1) := by decide +kernel
theorem dX9_isDay_1 : decode cX9_isDay 1 = .ok (.ifCond .lt 13, 3) := by decide +kernel
theorem dX9_isDay_4 : decode cX9_isDay 4 = .ok (.iload_n 0, 1) := by decide +kernel
theorem dX9_isDay_5 : decode cX9_isDay 5 = .ok (.bipush 110, 2) := by decide +kernel
theorem dX9_isDay_7 : decode cX9_isDay 7 = .ok (.if_icmp .ge 7, 3) := by decide +kernel
theorem dX9_isDay_10 : decode cX9_isDay 10 = .ok (.iconst 1, 1) := by decide +kernel
theorem dX9_isDay_11 : decode cX9_isDay 11 = .ok (.goto 4, 3) := by decide +kernel
theorem dX9_isDay_14 : decode cX9_isDay 14 = .ok (.iconst 0, 1) := by decide +kernel
theorem dX9_isDay_15 : decode cX9_isDay 15 = .ok (.ireturn, 1) := by decide +kernel
theorem dX9_isQuantity_0 : decode cX9_isQuantity 0 = .ok (.iload_n 0, 1) := by decide +kernel
theorem dX9_isQuantity_1 : decode cX9_isQuantity 1 = .ok (.ifCond .lt 14, 3) := by decide +kernel
theorem dX9_isQuantity_4 : decode cX9_isQuantity 4 = .ok (.iload_n 0, 1) := by decide +kernel
theorem dX9_isQuantity_5 : decode cX9_isQuantity 5 = .ok (.sipush 1000, 3) := by decide +kernel
theorem dX9_isQuantity_8 : decode cX9_isQuantity 8 = .ok (.if_icmp .ge 7, 3) := by decide +kernel
theorem dX9_isQuantity_11 : decode cX9_isQuantity 11 = .ok (.iconst 1, 1) := by decide +kernel
theorem dX9_isQuantity_12 : decode cX9_isQuantity 12 = .ok (.goto 4, 3) := by decide +kernel
theorem dX9_isQuantity_15 : decode cX9_isQuantity 15 = .ok (.iconst 0, 1) := by decide +kernel
theorem dX9_isQuantity_16 : decode cX9_isQuantity 16 = .ok (.ireturn, 1) := by decide +kernel
theorem dX9_isWords_0 : decode cX9_isWords 0 = .ok (.iload_n 0, 1) := by decide +kernel
theorem dX9_isWords_1 : decode cX9_isWords 1 = .ok (.iconst 1, 1) := by decide +kernel
theorem dX9_isWords_2 : decode cX9_isWords 2 = .ok (.if_icmp .lt 13, 3) := by decide +kernel
theorem dX9_isWords_5 : decode cX9_isWords 5 = .ok (.iload_n 0, 1) := by decide +kernel
theorem dX9_isWords_6 : decode cX9_isWords 6 = .ok (.bipush 9, 2) := by decide +kernel
theorem dX9_isWords_8 : decode cX9_isWords 8 = .ok (.if_icmp .gt 7, 3) := by decide +kernel
theorem dX9_isWords_11 : decode cX9_isWords 11 = .ok (.iconst 1, 1) := by decide +kernel
theorem dX9_isWords_12 : decode cX9_isWords 12 = .ok (.goto 4, 3) := by decide +kernel
theorem dX9_isWords_15 : decode cX9_isWords 15 = .ok (.iconst 0, 1) := by decide +kernel
theorem dX9_isWords_16 : decode cX9_isWords 16 = .ok (.ireturn, 1) := by decide +kernel
theorem dX9_isSheet_0 : decode cX9_isSheet 0 = .ok (.iload_n 0, 1) := by decide +kernel
theorem dX9_isSheet_1 : decode cX9_isSheet 1 = .ok (.ifCond .lt 12, 3) := by decide +kernel
theorem dX9_isSheet_4 : decode cX9_isSheet 4 = .ok (.iload_n 0, 1) := by decide +kernel
theorem dX9_isSheet_5 : decode cX9_isSheet 5 = .ok (.iconst 4, 1) := by decide +kernel
theorem dX9_isSheet_6 : decode cX9_isSheet 6 = .ok (.if_icmp .ge 7, 3) := by decide +kernel
theorem dX9_isSheet_9 : decode cX9_isSheet 9 = .ok (.iconst 1, 1) := by decide +kernel
theorem dX9_isSheet_10 : decode cX9_isSheet 10 = .ok (.goto 4, 3) := by decide +kernel
theorem dX9_isSheet_13 : decode cX9_isSheet 13 = .ok (.iconst 0, 1) := by decide +kernel
theorem dX9_isSheet_14 : decode cX9_isSheet 14 = .ok (.ireturn, 1) := by decide +kernel
theorem dX9_isLane_0 : decode cX9_isLane 0 = .ok (.iload_n 0, 1) := by decide +kernel
theorem dX9_isLane_1 : decode cX9_isLane 1 = .ok (.ifCond .lt 12, 3) := by decide +kernel
theorem dX9_isLane_4 : decode cX9_isLane 4 = .ok (.iload_n 0, 1) := by decide +kernel
theorem dX9_isLane_5 : decode cX9_isLane 5 = .ok (.iconst 3, 1) := by decide +kernel
theorem dX9_isLane_6 : decode cX9_isLane 6 = .ok (.if_icmp .ge 7, 3) := by decide +kernel
theorem dX9_isLane_9 : decode cX9_isLane 9 = .ok (.iconst 1, 1) := by decide +kernel
theorem dX9_isLane_10 : decode cX9_isLane 10 = .ok (.goto 4, 3) := by decide +kernel
theorem dX9_isLane_13 : decode cX9_isLane 13 = .ok (.iconst 0, 1) := by decide +kernel
theorem dX9_isLane_14 : decode cX9_isLane 14 = .ok (.ireturn, 1) := by decide +kernel
theorem dX9_faulted_0 : decode cX9_faulted 0 = .ok (.aload_n 0, 1) := by decide +kernel
theorem dX9_faulted_1 : decode cX9_faulted 1 = .ok (.iload_n 1, 1) := by decide +kernel
theorem dX9_faulted_2 : decode cX9_faulted 2 = .ok (.putfield 60, 3) := by decide +kernel
theorem dX9_faulted_5 : decode cX9_faulted 5 = .ok (.bipush (-10), 2) := by decide +kernel
theorem dX9_faulted_7 : decode cX9_faulted 7 = .ok (.iload_n 1, 1) := by decide +kernel
theorem dX9_faulted_8 : decode cX9_faulted 8 = .ok (.isub, 1) := by decide +kernel
theorem dX9_faulted_9 : decode cX9_faulted 9 = .ok (.ireturn, 1) := by decide +kernel
theorem dX9_faultAs_0 : decode cX9_faultAs 0 = .ok (.aload_n 0, 1) := by decide +kernel
theorem dX9_faultAs_1 : decode cX9_faultAs 1 = .ok (.getfield 12, 3) := by decide +kernel
theorem dX9_faultAs_4 : decode cX9_faultAs 4 = .ok (.iload_n 1, 1) := by decide +kernel
theorem dX9_faultAs_5 : decode cX9_faultAs 5 = .ok (.invokevirtual 168, 3) := by decide +kernel
theorem dX9_faultAs_8 : decode cX9_faultAs 8 = .ok (.ifCond .ne 5, 3) := by decide +kernel
theorem dX9_faultAs_11 : decode cX9_faultAs 11 = .ok (.iconst 1, 1) := by decide +kernel
theorem dX9_faultAs_12 : decode cX9_faultAs 12 = .ok (.ireturn, 1) := by decide +kernel
theorem dX9_faultAs_13 : decode cX9_faultAs 13 = .ok (.aload_n 0, 1) := by decide +kernel
theorem dX9_faultAs_14 : decode cX9_faultAs 14 = .ok (.getfield 12, 3) := by decide +kernel
theorem dX9_faultAs_17 : decode cX9_faultAs 17 = .ok (.iload_n 1, 1) := by decide +kernel
theorem dX9_faultAs_18 : decode cX9_faultAs 18 = .ok (.invokevirtual 187, 3) := by decide +kernel
theorem dX9_faultAs_21 : decode cX9_faultAs 21 = .ok (.iload_n 2, 1) := by decide +kernel
theorem dX9_faultAs_22 : decode cX9_faultAs 22 = .ok (.if_icmp .ne 7, 3) := by decide +kernel
theorem dX9_faultAs_25 : decode cX9_faultAs 25 = .ok (.iconst 0, 1) := by decide +kernel
theorem dX9_faultAs_26 : decode cX9_faultAs 26 = .ok (.goto 4, 3) := by decide +kernel
theorem dX9_faultAs_29 : decode cX9_faultAs 29 = .ok (.iconst 2, 1) := by decide +kernel
theorem dX9_faultAs_30 : decode cX9_faultAs 30 = .ok (.ireturn, 1) := by decide +kernel
theorem dX9_refusalOfCells_0 : decode cX9_refusalOfCells 0 = .ok (.aload_n 0, 1) := by decide +kernel
theorem dX9_refusalOfCells_1 : decode cX9_refusalOfCells 1 = .ok (.iconst 0, 1) := by decide +kernel
theorem dX9_refusalOfCells_2 : decode cX9_refusalOfCells 2 = .ok (.putfield 60, 3) := by decide +kernel
theorem dX9_refusalOfCells_5 : decode cX9_refusalOfCells 5 = .ok (.iload_n 1, 1) := by decide +kernel
theorem dX9_refusalOfCells_6 : decode cX9_refusalOfCells 6 = .ok (.invokestatic 93, 3) := by decide +kernel
theorem dX9_refusalOfCells_9 : decode cX9_refusalOfCells 9 = .ok (.ifCond .eq 10, 3) := by decide +kernel
theorem dX9_refusalOfCells_12 : decode cX9_refusalOfCells 12 = .ok (.iload_n 2, 1) := by decide +kernel
theorem dX9_refusalOfCells_13 : decode cX9_refusalOfCells 13 = .ok (.invokestatic 155, 3) := by decide +kernel
theorem dX9_refusalOfCells_16 : decode cX9_refusalOfCells 16 = .ok (.ifCond .ne 5, 3) := by decide +kernel
theorem dX9_refusalOfCells_19 : decode cX9_refusalOfCells 19 = .ok (.iconst (-1), 1) := by decide +kernel
theorem dX9_refusalOfCells_20 : decode cX9_refusalOfCells 20 = .ok (.ireturn, 1) := by decide +kernel
theorem dX9_refusalOfCells_21 : decode cX9_refusalOfCells 21 = .ok (.iload_n 3, 1) := by decide +kernel
theorem dX9_refusalOfCells_22 : decode cX9_refusalOfCells 22 = .ok (.ifCond .ne 11, 3) := by decide +kernel
theorem dX9_refusalOfCells_25 : decode cX9_refusalOfCells 25 = .ok (.iload 4, 2) := by decide +kernel
theorem dX9_refusalOfCells_27 : decode cX9_refusalOfCells 27 = .ok (.invokestatic 158, 3) := by decide +kernel
theorem dX9_refusalOfCells_30 : decode cX9_refusalOfCells 30 = .ok (.ifCond .ne 6, 3) := by decide +kernel
theorem dX9_refusalOfCells_33 : decode cX9_refusalOfCells 33 = .ok (.bipush (-2), 2) := by decide +kernel
theorem dX9_refusalOfCells_35 : decode cX9_refusalOfCells 35 = .ok (.ireturn, 1) := by decide +kernel
theorem dX9_refusalOfCells_36 : decode cX9_refusalOfCells 36 = .ok (.aload_n 0, 1) := by decide +kernel
theorem dX9_refusalOfCells_37 : decode cX9_refusalOfCells 37 = .ok (.iload_n 2, 1) := by decide +kernel
theorem dX9_refusalOfCells_38 : decode cX9_refusalOfCells 38 = .ok (.iload 4, 2) := by decide +kernel
theorem dX9_refusalOfCells_40 : decode cX9_refusalOfCells 40 = .ok (.invokevirtual 181, 3) := by decide +kernel
theorem dX9_refusalOfCells_43 : decode cX9_refusalOfCells 43 = .ok (.istore 7, 2) := by decide +kernel
theorem dX9_refusalOfCells_45 : decode cX9_refusalOfCells 45 = .ok (.iload 7, 2) := by decide +kernel
theorem dX9_refusalOfCells_47 : decode cX9_refusalOfCells 47 = .ok (.ifCond .eq 10, 3) := by decide +kernel
theorem dX9_refusalOfCells_50 : decode cX9_refusalOfCells 50 = .ok (.aload_n 0, 1) := by decide +kernel
theorem dX9_refusalOfCells_51 : decode cX9_refusalOfCells 51 = .ok (.iload 7, 2) := by decide +kernel
theorem dX9_refusalOfCells_53 : decode cX9_refusalOfCells 53 = .ok (.invokevirtual 161, 3) := by decide +kernel
theorem dX9_refusalOfCells_56 : decode cX9_refusalOfCells 56 = .ok (.ireturn, 1) := by decide +kernel
theorem dX9_refusalOfCells_57 : decode cX9_refusalOfCells 57 = .ok (.iload 6, 2) := by decide +kernel
theorem dX9_refusalOfCells_59 : decode cX9_refusalOfCells 59 = .ok (.ifCond .ge 9, 3) := by decide +kernel
theorem dX9_refusalOfCells_62 : decode cX9_refusalOfCells 62 = .ok (.aload_n 0, 1) := by decide +kernel
theorem dX9_refusalOfCells_63 : decode cX9_refusalOfCells 63 = .ok (.iconst 4, 1) := by decide +kernel
theorem dX9_refusalOfCells_64 : decode cX9_refusalOfCells 64 = .ok (.invokevirtual 161, 3) := by decide +kernel
theorem dX9_refusalOfCells_67 : decode cX9_refusalOfCells 67 = .ok (.ireturn, 1) := by decide +kernel
theorem dX9_refusalOfCells_68 : decode cX9_refusalOfCells 68 = .ok (.aload_n 0, 1) := by decide +kernel
theorem dX9_refusalOfCells_69 : decode cX9_refusalOfCells 69 = .ok (.getfield 12, 3) := by decide +kernel
theorem dX9_refusalOfCells_72 : decode cX9_refusalOfCells 72 = .ok (.iload_n 2, 1) := by decide +kernel
theorem dX9_refusalOfCells_73 : decode cX9_refusalOfCells 73 = .ok (.iload 5, 2) := by decide +kernel
theorem dX9_refusalOfCells_75 : decode cX9_refusalOfCells 75 = .ok (.iload 6, 2) := by decide +kernel
theorem dX9_refusalOfCells_77 : decode cX9_refusalOfCells 77 = .ok (.invokevirtual 190, 3) := by decide +kernel
theorem dX9_refusalOfCells_80 : decode cX9_refusalOfCells 80 = .ok (.ifCond .eq 7, 3) := by decide +kernel
theorem dX9_refusalOfCells_83 : decode cX9_refusalOfCells 83 = .ok (.iconst 0, 1) := by decide +kernel
theorem dX9_refusalOfCells_84 : decode cX9_refusalOfCells 84 = .ok (.goto 8, 3) := by decide +kernel
theorem dX9_refusalOfCells_87 : decode cX9_refusalOfCells 87 = .ok (.aload_n 0, 1) := by decide +kernel
theorem dX9_refusalOfCells_88 : decode cX9_refusalOfCells 88 = .ok (.iconst 3, 1) := by decide +kernel
theorem dX9_refusalOfCells_89 : decode cX9_refusalOfCells 89 = .ok (.invokevirtual 161, 3) := by decide +kernel
theorem dX9_refusalOfCells_92 : decode cX9_refusalOfCells 92 = .ok (.ireturn, 1) := by decide +kernel
theorem dX9_refusalOfRow_0 : decode cX9_refusalOfRow 0 = .ok (.aload_n 0, 1) := by decide +kernel
theorem dX9_refusalOfRow_1 : decode cX9_refusalOfRow 1 = .ok (.iload_n 1, 1) := by decide +kernel
theorem dX9_refusalOfRow_2 : decode cX9_refusalOfRow 2 = .ok (.iload_n 2, 1) := by decide +kernel
theorem dX9_refusalOfRow_3 : decode cX9_refusalOfRow 3 = .ok (.iload_n 3, 1) := by decide +kernel
theorem dX9_refusalOfRow_4 : decode cX9_refusalOfRow 4 = .ok (.iload 4, 2) := by decide +kernel
theorem dX9_refusalOfRow_6 : decode cX9_refusalOfRow 6 = .ok (.iload 5, 2) := by decide +kernel
theorem dX9_refusalOfRow_8 : decode cX9_refusalOfRow 8 = .ok (.iload 6, 2) := by decide +kernel
theorem dX9_refusalOfRow_10 : decode cX9_refusalOfRow 10 = .ok (.invokevirtual 64, 3) := by decide +kernel
theorem dX9_refusalOfRow_13 : decode cX9_refusalOfRow 13 = .ok (.istore 7, 2) := by decide +kernel
theorem dX9_refusalOfRow_15 : decode cX9_refusalOfRow 15 = .ok (.iload 7, 2) := by decide +kernel
theorem dX9_refusalOfRow_17 : decode cX9_refusalOfRow 17 = .ok (.ifCond .ge 6, 3) := by decide +kernel
theorem dX9_refusalOfRow_20 : decode cX9_refusalOfRow 20 = .ok (.iload 7, 2) := by decide +kernel
theorem dX9_refusalOfRow_22 : decode cX9_refusalOfRow 22 = .ok (.ireturn, 1) := by decide +kernel
theorem dX9_refusalOfRow_23 : decode cX9_refusalOfRow 23 = .ok (.iload 6, 2) := by decide +kernel
theorem dX9_refusalOfRow_25 : decode cX9_refusalOfRow 25 = .ok (.bipush 20, 2) := by decide +kernel
theorem dX9_refusalOfRow_27 : decode cX9_refusalOfRow 27 = .ok (.if_icmp .le 6, 3) := by decide +kernel
theorem dX9_refusalOfRow_30 : decode cX9_refusalOfRow 30 = .ok (.bipush (-2), 2) := by decide +kernel
theorem dX9_refusalOfRow_32 : decode cX9_refusalOfRow 32 = .ok (.ireturn, 1) := by decide +kernel
theorem dX9_refusalOfRow_33 : decode cX9_refusalOfRow 33 = .ok (.iconst 0, 1) := by decide +kernel
theorem dX9_refusalOfRow_34 : decode cX9_refusalOfRow 34 = .ok (.istore 8, 2) := by decide +kernel
theorem dX9_refusalOfRow_36 : decode cX9_refusalOfRow 36 = .ok (.iload 8, 2) := by decide +kernel
theorem dX9_refusalOfRow_38 : decode cX9_refusalOfRow 38 = .ok (.iload 6, 2) := by decide +kernel
theorem dX9_refusalOfRow_40 : decode cX9_refusalOfRow 40 = .ok (.if_icmp .ge 34, 3) := by decide +kernel
theorem dX9_refusalOfRow_43 : decode cX9_refusalOfRow 43 = .ok (.aload_n 0, 1) := by decide +kernel
theorem dX9_refusalOfRow_44 : decode cX9_refusalOfRow 44 = .ok (.getfield 28, 3) := by decide +kernel
theorem dX9_refusalOfRow_47 : decode cX9_refusalOfRow 47 = .ok (.aload_n 0, 1) := by decide +kernel
theorem dX9_refusalOfRow_48 : decode cX9_refusalOfRow 48 = .ok (.getfield 12, 3) := by decide +kernel
theorem dX9_refusalOfRow_51 : decode cX9_refusalOfRow 51 = .ok (.iload_n 2, 1) := by decide +kernel
theorem dX9_refusalOfRow_52 : decode cX9_refusalOfRow 52 = .ok (.iload 5, 2) := by decide +kernel
theorem dX9_refusalOfRow_54 : decode cX9_refusalOfRow 54 = .ok (.iload 8, 2) := by decide +kernel
theorem dX9_refusalOfRow_56 : decode cX9_refusalOfRow 56 = .ok (.iadd, 1) := by decide +kernel
theorem dX9_refusalOfRow_57 : decode cX9_refusalOfRow 57 = .ok (.invokevirtual 184, 3) := by decide +kernel
theorem dX9_refusalOfRow_60 : decode cX9_refusalOfRow 60 = .ok (.invokevirtual 83, 3) := by decide +kernel
theorem dX9_refusalOfRow_63 : decode cX9_refusalOfRow 63 = .ok (.ifnonnull 5, 3) := by decide +kernel
theorem dX9_refusalOfRow_66 : decode cX9_refusalOfRow 66 = .ok (.iconst (-1), 1) := by decide +kernel
theorem dX9_refusalOfRow_67 : decode cX9_refusalOfRow 67 = .ok (.ireturn, 1) := by decide +kernel
theorem dX9_refusalOfRow_68 : decode cX9_refusalOfRow 68 = .ok (.iinc 8 1, 3) := by decide +kernel
theorem dX9_refusalOfRow_71 : decode cX9_refusalOfRow 71 = .ok (.goto (-35), 3) := by decide +kernel
theorem dX9_refusalOfRow_74 : decode cX9_refusalOfRow 74 = .ok (.iconst 0, 1) := by decide +kernel
theorem dX9_refusalOfRow_75 : decode cX9_refusalOfRow 75 = .ok (.ireturn, 1) := by decide +kernel
theorem dX9_areBargains_0 : decode cX9_areBargains 0 = .ok (.iconst 0, 1) := by decide +kernel
theorem dX9_areBargains_1 : decode cX9_areBargains 1 = .ok (.istore 4, 2) := by decide +kernel
theorem dX9_areBargains_3 : decode cX9_areBargains 3 = .ok (.iload 4, 2) := by decide +kernel
theorem dX9_areBargains_5 : decode cX9_areBargains 5 = .ok (.iload_n 3, 1) := by decide +kernel
theorem dX9_areBargains_6 : decode cX9_areBargains 6 = .ok (.if_icmp .ge 29, 3) := by decide +kernel
theorem dX9_areBargains_9 : decode cX9_areBargains 9 = .ok (.aload_n 0, 1) := by decide +kernel
theorem dX9_areBargains_10 : decode cX9_areBargains 10 = .ok (.getfield 12, 3) := by decide +kernel
theorem dX9_areBargains_13 : decode cX9_areBargains 13 = .ok (.iload_n 1, 1) := by decide +kernel
theorem dX9_areBargains_14 : decode cX9_areBargains 14 = .ok (.iload_n 2, 1) := by decide +kernel
theorem dX9_areBargains_15 : decode cX9_areBargains 15 = .ok (.iload 4, 2) := by decide +kernel
theorem dX9_areBargains_17 : decode cX9_areBargains 17 = .ok (.iadd, 1) := by decide +kernel
theorem dX9_areBargains_18 : decode cX9_areBargains 18 = .ok (.invokevirtual 184, 3) := by decide +kernel
theorem dX9_areBargains_21 : decode cX9_areBargains 21 = .ok (.invokestatic 115, 3) := by decide +kernel
theorem dX9_areBargains_24 : decode cX9_areBargains 24 = .ok (.ifCond .ne 5, 3) := by decide +kernel
theorem dX9_areBargains_27 : decode cX9_areBargains 27 = .ok (.iconst 0, 1) := by decide +kernel
theorem dX9_areBargains_28 : decode cX9_areBargains 28 = .ok (.ireturn, 1) := by decide +kernel
theorem dX9_areBargains_29 : decode cX9_areBargains 29 = .ok (.iinc 4 1, 3) := by decide +kernel
theorem dX9_areBargains_32 : decode cX9_areBargains 32 = .ok (.goto (-29), 3) := by decide +kernel
theorem dX9_areBargains_35 : decode cX9_areBargains 35 = .ok (.iconst 1, 1) := by decide +kernel
theorem dX9_areBargains_36 : decode cX9_areBargains 36 = .ok (.ireturn, 1) := by decide +kernel
theorem dX9_meaning_0 : decode cX9_meaning 0 = .ok (.iconst 0, 1) := by decide +kernel
theorem dX9_meaning_1 : decode cX9_meaning 1 = .ok (.istore 6, 2) := by decide +kernel
theorem dX9_meaning_3 : decode cX9_meaning 3 = .ok (.iconst 0, 1) := by decide +kernel
theorem dX9_meaning_4 : decode cX9_meaning 4 = .ok (.istore 7, 2) := by decide +kernel
theorem dX9_meaning_6 : decode cX9_meaning 6 = .ok (.iload 7, 2) := by decide +kernel
theorem dX9_meaning_8 : decode cX9_meaning 8 = .ok (.iload_n 3, 1) := by decide +kernel
theorem dX9_meaning_9 : decode cX9_meaning 9 = .ok (.if_icmp .ge 63, 3) := by decide +kernel
theorem dX9_meaning_12 : decode cX9_meaning 12 = .ok (.aload_n 0, 1) := by decide +kernel
theorem dX9_meaning_13 : decode cX9_meaning 13 = .ok (.getfield 28, 3) := by decide +kernel
theorem dX9_meaning_16 : decode cX9_meaning 16 = .ok (.aload_n 0, 1) := by decide +kernel
theorem dX9_meaning_17 : decode cX9_meaning 17 = .ok (.getfield 12, 3) := by decide +kernel
theorem dX9_meaning_20 : decode cX9_meaning 20 = .ok (.iload_n 1, 1) := by decide +kernel
theorem dX9_meaning_21 : decode cX9_meaning 21 = .ok (.iload_n 2, 1) := by decide +kernel
theorem dX9_meaning_22 : decode cX9_meaning 22 = .ok (.iload 7, 2) := by decide +kernel
theorem dX9_meaning_24 : decode cX9_meaning 24 = .ok (.iadd, 1) := by decide +kernel
theorem dX9_meaning_25 : decode cX9_meaning 25 = .ok (.invokevirtual 184, 3) := by decide +kernel
theorem dX9_meaning_28 : decode cX9_meaning 28 = .ok (.invokevirtual 83, 3) := by decide +kernel
theorem dX9_meaning_31 : decode cX9_meaning 31 = .ok (.astore 8, 2) := by decide +kernel
theorem dX9_meaning_33 : decode cX9_meaning 33 = .ok (.aload 8, 2) := by decide +kernel
theorem dX9_meaning_35 : decode cX9_meaning 35 = .ok (.ifnull 15, 3) := by decide +kernel
theorem dX9_meaning_38 : decode cX9_meaning 38 = .ok (.aload 8, 2) := by decide +kernel
theorem dX9_meaning_40 : decode cX9_meaning 40 = .ok (.iload 4, 2) := by decide +kernel
theorem dX9_meaning_42 : decode cX9_meaning 42 = .ok (.iload 5, 2) := by decide +kernel
theorem dX9_meaning_44 : decode cX9_meaning 44 = .ok (.invokevirtual 100, 3) := by decide +kernel
theorem dX9_meaning_47 : decode cX9_meaning 47 = .ok (.ifCond .ne 9, 3) := by decide +kernel
theorem dX9_meaning_50 : decode cX9_meaning 50 = .ok (.bipush (-100), 2) := by decide +kernel
theorem dX9_meaning_52 : decode cX9_meaning 52 = .ok (.iload 7, 2) := by decide +kernel
theorem dX9_meaning_54 : decode cX9_meaning 54 = .ok (.isub, 1) := by decide +kernel
theorem dX9_meaning_55 : decode cX9_meaning 55 = .ok (.ireturn, 1) := by decide +kernel
theorem dX9_meaning_56 : decode cX9_meaning 56 = .ok (.iload 6, 2) := by decide +kernel
end
section
theorem dX9_meaning_58 : decode cX9_meaning 58 = .ok (.aload 8, 2) := by decide +kernel
theorem dX9_meaning_60 : decode cX9_meaning 60 = .ok (.invokevirtual 211, 3) := by decide +kernel
theorem dX9_meaning_63 : decode cX9_meaning 63 = .ok (.iadd, 1) := by decide +kernel
theorem dX9_meaning_64 : decode cX9_meaning 64 = .ok (.istore 6, 2) := by decide +kernel
theorem dX9_meaning_66 : decode cX9_meaning 66 = .ok (.iinc 7 1, 3) := by decide +kernel
theorem dX9_meaning_69 : decode cX9_meaning 69 = .ok (.goto (-63), 3) := by decide +kernel
theorem dX9_meaning_72 : decode cX9_meaning 72 = .ok (.iload 6, 2) := by decide +kernel
theorem dX9_meaning_74 : decode cX9_meaning 74 = .ok (.ireturn, 1) := by decide +kernel
theorem dX9_fewestWords_0 : decode cX9_fewestWords 0 = .ok (.aload_n 0, 1) := by decide +kernel
theorem dX9_fewestWords_1 : decode cX9_fewestWords 1 = .ok (.getfield 28, 3) := by decide +kernel
theorem dX9_fewestWords_4 : decode cX9_fewestWords 4 = .ok (.aload_n 0, 1) := by decide +kernel
theorem dX9_fewestWords_5 : decode cX9_fewestWords 5 = .ok (.getfield 42, 3) := by decide +kernel
theorem dX9_fewestWords_8 : decode cX9_fewestWords 8 = .ok (.iload_n 2, 1) := by decide +kernel
theorem dX9_fewestWords_9 : decode cX9_fewestWords 9 = .ok (.iload_n 3, 1) := by decide +kernel
theorem dX9_fewestWords_10 : decode cX9_fewestWords 10 = .ok (.iconst (-1), 1) := by decide +kernel
theorem dX9_fewestWords_11 : decode cX9_fewestWords 11 = .ok (.invokevirtual 132, 3) := by decide +kernel
theorem dX9_fewestWords_14 : decode cX9_fewestWords 14 = .ok (.aload_n 0, 1) := by decide +kernel
theorem dX9_fewestWords_15 : decode cX9_fewestWords 15 = .ok (.getfield 42, 3) := by decide +kernel
theorem dX9_fewestWords_18 : decode cX9_fewestWords 18 = .ok (.iload_n 1, 1) := by decide +kernel
theorem dX9_fewestWords_19 : decode cX9_fewestWords 19 = .ok (.invokevirtual 214, 3) := by decide +kernel
theorem dX9_fewestWords_22 : decode cX9_fewestWords 22 = .ok (.istore 4, 2) := by decide +kernel
theorem dX9_fewestWords_24 : decode cX9_fewestWords 24 = .ok (.iload 4, 2) := by decide +kernel
theorem dX9_fewestWords_26 : decode cX9_fewestWords 26 = .ok (.ldc 217, 2) := by decide +kernel
theorem dX9_fewestWords_28 : decode cX9_fewestWords 28 = .ok (.if_icmp .ge 8, 3) := by decide +kernel
theorem dX9_fewestWords_31 : decode cX9_fewestWords 31 = .ok (.iload 4, 2) := by decide +kernel
theorem dX9_fewestWords_33 : decode cX9_fewestWords 33 = .ok (.goto 5, 3) := by decide +kernel
theorem dX9_fewestWords_36 : decode cX9_fewestWords 36 = .ok (.bipush (-9), 2) := by decide +kernel
theorem dX9_fewestWords_38 : decode cX9_fewestWords 38 = .ok (.ireturn, 1) := by decide +kernel
theorem dX9_numberAt_0 : decode cX9_numberAt 0 = .ok (.bipush (-9), 2) := by decide +kernel
theorem dX9_numberAt_2 : decode cX9_numberAt 2 = .ok (.istore 5, 2) := by decide +kernel
theorem dX9_numberAt_4 : decode cX9_numberAt 4 = .ok (.iload_n 2, 1) := by decide +kernel
theorem dX9_numberAt_5 : decode cX9_numberAt 5 = .ok (.istore 6, 2) := by decide +kernel
theorem dX9_numberAt_7 : decode cX9_numberAt 7 = .ok (.iconst 0, 1) := by decide +kernel
theorem dX9_numberAt_8 : decode cX9_numberAt 8 = .ok (.istore 7, 2) := by decide +kernel
theorem dX9_numberAt_10 : decode cX9_numberAt 10 = .ok (.iload 7, 2) := by decide +kernel
theorem dX9_numberAt_12 : decode cX9_numberAt 12 = .ok (.iload_n 1, 1) := by decide +kernel
theorem dX9_numberAt_13 : decode cX9_numberAt 13 = .ok (.if_icmp .gt 34, 3) := by decide +kernel
theorem dX9_numberAt_16 : decode cX9_numberAt 16 = .ok (.aload_n 0, 1) := by decide +kernel
theorem dX9_numberAt_17 : decode cX9_numberAt 17 = .ok (.getfield 28, 3) := by decide +kernel
theorem dX9_numberAt_20 : decode cX9_numberAt 20 = .ok (.aload_n 0, 1) := by decide +kernel
theorem dX9_numberAt_21 : decode cX9_numberAt 21 = .ok (.getfield 42, 3) := by decide +kernel
theorem dX9_numberAt_24 : decode cX9_numberAt 24 = .ok (.iload 6, 2) := by decide +kernel
theorem dX9_numberAt_26 : decode cX9_numberAt 26 = .ok (.iload_n 3, 1) := by decide +kernel
theorem dX9_numberAt_27 : decode cX9_numberAt 27 = .ok (.iload 4, 2) := by decide +kernel
theorem dX9_numberAt_29 : decode cX9_numberAt 29 = .ok (.invokevirtual 218, 3) := by decide +kernel
theorem dX9_numberAt_32 : decode cX9_numberAt 32 = .ok (.istore 5, 2) := by decide +kernel
theorem dX9_numberAt_34 : decode cX9_numberAt 34 = .ok (.iload 6, 2) := by decide +kernel
theorem dX9_numberAt_36 : decode cX9_numberAt 36 = .ok (.iload 5, 2) := by decide +kernel
theorem dX9_numberAt_38 : decode cX9_numberAt 38 = .ok (.isub, 1) := by decide +kernel
theorem dX9_numberAt_39 : decode cX9_numberAt 39 = .ok (.istore 6, 2) := by decide +kernel
theorem dX9_numberAt_41 : decode cX9_numberAt 41 = .ok (.iinc 7 1, 3) := by decide +kernel
theorem dX9_numberAt_44 : decode cX9_numberAt 44 = .ok (.goto (-34), 3) := by decide +kernel
theorem dX9_numberAt_47 : decode cX9_numberAt 47 = .ok (.iload 5, 2) := by decide +kernel
theorem dX9_numberAt_49 : decode cX9_numberAt 49 = .ok (.ireturn, 1) := by decide +kernel
theorem dX9_bargainsSaid_0 : decode cX9_bargainsSaid 0 = .ok (.aload_n 0, 1) := by decide +kernel
theorem dX9_bargainsSaid_1 : decode cX9_bargainsSaid 1 = .ok (.getfield 56, 3) := by decide +kernel
theorem dX9_bargainsSaid_4 : decode cX9_bargainsSaid 4 = .ok (.iconst 0, 1) := by decide +kernel
theorem dX9_bargainsSaid_5 : decode cX9_bargainsSaid 5 = .ok (.iload_n 1, 1) := by decide +kernel
theorem dX9_bargainsSaid_6 : decode cX9_bargainsSaid 6 = .ok (.iastore, 1) := by decide +kernel
theorem dX9_bargainsSaid_7 : decode cX9_bargainsSaid 7 = .ok (.iconst 0, 1) := by decide +kernel
theorem dX9_bargainsSaid_8 : decode cX9_bargainsSaid 8 = .ok (.istore 6, 2) := by decide +kernel
theorem dX9_bargainsSaid_10 : decode cX9_bargainsSaid 10 = .ok (.iconst 0, 1) := by decide +kernel
theorem dX9_bargainsSaid_11 : decode cX9_bargainsSaid 11 = .ok (.istore 7, 2) := by decide +kernel
theorem dX9_bargainsSaid_13 : decode cX9_bargainsSaid 13 = .ok (.iload 7, 2) := by decide +kernel
theorem dX9_bargainsSaid_15 : decode cX9_bargainsSaid 15 = .ok (.iload 5, 2) := by decide +kernel
theorem dX9_bargainsSaid_17 : decode cX9_bargainsSaid 17 = .ok (.if_icmp .ge 41, 3) := by decide +kernel
theorem dX9_bargainsSaid_20 : decode cX9_bargainsSaid 20 = .ok (.aload_n 0, 1) := by decide +kernel
theorem dX9_bargainsSaid_21 : decode cX9_bargainsSaid 21 = .ok (.getfield 42, 3) := by decide +kernel
theorem dX9_bargainsSaid_24 : decode cX9_bargainsSaid 24 = .ok (.aload_n 0, 1) := by decide +kernel
theorem dX9_bargainsSaid_25 : decode cX9_bargainsSaid 25 = .ok (.getfield 56, 3) := by decide +kernel
theorem dX9_bargainsSaid_28 : decode cX9_bargainsSaid 28 = .ok (.iconst 1, 1) := by decide +kernel
theorem dX9_bargainsSaid_29 : decode cX9_bargainsSaid 29 = .ok (.aload_n 0, 1) := by decide +kernel
theorem dX9_bargainsSaid_30 : decode cX9_bargainsSaid 30 = .ok (.getfield 12, 3) := by decide +kernel
theorem dX9_bargainsSaid_33 : decode cX9_bargainsSaid 33 = .ok (.iload_n 3, 1) := by decide +kernel
theorem dX9_bargainsSaid_34 : decode cX9_bargainsSaid 34 = .ok (.iload 4, 2) := by decide +kernel
theorem dX9_bargainsSaid_36 : decode cX9_bargainsSaid 36 = .ok (.iload 7, 2) := by decide +kernel
theorem dX9_bargainsSaid_38 : decode cX9_bargainsSaid 38 = .ok (.iadd, 1) := by decide +kernel
theorem dX9_bargainsSaid_39 : decode cX9_bargainsSaid 39 = .ok (.invokevirtual 184, 3) := by decide +kernel
theorem dX9_bargainsSaid_42 : decode cX9_bargainsSaid 42 = .ok (.iload_n 2, 1) := by decide +kernel
theorem dX9_bargainsSaid_43 : decode cX9_bargainsSaid 43 = .ok (.invokevirtual 222, 3) := by decide +kernel
theorem dX9_bargainsSaid_46 : decode cX9_bargainsSaid 46 = .ok (.ifCond .eq 6, 3) := by decide +kernel
theorem dX9_bargainsSaid_49 : decode cX9_bargainsSaid 49 = .ok (.iinc 6 1, 3) := by decide +kernel
theorem dX9_bargainsSaid_52 : decode cX9_bargainsSaid 52 = .ok (.iinc 7 1, 3) := by decide +kernel
theorem dX9_bargainsSaid_55 : decode cX9_bargainsSaid 55 = .ok (.goto (-42), 3) := by decide +kernel
theorem dX9_bargainsSaid_58 : decode cX9_bargainsSaid 58 = .ok (.iload 6, 2) := by decide +kernel
theorem dX9_bargainsSaid_60 : decode cX9_bargainsSaid 60 = .ok (.ireturn, 1) := by decide +kernel
theorem dX9_reduced_0 : decode cX9_reduced 0 = .ok (.bipush 99, 2) := by decide +kernel
theorem dX9_reduced_2 : decode cX9_reduced 2 = .ok (.istore_n 2, 1) := by decide +kernel
theorem dX9_reduced_3 : decode cX9_reduced 3 = .ok (.iload_n 2, 1) := by decide +kernel
theorem dX9_reduced_4 : decode cX9_reduced 4 = .ok (.iconst 1, 1) := by decide +kernel
theorem dX9_reduced_5 : decode cX9_reduced 5 = .ok (.if_icmp .le 25, 3) := by decide +kernel
theorem dX9_reduced_8 : decode cX9_reduced 8 = .ok (.iload_n 0, 1) := by decide +kernel
theorem dX9_reduced_9 : decode cX9_reduced 9 = .ok (.iload_n 2, 1) := by decide +kernel
theorem dX9_reduced_10 : decode cX9_reduced 10 = .ok (.irem, 1) := by decide +kernel
theorem dX9_reduced_11 : decode cX9_reduced 11 = .ok (.ifCond .ne 13, 3) := by decide +kernel
theorem dX9_reduced_14 : decode cX9_reduced 14 = .ok (.iload_n 1, 1) := by decide +kernel
theorem dX9_reduced_15 : decode cX9_reduced 15 = .ok (.iload_n 2, 1) := by decide +kernel
theorem dX9_reduced_16 : decode cX9_reduced 16 = .ok (.irem, 1) := by decide +kernel
theorem dX9_reduced_17 : decode cX9_reduced 17 = .ok (.ifCond .ne 7, 3) := by decide +kernel
theorem dX9_reduced_20 : decode cX9_reduced 20 = .ok (.iload_n 0, 1) := by decide +kernel
theorem dX9_reduced_21 : decode cX9_reduced 21 = .ok (.iload_n 2, 1) := by decide +kernel
theorem dX9_reduced_22 : decode cX9_reduced 22 = .ok (.idiv, 1) := by decide +kernel
theorem dX9_reduced_23 : decode cX9_reduced 23 = .ok (.ireturn, 1) := by decide +kernel
theorem dX9_reduced_24 : decode cX9_reduced 24 = .ok (.iinc 2 (-1), 3) := by decide +kernel
theorem dX9_reduced_27 : decode cX9_reduced 27 = .ok (.goto (-24), 3) := by decide +kernel
theorem dX9_reduced_30 : decode cX9_reduced 30 = .ok (.iload_n 0, 1) := by decide +kernel
theorem dX9_reduced_31 : decode cX9_reduced 31 = .ok (.ireturn, 1) := by decide +kernel
theorem dX10_init_0 : decode cX10_init 0 = .ok (.aload_n 0, 1) := by decide +kernel
theorem dX10_init_1 : decode cX10_init 1 = .ok (.invokespecial 1, 3) := by decide +kernel
theorem dX10_init_4 : decode cX10_init 4 = .ok (.aload_n 0, 1) := by decide +kernel
theorem dX10_init_5 : decode cX10_init 5 = .ok (.bipush 10, 2) := by decide +kernel
theorem dX10_init_7 : decode cX10_init 7 = .ok (.newarray .int, 2) := by decide +kernel
theorem dX10_init_9 : decode cX10_init 9 = .ok (.putfield 7, 3) := by decide +kernel
theorem dX10_init_12 : decode cX10_init 12 = .ok (.aload_n 0, 1) := by decide +kernel
theorem dX10_init_13 : decode cX10_init 13 = .ok (.bipush 10, 2) := by decide +kernel
theorem dX10_init_15 : decode cX10_init 15 = .ok (.newarray .int, 2) := by decide +kernel
theorem dX10_init_17 : decode cX10_init 17 = .ok (.putfield 13, 3) := by decide +kernel
theorem dX10_init_20 : decode cX10_init 20 = .ok (.aload_n 0, 1) := by decide +kernel
theorem dX10_init_21 : decode cX10_init 21 = .ok (.bipush 10, 2) := by decide +kernel
theorem dX10_init_23 : decode cX10_init 23 = .ok (.newarray .int, 2) := by decide +kernel
theorem dX10_init_25 : decode cX10_init 25 = .ok (.putfield 16, 3) := by decide +kernel
theorem dX10_init_28 : decode cX10_init 28 = .ok (.aload_n 0, 1) := by decide +kernel
theorem dX10_init_29 : decode cX10_init 29 = .ok (.bipush 10, 2) := by decide +kernel
theorem dX10_init_31 : decode cX10_init 31 = .ok (.newarray .int, 2) := by decide +kernel
theorem dX10_init_33 : decode cX10_init 33 = .ok (.putfield 19, 3) := by decide +kernel
theorem dX10_init_36 : decode cX10_init 36 = .ok (.aload_n 0, 1) := by decide +kernel
theorem dX10_init_37 : decode cX10_init 37 = .ok (.bipush 10, 2) := by decide +kernel
theorem dX10_init_39 : decode cX10_init 39 = .ok (.newarray .int, 2) := by decide +kernel
theorem dX10_init_41 : decode cX10_init 41 = .ok (.putfield 22, 3) := by decide +kernel
theorem dX10_init_44 : decode cX10_init 44 = .ok (.aload_n 0, 1) := by decide +kernel
theorem dX10_init_45 : decode cX10_init 45 = .ok (.bipush 10, 2) := by decide +kernel
theorem dX10_init_47 : decode cX10_init 47 = .ok (.newarray .int, 2) := by decide +kernel
theorem dX10_init_49 : decode cX10_init 49 = .ok (.putfield 25, 3) := by decide +kernel
theorem dX10_init_52 : decode cX10_init 52 = .ok (.aload_n 0, 1) := by decide +kernel
theorem dX10_init_53 : decode cX10_init 53 = .ok (.bipush 10, 2) := by decide +kernel
theorem dX10_init_55 : decode cX10_init 55 = .ok (.newarray .int, 2) := by decide +kernel
theorem dX10_init_57 : decode cX10_init 57 = .ok (.putfield 28, 3) := by decide +kernel
theorem dX10_init_60 : decode cX10_init 60 = .ok (.aload_n 0, 1) := by decide +kernel
theorem dX10_init_61 : decode cX10_init 61 = .ok (.bipush 10, 2) := by decide +kernel
theorem dX10_init_63 : decode cX10_init 63 = .ok (.newarray .int, 2) := by decide +kernel
theorem dX10_init_65 : decode cX10_init 65 = .ok (.putfield 31, 3) := by decide +kernel
theorem dX10_init_68 : decode cX10_init 68 = .ok (.aload_n 0, 1) := by decide +kernel
theorem dX10_init_69 : decode cX10_init 69 = .ok (.bipush 10, 2) := by decide +kernel
theorem dX10_init_71 : decode cX10_init 71 = .ok (.newarray .int, 2) := by decide +kernel
theorem dX10_init_73 : decode cX10_init 73 = .ok (.putfield 34, 3) := by decide +kernel
theorem dX10_init_76 : decode cX10_init 76 = .ok (.aload_n 0, 1) := by decide +kernel
theorem dX10_init_77 : decode cX10_init 77 = .ok (.bipush 10, 2) := by decide +kernel
theorem dX10_init_79 : decode cX10_init 79 = .ok (.newarray .int, 2) := by decide +kernel
theorem dX10_init_81 : decode cX10_init 81 = .ok (.putfield 37, 3) := by decide +kernel
theorem dX10_init_84 : decode cX10_init 84 = .ok (.aload_n 0, 1) := by decide +kernel
theorem dX10_init_85 : decode cX10_init 85 = .ok (.bipush 100, 2) := by decide +kernel
theorem dX10_init_87 : decode cX10_init 87 = .ok (.newarray .boolean, 2) := by decide +kernel
theorem dX10_init_89 : decode cX10_init 89 = .ok (.putfield 40, 3) := by decide +kernel
theorem dX10_init_92 : decode cX10_init 92 = .ok (.aload_n 0, 1) := by decide +kernel
theorem dX10_init_93 : decode cX10_init 93 = .ok (.sipush 1000, 3) := by decide +kernel
theorem dX10_init_96 : decode cX10_init 96 = .ok (.newarray .int, 2) := by decide +kernel
theorem dX10_init_98 : decode cX10_init 98 = .ok (.putfield 44, 3) := by decide +kernel
theorem dX10_init_101 : decode cX10_init 101 = .ok (.aload_n 0, 1) := by decide +kernel
theorem dX10_init_102 : decode cX10_init 102 = .ok (.sipush 1000, 3) := by decide +kernel
theorem dX10_init_105 : decode cX10_init 105 = .ok (.newarray .boolean, 2) := by decide +kernel
theorem dX10_init_107 : decode cX10_init 107 = .ok (.putfield 47, 3) := by decide +kernel
theorem dX10_init_110 : decode cX10_init 110 = .ok (.aload_n 0, 1) := by decide +kernel
theorem dX10_init_111 : decode cX10_init 111 = .ok (.iconst 4, 1) := by decide +kernel
theorem dX10_init_112 : decode cX10_init 112 = .ok (.newarray .int, 2) := by decide +kernel
theorem dX10_init_114 : decode cX10_init 114 = .ok (.putfield 50, 3) := by decide +kernel
theorem dX10_init_117 : decode cX10_init 117 = .ok (.aload_n 0, 1) := by decide +kernel
theorem dX10_init_118 : decode cX10_init 118 = .ok (.iconst 4, 1) := by decide +kernel
theorem dX10_init_119 : decode cX10_init 119 = .ok (.newarray .int, 2) := by decide +kernel
theorem dX10_init_121 : decode cX10_init 121 = .ok (.putfield 53, 3) := by decide +kernel
theorem dX10_init_124 : decode cX10_init 124 = .ok (.aload_n 0, 1) := by decide +kernel
theorem dX10_init_125 : decode cX10_init 125 = .ok (.sipush 400, 3) := by decide +kernel
theorem dX10_init_128 : decode cX10_init 128 = .ok (.newarray .int, 2) := by decide +kernel
theorem dX10_init_130 : decode cX10_init 130 = .ok (.putfield 56, 3) := by decide +kernel
theorem dX10_init_133 : decode cX10_init 133 = .ok (.aload_n 0, 1) := by decide +kernel
theorem dX10_init_134 : decode cX10_init 134 = .ok (.bipush 100, 2) := by decide +kernel
theorem dX10_init_136 : decode cX10_init 136 = .ok (.newarray .int, 2) := by decide +kernel
theorem dX10_init_138 : decode cX10_init 138 = .ok (.putfield 59, 3) := by decide +kernel
theorem dX10_init_141 : decode cX10_init 141 = .ok (.iconst 0, 1) := by decide +kernel
theorem dX10_init_142 : decode cX10_init 142 = .ok (.istore_n 1, 1) := by decide +kernel
theorem dX10_init_143 : decode cX10_init 143 = .ok (.iload_n 1, 1) := by decide +kernel
theorem dX10_init_144 : decode cX10_init 144 = .ok (.iconst 4, 1) := by decide +kernel
theorem dX10_init_145 : decode cX10_init 145 = .ok (.if_icmp .ge 16, 3) := by decide +kernel
theorem dX10_init_148 : decode cX10_init 148 = .ok (.aload_n 0, 1) := by decide +kernel
theorem dX10_init_149 : decode cX10_init 149 = .ok (.getfield 50, 3) := by decide +kernel
theorem dX10_init_152 : decode cX10_init 152 = .ok (.iload_n 1, 1) := by decide +kernel
theorem dX10_init_153 : decode cX10_init 153 = .ok (.iconst (-1), 1) := by decide +kernel
theorem dX10_init_154 : decode cX10_init 154 = .ok (.iastore, 1) := by decide +kernel
theorem dX10_init_155 : decode cX10_init 155 = .ok (.iinc 1 1, 3) := by decide +kernel
theorem dX10_init_158 : decode cX10_init 158 = .ok (.goto (-15), 3) := by decide +kernel
theorem dX10_init_161 : decode cX10_init 161 = .ok (.return_, 1) := by decide +kernel
theorem dX10_in_0 : decode cX10_in 0 = .ok (.lload_n 0, 1) := by decide +kernel
theorem dX10_in_1 : decode cX10_in 1 = .ok (.lload_n 2, 1) := by decide +kernel
theorem dX10_in_2 : decode cX10_in 2 = .ok (.lcmp, 1) := by decide +kernel
theorem dX10_in_3 : decode cX10_in 3 = .ok (.ifCond .lt 14, 3) := by decide +kernel
theorem dX10_in_6 : decode cX10_in 6 = .ok (.lload_n 0, 1) := by decide +kernel
theorem dX10_in_7 : decode cX10_in 7 = .ok (.lload 4, 2) := by decide +kernel
theorem dX10_in_9 : decode cX10_in 9 = .ok (.lcmp, 1) := by decide +kernel
theorem dX10_in_10 : decode cX10_in 10 = .ok (.ifCond .gt 7, 3) := by decide +kernel
theorem dX10_in_13 : decode cX10_in 13 = .ok (.iconst 1, 1) := by decide +kernel
theorem dX10_in_14 : decode cX10_in 14 = .ok (.goto 4, 3) := by decide +kernel
theorem dX10_in_17 : decode cX10_in 17 = .ok (.iconst 0, 1) := by decide +kernel
theorem dX10_in_18 : decode cX10_in 18 = .ok (.ireturn, 1) := by decide +kernel
theorem dX10_nothing_0 : decode cX10_nothing 0 = .ok (.ldc2_w 62, 3) := by decide +kernel
theorem dX10_nothing_3 : decode cX10_nothing 3 = .ok (.lreturn, 1) := by decide +kernel
theorem dX10_lesser_0 : decode cX10_lesser 0 = .ok (.iload_n 0, 1) := by decide +kernel
theorem dX10_lesser_1 : decode cX10_lesser 1 = .ok (.iload_n 1, 1) := by decide +kernel
theorem dX10_lesser_2 : decode cX10_lesser 2 = .ok (.if_icmp .ge 7, 3) := by decide +kernel
theorem dX10_lesser_5 : decode cX10_lesser 5 = .ok (.iload_n 0, 1) := by decide +kernel
theorem dX10_lesser_6 : decode cX10_lesser 6 = .ok (.goto 4, 3) := by decide +kernel
theorem dX10_lesser_9 : decode cX10_lesser 9 = .ok (.iload_n 1, 1) := by decide +kernel
theorem dX10_lesser_10 : decode cX10_lesser 10 = .ok (.ireturn, 1) := by decide +kernel
theorem dX10_shared_0 : decode cX10_shared 0 = .ok (.lload_n 0, 1) := by decide +kernel
theorem dX10_shared_1 : decode cX10_shared 1 = .ok (.lstore 5, 2) := by decide +kernel
theorem dX10_shared_3 : decode cX10_shared 3 = .ok (.lload_n 2, 1) := by decide +kernel
theorem dX10_shared_4 : decode cX10_shared 4 = .ok (.lstore 7, 2) := by decide +kernel
theorem dX10_shared_6 : decode cX10_shared 6 = .ok (.lload 7, 2) := by decide +kernel
theorem dX10_shared_8 : decode cX10_shared 8 = .ok (.lconst 0, 1) := by decide +kernel
theorem dX10_shared_9 : decode cX10_shared 9 = .ok (.lcmp, 1) := by decide +kernel
theorem dX10_shared_10 : decode cX10_shared 10 = .ok (.ifCond .eq 21, 3) := by decide +kernel
theorem dX10_shared_13 : decode cX10_shared 13 = .ok (.lload 5, 2) := by decide +kernel
theorem dX10_shared_15 : decode cX10_shared 15 = .ok (.lload 7, 2) := by decide +kernel
theorem dX10_shared_17 : decode cX10_shared 17 = .ok (.lrem, 1) := by decide +kernel
theorem dX10_shared_18 : decode cX10_shared 18 = .ok (.lstore 9, 2) := by decide +kernel
theorem dX10_shared_20 : decode cX10_shared 20 = .ok (.lload 7, 2) := by decide +kernel
theorem dX10_shared_22 : decode cX10_shared 22 = .ok (.lstore 5, 2) := by decide +kernel
theorem dX10_shared_24 : decode cX10_shared 24 = .ok (.lload 9, 2) := by decide +kernel
theorem dX10_shared_26 : decode cX10_shared 26 = .ok (.lstore 7, 2) := by decide +kernel
theorem dX10_shared_28 : decode cX10_shared 28 = .ok (.goto (-22), 3) := by decide +kernel
theorem dX10_shared_31 : decode cX10_shared 31 = .ok (.iload 4, 2) := by decide +kernel
theorem dX10_shared_33 : decode cX10_shared 33 = .ok (.ifCond .ne 7, 3) := by decide +kernel
theorem dX10_shared_36 : decode cX10_shared 36 = .ok (.lload_n 0, 1) := by decide +kernel
theorem dX10_shared_37 : decode cX10_shared 37 = .ok (.goto 4, 3) := by decide +kernel
theorem dX10_shared_40 : decode cX10_shared 40 = .ok (.lload_n 2, 1) := by decide +kernel
theorem dX10_shared_41 : decode cX10_shared 41 = .ok (.lload 5, 2) := by decide +kernel
theorem dX10_shared_43 : decode cX10_shared 43 = .ok (.ldiv, 1) := by decide +kernel
theorem dX10_shared_44 : decode cX10_shared 44 = .ok (.lreturn, 1) := by decide +kernel
theorem dX10_refused_0 : decode cX10_refused 0 = .ok (.aload_n 0, 1) := by decide +kernel
theorem dX10_refused_1 : decode cX10_refused 1 = .ok (.iconst 0, 1) := by decide +kernel
theorem dX10_refused_2 : decode cX10_refused 2 = .ok (.putfield 64, 3) := by decide +kernel
theorem dX10_refused_5 : decode cX10_refused 5 = .ok (.iload_n 1, 1) := by decide +kernel
theorem dX10_refused_6 : decode cX10_refused 6 = .ok (.ireturn, 1) := by decide +kernel
theorem dX10_failed_0 : decode cX10_failed 0 = .ok (.aload_n 0, 1) := by decide +kernel
theorem dX10_failed_1 : decode cX10_failed 1 = .ok (.iload_n 1, 1) := by decide +kernel
theorem dX10_failed_2 : decode cX10_failed 2 = .ok (.putfield 64, 3) := by decide +kernel
theorem dX10_failed_5 : decode cX10_failed 5 = .ok (.bipush (-10), 2) := by decide +kernel
theorem dX10_failed_7 : decode cX10_failed 7 = .ok (.iload_n 1, 1) := by decide +kernel
theorem dX10_failed_8 : decode cX10_failed 8 = .ok (.isub, 1) := by decide +kernel
theorem dX10_failed_9 : decode cX10_failed 9 = .ok (.ireturn, 1) := by decide +kernel
theorem dX10_failedLong_0 : decode cX10_failedLong 0 = .ok (.aload_n 0, 1) := by decide +kernel
theorem dX10_failedLong_1 : decode cX10_failedLong 1 = .ok (.iload_n 1, 1) := by decide +kernel
theorem dX10_failedLong_2 : decode cX10_failedLong 2 = .ok (.putfield 64, 3) := by decide +kernel
theorem dX10_failedLong_5 : decode cX10_failedLong 5 = .ok (.invokestatic 68, 3) := by decide +kernel
theorem dX10_failedLong_8 : decode cX10_failedLong 8 = .ok (.lreturn, 1) := by decide +kernel
theorem dX10_barred_0 : decode cX10_barred 0 = .ok (.iload_n 1, 1) := by decide +kernel
theorem dX10_barred_1 : decode cX10_barred 1 = .ok (.invokestatic 72, 3) := by decide +kernel
theorem dX10_barred_4 : decode cX10_barred 4 = .ok (.ifCond .eq 9, 3) := by decide +kernel
theorem dX10_barred_7 : decode cX10_barred 7 = .ok (.aload_n 0, 1) := by decide +kernel
theorem dX10_barred_8 : decode cX10_barred 8 = .ok (.iconst (-1), 1) := by decide +kernel
theorem dX10_barred_9 : decode cX10_barred 9 = .ok (.invokevirtual 76, 3) := by decide +kernel
theorem dX10_barred_12 : decode cX10_barred 12 = .ok (.ireturn, 1) := by decide +kernel
theorem dX10_barred_13 : decode cX10_barred 13 = .ok (.iload_n 2, 1) := by decide +kernel
theorem dX10_barred_14 : decode cX10_barred 14 = .ok (.i2l, 1) := by decide +kernel
theorem dX10_barred_15 : decode cX10_barred 15 = .ok (.lconst 0, 1) := by decide +kernel
theorem dX10_barred_16 : decode cX10_barred 16 = .ok (.ldc2_w 80, 3) := by decide +kernel
theorem dX10_barred_19 : decode cX10_barred 19 = .ok (.invokestatic 82, 3) := by decide +kernel
theorem dX10_barred_22 : decode cX10_barred 22 = .ok (.ifCond .eq 8, 3) := by decide +kernel
theorem dX10_barred_25 : decode cX10_barred 25 = .ok (.iload 6, 2) := by decide +kernel
theorem dX10_barred_27 : decode cX10_barred 27 = .ok (.ifCond .ne 10, 3) := by decide +kernel
theorem dX10_barred_30 : decode cX10_barred 30 = .ok (.aload_n 0, 1) := by decide +kernel
theorem dX10_barred_31 : decode cX10_barred 31 = .ok (.bipush (-2), 2) := by decide +kernel
theorem dX10_barred_33 : decode cX10_barred 33 = .ok (.invokevirtual 76, 3) := by decide +kernel
theorem dX10_barred_36 : decode cX10_barred 36 = .ok (.ireturn, 1) := by decide +kernel
theorem dX10_barred_37 : decode cX10_barred 37 = .ok (.aload_n 0, 1) := by decide +kernel
theorem dX10_barred_38 : decode cX10_barred 38 = .ok (.getfield 50, 3) := by decide +kernel
theorem dX10_barred_41 : decode cX10_barred 41 = .ok (.iload_n 1, 1) := by decide +kernel
theorem dX10_barred_42 : decode cX10_barred 42 = .ok (.iaload, 1) := by decide +kernel
theorem dX10_barred_43 : decode cX10_barred 43 = .ok (.ifCond .lt 19, 3) := by decide +kernel
theorem dX10_barred_46 : decode cX10_barred 46 = .ok (.aload_n 0, 1) := by decide +kernel
theorem dX10_barred_47 : decode cX10_barred 47 = .ok (.getfield 53, 3) := by decide +kernel
theorem dX10_barred_50 : decode cX10_barred 50 = .ok (.iload_n 1, 1) := by decide +kernel
theorem dX10_barred_51 : decode cX10_barred 51 = .ok (.iaload, 1) := by decide +kernel
theorem dX10_barred_52 : decode cX10_barred 52 = .ok (.iload_n 2, 1) := by decide +kernel
theorem dX10_barred_53 : decode cX10_barred 53 = .ok (.if_icmp .eq 9, 3) := by decide +kernel
theorem dX10_barred_56 : decode cX10_barred 56 = .ok (.aload_n 0, 1) := by decide +kernel
theorem dX10_barred_57 : decode cX10_barred 57 = .ok (.iconst 2, 1) := by decide +kernel
theorem dX10_barred_58 : decode cX10_barred 58 = .ok (.invokevirtual 86, 3) := by decide +kernel
theorem dX10_barred_61 : decode cX10_barred 61 = .ok (.ireturn, 1) := by decide +kernel
theorem dX10_barred_62 : decode cX10_barred 62 = .ok (.aload_n 0, 1) := by decide +kernel
theorem dX10_barred_63 : decode cX10_barred 63 = .ok (.getfield 50, 3) := by decide +kernel
theorem dX10_barred_66 : decode cX10_barred 66 = .ok (.iload_n 1, 1) := by decide +kernel
theorem dX10_barred_67 : decode cX10_barred 67 = .ok (.iaload, 1) := by decide +kernel
theorem dX10_barred_68 : decode cX10_barred 68 = .ok (.ifCond .ge 9, 3) := by decide +kernel
theorem dX10_barred_71 : decode cX10_barred 71 = .ok (.aload_n 0, 1) := by decide +kernel
theorem dX10_barred_72 : decode cX10_barred 72 = .ok (.iconst 1, 1) := by decide +kernel
theorem dX10_barred_73 : decode cX10_barred 73 = .ok (.invokevirtual 86, 3) := by decide +kernel
theorem dX10_barred_76 : decode cX10_barred 76 = .ok (.ireturn, 1) := by decide +kernel
theorem dX10_barred_77 : decode cX10_barred 77 = .ok (.lload 4, 2) := by decide +kernel
theorem dX10_barred_79 : decode cX10_barred 79 = .ok (.lconst 0, 1) := by decide +kernel
theorem dX10_barred_80 : decode cX10_barred 80 = .ok (.lcmp, 1) := by decide +kernel
theorem dX10_barred_81 : decode cX10_barred 81 = .ok (.ifCond .ge 9, 3) := by decide +kernel
theorem dX10_barred_84 : decode cX10_barred 84 = .ok (.aload_n 0, 1) := by decide +kernel
theorem dX10_barred_85 : decode cX10_barred 85 = .ok (.iconst 4, 1) := by decide +kernel
theorem dX10_barred_86 : decode cX10_barred 86 = .ok (.invokevirtual 86, 3) := by decide +kernel
theorem dX10_barred_89 : decode cX10_barred 89 = .ok (.ireturn, 1) := by decide +kernel
theorem dX10_barred_90 : decode cX10_barred 90 = .ok (.iload_n 3, 1) := by decide +kernel
theorem dX10_barred_91 : decode cX10_barred 91 = .ok (.lload 4, 2) := by decide +kernel
theorem dX10_barred_93 : decode cX10_barred 93 = .ok (.aload_n 0, 1) := by decide +kernel
theorem dX10_barred_94 : decode cX10_barred 94 = .ok (.getfield 50, 3) := by decide +kernel
theorem dX10_barred_97 : decode cX10_barred 97 = .ok (.iload_n 1, 1) := by decide +kernel
theorem dX10_barred_98 : decode cX10_barred 98 = .ok (.iaload, 1) := by decide +kernel
theorem dX10_barred_99 : decode cX10_barred 99 = .ok (.invokestatic 89, 3) := by decide +kernel
theorem dX10_barred_102 : decode cX10_barred 102 = .ok (.ifCond .eq 11, 3) := by decide +kernel
theorem dX10_barred_105 : decode cX10_barred 105 = .ok (.aload_n 0, 1) := by decide +kernel
theorem dX10_barred_106 : decode cX10_barred 106 = .ok (.iconst 3, 1) := by decide +kernel
theorem dX10_barred_107 : decode cX10_barred 107 = .ok (.invokevirtual 86, 3) := by decide +kernel
theorem dX10_barred_110 : decode cX10_barred 110 = .ok (.goto 4, 3) := by decide +kernel
theorem dX10_barred_113 : decode cX10_barred 113 = .ok (.iconst 0, 1) := by decide +kernel
theorem dX10_barred_114 : decode cX10_barred 114 = .ok (.ireturn, 1) := by decide +kernel
theorem dX10_noOne_0 : decode cX10_noOne 0 = .ok (.iload_n 1, 1) := by decide +kernel
theorem dX10_noOne_1 : decode cX10_noOne 1 = .ok (.i2l, 1) := by decide +kernel
theorem dX10_noOne_2 : decode cX10_noOne 2 = .ok (.lconst 0, 1) := by decide +kernel
theorem dX10_noOne_3 : decode cX10_noOne 3 = .ok (.aload_n 0, 1) := by decide +kernel
theorem dX10_noOne_4 : decode cX10_noOne 4 = .ok (.getfield 93, 3) := by decide +kernel
theorem dX10_noOne_7 : decode cX10_noOne 7 = .ok (.i2l, 1) := by decide +kernel
theorem dX10_noOne_8 : decode cX10_noOne 8 = .ok (.lconst 1, 1) := by decide +kernel
theorem dX10_noOne_9 : decode cX10_noOne 9 = .ok (.lsub, 1) := by decide +kernel
theorem dX10_noOne_10 : decode cX10_noOne 10 = .ok (.invokestatic 82, 3) := by decide +kernel
theorem dX10_noOne_13 : decode cX10_noOne 13 = .ok (.ifCond .ne 7, 3) := by decide +kernel
theorem dX10_noOne_16 : decode cX10_noOne 16 = .ok (.iconst 1, 1) := by decide +kernel
theorem dX10_noOne_17 : decode cX10_noOne 17 = .ok (.goto 4, 3) := by decide +kernel
theorem dX10_noOne_20 : decode cX10_noOne 20 = .ok (.iconst 0, 1) := by decide +kernel
theorem dX10_noOne_21 : decode cX10_noOne 21 = .ok (.ireturn, 1) := by decide +kernel
theorem dX10_noVillage_0 : decode cX10_noVillage 0 = .ok (.iload_n 0, 1) := by decide +kernel
theorem dX10_noVillage_1 : decode cX10_noVillage 1 = .ok (.i2l, 1) := by decide +kernel
theorem dX10_noVillage_2 : decode cX10_noVillage 2 = .ok (.lconst 0, 1) := by decide +kernel
theorem dX10_noVillage_3 : decode cX10_noVillage 3 = .ok (.lconst 1, 1) := by decide +kernel
theorem dX10_noVillage_4 : decode cX10_noVillage 4 = .ok (.invokestatic 82, 3) := by decide +kernel
theorem dX10_noVillage_7 : decode cX10_noVillage 7 = .ok (.ifCond .ne 7, 3) := by decide +kernel
theorem dX10_noVillage_10 : decode cX10_noVillage 10 = .ok (.iconst 1, 1) := by decide +kernel
theorem dX10_noVillage_11 : decode cX10_noVillage 11 = .ok (.goto 4, 3) := by decide +kernel
theorem dX10_noVillage_14 : decode cX10_noVillage 14 = .ok (.iconst 0, 1) := by decide +kernel
theorem dX10_noVillage_15 : decode cX10_noVillage 15 = .ok (.ireturn, 1) := by decide +kernel
theorem dX10_isDay_0 : decode cX10_isDay 0 = .ok (.iload_n 0, 1) := by decide +kernel
theorem dX10_isDay_1 : decode cX10_isDay 1 = .ok (.i2l, 1) := by decide +kernel
theorem dX10_isDay_2 : decode cX10_isDay 2 = .ok (.lconst 0, 1) := by decide +kernel
theorem dX10_isDay_3 : decode cX10_isDay 3 = .ok (.ldc2_w 96, 3) := by decide +kernel
theorem dX10_isDay_6 : decode cX10_isDay 6 = .ok (.invokestatic 82, 3) := by decide +kernel
theorem dX10_isDay_9 : decode cX10_isDay 9 = .ok (.ireturn, 1) := by decide +kernel
theorem dX10_isFew_0 : decode cX10_isFew 0 = .ok (.iload_n 0, 1) := by decide +kernel
theorem dX10_isFew_1 : decode cX10_isFew 1 = .ok (.i2l, 1) := by decide +kernel
theorem dX10_isFew_2 : decode cX10_isFew 2 = .ok (.lconst 1, 1) := by decide +kernel
theorem dX10_isFew_3 : decode cX10_isFew 3 = .ok (.ldc2_w 98, 3) := by decide +kernel
theorem dX10_isFew_6 : decode cX10_isFew 6 = .ok (.invokestatic 82, 3) := by decide +kernel
theorem dX10_isFew_9 : decode cX10_isFew 9 = .ok (.ireturn, 1) := by decide +kernel
theorem dX10_figureAt_0 : decode cX10_figureAt 0 = .ok (.iload_n 3, 1) := by decide +kernel
theorem dX10_figureAt_1 : decode cX10_figureAt 1 = .ok (.iload_n 2, 1) := by decide +kernel
theorem dX10_figureAt_2 : decode cX10_figureAt 2 = .ok (.if_icmp .ge 17, 3) := by decide +kernel
theorem dX10_figureAt_5 : decode cX10_figureAt 5 = .ok (.aload_n 0, 1) := by decide +kernel
theorem dX10_figureAt_6 : decode cX10_figureAt 6 = .ok (.getfield 56, 3) := by decide +kernel
theorem dX10_figureAt_9 : decode cX10_figureAt 9 = .ok (.iload_n 1, 1) := by decide +kernel
theorem dX10_figureAt_10 : decode cX10_figureAt 10 = .ok (.iload_n 3, 1) := by decide +kernel
theorem dX10_figureAt_11 : decode cX10_figureAt 11 = .ok (.iadd, 1) := by decide +kernel
theorem dX10_figureAt_12 : decode cX10_figureAt 12 = .ok (.iaload, 1) := by decide +kernel
theorem dX10_figureAt_13 : decode cX10_figureAt 13 = .ok (.bipush 48, 2) := by decide +kernel
theorem dX10_figureAt_15 : decode cX10_figureAt 15 = .ok (.isub, 1) := by decide +kernel
theorem dX10_figureAt_16 : decode cX10_figureAt 16 = .ok (.goto 5, 3) := by decide +kernel
theorem dX10_figureAt_19 : decode cX10_figureAt 19 = .ok (.bipush (-9), 2) := by decide +kernel
theorem dX10_figureAt_21 : decode cX10_figureAt 21 = .ok (.istore 4, 2) := by decide +kernel
theorem dX10_figureAt_23 : decode cX10_figureAt 23 = .ok (.iload 4, 2) := by decide +kernel
theorem dX10_figureAt_25 : decode cX10_figureAt 25 = .ok (.i2l, 1) := by decide +kernel
theorem dX10_figureAt_26 : decode cX10_figureAt 26 = .ok (.lconst 0, 1) := by decide +kernel
theorem dX10_figureAt_27 : decode cX10_figureAt 27 = .ok (.ldc2_w 98, 3) := by decide +kernel
theorem dX10_figureAt_30 : decode cX10_figureAt 30 = .ok (.invokestatic 82, 3) := by decide +kernel
theorem dX10_figureAt_33 : decode cX10_figureAt 33 = .ok (.ifCond .eq 8, 3) := by decide +kernel
theorem dX10_figureAt_36 : decode cX10_figureAt 36 = .ok (.iload 4, 2) := by decide +kernel
theorem dX10_figureAt_38 : decode cX10_figureAt 38 = .ok (.goto 5, 3) := by decide +kernel
theorem dX10_figureAt_41 : decode cX10_figureAt 41 = .ok (.bipush (-9), 2) := by decide +kernel
theorem dX10_figureAt_43 : decode cX10_figureAt 43 = .ok (.ireturn, 1) := by decide +kernel
theorem dX10_two_0 : decode cX10_two 0 = .ok (.aload_n 0, 1) := by decide +kernel
theorem dX10_two_1 : decode cX10_two 1 = .ok (.iload_n 1, 1) := by decide +kernel
theorem dX10_two_2 : decode cX10_two 2 = .ok (.iload_n 2, 1) := by decide +kernel
theorem dX10_two_3 : decode cX10_two 3 = .ok (.aload_n 0, 1) := by decide +kernel
theorem dX10_two_4 : decode cX10_two 4 = .ok (.getfield 100, 3) := by decide +kernel
theorem dX10_two_7 : decode cX10_two 7 = .ok (.invokevirtual 103, 3) := by decide +kernel
theorem dX10_two_10 : decode cX10_two 10 = .ok (.istore 5, 2) := by decide +kernel
theorem dX10_two_12 : decode cX10_two 12 = .ok (.iload 5, 2) := by decide +kernel
theorem dX10_two_14 : decode cX10_two 14 = .ok (.ifCond .lt 25, 3) := by decide +kernel
theorem dX10_two_17 : decode cX10_two 17 = .ok (.bipush 10, 2) := by decide +kernel
theorem dX10_two_19 : decode cX10_two 19 = .ok (.iload 5, 2) := by decide +kernel
theorem dX10_two_21 : decode cX10_two 21 = .ok (.imul, 1) := by decide +kernel
theorem dX10_two_22 : decode cX10_two 22 = .ok (.iload 4, 2) := by decide +kernel
theorem dX10_two_24 : decode cX10_two 24 = .ok (.if_icmp .gt 15, 3) := by decide +kernel
theorem dX10_two_27 : decode cX10_two 27 = .ok (.bipush 10, 2) := by decide +kernel
theorem dX10_two_29 : decode cX10_two 29 = .ok (.iload 5, 2) := by decide +kernel
theorem dX10_two_31 : decode cX10_two 31 = .ok (.imul, 1) := by decide +kernel
theorem dX10_two_32 : decode cX10_two 32 = .ok (.bipush 9, 2) := by decide +kernel
theorem dX10_two_34 : decode cX10_two 34 = .ok (.iadd, 1) := by decide +kernel
theorem dX10_two_35 : decode cX10_two 35 = .ok (.iload_n 3, 1) := by decide +kernel
theorem dX10_two_36 : decode cX10_two 36 = .ok (.if_icmp .ge 6, 3) := by decide +kernel
theorem dX10_two_39 : decode cX10_two 39 = .ok (.bipush (-9), 2) := by decide +kernel
theorem dX10_two_41 : decode cX10_two 41 = .ok (.ireturn, 1) := by decide +kernel
theorem dX10_two_42 : decode cX10_two 42 = .ok (.aload_n 0, 1) := by decide +kernel
theorem dX10_two_43 : decode cX10_two 43 = .ok (.iload_n 1, 1) := by decide +kernel
theorem dX10_two_44 : decode cX10_two 44 = .ok (.iload_n 2, 1) := by decide +kernel
theorem dX10_two_45 : decode cX10_two 45 = .ok (.aload_n 0, 1) := by decide +kernel
theorem dX10_two_46 : decode cX10_two 46 = .ok (.getfield 100, 3) := by decide +kernel
theorem dX10_two_49 : decode cX10_two 49 = .ok (.iconst 1, 1) := by decide +kernel
theorem dX10_two_50 : decode cX10_two 50 = .ok (.iadd, 1) := by decide +kernel
theorem dX10_two_51 : decode cX10_two 51 = .ok (.invokevirtual 103, 3) := by decide +kernel
theorem dX10_two_54 : decode cX10_two 54 = .ok (.istore 6, 2) := by decide +kernel
theorem dX10_two_56 : decode cX10_two 56 = .ok (.iload 6, 2) := by decide +kernel
theorem dX10_two_58 : decode cX10_two 58 = .ok (.ifCond .ge 16, 3) := by decide +kernel
theorem dX10_two_61 : decode cX10_two 61 = .ok (.aload_n 0, 1) := by decide +kernel
theorem dX10_two_62 : decode cX10_two 62 = .ok (.dup, 1) := by decide +kernel
theorem dX10_two_63 : decode cX10_two 63 = .ok (.getfield 100, 3) := by decide +kernel
theorem dX10_two_66 : decode cX10_two 66 = .ok (.iconst 1, 1) := by decide +kernel
theorem dX10_two_67 : decode cX10_two 67 = .ok (.iadd, 1) := by decide +kernel
theorem dX10_two_68 : decode cX10_two 68 = .ok (.putfield 100, 3) := by decide +kernel
theorem dX10_two_71 : decode cX10_two 71 = .ok (.bipush (-9), 2) := by decide +kernel
theorem dX10_two_73 : decode cX10_two 73 = .ok (.ireturn, 1) := by decide +kernel
theorem dX10_two_74 : decode cX10_two 74 = .ok (.ldc2_w 107, 3) := by decide +kernel
theorem dX10_two_77 : decode cX10_two 77 = .ok (.iload 5, 2) := by decide +kernel
theorem dX10_two_79 : decode cX10_two 79 = .ok (.i2l, 1) := by decide +kernel
theorem dX10_two_80 : decode cX10_two 80 = .ok (.lmul, 1) := by decide +kernel
theorem dX10_two_81 : decode cX10_two 81 = .ok (.iload 6, 2) := by decide +kernel
theorem dX10_two_83 : decode cX10_two 83 = .ok (.i2l, 1) := by decide +kernel
theorem dX10_two_84 : decode cX10_two 84 = .ok (.ladd, 1) := by decide +kernel
theorem dX10_two_85 : decode cX10_two 85 = .ok (.iload_n 3, 1) := by decide +kernel
theorem dX10_two_86 : decode cX10_two 86 = .ok (.i2l, 1) := by decide +kernel
theorem dX10_two_87 : decode cX10_two 87 = .ok (.iload 4, 2) := by decide +kernel
theorem dX10_two_89 : decode cX10_two 89 = .ok (.i2l, 1) := by decide +kernel
theorem dX10_two_90 : decode cX10_two 90 = .ok (.invokestatic 82, 3) := by decide +kernel
theorem dX10_two_93 : decode cX10_two 93 = .ok (.istore 7, 2) := by decide +kernel
theorem dX10_two_95 : decode cX10_two 95 = .ok (.aload_n 0, 1) := by decide +kernel
theorem dX10_two_96 : decode cX10_two 96 = .ok (.dup, 1) := by decide +kernel
theorem dX10_two_97 : decode cX10_two 97 = .ok (.getfield 100, 3) := by decide +kernel
theorem dX10_two_100 : decode cX10_two 100 = .ok (.iload 7, 2) := by decide +kernel
theorem dX10_two_102 : decode cX10_two 102 = .ok (.ifCond .eq 7, 3) := by decide +kernel
theorem dX10_two_105 : decode cX10_two 105 = .ok (.iconst 2, 1) := by decide +kernel
theorem dX10_two_106 : decode cX10_two 106 = .ok (.goto 4, 3) := by decide +kernel
theorem dX10_two_109 : decode cX10_two 109 = .ok (.iconst 0, 1) := by decide +kernel
theorem dX10_two_110 : decode cX10_two 110 = .ok (.iadd, 1) := by decide +kernel
theorem dX10_two_111 : decode cX10_two 111 = .ok (.putfield 100, 3) := by decide +kernel
theorem dX10_two_114 : decode cX10_two 114 = .ok (.iload 7, 2) := by decide +kernel
theorem dX10_two_116 : decode cX10_two 116 = .ok (.ifCond .eq 14, 3) := by decide +kernel
theorem dX10_two_119 : decode cX10_two 119 = .ok (.bipush 10, 2) := by decide +kernel
theorem dX10_two_121 : decode cX10_two 121 = .ok (.iload 5, 2) := by decide +kernel
theorem dX10_two_123 : decode cX10_two 123 = .ok (.imul, 1) := by decide +kernel
theorem dX10_two_124 : decode cX10_two 124 = .ok (.iload 6, 2) := by decide +kernel
theorem dX10_two_126 : decode cX10_two 126 = .ok (.iadd, 1) := by decide +kernel
theorem dX10_two_127 : decode cX10_two 127 = .ok (.goto 5, 3) := by decide +kernel
theorem dX10_two_130 : decode cX10_two 130 = .ok (.bipush (-9), 2) := by decide +kernel
theorem dX10_two_132 : decode cX10_two 132 = .ok (.ireturn, 1) := by decide +kernel
theorem dX10_readsOne_0 : decode cX10_readsOne 0 = .ok (.aload_n 0, 1) := by decide +kernel
theorem dX10_readsOne_1 : decode cX10_readsOne 1 = .ok (.getfield 109, 3) := by decide +kernel
theorem dX10_readsOne_4 : decode cX10_readsOne 4 = .ok (.ifCond .le 48, 3) := by decide +kernel
theorem dX10_readsOne_7 : decode cX10_readsOne 7 = .ok (.aload_n 0, 1) := by decide +kernel
theorem dX10_readsOne_8 : decode cX10_readsOne 8 = .ok (.getfield 109, 3) := by decide +kernel
theorem dX10_readsOne_11 : decode cX10_readsOne 11 = .ok (.bipush 10, 2) := by decide +kernel
theorem dX10_readsOne_13 : decode cX10_readsOne 13 = .ok (.if_icmp .eq 27, 3) := by decide +kernel
theorem dX10_readsOne_16 : decode cX10_readsOne 16 = .ok (.aload_n 0, 1) := by decide +kernel
theorem dX10_readsOne_17 : decode cX10_readsOne 17 = .ok (.getfield 100, 3) := by decide +kernel
theorem dX10_readsOne_20 : decode cX10_readsOne 20 = .ok (.iload_n 2, 1) := by decide +kernel
theorem dX10_readsOne_21 : decode cX10_readsOne 21 = .ok (.if_icmp .ge 19, 3) := by decide +kernel
theorem dX10_readsOne_24 : decode cX10_readsOne 24 = .ok (.aload_n 0, 1) := by decide +kernel
theorem dX10_readsOne_25 : decode cX10_readsOne 25 = .ok (.getfield 56, 3) := by decide +kernel
theorem dX10_readsOne_28 : decode cX10_readsOne 28 = .ok (.iload_n 1, 1) := by decide +kernel
theorem dX10_readsOne_29 : decode cX10_readsOne 29 = .ok (.aload_n 0, 1) := by decide +kernel
theorem dX10_readsOne_30 : decode cX10_readsOne 30 = .ok (.getfield 100, 3) := by decide +kernel
theorem dX10_readsOne_33 : decode cX10_readsOne 33 = .ok (.iadd, 1) := by decide +kernel
theorem dX10_readsOne_34 : decode cX10_readsOne 34 = .ok (.iaload, 1) := by decide +kernel
theorem dX10_readsOne_35 : decode cX10_readsOne 35 = .ok (.bipush 59, 2) := by decide +kernel
theorem dX10_readsOne_37 : decode cX10_readsOne 37 = .ok (.if_icmp .eq 5, 3) := by decide +kernel
theorem dX10_readsOne_40 : decode cX10_readsOne 40 = .ok (.iconst 0, 1) := by decide +kernel
theorem dX10_readsOne_41 : decode cX10_readsOne 41 = .ok (.ireturn, 1) := by decide +kernel
theorem dX10_readsOne_42 : decode cX10_readsOne 42 = .ok (.aload_n 0, 1) := by decide +kernel
theorem dX10_readsOne_43 : decode cX10_readsOne 43 = .ok (.dup, 1) := by decide +kernel
theorem dX10_readsOne_44 : decode cX10_readsOne 44 = .ok (.getfield 100, 3) := by decide +kernel
theorem dX10_readsOne_47 : decode cX10_readsOne 47 = .ok (.iconst 1, 1) := by decide +kernel
theorem dX10_readsOne_48 : decode cX10_readsOne 48 = .ok (.iadd, 1) := by decide +kernel
theorem dX10_readsOne_49 : decode cX10_readsOne 49 = .ok (.putfield 100, 3) := by decide +kernel
theorem dX10_readsOne_52 : decode cX10_readsOne 52 = .ok (.aload_n 0, 1) := by decide +kernel
theorem dX10_readsOne_53 : decode cX10_readsOne 53 = .ok (.getfield 100, 3) := by decide +kernel
theorem dX10_readsOne_56 : decode cX10_readsOne 56 = .ok (.iload_n 2, 1) := by decide +kernel
theorem dX10_readsOne_57 : decode cX10_readsOne 57 = .ok (.if_icmp .ge 17, 3) := by decide +kernel
theorem dX10_readsOne_60 : decode cX10_readsOne 60 = .ok (.aload_n 0, 1) := by decide +kernel
theorem dX10_readsOne_61 : decode cX10_readsOne 61 = .ok (.getfield 56, 3) := by decide +kernel
theorem dX10_readsOne_64 : decode cX10_readsOne 64 = .ok (.iload_n 1, 1) := by decide +kernel
theorem dX10_readsOne_65 : decode cX10_readsOne 65 = .ok (.aload_n 0, 1) := by decide +kernel
theorem dX10_readsOne_66 : decode cX10_readsOne 66 = .ok (.getfield 100, 3) := by decide +kernel
theorem dX10_readsOne_69 : decode cX10_readsOne 69 = .ok (.iadd, 1) := by decide +kernel
theorem dX10_readsOne_70 : decode cX10_readsOne 70 = .ok (.iaload, 1) := by decide +kernel
theorem dX10_readsOne_71 : decode cX10_readsOne 71 = .ok (.goto 5, 3) := by decide +kernel
theorem dX10_readsOne_74 : decode cX10_readsOne 74 = .ok (.bipush (-9), 2) := by decide +kernel
theorem dX10_readsOne_76 : decode cX10_readsOne 76 = .ok (.istore_n 3, 1) := by decide +kernel
theorem dX10_readsOne_77 : decode cX10_readsOne 77 = .ok (.iload_n 3, 1) := by decide +kernel
theorem dX10_readsOne_78 : decode cX10_readsOne 78 = .ok (.bipush 110, 2) := by decide +kernel
theorem dX10_readsOne_80 : decode cX10_readsOne 80 = .ok (.if_icmp .eq 17, 3) := by decide +kernel
theorem dX10_readsOne_83 : decode cX10_readsOne 83 = .ok (.iload_n 3, 1) := by decide +kernel
theorem dX10_readsOne_84 : decode cX10_readsOne 84 = .ok (.bipush 108, 2) := by decide +kernel
theorem dX10_readsOne_86 : decode cX10_readsOne 86 = .ok (.if_icmp .eq 11, 3) := by decide +kernel
theorem dX10_readsOne_89 : decode cX10_readsOne 89 = .ok (.iload_n 3, 1) := by decide +kernel
theorem dX10_readsOne_90 : decode cX10_readsOne 90 = .ok (.bipush 102, 2) := by decide +kernel
theorem dX10_readsOne_92 : decode cX10_readsOne 92 = .ok (.if_icmp .eq 5, 3) := by decide +kernel
theorem dX10_readsOne_95 : decode cX10_readsOne 95 = .ok (.iconst 0, 1) := by decide +kernel
theorem dX10_readsOne_96 : decode cX10_readsOne 96 = .ok (.ireturn, 1) := by decide +kernel
theorem dX10_readsOne_97 : decode cX10_readsOne 97 = .ok (.aload_n 0, 1) := by decide +kernel
theorem dX10_readsOne_98 : decode cX10_readsOne 98 = .ok (.dup, 1) := by decide +kernel
theorem dX10_readsOne_99 : decode cX10_readsOne 99 = .ok (.getfield 100, 3) := by decide +kernel
theorem dX10_readsOne_102 : decode cX10_readsOne 102 = .ok (.iconst 1, 1) := by decide +kernel
theorem dX10_readsOne_103 : decode cX10_readsOne 103 = .ok (.iadd, 1) := by decide +kernel
theorem dX10_readsOne_104 : decode cX10_readsOne 104 = .ok (.putfield 100, 3) := by decide +kernel
theorem dX10_readsOne_107 : decode cX10_readsOne 107 = .ok (.aload_n 0, 1) := by decide +kernel
theorem dX10_readsOne_108 : decode cX10_readsOne 108 = .ok (.getfield 109, 3) := by decide +kernel
theorem dX10_readsOne_111 : decode cX10_readsOne 111 = .ok (.istore 4, 2) := by decide +kernel
theorem dX10_readsOne_113 : decode cX10_readsOne 113 = .ok (.aload_n 0, 1) := by decide +kernel
theorem dX10_readsOne_114 : decode cX10_readsOne 114 = .ok (.getfield 25, 3) := by decide +kernel
theorem dX10_readsOne_117 : decode cX10_readsOne 117 = .ok (.iload 4, 2) := by decide +kernel
theorem dX10_readsOne_119 : decode cX10_readsOne 119 = .ok (.iload_n 3, 1) := by decide +kernel
theorem dX10_readsOne_120 : decode cX10_readsOne 120 = .ok (.bipush 110, 2) := by decide +kernel
theorem dX10_readsOne_122 : decode cX10_readsOne 122 = .ok (.if_icmp .ne 7, 3) := by decide +kernel
theorem dX10_readsOne_125 : decode cX10_readsOne 125 = .ok (.iconst 0, 1) := by decide +kernel
theorem dX10_readsOne_126 : decode cX10_readsOne 126 = .ok (.goto 14, 3) := by decide +kernel
theorem dX10_readsOne_129 : decode cX10_readsOne 129 = .ok (.iload_n 3, 1) := by decide +kernel
theorem dX10_readsOne_130 : decode cX10_readsOne 130 = .ok (.bipush 108, 2) := by decide +kernel
theorem dX10_readsOne_132 : decode cX10_readsOne 132 = .ok (.if_icmp .ne 7, 3) := by decide +kernel
theorem dX10_readsOne_135 : decode cX10_readsOne 135 = .ok (.iconst 1, 1) := by decide +kernel
theorem dX10_readsOne_136 : decode cX10_readsOne 136 = .ok (.goto 4, 3) := by decide +kernel
theorem dX10_readsOne_139 : decode cX10_readsOne 139 = .ok (.iconst 2, 1) := by decide +kernel
theorem dX10_readsOne_140 : decode cX10_readsOne 140 = .ok (.iastore, 1) := by decide +kernel
theorem dX10_readsOne_141 : decode cX10_readsOne 141 = .ok (.aload_n 0, 1) := by decide +kernel
theorem dX10_readsOne_142 : decode cX10_readsOne 142 = .ok (.getfield 28, 3) := by decide +kernel
theorem dX10_readsOne_145 : decode cX10_readsOne 145 = .ok (.iload 4, 2) := by decide +kernel
theorem dX10_readsOne_147 : decode cX10_readsOne 147 = .ok (.aload_n 0, 1) := by decide +kernel
theorem dX10_readsOne_148 : decode cX10_readsOne 148 = .ok (.iload_n 1, 1) := by decide +kernel
theorem dX10_readsOne_149 : decode cX10_readsOne 149 = .ok (.iload_n 2, 1) := by decide +kernel
theorem dX10_readsOne_150 : decode cX10_readsOne 150 = .ok (.aload_n 0, 1) := by decide +kernel
theorem dX10_readsOne_151 : decode cX10_readsOne 151 = .ok (.getfield 100, 3) := by decide +kernel
theorem dX10_readsOne_154 : decode cX10_readsOne 154 = .ok (.invokevirtual 103, 3) := by decide +kernel
theorem dX10_readsOne_157 : decode cX10_readsOne 157 = .ok (.iastore, 1) := by decide +kernel
theorem dX10_readsOne_158 : decode cX10_readsOne 158 = .ok (.aload_n 0, 1) := by decide +kernel
theorem dX10_readsOne_159 : decode cX10_readsOne 159 = .ok (.getfield 28, 3) := by decide +kernel
theorem dX10_readsOne_162 : decode cX10_readsOne 162 = .ok (.iload 4, 2) := by decide +kernel
theorem dX10_readsOne_164 : decode cX10_readsOne 164 = .ok (.iaload, 1) := by decide +kernel
theorem dX10_readsOne_165 : decode cX10_readsOne 165 = .ok (.i2l, 1) := by decide +kernel
theorem dX10_readsOne_166 : decode cX10_readsOne 166 = .ok (.lconst 0, 1) := by decide +kernel
theorem dX10_readsOne_167 : decode cX10_readsOne 167 = .ok (.lconst 1, 1) := by decide +kernel
theorem dX10_readsOne_168 : decode cX10_readsOne 168 = .ok (.invokestatic 82, 3) := by decide +kernel
theorem dX10_readsOne_171 : decode cX10_readsOne 171 = .ok (.ifCond .ne 5, 3) := by decide +kernel
theorem dX10_readsOne_174 : decode cX10_readsOne 174 = .ok (.iconst 0, 1) := by decide +kernel
theorem dX10_readsOne_175 : decode cX10_readsOne 175 = .ok (.ireturn, 1) := by decide +kernel
theorem dX10_readsOne_176 : decode cX10_readsOne 176 = .ok (.aload_n 0, 1) := by decide +kernel
theorem dX10_readsOne_177 : decode cX10_readsOne 177 = .ok (.dup, 1) := by decide +kernel
theorem dX10_readsOne_178 : decode cX10_readsOne 178 = .ok (.getfield 100, 3) := by decide +kernel
theorem dX10_readsOne_181 : decode cX10_readsOne 181 = .ok (.iconst 1, 1) := by decide +kernel
theorem dX10_readsOne_182 : decode cX10_readsOne 182 = .ok (.iadd, 1) := by decide +kernel
theorem dX10_readsOne_183 : decode cX10_readsOne 183 = .ok (.putfield 100, 3) := by decide +kernel
theorem dX10_readsOne_186 : decode cX10_readsOne 186 = .ok (.aload_n 0, 1) := by decide +kernel
theorem dX10_readsOne_187 : decode cX10_readsOne 187 = .ok (.getfield 31, 3) := by decide +kernel
theorem dX10_readsOne_190 : decode cX10_readsOne 190 = .ok (.iload 4, 2) := by decide +kernel
theorem dX10_readsOne_192 : decode cX10_readsOne 192 = .ok (.aload_n 0, 1) := by decide +kernel
theorem dX10_readsOne_193 : decode cX10_readsOne 193 = .ok (.iload_n 1, 1) := by decide +kernel
theorem dX10_readsOne_194 : decode cX10_readsOne 194 = .ok (.iload_n 2, 1) := by decide +kernel
theorem dX10_readsOne_195 : decode cX10_readsOne 195 = .ok (.iconst 1, 1) := by decide +kernel
theorem dX10_readsOne_196 : decode cX10_readsOne 196 = .ok (.bipush 99, 2) := by decide +kernel
theorem dX10_readsOne_198 : decode cX10_readsOne 198 = .ok (.invokevirtual 112, 3) := by decide +kernel
theorem dX10_readsOne_201 : decode cX10_readsOne 201 = .ok (.iastore, 1) := by decide +kernel
theorem dX10_readsOne_202 : decode cX10_readsOne 202 = .ok (.aload_n 0, 1) := by decide +kernel
theorem dX10_readsOne_203 : decode cX10_readsOne 203 = .ok (.getfield 34, 3) := by decide +kernel
theorem dX10_readsOne_206 : decode cX10_readsOne 206 = .ok (.iload 4, 2) := by decide +kernel
theorem dX10_readsOne_208 : decode cX10_readsOne 208 = .ok (.aload_n 0, 1) := by decide +kernel
theorem dX10_readsOne_209 : decode cX10_readsOne 209 = .ok (.getfield 31, 3) := by decide +kernel
theorem dX10_readsOne_212 : decode cX10_readsOne 212 = .ok (.iload 4, 2) := by decide +kernel
theorem dX10_readsOne_214 : decode cX10_readsOne 214 = .ok (.iaload, 1) := by decide +kernel
theorem dX10_readsOne_215 : decode cX10_readsOne 215 = .ok (.ifCond .ge 8, 3) := by decide +kernel
theorem dX10_readsOne_218 : decode cX10_readsOne 218 = .ok (.bipush (-9), 2) := by decide +kernel
theorem dX10_readsOne_220 : decode cX10_readsOne 220 = .ok (.goto 12, 3) := by decide +kernel
theorem dX10_readsOne_223 : decode cX10_readsOne 223 = .ok (.aload_n 0, 1) := by decide +kernel
theorem dX10_readsOne_224 : decode cX10_readsOne 224 = .ok (.iload_n 1, 1) := by decide +kernel
theorem dX10_readsOne_225 : decode cX10_readsOne 225 = .ok (.iload_n 2, 1) := by decide +kernel
theorem dX10_readsOne_226 : decode cX10_readsOne 226 = .ok (.iconst 0, 1) := by decide +kernel
theorem dX10_readsOne_227 : decode cX10_readsOne 227 = .ok (.bipush 98, 2) := by decide +kernel
theorem dX10_readsOne_229 : decode cX10_readsOne 229 = .ok (.invokevirtual 112, 3) := by decide +kernel
theorem dX10_readsOne_232 : decode cX10_readsOne 232 = .ok (.iastore, 1) := by decide +kernel
theorem dX10_readsOne_233 : decode cX10_readsOne 233 = .ok (.aload_n 0, 1) := by decide +kernel
theorem dX10_readsOne_234 : decode cX10_readsOne 234 = .ok (.getfield 37, 3) := by decide +kernel
theorem dX10_readsOne_237 : decode cX10_readsOne 237 = .ok (.iload 4, 2) := by decide +kernel
theorem dX10_readsOne_239 : decode cX10_readsOne 239 = .ok (.aload_n 0, 1) := by decide +kernel
theorem dX10_readsOne_240 : decode cX10_readsOne 240 = .ok (.getfield 34, 3) := by decide +kernel
theorem dX10_readsOne_243 : decode cX10_readsOne 243 = .ok (.iload 4, 2) := by decide +kernel
theorem dX10_readsOne_245 : decode cX10_readsOne 245 = .ok (.iaload, 1) := by decide +kernel
theorem dX10_readsOne_246 : decode cX10_readsOne 246 = .ok (.ifCond .ge 8, 3) := by decide +kernel
theorem dX10_readsOne_249 : decode cX10_readsOne 249 = .ok (.bipush (-9), 2) := by decide +kernel
theorem dX10_readsOne_251 : decode cX10_readsOne 251 = .ok (.goto 20, 3) := by decide +kernel
theorem dX10_readsOne_254 : decode cX10_readsOne 254 = .ok (.aload_n 0, 1) := by decide +kernel
theorem dX10_readsOne_255 : decode cX10_readsOne 255 = .ok (.iload_n 1, 1) := by decide +kernel
theorem dX10_readsOne_256 : decode cX10_readsOne 256 = .ok (.iload_n 2, 1) := by decide +kernel
theorem dX10_readsOne_257 : decode cX10_readsOne 257 = .ok (.aload_n 0, 1) := by decide +kernel
theorem dX10_readsOne_258 : decode cX10_readsOne 258 = .ok (.getfield 34, 3) := by decide +kernel
theorem dX10_readsOne_261 : decode cX10_readsOne 261 = .ok (.iload 4, 2) := by decide +kernel
theorem dX10_readsOne_263 : decode cX10_readsOne 263 = .ok (.iaload, 1) := by decide +kernel
theorem dX10_readsOne_264 : decode cX10_readsOne 264 = .ok (.iconst 1, 1) := by decide +kernel
theorem dX10_readsOne_265 : decode cX10_readsOne 265 = .ok (.iadd, 1) := by decide +kernel
theorem dX10_readsOne_266 : decode cX10_readsOne 266 = .ok (.bipush 99, 2) := by decide +kernel
theorem dX10_readsOne_268 : decode cX10_readsOne 268 = .ok (.invokevirtual 112, 3) := by decide +kernel
theorem dX10_readsOne_271 : decode cX10_readsOne 271 = .ok (.iastore, 1) := by decide +kernel
theorem dX10_readsOne_272 : decode cX10_readsOne 272 = .ok (.aload_n 0, 1) := by decide +kernel
theorem dX10_readsOne_273 : decode cX10_readsOne 273 = .ok (.dup, 1) := by decide +kernel
theorem dX10_readsOne_274 : decode cX10_readsOne 274 = .ok (.getfield 109, 3) := by decide +kernel
theorem dX10_readsOne_277 : decode cX10_readsOne 277 = .ok (.iconst 1, 1) := by decide +kernel
theorem dX10_readsOne_278 : decode cX10_readsOne 278 = .ok (.iadd, 1) := by decide +kernel
theorem dX10_readsOne_279 : decode cX10_readsOne 279 = .ok (.putfield 109, 3) := by decide +kernel
theorem dX10_readsOne_282 : decode cX10_readsOne 282 = .ok (.aload_n 0, 1) := by decide +kernel
theorem dX10_readsOne_283 : decode cX10_readsOne 283 = .ok (.getfield 37, 3) := by decide +kernel
theorem dX10_readsOne_286 : decode cX10_readsOne 286 = .ok (.iload 4, 2) := by decide +kernel
theorem dX10_readsOne_288 : decode cX10_readsOne 288 = .ok (.iaload, 1) := by decide +kernel
theorem dX10_readsOne_289 : decode cX10_readsOne 289 = .ok (.ifCond .lt 7, 3) := by decide +kernel
theorem dX10_readsOne_292 : decode cX10_readsOne 292 = .ok (.iconst 1, 1) := by decide +kernel
theorem dX10_readsOne_293 : decode cX10_readsOne 293 = .ok (.goto 4, 3) := by decide +kernel
theorem dX10_readsOne_296 : decode cX10_readsOne 296 = .ok (.iconst 0, 1) := by decide +kernel
theorem dX10_readsOne_297 : decode cX10_readsOne 297 = .ok (.ireturn, 1) := by decide +kernel
theorem dX10_readsRoll_0 : decode cX10_readsRoll 0 = .ok (.aload_n 0, 1) := by decide +kernel
theorem dX10_readsRoll_1 : decode cX10_readsRoll 1 = .ok (.iconst 0, 1) := by decide +kernel
theorem dX10_readsRoll_2 : decode cX10_readsRoll 2 = .ok (.putfield 100, 3) := by decide +kernel
theorem dX10_readsRoll_5 : decode cX10_readsRoll 5 = .ok (.aload_n 0, 1) := by decide +kernel
theorem dX10_readsRoll_6 : decode cX10_readsRoll 6 = .ok (.iconst 0, 1) := by decide +kernel
theorem dX10_readsRoll_7 : decode cX10_readsRoll 7 = .ok (.putfield 109, 3) := by decide +kernel
theorem dX10_readsRoll_10 : decode cX10_readsRoll 10 = .ok (.aload_n 0, 1) := by decide +kernel
theorem dX10_readsRoll_11 : decode cX10_readsRoll 11 = .ok (.iload_n 1, 1) := by decide +kernel
theorem dX10_readsRoll_12 : decode cX10_readsRoll 12 = .ok (.iload_n 2, 1) := by decide +kernel
theorem dX10_readsRoll_13 : decode cX10_readsRoll 13 = .ok (.invokevirtual 116, 3) := by decide +kernel
theorem dX10_readsRoll_16 : decode cX10_readsRoll 16 = .ok (.istore_n 3, 1) := by decide +kernel
theorem dX10_readsRoll_17 : decode cX10_readsRoll 17 = .ok (.iload_n 3, 1) := by decide +kernel
theorem dX10_readsRoll_18 : decode cX10_readsRoll 18 = .ok (.ifCond .eq 21, 3) := by decide +kernel
theorem dX10_readsRoll_21 : decode cX10_readsRoll 21 = .ok (.aload_n 0, 1) := by decide +kernel
theorem dX10_readsRoll_22 : decode cX10_readsRoll 22 = .ok (.getfield 100, 3) := by decide +kernel
theorem dX10_readsRoll_25 : decode cX10_readsRoll 25 = .ok (.iload_n 2, 1) := by decide +kernel
theorem dX10_readsRoll_26 : decode cX10_readsRoll 26 = .ok (.if_icmp .ge 13, 3) := by decide +kernel
theorem dX10_readsRoll_29 : decode cX10_readsRoll 29 = .ok (.aload_n 0, 1) := by decide +kernel
theorem dX10_readsRoll_30 : decode cX10_readsRoll 30 = .ok (.iload_n 1, 1) := by decide +kernel
theorem dX10_readsRoll_31 : decode cX10_readsRoll 31 = .ok (.iload_n 2, 1) := by decide +kernel
theorem dX10_readsRoll_32 : decode cX10_readsRoll 32 = .ok (.invokevirtual 116, 3) := by decide +kernel
theorem dX10_readsRoll_35 : decode cX10_readsRoll 35 = .ok (.istore_n 3, 1) := by decide +kernel
theorem dX10_readsRoll_36 : decode cX10_readsRoll 36 = .ok (.goto (-19), 3) := by decide +kernel
theorem dX10_readsRoll_39 : decode cX10_readsRoll 39 = .ok (.iload_n 3, 1) := by decide +kernel
theorem dX10_readsRoll_40 : decode cX10_readsRoll 40 = .ok (.ireturn, 1) := by decide +kernel
theorem dX10_roll_0 : decode cX10_roll 0 = .ok (.aload_n 0, 1) := by decide +kernel
theorem dX10_roll_1 : decode cX10_roll 1 = .ok (.iload_n 1, 1) := by decide +kernel
theorem dX10_roll_2 : decode cX10_roll 2 = .ok (.iload_n 2, 1) := by decide +kernel
theorem dX10_roll_3 : decode cX10_roll 3 = .ok (.iload_n 3, 1) := by decide +kernel
theorem dX10_roll_4 : decode cX10_roll 4 = .ok (.iload 4, 2) := by decide +kernel
theorem dX10_roll_6 : decode cX10_roll 6 = .ok (.i2l, 1) := by decide +kernel
theorem dX10_roll_7 : decode cX10_roll 7 = .ok (.iconst 1, 1) := by decide +kernel
theorem dX10_roll_8 : decode cX10_roll 8 = .ok (.invokevirtual 120, 3) := by decide +kernel
theorem dX10_roll_11 : decode cX10_roll 11 = .ok (.istore 5, 2) := by decide +kernel
theorem dX10_roll_13 : decode cX10_roll 13 = .ok (.iload 5, 2) := by decide +kernel
theorem dX10_roll_15 : decode cX10_roll 15 = .ok (.ifCond .ge 6, 3) := by decide +kernel
theorem dX10_roll_18 : decode cX10_roll 18 = .ok (.iload 5, 2) := by decide +kernel
theorem dX10_roll_20 : decode cX10_roll 20 = .ok (.ireturn, 1) := by decide +kernel
theorem dX10_roll_21 : decode cX10_roll 21 = .ok (.aload_n 0, 1) := by decide +kernel
theorem dX10_roll_22 : decode cX10_roll 22 = .ok (.bipush 100, 2) := by decide +kernel
theorem dX10_roll_24 : decode cX10_roll 24 = .ok (.iload_n 1, 1) := by decide +kernel
theorem dX10_roll_25 : decode cX10_roll 25 = .ok (.imul, 1) := by decide +kernel
theorem dX10_roll_26 : decode cX10_roll 26 = .ok (.iload_n 3, 1) := by decide +kernel
theorem dX10_roll_27 : decode cX10_roll 27 = .ok (.iadd, 1) := by decide +kernel
theorem dX10_roll_28 : decode cX10_roll 28 = .ok (.iload 4, 2) := by decide +kernel
theorem dX10_roll_30 : decode cX10_roll 30 = .ok (.invokevirtual 124, 3) := by decide +kernel
theorem dX10_roll_33 : decode cX10_roll 33 = .ok (.ifCond .ne 15, 3) := by decide +kernel
theorem dX10_roll_36 : decode cX10_roll 36 = .ok (.aload_n 0, 1) := by decide +kernel
theorem dX10_roll_37 : decode cX10_roll 37 = .ok (.bipush (-100), 2) := by decide +kernel
theorem dX10_roll_39 : decode cX10_roll 39 = .ok (.aload_n 0, 1) := by decide +kernel
theorem dX10_roll_40 : decode cX10_roll 40 = .ok (.getfield 100, 3) := by decide +kernel
theorem dX10_roll_43 : decode cX10_roll 43 = .ok (.isub, 1) := by decide +kernel
theorem dX10_roll_44 : decode cX10_roll 44 = .ok (.invokevirtual 76, 3) := by decide +kernel
theorem dX10_roll_47 : decode cX10_roll 47 = .ok (.ireturn, 1) := by decide +kernel
theorem dX10_roll_48 : decode cX10_roll 48 = .ok (.aload_n 0, 1) := by decide +kernel
theorem dX10_roll_49 : decode cX10_roll 49 = .ok (.aload_n 0, 1) := by decide +kernel
theorem dX10_roll_50 : decode cX10_roll 50 = .ok (.getfield 109, 3) := by decide +kernel
theorem dX10_roll_53 : decode cX10_roll 53 = .ok (.putfield 93, 3) := by decide +kernel
theorem dX10_roll_56 : decode cX10_roll 56 = .ok (.iconst 0, 1) := by decide +kernel
theorem dX10_roll_57 : decode cX10_roll 57 = .ok (.istore 6, 2) := by decide +kernel
theorem dX10_roll_59 : decode cX10_roll 59 = .ok (.iload 6, 2) := by decide +kernel
theorem dX10_roll_61 : decode cX10_roll 61 = .ok (.aload_n 0, 1) := by decide +kernel
theorem dX10_roll_62 : decode cX10_roll 62 = .ok (.getfield 93, 3) := by decide +kernel
theorem dX10_roll_65 : decode cX10_roll 65 = .ok (.if_icmp .ge 79, 3) := by decide +kernel
theorem dX10_roll_68 : decode cX10_roll 68 = .ok (.aload_n 0, 1) := by decide +kernel
theorem dX10_roll_69 : decode cX10_roll 69 = .ok (.getfield 7, 3) := by decide +kernel
theorem dX10_roll_72 : decode cX10_roll 72 = .ok (.iload 6, 2) := by decide +kernel
theorem dX10_roll_74 : decode cX10_roll 74 = .ok (.aload_n 0, 1) := by decide +kernel
theorem dX10_roll_75 : decode cX10_roll 75 = .ok (.getfield 25, 3) := by decide +kernel
theorem dX10_roll_78 : decode cX10_roll 78 = .ok (.iload 6, 2) := by decide +kernel
theorem dX10_roll_80 : decode cX10_roll 80 = .ok (.iaload, 1) := by decide +kernel
theorem dX10_roll_81 : decode cX10_roll 81 = .ok (.iastore, 1) := by decide +kernel
theorem dX10_roll_82 : decode cX10_roll 82 = .ok (.aload_n 0, 1) := by decide +kernel
theorem dX10_roll_83 : decode cX10_roll 83 = .ok (.getfield 13, 3) := by decide +kernel
theorem dX10_roll_86 : decode cX10_roll 86 = .ok (.iload 6, 2) := by decide +kernel
theorem dX10_roll_88 : decode cX10_roll 88 = .ok (.aload_n 0, 1) := by decide +kernel
theorem dX10_roll_89 : decode cX10_roll 89 = .ok (.getfield 28, 3) := by decide +kernel
theorem dX10_roll_92 : decode cX10_roll 92 = .ok (.iload 6, 2) := by decide +kernel
theorem dX10_roll_94 : decode cX10_roll 94 = .ok (.iaload, 1) := by decide +kernel
theorem dX10_roll_95 : decode cX10_roll 95 = .ok (.iastore, 1) := by decide +kernel
theorem dX10_roll_96 : decode cX10_roll 96 = .ok (.aload_n 0, 1) := by decide +kernel
theorem dX10_roll_97 : decode cX10_roll 97 = .ok (.getfield 16, 3) := by decide +kernel
theorem dX10_roll_100 : decode cX10_roll 100 = .ok (.iload 6, 2) := by decide +kernel
theorem dX10_roll_102 : decode cX10_roll 102 = .ok (.aload_n 0, 1) := by decide +kernel
theorem dX10_roll_103 : decode cX10_roll 103 = .ok (.getfield 31, 3) := by decide +kernel
theorem dX10_roll_106 : decode cX10_roll 106 = .ok (.iload 6, 2) := by decide +kernel
theorem dX10_roll_108 : decode cX10_roll 108 = .ok (.iaload, 1) := by decide +kernel
theorem dX10_roll_109 : decode cX10_roll 109 = .ok (.iastore, 1) := by decide +kernel
theorem dX10_roll_110 : decode cX10_roll 110 = .ok (.aload_n 0, 1) := by decide +kernel
theorem dX10_roll_111 : decode cX10_roll 111 = .ok (.getfield 19, 3) := by decide +kernel
theorem dX10_roll_114 : decode cX10_roll 114 = .ok (.iload 6, 2) := by decide +kernel
theorem dX10_roll_116 : decode cX10_roll 116 = .ok (.aload_n 0, 1) := by decide +kernel
theorem dX10_roll_117 : decode cX10_roll 117 = .ok (.getfield 34, 3) := by decide +kernel
theorem dX10_roll_120 : decode cX10_roll 120 = .ok (.iload 6, 2) := by decide +kernel
theorem dX10_roll_122 : decode cX10_roll 122 = .ok (.iaload, 1) := by decide +kernel
theorem dX10_roll_123 : decode cX10_roll 123 = .ok (.iastore, 1) := by decide +kernel
theorem dX10_roll_124 : decode cX10_roll 124 = .ok (.aload_n 0, 1) := by decide +kernel
theorem dX10_roll_125 : decode cX10_roll 125 = .ok (.getfield 22, 3) := by decide +kernel
theorem dX10_roll_128 : decode cX10_roll 128 = .ok (.iload 6, 2) := by decide +kernel
theorem dX10_roll_130 : decode cX10_roll 130 = .ok (.aload_n 0, 1) := by decide +kernel
theorem dX10_roll_131 : decode cX10_roll 131 = .ok (.getfield 37, 3) := by decide +kernel
theorem dX10_roll_134 : decode cX10_roll 134 = .ok (.iload 6, 2) := by decide +kernel
theorem dX10_roll_136 : decode cX10_roll 136 = .ok (.iaload, 1) := by decide +kernel
theorem dX10_roll_137 : decode cX10_roll 137 = .ok (.iastore, 1) := by decide +kernel
theorem dX10_roll_138 : decode cX10_roll 138 = .ok (.iinc 6 1, 3) := by decide +kernel
theorem dX10_roll_141 : decode cX10_roll 141 = .ok (.goto (-82), 3) := by decide +kernel
theorem dX10_roll_144 : decode cX10_roll 144 = .ok (.aload_n 0, 1) := by decide +kernel
theorem dX10_roll_145 : decode cX10_roll 145 = .ok (.aload_n 0, 1) := by decide +kernel
theorem dX10_roll_146 : decode cX10_roll 146 = .ok (.getfield 93, 3) := by decide +kernel
theorem dX10_roll_149 : decode cX10_roll 149 = .ok (.invokevirtual 76, 3) := by decide +kernel
theorem dX10_roll_152 : decode cX10_roll 152 = .ok (.ireturn, 1) := by decide +kernel
theorem dX10_ofOne_0 : decode cX10_ofOne 0 = .ok (.aload_n 0, 1) := by decide +kernel
theorem dX10_ofOne_1 : decode cX10_ofOne 1 = .ok (.iload_n 1, 1) := by decide +kernel
theorem dX10_ofOne_2 : decode cX10_ofOne 2 = .ok (.invokevirtual 127, 3) := by decide +kernel
theorem dX10_ofOne_5 : decode cX10_ofOne 5 = .ok (.ifCond .eq 5, 3) := by decide +kernel
theorem dX10_ofOne_8 : decode cX10_ofOne 8 = .ok (.iconst (-1), 1) := by decide +kernel
theorem dX10_ofOne_9 : decode cX10_ofOne 9 = .ok (.ireturn, 1) := by decide +kernel
theorem dX10_ofOne_10 : decode cX10_ofOne 10 = .ok (.iload_n 2, 1) := by decide +kernel
theorem dX10_ofOne_11 : decode cX10_ofOne 11 = .ok (.tableswitch 68 0 4 #[33, 40, 47, 54, 61], 33) := by decide +kernel
theorem dX10_ofOne_44 : decode cX10_ofOne 44 = .ok (.aload_n 0, 1) := by decide +kernel
theorem dX10_ofOne_45 : decode cX10_ofOne 45 = .ok (.getfield 7, 3) := by decide +kernel
theorem dX10_ofOne_48 : decode cX10_ofOne 48 = .ok (.iload_n 1, 1) := by decide +kernel
theorem dX10_ofOne_49 : decode cX10_ofOne 49 = .ok (.iaload, 1) := by decide +kernel
theorem dX10_ofOne_50 : decode cX10_ofOne 50 = .ok (.ireturn, 1) := by decide +kernel
theorem dX10_ofOne_51 : decode cX10_ofOne 51 = .ok (.aload_n 0, 1) := by decide +kernel
theorem dX10_ofOne_52 : decode cX10_ofOne 52 = .ok (.getfield 13, 3) := by decide +kernel
theorem dX10_ofOne_55 : decode cX10_ofOne 55 = .ok (.iload_n 1, 1) := by decide +kernel
theorem dX10_ofOne_56 : decode cX10_ofOne 56 = .ok (.iaload, 1) := by decide +kernel
theorem dX10_ofOne_57 : decode cX10_ofOne 57 = .ok (.ireturn, 1) := by decide +kernel
theorem dX10_ofOne_58 : decode cX10_ofOne 58 = .ok (.aload_n 0, 1) := by decide +kernel
theorem dX10_ofOne_59 : decode cX10_ofOne 59 = .ok (.getfield 16, 3) := by decide +kernel
theorem dX10_ofOne_62 : decode cX10_ofOne 62 = .ok (.iload_n 1, 1) := by decide +kernel
theorem dX10_ofOne_63 : decode cX10_ofOne 63 = .ok (.iaload, 1) := by decide +kernel
theorem dX10_ofOne_64 : decode cX10_ofOne 64 = .ok (.ireturn, 1) := by decide +kernel
theorem dX10_ofOne_65 : decode cX10_ofOne 65 = .ok (.aload_n 0, 1) := by decide +kernel
theorem dX10_ofOne_66 : decode cX10_ofOne 66 = .ok (.getfield 19, 3) := by decide +kernel
theorem dX10_ofOne_69 : decode cX10_ofOne 69 = .ok (.iload_n 1, 1) := by decide +kernel
theorem dX10_ofOne_70 : decode cX10_ofOne 70 = .ok (.iaload, 1) := by decide +kernel
theorem dX10_ofOne_71 : decode cX10_ofOne 71 = .ok (.ireturn, 1) := by decide +kernel
theorem dX10_ofOne_72 : decode cX10_ofOne 72 = .ok (.aload_n 0, 1) := by decide +kernel
theorem dX10_ofOne_73 : decode cX10_ofOne 73 = .ok (.getfield 22, 3) := by decide +kernel
theorem dX10_ofOne_76 : decode cX10_ofOne 76 = .ok (.iload_n 1, 1) := by decide +kernel
theorem dX10_ofOne_77 : decode cX10_ofOne 77 = .ok (.iaload, 1) := by decide +kernel
theorem dX10_ofOne_78 : decode cX10_ofOne 78 = .ok (.ireturn, 1) := by decide +kernel
theorem dX10_ofOne_79 : decode cX10_ofOne 79 = .ok (.bipush (-2), 2) := by decide +kernel
theorem dX10_ofOne_81 : decode cX10_ofOne 81 = .ok (.ireturn, 1) := by decide +kernel
theorem dX10_doesLive_0 : decode cX10_doesLive 0 = .ok (.aload_n 0, 1) := by decide +kernel
theorem dX10_doesLive_1 : decode cX10_doesLive 1 = .ok (.getfield 22, 3) := by decide +kernel
theorem dX10_doesLive_4 : decode cX10_doesLive 4 = .ok (.iload_n 1, 1) := by decide +kernel
theorem dX10_doesLive_5 : decode cX10_doesLive 5 = .ok (.iaload, 1) := by decide +kernel
theorem dX10_doesLive_6 : decode cX10_doesLive 6 = .ok (.aload_n 0, 1) := by decide +kernel
theorem dX10_doesLive_7 : decode cX10_doesLive 7 = .ok (.getfield 7, 3) := by decide +kernel
theorem dX10_doesLive_10 : decode cX10_doesLive 10 = .ok (.iload_n 1, 1) := by decide +kernel
theorem dX10_doesLive_11 : decode cX10_doesLive 11 = .ok (.iaload, 1) := by decide +kernel
theorem dX10_doesLive_12 : decode cX10_doesLive 12 = .ok (.ifCond .ne 7, 3) := by decide +kernel
theorem dX10_doesLive_15 : decode cX10_doesLive 15 = .ok (.iconst 0, 1) := by decide +kernel
theorem dX10_doesLive_16 : decode cX10_doesLive 16 = .ok (.goto 5, 3) := by decide +kernel
end
section
theorem dX10_doesLive_19 : decode cX10_doesLive 19 = .ok (.bipush 10, 2) := by decide +kernel
theorem dX10_doesLive_21 : decode cX10_doesLive 21 = .ok (.iadd, 1) := by decide +kernel
theorem dX10_doesLive_22 : decode cX10_doesLive 22 = .ok (.istore 4, 2) := by decide +kernel
theorem dX10_doesLive_24 : decode cX10_doesLive 24 = .ok (.aload_n 0, 1) := by decide +kernel
theorem dX10_doesLive_25 : decode cX10_doesLive 25 = .ok (.getfield 7, 3) := by decide +kernel
theorem dX10_doesLive_28 : decode cX10_doesLive 28 = .ok (.iload_n 1, 1) := by decide +kernel
theorem dX10_doesLive_29 : decode cX10_doesLive 29 = .ok (.iaload, 1) := by decide +kernel
theorem dX10_doesLive_30 : decode cX10_doesLive 30 = .ok (.iconst 2, 1) := by decide +kernel
theorem dX10_doesLive_31 : decode cX10_doesLive 31 = .ok (.if_icmp .eq 13, 3) := by decide +kernel
theorem dX10_doesLive_34 : decode cX10_doesLive 34 = .ok (.aload_n 0, 1) := by decide +kernel
theorem dX10_doesLive_35 : decode cX10_doesLive 35 = .ok (.getfield 13, 3) := by decide +kernel
theorem dX10_doesLive_38 : decode cX10_doesLive 38 = .ok (.iload_n 1, 1) := by decide +kernel
theorem dX10_doesLive_39 : decode cX10_doesLive 39 = .ok (.iaload, 1) := by decide +kernel
theorem dX10_doesLive_40 : decode cX10_doesLive 40 = .ok (.iload_n 2, 1) := by decide +kernel
theorem dX10_doesLive_41 : decode cX10_doesLive 41 = .ok (.if_icmp .ne 23, 3) := by decide +kernel
theorem dX10_doesLive_44 : decode cX10_doesLive 44 = .ok (.iload_n 3, 1) := by decide +kernel
theorem dX10_doesLive_45 : decode cX10_doesLive 45 = .ok (.aload_n 0, 1) := by decide +kernel
theorem dX10_doesLive_46 : decode cX10_doesLive 46 = .ok (.getfield 19, 3) := by decide +kernel
theorem dX10_doesLive_49 : decode cX10_doesLive 49 = .ok (.iload_n 1, 1) := by decide +kernel
theorem dX10_doesLive_50 : decode cX10_doesLive 50 = .ok (.iaload, 1) := by decide +kernel
theorem dX10_doesLive_51 : decode cX10_doesLive 51 = .ok (.if_icmp .lt 13, 3) := by decide +kernel
theorem dX10_doesLive_54 : decode cX10_doesLive 54 = .ok (.iload_n 3, 1) := by decide +kernel
theorem dX10_doesLive_55 : decode cX10_doesLive 55 = .ok (.iload 4, 2) := by decide +kernel
theorem dX10_doesLive_57 : decode cX10_doesLive 57 = .ok (.if_icmp .ge 7, 3) := by decide +kernel
theorem dX10_doesLive_60 : decode cX10_doesLive 60 = .ok (.iconst 1, 1) := by decide +kernel
theorem dX10_doesLive_61 : decode cX10_doesLive 61 = .ok (.goto 4, 3) := by decide +kernel
theorem dX10_doesLive_64 : decode cX10_doesLive 64 = .ok (.iconst 0, 1) := by decide +kernel
theorem dX10_doesLive_65 : decode cX10_doesLive 65 = .ok (.ireturn, 1) := by decide +kernel
theorem dX10_lives_0 : decode cX10_lives 0 = .ok (.aload_n 0, 1) := by decide +kernel
theorem dX10_lives_1 : decode cX10_lives 1 = .ok (.iload_n 1, 1) := by decide +kernel
theorem dX10_lives_2 : decode cX10_lives 2 = .ok (.invokevirtual 127, 3) := by decide +kernel
theorem dX10_lives_5 : decode cX10_lives 5 = .ok (.ifCond .ne 10, 3) := by decide +kernel
theorem dX10_lives_8 : decode cX10_lives 8 = .ok (.iload_n 2, 1) := by decide +kernel
theorem dX10_lives_9 : decode cX10_lives 9 = .ok (.invokestatic 130, 3) := by decide +kernel
theorem dX10_lives_12 : decode cX10_lives 12 = .ok (.ifCond .eq 5, 3) := by decide +kernel
theorem dX10_lives_15 : decode cX10_lives 15 = .ok (.iconst (-1), 1) := by decide +kernel
theorem dX10_lives_16 : decode cX10_lives 16 = .ok (.ireturn, 1) := by decide +kernel
theorem dX10_lives_17 : decode cX10_lives 17 = .ok (.iload_n 3, 1) := by decide +kernel
theorem dX10_lives_18 : decode cX10_lives 18 = .ok (.invokestatic 133, 3) := by decide +kernel
theorem dX10_lives_21 : decode cX10_lives 21 = .ok (.ifCond .eq 21, 3) := by decide +kernel
theorem dX10_lives_24 : decode cX10_lives 24 = .ok (.aload_n 0, 1) := by decide +kernel
theorem dX10_lives_25 : decode cX10_lives 25 = .ok (.iload_n 1, 1) := by decide +kernel
theorem dX10_lives_26 : decode cX10_lives 26 = .ok (.iload_n 2, 1) := by decide +kernel
theorem dX10_lives_27 : decode cX10_lives 27 = .ok (.iload_n 3, 1) := by decide +kernel
theorem dX10_lives_28 : decode cX10_lives 28 = .ok (.invokevirtual 136, 3) := by decide +kernel
theorem dX10_lives_31 : decode cX10_lives 31 = .ok (.ifCond .eq 7, 3) := by decide +kernel
theorem dX10_lives_34 : decode cX10_lives 34 = .ok (.iconst 1, 1) := by decide +kernel
theorem dX10_lives_35 : decode cX10_lives 35 = .ok (.goto 9, 3) := by decide +kernel
theorem dX10_lives_38 : decode cX10_lives 38 = .ok (.iconst 0, 1) := by decide +kernel
theorem dX10_lives_39 : decode cX10_lives 39 = .ok (.goto 5, 3) := by decide +kernel
theorem dX10_lives_42 : decode cX10_lives 42 = .ok (.bipush (-2), 2) := by decide +kernel
theorem dX10_lives_44 : decode cX10_lives 44 = .ok (.ireturn, 1) := by decide +kernel
theorem dX10_saidBy_0 : decode cX10_saidBy 0 = .ok (.iconst 0, 1) := by decide +kernel
theorem dX10_saidBy_1 : decode cX10_saidBy 1 = .ok (.istore 4, 2) := by decide +kernel
theorem dX10_saidBy_3 : decode cX10_saidBy 3 = .ok (.iload 4, 2) := by decide +kernel
theorem dX10_saidBy_5 : decode cX10_saidBy 5 = .ok (.aload_n 0, 1) := by decide +kernel
theorem dX10_saidBy_6 : decode cX10_saidBy 6 = .ok (.getfield 93, 3) := by decide +kernel
theorem dX10_saidBy_9 : decode cX10_saidBy 9 = .ok (.if_icmp .ge 34, 3) := by decide +kernel
theorem dX10_saidBy_12 : decode cX10_saidBy 12 = .ok (.aload_n 0, 1) := by decide +kernel
theorem dX10_saidBy_13 : decode cX10_saidBy 13 = .ok (.getfield 16, 3) := by decide +kernel
theorem dX10_saidBy_16 : decode cX10_saidBy 16 = .ok (.iload 4, 2) := by decide +kernel
theorem dX10_saidBy_18 : decode cX10_saidBy 18 = .ok (.iaload, 1) := by decide +kernel
theorem dX10_saidBy_19 : decode cX10_saidBy 19 = .ok (.iload_n 1, 1) := by decide +kernel
theorem dX10_saidBy_20 : decode cX10_saidBy 20 = .ok (.if_icmp .ne 17, 3) := by decide +kernel
theorem dX10_saidBy_23 : decode cX10_saidBy 23 = .ok (.aload_n 0, 1) := by decide +kernel
theorem dX10_saidBy_24 : decode cX10_saidBy 24 = .ok (.iload 4, 2) := by decide +kernel
theorem dX10_saidBy_26 : decode cX10_saidBy 26 = .ok (.iload_n 2, 1) := by decide +kernel
theorem dX10_saidBy_27 : decode cX10_saidBy 27 = .ok (.iload_n 3, 1) := by decide +kernel
theorem dX10_saidBy_28 : decode cX10_saidBy 28 = .ok (.invokevirtual 136, 3) := by decide +kernel
theorem dX10_saidBy_31 : decode cX10_saidBy 31 = .ok (.ifCond .eq 6, 3) := by decide +kernel
theorem dX10_saidBy_34 : decode cX10_saidBy 34 = .ok (.iload 4, 2) := by decide +kernel
theorem dX10_saidBy_36 : decode cX10_saidBy 36 = .ok (.ireturn, 1) := by decide +kernel
theorem dX10_saidBy_37 : decode cX10_saidBy 37 = .ok (.iinc 4 1, 3) := by decide +kernel
theorem dX10_saidBy_40 : decode cX10_saidBy 40 = .ok (.goto (-37), 3) := by decide +kernel
theorem dX10_saidBy_43 : decode cX10_saidBy 43 = .ok (.bipush (-9), 2) := by decide +kernel
theorem dX10_saidBy_45 : decode cX10_saidBy 45 = .ok (.ireturn, 1) := by decide +kernel
theorem dX10_word_0 : decode cX10_word 0 = .ok (.iload_n 2, 1) := by decide +kernel
theorem dX10_word_1 : decode cX10_word 1 = .ok (.invokestatic 130, 3) := by decide +kernel
theorem dX10_word_4 : decode cX10_word 4 = .ok (.ifCond .eq 5, 3) := by decide +kernel
theorem dX10_word_7 : decode cX10_word 7 = .ok (.iconst (-1), 1) := by decide +kernel
theorem dX10_word_8 : decode cX10_word 8 = .ok (.ireturn, 1) := by decide +kernel
theorem dX10_word_9 : decode cX10_word 9 = .ok (.iload_n 1, 1) := by decide +kernel
theorem dX10_word_10 : decode cX10_word 10 = .ok (.i2l, 1) := by decide +kernel
theorem dX10_word_11 : decode cX10_word 11 = .ok (.lconst 1, 1) := by decide +kernel
theorem dX10_word_12 : decode cX10_word 12 = .ok (.ldc2_w 140, 3) := by decide +kernel
theorem dX10_word_15 : decode cX10_word 15 = .ok (.invokestatic 82, 3) := by decide +kernel
theorem dX10_word_18 : decode cX10_word 18 = .ok (.ifCond .eq 20, 3) := by decide +kernel
theorem dX10_word_21 : decode cX10_word 21 = .ok (.iload_n 3, 1) := by decide +kernel
theorem dX10_word_22 : decode cX10_word 22 = .ok (.invokestatic 133, 3) := by decide +kernel
theorem dX10_word_25 : decode cX10_word 25 = .ok (.ifCond .eq 13, 3) := by decide +kernel
theorem dX10_word_28 : decode cX10_word 28 = .ok (.aload_n 0, 1) := by decide +kernel
theorem dX10_word_29 : decode cX10_word 29 = .ok (.iload_n 1, 1) := by decide +kernel
theorem dX10_word_30 : decode cX10_word 30 = .ok (.iload_n 2, 1) := by decide +kernel
theorem dX10_word_31 : decode cX10_word 31 = .ok (.iload_n 3, 1) := by decide +kernel
theorem dX10_word_32 : decode cX10_word 32 = .ok (.invokevirtual 142, 3) := by decide +kernel
theorem dX10_word_35 : decode cX10_word 35 = .ok (.goto 5, 3) := by decide +kernel
theorem dX10_word_38 : decode cX10_word 38 = .ok (.bipush (-2), 2) := by decide +kernel
theorem dX10_word_40 : decode cX10_word 40 = .ok (.ireturn, 1) := by decide +kernel
theorem dX10_sayable_0 : decode cX10_sayable 0 = .ok (.iload_n 1, 1) := by decide +kernel
theorem dX10_sayable_1 : decode cX10_sayable 1 = .ok (.invokestatic 130, 3) := by decide +kernel
theorem dX10_sayable_4 : decode cX10_sayable 4 = .ok (.ifCond .ne 8, 3) := by decide +kernel
theorem dX10_sayable_7 : decode cX10_sayable 7 = .ok (.iload_n 3, 1) := by decide +kernel
theorem dX10_sayable_8 : decode cX10_sayable 8 = .ok (.iconst (-1), 1) := by decide +kernel
theorem dX10_sayable_9 : decode cX10_sayable 9 = .ok (.if_icmp .ge 5, 3) := by decide +kernel
theorem dX10_sayable_12 : decode cX10_sayable 12 = .ok (.iconst (-1), 1) := by decide +kernel
theorem dX10_sayable_13 : decode cX10_sayable 13 = .ok (.ireturn, 1) := by decide +kernel
theorem dX10_sayable_14 : decode cX10_sayable 14 = .ok (.iload_n 2, 1) := by decide +kernel
theorem dX10_sayable_15 : decode cX10_sayable 15 = .ok (.invokestatic 133, 3) := by decide +kernel
theorem dX10_sayable_18 : decode cX10_sayable 18 = .ok (.ifCond .ne 6, 3) := by decide +kernel
theorem dX10_sayable_21 : decode cX10_sayable 21 = .ok (.bipush (-2), 2) := by decide +kernel
theorem dX10_sayable_23 : decode cX10_sayable 23 = .ok (.ireturn, 1) := by decide +kernel
theorem dX10_sayable_24 : decode cX10_sayable 24 = .ok (.iconst 0, 1) := by decide +kernel
theorem dX10_sayable_25 : decode cX10_sayable 25 = .ok (.istore 4, 2) := by decide +kernel
theorem dX10_sayable_27 : decode cX10_sayable 27 = .ok (.iconst 1, 1) := by decide +kernel
theorem dX10_sayable_28 : decode cX10_sayable 28 = .ok (.istore 5, 2) := by decide +kernel
theorem dX10_sayable_30 : decode cX10_sayable 30 = .ok (.iload 5, 2) := by decide +kernel
theorem dX10_sayable_32 : decode cX10_sayable 32 = .ok (.bipush 100, 2) := by decide +kernel
theorem dX10_sayable_34 : decode cX10_sayable 34 = .ok (.if_icmp .ge 32, 3) := by decide +kernel
theorem dX10_sayable_37 : decode cX10_sayable 37 = .ok (.aload_n 0, 1) := by decide +kernel
theorem dX10_sayable_38 : decode cX10_sayable 38 = .ok (.iload 5, 2) := by decide +kernel
theorem dX10_sayable_40 : decode cX10_sayable 40 = .ok (.iload_n 1, 1) := by decide +kernel
theorem dX10_sayable_41 : decode cX10_sayable 41 = .ok (.iload_n 2, 1) := by decide +kernel
theorem dX10_sayable_42 : decode cX10_sayable 42 = .ok (.invokevirtual 142, 3) := by decide +kernel
theorem dX10_sayable_45 : decode cX10_sayable 45 = .ok (.ifCond .lt 15, 3) := by decide +kernel
theorem dX10_sayable_48 : decode cX10_sayable 48 = .ok (.iload 4, 2) := by decide +kernel
theorem dX10_sayable_50 : decode cX10_sayable 50 = .ok (.iload_n 3, 1) := by decide +kernel
theorem dX10_sayable_51 : decode cX10_sayable 51 = .ok (.if_icmp .ne 6, 3) := by decide +kernel
theorem dX10_sayable_54 : decode cX10_sayable 54 = .ok (.iload 5, 2) := by decide +kernel
theorem dX10_sayable_56 : decode cX10_sayable 56 = .ok (.ireturn, 1) := by decide +kernel
theorem dX10_sayable_57 : decode cX10_sayable 57 = .ok (.iinc 4 1, 3) := by decide +kernel
theorem dX10_sayable_60 : decode cX10_sayable 60 = .ok (.iinc 5 1, 3) := by decide +kernel
theorem dX10_sayable_63 : decode cX10_sayable 63 = .ok (.goto (-33), 3) := by decide +kernel
theorem dX10_sayable_66 : decode cX10_sayable 66 = .ok (.iload_n 3, 1) := by decide +kernel
theorem dX10_sayable_67 : decode cX10_sayable 67 = .ok (.ifCond .ge 8, 3) := by decide +kernel
theorem dX10_sayable_70 : decode cX10_sayable 70 = .ok (.iload 4, 2) := by decide +kernel
theorem dX10_sayable_72 : decode cX10_sayable 72 = .ok (.goto 5, 3) := by decide +kernel
theorem dX10_sayable_75 : decode cX10_sayable 75 = .ok (.bipush (-9), 2) := by decide +kernel
theorem dX10_sayable_77 : decode cX10_sayable 77 = .ok (.ireturn, 1) := by decide +kernel
theorem dX10_layCan_0 : decode cX10_layCan 0 = .ok (.iconst 0, 1) := by decide +kernel
theorem dX10_layCan_1 : decode cX10_layCan 1 = .ok (.istore 4, 2) := by decide +kernel
theorem dX10_layCan_3 : decode cX10_layCan 3 = .ok (.iload 4, 2) := by decide +kernel
theorem dX10_layCan_5 : decode cX10_layCan 5 = .ok (.bipush 100, 2) := by decide +kernel
theorem dX10_layCan_7 : decode cX10_layCan 7 = .ok (.if_icmp .ge 17, 3) := by decide +kernel
theorem dX10_layCan_10 : decode cX10_layCan 10 = .ok (.aload_n 0, 1) := by decide +kernel
theorem dX10_layCan_11 : decode cX10_layCan 11 = .ok (.getfield 40, 3) := by decide +kernel
theorem dX10_layCan_14 : decode cX10_layCan 14 = .ok (.iload 4, 2) := by decide +kernel
theorem dX10_layCan_16 : decode cX10_layCan 16 = .ok (.iconst 0, 1) := by decide +kernel
theorem dX10_layCan_17 : decode cX10_layCan 17 = .ok (.bastore, 1) := by decide +kernel
theorem dX10_layCan_18 : decode cX10_layCan 18 = .ok (.iinc 4 1, 3) := by decide +kernel
theorem dX10_layCan_21 : decode cX10_layCan 21 = .ok (.goto (-18), 3) := by decide +kernel
theorem dX10_layCan_24 : decode cX10_layCan 24 = .ok (.iconst 0, 1) := by decide +kernel
theorem dX10_layCan_25 : decode cX10_layCan 25 = .ok (.istore 4, 2) := by decide +kernel
theorem dX10_layCan_27 : decode cX10_layCan 27 = .ok (.iload 4, 2) := by decide +kernel
theorem dX10_layCan_29 : decode cX10_layCan 29 = .ok (.aload_n 0, 1) := by decide +kernel
theorem dX10_layCan_30 : decode cX10_layCan 30 = .ok (.getfield 93, 3) := by decide +kernel
theorem dX10_layCan_33 : decode cX10_layCan 33 = .ok (.if_icmp .ge 39, 3) := by decide +kernel
theorem dX10_layCan_36 : decode cX10_layCan 36 = .ok (.iload 4, 2) := by decide +kernel
theorem dX10_layCan_38 : decode cX10_layCan 38 = .ok (.iload_n 3, 1) := by decide +kernel
theorem dX10_layCan_39 : decode cX10_layCan 39 = .ok (.if_icmp .eq 27, 3) := by decide +kernel
theorem dX10_layCan_42 : decode cX10_layCan 42 = .ok (.aload_n 0, 1) := by decide +kernel
theorem dX10_layCan_43 : decode cX10_layCan 43 = .ok (.iload 4, 2) := by decide +kernel
theorem dX10_layCan_45 : decode cX10_layCan 45 = .ok (.iload_n 1, 1) := by decide +kernel
theorem dX10_layCan_46 : decode cX10_layCan 46 = .ok (.iload_n 2, 1) := by decide +kernel
theorem dX10_layCan_47 : decode cX10_layCan 47 = .ok (.invokevirtual 136, 3) := by decide +kernel
theorem dX10_layCan_50 : decode cX10_layCan 50 = .ok (.ifCond .eq 16, 3) := by decide +kernel
theorem dX10_layCan_53 : decode cX10_layCan 53 = .ok (.aload_n 0, 1) := by decide +kernel
theorem dX10_layCan_54 : decode cX10_layCan 54 = .ok (.getfield 40, 3) := by decide +kernel
theorem dX10_layCan_57 : decode cX10_layCan 57 = .ok (.aload_n 0, 1) := by decide +kernel
theorem dX10_layCan_58 : decode cX10_layCan 58 = .ok (.getfield 16, 3) := by decide +kernel
theorem dX10_layCan_61 : decode cX10_layCan 61 = .ok (.iload 4, 2) := by decide +kernel
theorem dX10_layCan_63 : decode cX10_layCan 63 = .ok (.iaload, 1) := by decide +kernel
theorem dX10_layCan_64 : decode cX10_layCan 64 = .ok (.iconst 1, 1) := by decide +kernel
theorem dX10_layCan_65 : decode cX10_layCan 65 = .ok (.bastore, 1) := by decide +kernel
theorem dX10_layCan_66 : decode cX10_layCan 66 = .ok (.iinc 4 1, 3) := by decide +kernel
theorem dX10_layCan_69 : decode cX10_layCan 69 = .ok (.goto (-42), 3) := by decide +kernel
theorem dX10_layCan_72 : decode cX10_layCan 72 = .ok (.return_, 1) := by decide +kernel
theorem dX10_layFewest_0 : decode cX10_layFewest 0 = .ok (.aload_n 0, 1) := by decide +kernel
theorem dX10_layFewest_1 : decode cX10_layFewest 1 = .ok (.getfield 44, 3) := by decide +kernel
theorem dX10_layFewest_4 : decode cX10_layFewest 4 = .ok (.iconst 0, 1) := by decide +kernel
theorem dX10_layFewest_5 : decode cX10_layFewest 5 = .ok (.iconst 0, 1) := by decide +kernel
theorem dX10_layFewest_6 : decode cX10_layFewest 6 = .ok (.iastore, 1) := by decide +kernel
theorem dX10_layFewest_7 : decode cX10_layFewest 7 = .ok (.iconst 1, 1) := by decide +kernel
theorem dX10_layFewest_8 : decode cX10_layFewest 8 = .ok (.istore_n 2, 1) := by decide +kernel
theorem dX10_layFewest_9 : decode cX10_layFewest 9 = .ok (.iload_n 2, 1) := by decide +kernel
theorem dX10_layFewest_10 : decode cX10_layFewest 10 = .ok (.iload_n 1, 1) := by decide +kernel
theorem dX10_layFewest_11 : decode cX10_layFewest 11 = .ok (.if_icmp .gt 70, 3) := by decide +kernel
theorem dX10_layFewest_14 : decode cX10_layFewest 14 = .ok (.aload_n 0, 1) := by decide +kernel
theorem dX10_layFewest_15 : decode cX10_layFewest 15 = .ok (.getfield 44, 3) := by decide +kernel
theorem dX10_layFewest_18 : decode cX10_layFewest 18 = .ok (.iload_n 2, 1) := by decide +kernel
theorem dX10_layFewest_19 : decode cX10_layFewest 19 = .ok (.sipush 5000, 3) := by decide +kernel
theorem dX10_layFewest_22 : decode cX10_layFewest 22 = .ok (.iastore, 1) := by decide +kernel
theorem dX10_layFewest_23 : decode cX10_layFewest 23 = .ok (.iconst 1, 1) := by decide +kernel
theorem dX10_layFewest_24 : decode cX10_layFewest 24 = .ok (.istore_n 3, 1) := by decide +kernel
theorem dX10_layFewest_25 : decode cX10_layFewest 25 = .ok (.iload_n 3, 1) := by decide +kernel
theorem dX10_layFewest_26 : decode cX10_layFewest 26 = .ok (.iload_n 2, 1) := by decide +kernel
theorem dX10_layFewest_27 : decode cX10_layFewest 27 = .ok (.bipush 99, 2) := by decide +kernel
theorem dX10_layFewest_29 : decode cX10_layFewest 29 = .ok (.invokestatic 145, 3) := by decide +kernel
theorem dX10_layFewest_32 : decode cX10_layFewest 32 = .ok (.if_icmp .gt 43, 3) := by decide +kernel
theorem dX10_layFewest_35 : decode cX10_layFewest 35 = .ok (.aload_n 0, 1) := by decide +kernel
theorem dX10_layFewest_36 : decode cX10_layFewest 36 = .ok (.getfield 40, 3) := by decide +kernel
theorem dX10_layFewest_39 : decode cX10_layFewest 39 = .ok (.iload_n 3, 1) := by decide +kernel
theorem dX10_layFewest_40 : decode cX10_layFewest 40 = .ok (.baload, 1) := by decide +kernel
theorem dX10_layFewest_41 : decode cX10_layFewest 41 = .ok (.ifCond .eq 28, 3) := by decide +kernel
theorem dX10_layFewest_44 : decode cX10_layFewest 44 = .ok (.aload_n 0, 1) := by decide +kernel
theorem dX10_layFewest_45 : decode cX10_layFewest 45 = .ok (.getfield 44, 3) := by decide +kernel
theorem dX10_layFewest_48 : decode cX10_layFewest 48 = .ok (.iload_n 2, 1) := by decide +kernel
theorem dX10_layFewest_49 : decode cX10_layFewest 49 = .ok (.aload_n 0, 1) := by decide +kernel
theorem dX10_layFewest_50 : decode cX10_layFewest 50 = .ok (.getfield 44, 3) := by decide +kernel
theorem dX10_layFewest_53 : decode cX10_layFewest 53 = .ok (.iload_n 2, 1) := by decide +kernel
theorem dX10_layFewest_54 : decode cX10_layFewest 54 = .ok (.iaload, 1) := by decide +kernel
theorem dX10_layFewest_55 : decode cX10_layFewest 55 = .ok (.aload_n 0, 1) := by decide +kernel
theorem dX10_layFewest_56 : decode cX10_layFewest 56 = .ok (.getfield 44, 3) := by decide +kernel
theorem dX10_layFewest_59 : decode cX10_layFewest 59 = .ok (.iload_n 2, 1) := by decide +kernel
theorem dX10_layFewest_60 : decode cX10_layFewest 60 = .ok (.iload_n 3, 1) := by decide +kernel
theorem dX10_layFewest_61 : decode cX10_layFewest 61 = .ok (.isub, 1) := by decide +kernel
theorem dX10_layFewest_62 : decode cX10_layFewest 62 = .ok (.iaload, 1) := by decide +kernel
theorem dX10_layFewest_63 : decode cX10_layFewest 63 = .ok (.iconst 1, 1) := by decide +kernel
theorem dX10_layFewest_64 : decode cX10_layFewest 64 = .ok (.iadd, 1) := by decide +kernel
theorem dX10_layFewest_65 : decode cX10_layFewest 65 = .ok (.invokestatic 145, 3) := by decide +kernel
theorem dX10_layFewest_68 : decode cX10_layFewest 68 = .ok (.iastore, 1) := by decide +kernel
theorem dX10_layFewest_69 : decode cX10_layFewest 69 = .ok (.iinc 3 1, 3) := by decide +kernel
theorem dX10_layFewest_72 : decode cX10_layFewest 72 = .ok (.goto (-47), 3) := by decide +kernel
theorem dX10_layFewest_75 : decode cX10_layFewest 75 = .ok (.iinc 2 1, 3) := by decide +kernel
theorem dX10_layFewest_78 : decode cX10_layFewest 78 = .ok (.goto (-69), 3) := by decide +kernel
theorem dX10_layFewest_81 : decode cX10_layFewest 81 = .ok (.return_, 1) := by decide +kernel
theorem dX10_laySaid_0 : decode cX10_laySaid 0 = .ok (.aload_n 0, 1) := by decide +kernel
theorem dX10_laySaid_1 : decode cX10_laySaid 1 = .ok (.iload_n 1, 1) := by decide +kernel
theorem dX10_laySaid_2 : decode cX10_laySaid 2 = .ok (.iload_n 2, 1) := by decide +kernel
theorem dX10_laySaid_3 : decode cX10_laySaid 3 = .ok (.bipush (-9), 2) := by decide +kernel
theorem dX10_laySaid_5 : decode cX10_laySaid 5 = .ok (.invokevirtual 149, 3) := by decide +kernel
theorem dX10_laySaid_8 : decode cX10_laySaid 8 = .ok (.aload_n 0, 1) := by decide +kernel
theorem dX10_laySaid_9 : decode cX10_laySaid 9 = .ok (.iload_n 3, 1) := by decide +kernel
theorem dX10_laySaid_10 : decode cX10_laySaid 10 = .ok (.invokevirtual 153, 3) := by decide +kernel
theorem dX10_laySaid_13 : decode cX10_laySaid 13 = .ok (.return_, 1) := by decide +kernel
theorem dX10_arePeople_0 : decode cX10_arePeople 0 = .ok (.iconst 1, 1) := by decide +kernel
theorem dX10_arePeople_1 : decode cX10_arePeople 1 = .ok (.istore_n 3, 1) := by decide +kernel
theorem dX10_arePeople_2 : decode cX10_arePeople 2 = .ok (.iconst 0, 1) := by decide +kernel
theorem dX10_arePeople_3 : decode cX10_arePeople 3 = .ok (.istore 4, 2) := by decide +kernel
theorem dX10_arePeople_5 : decode cX10_arePeople 5 = .ok (.iload 4, 2) := by decide +kernel
theorem dX10_arePeople_7 : decode cX10_arePeople 7 = .ok (.iload_n 2, 1) := by decide +kernel
theorem dX10_arePeople_8 : decode cX10_arePeople 8 = .ok (.if_icmp .ge 35, 3) := by decide +kernel
theorem dX10_arePeople_11 : decode cX10_arePeople 11 = .ok (.iload_n 3, 1) := by decide +kernel
theorem dX10_arePeople_12 : decode cX10_arePeople 12 = .ok (.ifCond .eq 23, 3) := by decide +kernel
theorem dX10_arePeople_15 : decode cX10_arePeople 15 = .ok (.aload_n 0, 1) := by decide +kernel
theorem dX10_arePeople_16 : decode cX10_arePeople 16 = .ok (.aload_n 0, 1) := by decide +kernel
theorem dX10_arePeople_17 : decode cX10_arePeople 17 = .ok (.getfield 56, 3) := by decide +kernel
theorem dX10_arePeople_20 : decode cX10_arePeople 20 = .ok (.iload_n 1, 1) := by decide +kernel
theorem dX10_arePeople_21 : decode cX10_arePeople 21 = .ok (.iload 4, 2) := by decide +kernel
theorem dX10_arePeople_23 : decode cX10_arePeople 23 = .ok (.iadd, 1) := by decide +kernel
theorem dX10_arePeople_24 : decode cX10_arePeople 24 = .ok (.iaload, 1) := by decide +kernel
theorem dX10_arePeople_25 : decode cX10_arePeople 25 = .ok (.invokevirtual 127, 3) := by decide +kernel
theorem dX10_arePeople_28 : decode cX10_arePeople 28 = .ok (.ifCond .ne 7, 3) := by decide +kernel
theorem dX10_arePeople_31 : decode cX10_arePeople 31 = .ok (.iconst 1, 1) := by decide +kernel
theorem dX10_arePeople_32 : decode cX10_arePeople 32 = .ok (.goto 4, 3) := by decide +kernel
theorem dX10_arePeople_35 : decode cX10_arePeople 35 = .ok (.iconst 0, 1) := by decide +kernel
theorem dX10_arePeople_36 : decode cX10_arePeople 36 = .ok (.istore_n 3, 1) := by decide +kernel
theorem dX10_arePeople_37 : decode cX10_arePeople 37 = .ok (.iinc 4 1, 3) := by decide +kernel
theorem dX10_arePeople_40 : decode cX10_arePeople 40 = .ok (.goto (-35), 3) := by decide +kernel
theorem dX10_arePeople_43 : decode cX10_arePeople 43 = .ok (.iload_n 3, 1) := by decide +kernel
theorem dX10_arePeople_44 : decode cX10_arePeople 44 = .ok (.ireturn, 1) := by decide +kernel
theorem dX10_meant_0 : decode cX10_meant 0 = .ok (.iconst 0, 1) := by decide +kernel
theorem dX10_meant_1 : decode cX10_meant 1 = .ok (.istore 5, 2) := by decide +kernel
theorem dX10_meant_3 : decode cX10_meant 3 = .ok (.iconst 0, 1) := by decide +kernel
theorem dX10_meant_4 : decode cX10_meant 4 = .ok (.istore 6, 2) := by decide +kernel
theorem dX10_meant_6 : decode cX10_meant 6 = .ok (.iload 6, 2) := by decide +kernel
theorem dX10_meant_8 : decode cX10_meant 8 = .ok (.iload 4, 2) := by decide +kernel
theorem dX10_meant_10 : decode cX10_meant 10 = .ok (.if_icmp .ge 52, 3) := by decide +kernel
theorem dX10_meant_13 : decode cX10_meant 13 = .ok (.aload_n 0, 1) := by decide +kernel
theorem dX10_meant_14 : decode cX10_meant 14 = .ok (.aload_n 0, 1) := by decide +kernel
theorem dX10_meant_15 : decode cX10_meant 15 = .ok (.getfield 56, 3) := by decide +kernel
theorem dX10_meant_18 : decode cX10_meant 18 = .ok (.iload_n 3, 1) := by decide +kernel
theorem dX10_meant_19 : decode cX10_meant 19 = .ok (.iload 6, 2) := by decide +kernel
theorem dX10_meant_21 : decode cX10_meant 21 = .ok (.iadd, 1) := by decide +kernel
theorem dX10_meant_22 : decode cX10_meant 22 = .ok (.iaload, 1) := by decide +kernel
theorem dX10_meant_23 : decode cX10_meant 23 = .ok (.iload_n 1, 1) := by decide +kernel
theorem dX10_meant_24 : decode cX10_meant 24 = .ok (.iload_n 2, 1) := by decide +kernel
theorem dX10_meant_25 : decode cX10_meant 25 = .ok (.invokevirtual 136, 3) := by decide +kernel
theorem dX10_meant_28 : decode cX10_meant 28 = .ok (.ifCond .ne 9, 3) := by decide +kernel
theorem dX10_meant_31 : decode cX10_meant 31 = .ok (.bipush (-100), 2) := by decide +kernel
theorem dX10_meant_33 : decode cX10_meant 33 = .ok (.iload 6, 2) := by decide +kernel
theorem dX10_meant_35 : decode cX10_meant 35 = .ok (.isub, 1) := by decide +kernel
theorem dX10_meant_36 : decode cX10_meant 36 = .ok (.ireturn, 1) := by decide +kernel
theorem dX10_meant_37 : decode cX10_meant 37 = .ok (.iload 5, 2) := by decide +kernel
theorem dX10_meant_39 : decode cX10_meant 39 = .ok (.aload_n 0, 1) := by decide +kernel
theorem dX10_meant_40 : decode cX10_meant 40 = .ok (.getfield 16, 3) := by decide +kernel
theorem dX10_meant_43 : decode cX10_meant 43 = .ok (.aload_n 0, 1) := by decide +kernel
theorem dX10_meant_44 : decode cX10_meant 44 = .ok (.getfield 56, 3) := by decide +kernel
theorem dX10_meant_47 : decode cX10_meant 47 = .ok (.iload_n 3, 1) := by decide +kernel
theorem dX10_meant_48 : decode cX10_meant 48 = .ok (.iload 6, 2) := by decide +kernel
theorem dX10_meant_50 : decode cX10_meant 50 = .ok (.iadd, 1) := by decide +kernel
theorem dX10_meant_51 : decode cX10_meant 51 = .ok (.iaload, 1) := by decide +kernel
theorem dX10_meant_52 : decode cX10_meant 52 = .ok (.iaload, 1) := by decide +kernel
theorem dX10_meant_53 : decode cX10_meant 53 = .ok (.iadd, 1) := by decide +kernel
theorem dX10_meant_54 : decode cX10_meant 54 = .ok (.istore 5, 2) := by decide +kernel
theorem dX10_meant_56 : decode cX10_meant 56 = .ok (.iinc 6 1, 3) := by decide +kernel
theorem dX10_meant_59 : decode cX10_meant 59 = .ok (.goto (-53), 3) := by decide +kernel
theorem dX10_meant_62 : decode cX10_meant 62 = .ok (.iload 5, 2) := by decide +kernel
theorem dX10_meant_64 : decode cX10_meant 64 = .ok (.ireturn, 1) := by decide +kernel
theorem dX10_rowBarred_0 : decode cX10_rowBarred 0 = .ok (.iload_n 1, 1) := by decide +kernel
theorem dX10_rowBarred_1 : decode cX10_rowBarred 1 = .ok (.invokestatic 130, 3) := by decide +kernel
theorem dX10_rowBarred_4 : decode cX10_rowBarred 4 = .ok (.ifCond .eq 9, 3) := by decide +kernel
theorem dX10_rowBarred_7 : decode cX10_rowBarred 7 = .ok (.aload_n 0, 1) := by decide +kernel
theorem dX10_rowBarred_8 : decode cX10_rowBarred 8 = .ok (.iconst (-1), 1) := by decide +kernel
theorem dX10_rowBarred_9 : decode cX10_rowBarred 9 = .ok (.invokevirtual 76, 3) := by decide +kernel
theorem dX10_rowBarred_12 : decode cX10_rowBarred 12 = .ok (.ireturn, 1) := by decide +kernel
theorem dX10_rowBarred_13 : decode cX10_rowBarred 13 = .ok (.aload_n 0, 1) := by decide +kernel
theorem dX10_rowBarred_14 : decode cX10_rowBarred 14 = .ok (.iload_n 2, 1) := by decide +kernel
theorem dX10_rowBarred_15 : decode cX10_rowBarred 15 = .ok (.iload_n 3, 1) := by decide +kernel
theorem dX10_rowBarred_16 : decode cX10_rowBarred 16 = .ok (.iload 4, 2) := by decide +kernel
theorem dX10_rowBarred_18 : decode cX10_rowBarred 18 = .ok (.iload 5, 2) := by decide +kernel
theorem dX10_rowBarred_20 : decode cX10_rowBarred 20 = .ok (.i2l, 1) := by decide +kernel
theorem dX10_rowBarred_21 : decode cX10_rowBarred 21 = .ok (.iload 6, 2) := by decide +kernel
theorem dX10_rowBarred_23 : decode cX10_rowBarred 23 = .ok (.invokevirtual 120, 3) := by decide +kernel
theorem dX10_rowBarred_26 : decode cX10_rowBarred 26 = .ok (.istore 7, 2) := by decide +kernel
theorem dX10_rowBarred_28 : decode cX10_rowBarred 28 = .ok (.iload 7, 2) := by decide +kernel
theorem dX10_rowBarred_30 : decode cX10_rowBarred 30 = .ok (.ifCond .ge 6, 3) := by decide +kernel
theorem dX10_rowBarred_33 : decode cX10_rowBarred 33 = .ok (.iload 7, 2) := by decide +kernel
theorem dX10_rowBarred_35 : decode cX10_rowBarred 35 = .ok (.ireturn, 1) := by decide +kernel
theorem dX10_rowBarred_36 : decode cX10_rowBarred 36 = .ok (.iload 5, 2) := by decide +kernel
theorem dX10_rowBarred_38 : decode cX10_rowBarred 38 = .ok (.bipush 20, 2) := by decide +kernel
theorem dX10_rowBarred_40 : decode cX10_rowBarred 40 = .ok (.if_icmp .le 10, 3) := by decide +kernel
theorem dX10_rowBarred_43 : decode cX10_rowBarred 43 = .ok (.aload_n 0, 1) := by decide +kernel
theorem dX10_rowBarred_44 : decode cX10_rowBarred 44 = .ok (.bipush (-2), 2) := by decide +kernel
theorem dX10_rowBarred_46 : decode cX10_rowBarred 46 = .ok (.invokevirtual 76, 3) := by decide +kernel
theorem dX10_rowBarred_49 : decode cX10_rowBarred 49 = .ok (.ireturn, 1) := by decide +kernel
theorem dX10_rowBarred_50 : decode cX10_rowBarred 50 = .ok (.aload_n 0, 1) := by decide +kernel
theorem dX10_rowBarred_51 : decode cX10_rowBarred 51 = .ok (.bipush 100, 2) := by decide +kernel
theorem dX10_rowBarred_53 : decode cX10_rowBarred 53 = .ok (.iload_n 2, 1) := by decide +kernel
theorem dX10_rowBarred_54 : decode cX10_rowBarred 54 = .ok (.imul, 1) := by decide +kernel
theorem dX10_rowBarred_55 : decode cX10_rowBarred 55 = .ok (.iload 4, 2) := by decide +kernel
theorem dX10_rowBarred_57 : decode cX10_rowBarred 57 = .ok (.iadd, 1) := by decide +kernel
theorem dX10_rowBarred_58 : decode cX10_rowBarred 58 = .ok (.iload 5, 2) := by decide +kernel
theorem dX10_rowBarred_60 : decode cX10_rowBarred 60 = .ok (.invokevirtual 157, 3) := by decide +kernel
theorem dX10_rowBarred_63 : decode cX10_rowBarred 63 = .ok (.ifCond .eq 7, 3) := by decide +kernel
theorem dX10_rowBarred_66 : decode cX10_rowBarred 66 = .ok (.iconst 0, 1) := by decide +kernel
theorem dX10_rowBarred_67 : decode cX10_rowBarred 67 = .ok (.goto 8, 3) := by decide +kernel
theorem dX10_rowBarred_70 : decode cX10_rowBarred 70 = .ok (.aload_n 0, 1) := by decide +kernel
theorem dX10_rowBarred_71 : decode cX10_rowBarred 71 = .ok (.iconst (-1), 1) := by decide +kernel
theorem dX10_rowBarred_72 : decode cX10_rowBarred 72 = .ok (.invokevirtual 76, 3) := by decide +kernel
theorem dX10_rowBarred_75 : decode cX10_rowBarred 75 = .ok (.ireturn, 1) := by decide +kernel
theorem dX10_means_0 : decode cX10_means 0 = .ok (.aload_n 0, 1) := by decide +kernel
theorem dX10_means_1 : decode cX10_means 1 = .ok (.iload_n 1, 1) := by decide +kernel
theorem dX10_means_2 : decode cX10_means 2 = .ok (.iload_n 3, 1) := by decide +kernel
theorem dX10_means_3 : decode cX10_means 3 = .ok (.iload 4, 2) := by decide +kernel
theorem dX10_means_5 : decode cX10_means 5 = .ok (.iload 5, 2) := by decide +kernel
theorem dX10_means_7 : decode cX10_means 7 = .ok (.iload 6, 2) := by decide +kernel
theorem dX10_means_9 : decode cX10_means 9 = .ok (.iload_n 2, 1) := by decide +kernel
theorem dX10_means_10 : decode cX10_means 10 = .ok (.invokestatic 133, 3) := by decide +kernel
theorem dX10_means_13 : decode cX10_means 13 = .ok (.invokevirtual 160, 3) := by decide +kernel
theorem dX10_means_16 : decode cX10_means 16 = .ok (.istore 7, 2) := by decide +kernel
theorem dX10_means_18 : decode cX10_means 18 = .ok (.iload 7, 2) := by decide +kernel
theorem dX10_means_20 : decode cX10_means 20 = .ok (.ifCond .ge 8, 3) := by decide +kernel
theorem dX10_means_23 : decode cX10_means 23 = .ok (.iload 7, 2) := by decide +kernel
theorem dX10_means_25 : decode cX10_means 25 = .ok (.goto 22, 3) := by decide +kernel
theorem dX10_means_28 : decode cX10_means 28 = .ok (.aload_n 0, 1) := by decide +kernel
theorem dX10_means_29 : decode cX10_means 29 = .ok (.aload_n 0, 1) := by decide +kernel
theorem dX10_means_30 : decode cX10_means 30 = .ok (.iload_n 1, 1) := by decide +kernel
theorem dX10_means_31 : decode cX10_means 31 = .ok (.iload_n 2, 1) := by decide +kernel
theorem dX10_means_32 : decode cX10_means 32 = .ok (.bipush 100, 2) := by decide +kernel
theorem dX10_means_34 : decode cX10_means 34 = .ok (.iload_n 3, 1) := by decide +kernel
theorem dX10_means_35 : decode cX10_means 35 = .ok (.imul, 1) := by decide +kernel
theorem dX10_means_36 : decode cX10_means 36 = .ok (.iload 5, 2) := by decide +kernel
theorem dX10_means_38 : decode cX10_means 38 = .ok (.iadd, 1) := by decide +kernel
theorem dX10_means_39 : decode cX10_means 39 = .ok (.iload 6, 2) := by decide +kernel
theorem dX10_means_41 : decode cX10_means 41 = .ok (.invokevirtual 164, 3) := by decide +kernel
theorem dX10_means_44 : decode cX10_means 44 = .ok (.invokevirtual 76, 3) := by decide +kernel
theorem dX10_means_47 : decode cX10_means 47 = .ok (.ireturn, 1) := by decide +kernel
theorem dX10_say_0 : decode cX10_say 0 = .ok (.iload_n 2, 1) := by decide +kernel
theorem dX10_say_1 : decode cX10_say 1 = .ok (.invokestatic 130, 3) := by decide +kernel
theorem dX10_say_4 : decode cX10_say 4 = .ok (.ifCond .ne 9, 3) := by decide +kernel
theorem dX10_say_7 : decode cX10_say 7 = .ok (.iload 4, 2) := by decide +kernel
theorem dX10_say_9 : decode cX10_say 9 = .ok (.iconst (-1), 1) := by decide +kernel
theorem dX10_say_10 : decode cX10_say 10 = .ok (.if_icmp .ge 5, 3) := by decide +kernel
theorem dX10_say_13 : decode cX10_say 13 = .ok (.iconst (-1), 1) := by decide +kernel
theorem dX10_say_14 : decode cX10_say 14 = .ok (.ireturn, 1) := by decide +kernel
theorem dX10_say_15 : decode cX10_say 15 = .ok (.iload_n 1, 1) := by decide +kernel
theorem dX10_say_16 : decode cX10_say 16 = .ok (.i2l, 1) := by decide +kernel
theorem dX10_say_17 : decode cX10_say 17 = .ok (.lconst 0, 1) := by decide +kernel
theorem dX10_say_18 : decode cX10_say 18 = .ok (.ldc2_w 167, 3) := by decide +kernel
theorem dX10_say_21 : decode cX10_say 21 = .ok (.invokestatic 82, 3) := by decide +kernel
theorem dX10_say_24 : decode cX10_say 24 = .ok (.ifCond .eq 10, 3) := by decide +kernel
theorem dX10_say_27 : decode cX10_say 27 = .ok (.iload_n 3, 1) := by decide +kernel
theorem dX10_say_28 : decode cX10_say 28 = .ok (.invokestatic 133, 3) := by decide +kernel
theorem dX10_say_31 : decode cX10_say 31 = .ok (.ifCond .ne 6, 3) := by decide +kernel
theorem dX10_say_34 : decode cX10_say 34 = .ok (.bipush (-2), 2) := by decide +kernel
theorem dX10_say_36 : decode cX10_say 36 = .ok (.ireturn, 1) := by decide +kernel
theorem dX10_say_37 : decode cX10_say 37 = .ok (.aload_n 0, 1) := by decide +kernel
theorem dX10_say_38 : decode cX10_say 38 = .ok (.iload_n 2, 1) := by decide +kernel
theorem dX10_say_39 : decode cX10_say 39 = .ok (.iload_n 3, 1) := by decide +kernel
theorem dX10_say_40 : decode cX10_say 40 = .ok (.iload_n 1, 1) := by decide +kernel
theorem dX10_say_41 : decode cX10_say 41 = .ok (.invokevirtual 169, 3) := by decide +kernel
theorem dX10_say_44 : decode cX10_say 44 = .ok (.aload_n 0, 1) := by decide +kernel
theorem dX10_say_45 : decode cX10_say 45 = .ok (.getfield 44, 3) := by decide +kernel
theorem dX10_say_48 : decode cX10_say 48 = .ok (.iload_n 1, 1) := by decide +kernel
theorem dX10_say_49 : decode cX10_say 49 = .ok (.iaload, 1) := by decide +kernel
theorem dX10_say_50 : decode cX10_say 50 = .ok (.istore 5, 2) := by decide +kernel
theorem dX10_say_52 : decode cX10_say 52 = .ok (.iload 5, 2) := by decide +kernel
theorem dX10_say_54 : decode cX10_say 54 = .ok (.sipush 5000, 3) := by decide +kernel
theorem dX10_say_57 : decode cX10_say 57 = .ok (.if_icmp .ge 10, 3) := by decide +kernel
theorem dX10_say_60 : decode cX10_say 60 = .ok (.iload 4, 2) := by decide +kernel
theorem dX10_say_62 : decode cX10_say 62 = .ok (.iload 5, 2) := by decide +kernel
theorem dX10_say_64 : decode cX10_say 64 = .ok (.if_icmp .lt 6, 3) := by decide +kernel
theorem dX10_say_67 : decode cX10_say 67 = .ok (.bipush (-9), 2) := by decide +kernel
theorem dX10_say_69 : decode cX10_say 69 = .ok (.ireturn, 1) := by decide +kernel
theorem dX10_say_70 : decode cX10_say 70 = .ok (.iload 4, 2) := by decide +kernel
theorem dX10_say_72 : decode cX10_say 72 = .ok (.ifCond .ge 6, 3) := by decide +kernel
theorem dX10_say_75 : decode cX10_say 75 = .ok (.iload 5, 2) := by decide +kernel
theorem dX10_say_77 : decode cX10_say 77 = .ok (.ireturn, 1) := by decide +kernel
theorem dX10_say_78 : decode cX10_say 78 = .ok (.iload_n 1, 1) := by decide +kernel
theorem dX10_say_79 : decode cX10_say 79 = .ok (.istore 6, 2) := by decide +kernel
theorem dX10_say_81 : decode cX10_say 81 = .ok (.iconst 0, 1) := by decide +kernel
theorem dX10_say_82 : decode cX10_say 82 = .ok (.istore 7, 2) := by decide +kernel
theorem dX10_say_84 : decode cX10_say 84 = .ok (.iconst 0, 1) := by decide +kernel
theorem dX10_say_85 : decode cX10_say 85 = .ok (.istore 8, 2) := by decide +kernel
theorem dX10_say_87 : decode cX10_say 87 = .ok (.iload 8, 2) := by decide +kernel
theorem dX10_say_89 : decode cX10_say 89 = .ok (.iload 4, 2) := by decide +kernel
theorem dX10_say_91 : decode cX10_say 91 = .ok (.if_icmp .gt 63, 3) := by decide +kernel
theorem dX10_say_94 : decode cX10_say 94 = .ok (.iload 6, 2) := by decide +kernel
theorem dX10_say_96 : decode cX10_say 96 = .ok (.bipush 99, 2) := by decide +kernel
theorem dX10_say_98 : decode cX10_say 98 = .ok (.invokestatic 145, 3) := by decide +kernel
theorem dX10_say_101 : decode cX10_say 101 = .ok (.istore 7, 2) := by decide +kernel
theorem dX10_say_103 : decode cX10_say 103 = .ok (.aload_n 0, 1) := by decide +kernel
theorem dX10_say_104 : decode cX10_say 104 = .ok (.getfield 40, 3) := by decide +kernel
theorem dX10_say_107 : decode cX10_say 107 = .ok (.iload 7, 2) := by decide +kernel
theorem dX10_say_109 : decode cX10_say 109 = .ok (.baload, 1) := by decide +kernel
theorem dX10_say_110 : decode cX10_say 110 = .ok (.ifCond .eq 25, 3) := by decide +kernel
theorem dX10_say_113 : decode cX10_say 113 = .ok (.aload_n 0, 1) := by decide +kernel
theorem dX10_say_114 : decode cX10_say 114 = .ok (.getfield 44, 3) := by decide +kernel
theorem dX10_say_117 : decode cX10_say 117 = .ok (.iload 6, 2) := by decide +kernel
theorem dX10_say_119 : decode cX10_say 119 = .ok (.iload 7, 2) := by decide +kernel
theorem dX10_say_121 : decode cX10_say 121 = .ok (.isub, 1) := by decide +kernel
theorem dX10_say_122 : decode cX10_say 122 = .ok (.iaload, 1) := by decide +kernel
theorem dX10_say_123 : decode cX10_say 123 = .ok (.aload_n 0, 1) := by decide +kernel
theorem dX10_say_124 : decode cX10_say 124 = .ok (.getfield 44, 3) := by decide +kernel
theorem dX10_say_127 : decode cX10_say 127 = .ok (.iload 6, 2) := by decide +kernel
theorem dX10_say_129 : decode cX10_say 129 = .ok (.iaload, 1) := by decide +kernel
theorem dX10_say_130 : decode cX10_say 130 = .ok (.iconst 1, 1) := by decide +kernel
theorem dX10_say_131 : decode cX10_say 131 = .ok (.isub, 1) := by decide +kernel
theorem dX10_say_132 : decode cX10_say 132 = .ok (.if_icmp .eq 9, 3) := by decide +kernel
theorem dX10_say_135 : decode cX10_say 135 = .ok (.iinc 7 (-1), 3) := by decide +kernel
theorem dX10_say_138 : decode cX10_say 138 = .ok (.goto (-35), 3) := by decide +kernel
theorem dX10_say_141 : decode cX10_say 141 = .ok (.iload 6, 2) := by decide +kernel
theorem dX10_say_143 : decode cX10_say 143 = .ok (.iload 7, 2) := by decide +kernel
theorem dX10_say_145 : decode cX10_say 145 = .ok (.isub, 1) := by decide +kernel
theorem dX10_say_146 : decode cX10_say 146 = .ok (.istore 6, 2) := by decide +kernel
theorem dX10_say_148 : decode cX10_say 148 = .ok (.iinc 8 1, 3) := by decide +kernel
theorem dX10_say_151 : decode cX10_say 151 = .ok (.goto (-64), 3) := by decide +kernel
theorem dX10_say_154 : decode cX10_say 154 = .ok (.iload 7, 2) := by decide +kernel
theorem dX10_say_156 : decode cX10_say 156 = .ok (.ireturn, 1) := by decide +kernel
theorem dX10_turned_0 : decode cX10_turned 0 = .ok (.aload_n 0, 1) := by decide +kernel
theorem dX10_turned_1 : decode cX10_turned 1 = .ok (.iload_n 1, 1) := by decide +kernel
theorem dX10_turned_2 : decode cX10_turned 2 = .ok (.iload 4, 2) := by decide +kernel
theorem dX10_turned_4 : decode cX10_turned 4 = .ok (.iload 5, 2) := by decide +kernel
theorem dX10_turned_6 : decode cX10_turned 6 = .ok (.iload 6, 2) := by decide +kernel
theorem dX10_turned_8 : decode cX10_turned 8 = .ok (.iload 7, 2) := by decide +kernel
theorem dX10_turned_10 : decode cX10_turned 10 = .ok (.iload_n 2, 1) := by decide +kernel
theorem dX10_turned_11 : decode cX10_turned 11 = .ok (.invokestatic 133, 3) := by decide +kernel
theorem dX10_turned_14 : decode cX10_turned 14 = .ok (.ifCond .eq 14, 3) := by decide +kernel
theorem dX10_turned_17 : decode cX10_turned 17 = .ok (.iload_n 3, 1) := by decide +kernel
theorem dX10_turned_18 : decode cX10_turned 18 = .ok (.invokestatic 133, 3) := by decide +kernel
theorem dX10_turned_21 : decode cX10_turned 21 = .ok (.ifCond .eq 7, 3) := by decide +kernel
theorem dX10_turned_24 : decode cX10_turned 24 = .ok (.iconst 1, 1) := by decide +kernel
theorem dX10_turned_25 : decode cX10_turned 25 = .ok (.goto 4, 3) := by decide +kernel
theorem dX10_turned_28 : decode cX10_turned 28 = .ok (.iconst 0, 1) := by decide +kernel
theorem dX10_turned_29 : decode cX10_turned 29 = .ok (.invokevirtual 160, 3) := by decide +kernel
theorem dX10_turned_32 : decode cX10_turned 32 = .ok (.istore 8, 2) := by decide +kernel
theorem dX10_turned_34 : decode cX10_turned 34 = .ok (.iload 8, 2) := by decide +kernel
theorem dX10_turned_36 : decode cX10_turned 36 = .ok (.ifCond .ge 6, 3) := by decide +kernel
theorem dX10_turned_39 : decode cX10_turned 39 = .ok (.iload 8, 2) := by decide +kernel
theorem dX10_turned_41 : decode cX10_turned 41 = .ok (.ireturn, 1) := by decide +kernel
theorem dX10_turned_42 : decode cX10_turned 42 = .ok (.aload_n 0, 1) := by decide +kernel
theorem dX10_turned_43 : decode cX10_turned 43 = .ok (.iload_n 1, 1) := by decide +kernel
theorem dX10_turned_44 : decode cX10_turned 44 = .ok (.iload_n 2, 1) := by decide +kernel
theorem dX10_turned_45 : decode cX10_turned 45 = .ok (.bipush 100, 2) := by decide +kernel
theorem dX10_turned_47 : decode cX10_turned 47 = .ok (.iload 4, 2) := by decide +kernel
theorem dX10_turned_49 : decode cX10_turned 49 = .ok (.imul, 1) := by decide +kernel
theorem dX10_turned_50 : decode cX10_turned 50 = .ok (.iload 6, 2) := by decide +kernel
theorem dX10_turned_52 : decode cX10_turned 52 = .ok (.iadd, 1) := by decide +kernel
theorem dX10_turned_53 : decode cX10_turned 53 = .ok (.iload 7, 2) := by decide +kernel
theorem dX10_turned_55 : decode cX10_turned 55 = .ok (.invokevirtual 164, 3) := by decide +kernel
theorem dX10_turned_58 : decode cX10_turned 58 = .ok (.istore 9, 2) := by decide +kernel
theorem dX10_turned_60 : decode cX10_turned 60 = .ok (.iload 9, 2) := by decide +kernel
theorem dX10_turned_62 : decode cX10_turned 62 = .ok (.i2l, 1) := by decide +kernel
theorem dX10_turned_63 : decode cX10_turned 63 = .ok (.lconst 0, 1) := by decide +kernel
theorem dX10_turned_64 : decode cX10_turned 64 = .ok (.ldc2_w 167, 3) := by decide +kernel
theorem dX10_turned_67 : decode cX10_turned 67 = .ok (.invokestatic 82, 3) := by decide +kernel
theorem dX10_turned_70 : decode cX10_turned 70 = .ok (.ifCond .ne 10, 3) := by decide +kernel
theorem dX10_turned_73 : decode cX10_turned 73 = .ok (.aload_n 0, 1) := by decide +kernel
theorem dX10_turned_74 : decode cX10_turned 74 = .ok (.bipush (-9), 2) := by decide +kernel
theorem dX10_turned_76 : decode cX10_turned 76 = .ok (.invokevirtual 76, 3) := by decide +kernel
theorem dX10_turned_79 : decode cX10_turned 79 = .ok (.ireturn, 1) := by decide +kernel
theorem dX10_turned_80 : decode cX10_turned 80 = .ok (.aload_n 0, 1) := by decide +kernel
theorem dX10_turned_81 : decode cX10_turned 81 = .ok (.iload_n 1, 1) := by decide +kernel
theorem dX10_turned_82 : decode cX10_turned 82 = .ok (.iload_n 3, 1) := by decide +kernel
theorem dX10_turned_83 : decode cX10_turned 83 = .ok (.iload 9, 2) := by decide +kernel
theorem dX10_turned_85 : decode cX10_turned 85 = .ok (.invokevirtual 169, 3) := by decide +kernel
theorem dX10_turned_88 : decode cX10_turned 88 = .ok (.aload_n 0, 1) := by decide +kernel
theorem dX10_turned_89 : decode cX10_turned 89 = .ok (.aload_n 0, 1) := by decide +kernel
theorem dX10_turned_90 : decode cX10_turned 90 = .ok (.getfield 44, 3) := by decide +kernel
theorem dX10_turned_93 : decode cX10_turned 93 = .ok (.iload 9, 2) := by decide +kernel
theorem dX10_turned_95 : decode cX10_turned 95 = .ok (.iaload, 1) := by decide +kernel
theorem dX10_turned_96 : decode cX10_turned 96 = .ok (.sipush 5000, 3) := by decide +kernel
theorem dX10_turned_99 : decode cX10_turned 99 = .ok (.if_icmp .lt 8, 3) := by decide +kernel
theorem dX10_turned_102 : decode cX10_turned 102 = .ok (.bipush (-9), 2) := by decide +kernel
theorem dX10_turned_104 : decode cX10_turned 104 = .ok (.goto 10, 3) := by decide +kernel
theorem dX10_turned_107 : decode cX10_turned 107 = .ok (.aload_n 0, 1) := by decide +kernel
theorem dX10_turned_108 : decode cX10_turned 108 = .ok (.getfield 44, 3) := by decide +kernel
theorem dX10_turned_111 : decode cX10_turned 111 = .ok (.iload 9, 2) := by decide +kernel
theorem dX10_turned_113 : decode cX10_turned 113 = .ok (.iaload, 1) := by decide +kernel
theorem dX10_turned_114 : decode cX10_turned 114 = .ok (.invokevirtual 76, 3) := by decide +kernel
theorem dX10_turned_117 : decode cX10_turned 117 = .ok (.ireturn, 1) := by decide +kernel
theorem dX10_child_0 : decode cX10_child 0 = .ok (.iload_n 1, 1) := by decide +kernel
theorem dX10_child_1 : decode cX10_child 1 = .ok (.invokestatic 130, 3) := by decide +kernel
theorem dX10_child_4 : decode cX10_child 4 = .ok (.ifCond .eq 9, 3) := by decide +kernel
theorem dX10_child_7 : decode cX10_child 7 = .ok (.aload_n 0, 1) := by decide +kernel
theorem dX10_child_8 : decode cX10_child 8 = .ok (.iconst (-1), 1) := by decide +kernel
theorem dX10_child_9 : decode cX10_child 9 = .ok (.invokevirtual 76, 3) := by decide +kernel
theorem dX10_child_12 : decode cX10_child 12 = .ok (.ireturn, 1) := by decide +kernel
theorem dX10_child_13 : decode cX10_child 13 = .ok (.aload_n 0, 1) := by decide +kernel
theorem dX10_child_14 : decode cX10_child 14 = .ok (.iload 4, 2) := by decide +kernel
theorem dX10_child_16 : decode cX10_child 16 = .ok (.iload 5, 2) := by decide +kernel
theorem dX10_child_18 : decode cX10_child 18 = .ok (.iload 6, 2) := by decide +kernel
theorem dX10_child_20 : decode cX10_child 20 = .ok (.iload 7, 2) := by decide +kernel
theorem dX10_child_22 : decode cX10_child 22 = .ok (.i2l, 1) := by decide +kernel
theorem dX10_child_23 : decode cX10_child 23 = .ok (.iload_n 2, 1) := by decide +kernel
theorem dX10_child_24 : decode cX10_child 24 = .ok (.invokestatic 133, 3) := by decide +kernel
theorem dX10_child_27 : decode cX10_child 27 = .ok (.ifCond .eq 25, 3) := by decide +kernel
theorem dX10_child_30 : decode cX10_child 30 = .ok (.iload_n 3, 1) := by decide +kernel
theorem dX10_child_31 : decode cX10_child 31 = .ok (.invokestatic 172, 3) := by decide +kernel
theorem dX10_child_34 : decode cX10_child 34 = .ok (.ifCond .eq 18, 3) := by decide +kernel
theorem dX10_child_37 : decode cX10_child 37 = .ok (.iload 8, 2) := by decide +kernel
theorem dX10_child_39 : decode cX10_child 39 = .ok (.i2l, 1) := by decide +kernel
theorem dX10_child_40 : decode cX10_child 40 = .ok (.lconst 0, 1) := by decide +kernel
theorem dX10_child_41 : decode cX10_child 41 = .ok (.lconst 1, 1) := by decide +kernel
theorem dX10_child_42 : decode cX10_child 42 = .ok (.invokestatic 82, 3) := by decide +kernel
theorem dX10_child_45 : decode cX10_child 45 = .ok (.ifCond .eq 7, 3) := by decide +kernel
theorem dX10_child_48 : decode cX10_child 48 = .ok (.iconst 1, 1) := by decide +kernel
theorem dX10_child_49 : decode cX10_child 49 = .ok (.goto 4, 3) := by decide +kernel
theorem dX10_child_52 : decode cX10_child 52 = .ok (.iconst 0, 1) := by decide +kernel
theorem dX10_child_53 : decode cX10_child 53 = .ok (.invokevirtual 120, 3) := by decide +kernel
theorem dX10_child_56 : decode cX10_child 56 = .ok (.istore 9, 2) := by decide +kernel
theorem dX10_child_58 : decode cX10_child 58 = .ok (.iload 9, 2) := by decide +kernel
theorem dX10_child_60 : decode cX10_child 60 = .ok (.ifCond .ge 6, 3) := by decide +kernel
theorem dX10_child_63 : decode cX10_child 63 = .ok (.iload 9, 2) := by decide +kernel
theorem dX10_child_65 : decode cX10_child 65 = .ok (.ireturn, 1) := by decide +kernel
theorem dX10_child_66 : decode cX10_child 66 = .ok (.bipush 100, 2) := by decide +kernel
theorem dX10_child_68 : decode cX10_child 68 = .ok (.iload 4, 2) := by decide +kernel
theorem dX10_child_70 : decode cX10_child 70 = .ok (.imul, 1) := by decide +kernel
theorem dX10_child_71 : decode cX10_child 71 = .ok (.iload 6, 2) := by decide +kernel
theorem dX10_child_73 : decode cX10_child 73 = .ok (.iadd, 1) := by decide +kernel
theorem dX10_child_74 : decode cX10_child 74 = .ok (.istore 10, 2) := by decide +kernel
theorem dX10_child_76 : decode cX10_child 76 = .ok (.iload 7, 2) := by decide +kernel
theorem dX10_child_78 : decode cX10_child 78 = .ok (.bipush 12, 2) := by decide +kernel
theorem dX10_child_80 : decode cX10_child 80 = .ok (.if_icmp .le 10, 3) := by decide +kernel
theorem dX10_child_83 : decode cX10_child 83 = .ok (.aload_n 0, 1) := by decide +kernel
theorem dX10_child_84 : decode cX10_child 84 = .ok (.bipush (-2), 2) := by decide +kernel
theorem dX10_child_86 : decode cX10_child 86 = .ok (.invokevirtual 76, 3) := by decide +kernel
theorem dX10_child_89 : decode cX10_child 89 = .ok (.ireturn, 1) := by decide +kernel
theorem dX10_child_90 : decode cX10_child 90 = .ok (.iconst 0, 1) := by decide +kernel
theorem dX10_child_91 : decode cX10_child 91 = .ok (.istore 11, 2) := by decide +kernel
theorem dX10_child_93 : decode cX10_child 93 = .ok (.iload 11, 2) := by decide +kernel
theorem dX10_child_95 : decode cX10_child 95 = .ok (.iload 7, 2) := by decide +kernel
theorem dX10_child_97 : decode cX10_child 97 = .ok (.if_icmp .ge 37, 3) := by decide +kernel
theorem dX10_child_100 : decode cX10_child 100 = .ok (.aload_n 0, 1) := by decide +kernel
theorem dX10_child_101 : decode cX10_child 101 = .ok (.getfield 56, 3) := by decide +kernel
theorem dX10_child_104 : decode cX10_child 104 = .ok (.iload 10, 2) := by decide +kernel
theorem dX10_child_106 : decode cX10_child 106 = .ok (.iload 11, 2) := by decide +kernel
theorem dX10_child_108 : decode cX10_child 108 = .ok (.iadd, 1) := by decide +kernel
theorem dX10_child_109 : decode cX10_child 109 = .ok (.iaload, 1) := by decide +kernel
theorem dX10_child_110 : decode cX10_child 110 = .ok (.i2l, 1) := by decide +kernel
theorem dX10_child_111 : decode cX10_child 111 = .ok (.lconst 0, 1) := by decide +kernel
theorem dX10_child_112 : decode cX10_child 112 = .ok (.ldc2_w 167, 3) := by decide +kernel
theorem dX10_child_115 : decode cX10_child 115 = .ok (.invokestatic 82, 3) := by decide +kernel
theorem dX10_child_118 : decode cX10_child 118 = .ok (.ifCond .ne 10, 3) := by decide +kernel
theorem dX10_child_121 : decode cX10_child 121 = .ok (.aload_n 0, 1) := by decide +kernel
theorem dX10_child_122 : decode cX10_child 122 = .ok (.bipush (-2), 2) := by decide +kernel
theorem dX10_child_124 : decode cX10_child 124 = .ok (.invokevirtual 76, 3) := by decide +kernel
theorem dX10_child_127 : decode cX10_child 127 = .ok (.ireturn, 1) := by decide +kernel
theorem dX10_child_128 : decode cX10_child 128 = .ok (.iinc 11 1, 3) := by decide +kernel
theorem dX10_child_131 : decode cX10_child 131 = .ok (.goto (-38), 3) := by decide +kernel
theorem dX10_child_134 : decode cX10_child 134 = .ok (.iconst 0, 1) := by decide +kernel
theorem dX10_child_135 : decode cX10_child 135 = .ok (.istore 11, 2) := by decide +kernel
theorem dX10_child_137 : decode cX10_child 137 = .ok (.bipush (-9), 2) := by decide +kernel
theorem dX10_child_139 : decode cX10_child 139 = .ok (.istore 12, 2) := by decide +kernel
theorem dX10_child_141 : decode cX10_child 141 = .ok (.iconst 1, 1) := by decide +kernel
theorem dX10_child_142 : decode cX10_child 142 = .ok (.istore 13, 2) := by decide +kernel
theorem dX10_child_144 : decode cX10_child 144 = .ok (.iload 13, 2) := by decide +kernel
theorem dX10_child_146 : decode cX10_child 146 = .ok (.bipush 100, 2) := by decide +kernel
theorem dX10_child_148 : decode cX10_child 148 = .ok (.if_icmp .ge 95, 3) := by decide +kernel
theorem dX10_child_151 : decode cX10_child 151 = .ok (.aload_n 0, 1) := by decide +kernel
theorem dX10_child_152 : decode cX10_child 152 = .ok (.iload_n 1, 1) := by decide +kernel
theorem dX10_child_153 : decode cX10_child 153 = .ok (.iload_n 2, 1) := by decide +kernel
theorem dX10_child_154 : decode cX10_child 154 = .ok (.bipush (-9), 2) := by decide +kernel
theorem dX10_child_156 : decode cX10_child 156 = .ok (.invokevirtual 149, 3) := by decide +kernel
theorem dX10_child_159 : decode cX10_child 159 = .ok (.aload_n 0, 1) := by decide +kernel
theorem dX10_child_160 : decode cX10_child 160 = .ok (.getfield 40, 3) := by decide +kernel
theorem dX10_child_163 : decode cX10_child 163 = .ok (.iload 13, 2) := by decide +kernel
theorem dX10_child_165 : decode cX10_child 165 = .ok (.iconst 1, 1) := by decide +kernel
theorem dX10_child_166 : decode cX10_child 166 = .ok (.bastore, 1) := by decide +kernel
theorem dX10_child_167 : decode cX10_child 167 = .ok (.aload_n 0, 1) := by decide +kernel
theorem dX10_child_168 : decode cX10_child 168 = .ok (.sipush 999, 3) := by decide +kernel
theorem dX10_child_171 : decode cX10_child 171 = .ok (.invokevirtual 153, 3) := by decide +kernel
theorem dX10_child_174 : decode cX10_child 174 = .ok (.iconst 0, 1) := by decide +kernel
theorem dX10_child_175 : decode cX10_child 175 = .ok (.istore 14, 2) := by decide +kernel
theorem dX10_child_177 : decode cX10_child 177 = .ok (.iconst 0, 1) := by decide +kernel
theorem dX10_child_178 : decode cX10_child 178 = .ok (.istore 15, 2) := by decide +kernel
theorem dX10_child_180 : decode cX10_child 180 = .ok (.iload 15, 2) := by decide +kernel
theorem dX10_child_182 : decode cX10_child 182 = .ok (.iload 7, 2) := by decide +kernel
theorem dX10_child_184 : decode cX10_child 184 = .ok (.if_icmp .ge 38, 3) := by decide +kernel
theorem dX10_child_187 : decode cX10_child 187 = .ok (.iload 14, 2) := by decide +kernel
theorem dX10_child_189 : decode cX10_child 189 = .ok (.aload_n 0, 1) := by decide +kernel
theorem dX10_child_190 : decode cX10_child 190 = .ok (.getfield 44, 3) := by decide +kernel
theorem dX10_child_193 : decode cX10_child 193 = .ok (.aload_n 0, 1) := by decide +kernel
theorem dX10_child_194 : decode cX10_child 194 = .ok (.getfield 56, 3) := by decide +kernel
theorem dX10_child_197 : decode cX10_child 197 = .ok (.iload 10, 2) := by decide +kernel
theorem dX10_child_199 : decode cX10_child 199 = .ok (.iload 15, 2) := by decide +kernel
theorem dX10_child_201 : decode cX10_child 201 = .ok (.iadd, 1) := by decide +kernel
theorem dX10_child_202 : decode cX10_child 202 = .ok (.iaload, 1) := by decide +kernel
theorem dX10_child_203 : decode cX10_child 203 = .ok (.iaload, 1) := by decide +kernel
theorem dX10_child_204 : decode cX10_child 204 = .ok (.iload_n 3, 1) := by decide +kernel
theorem dX10_child_205 : decode cX10_child 205 = .ok (.if_icmp .gt 7, 3) := by decide +kernel
theorem dX10_child_208 : decode cX10_child 208 = .ok (.iconst 1, 1) := by decide +kernel
theorem dX10_child_209 : decode cX10_child 209 = .ok (.goto 4, 3) := by decide +kernel
theorem dX10_child_212 : decode cX10_child 212 = .ok (.iconst 0, 1) := by decide +kernel
theorem dX10_child_213 : decode cX10_child 213 = .ok (.iadd, 1) := by decide +kernel
theorem dX10_child_214 : decode cX10_child 214 = .ok (.istore 14, 2) := by decide +kernel
theorem dX10_child_216 : decode cX10_child 216 = .ok (.iinc 15 1, 3) := by decide +kernel
theorem dX10_child_219 : decode cX10_child 219 = .ok (.goto (-39), 3) := by decide +kernel
theorem dX10_child_222 : decode cX10_child 222 = .ok (.iload 14, 2) := by decide +kernel
theorem dX10_child_224 : decode cX10_child 224 = .ok (.iload 12, 2) := by decide +kernel
theorem dX10_child_226 : decode cX10_child 226 = .ok (.if_icmp .le 11, 3) := by decide +kernel
theorem dX10_child_229 : decode cX10_child 229 = .ok (.iload 13, 2) := by decide +kernel
theorem dX10_child_231 : decode cX10_child 231 = .ok (.istore 11, 2) := by decide +kernel
theorem dX10_child_233 : decode cX10_child 233 = .ok (.iload 14, 2) := by decide +kernel
theorem dX10_child_235 : decode cX10_child 235 = .ok (.istore 12, 2) := by decide +kernel
theorem dX10_child_237 : decode cX10_child 237 = .ok (.iinc 13 1, 3) := by decide +kernel
theorem dX10_child_240 : decode cX10_child 240 = .ok (.goto (-96), 3) := by decide +kernel
theorem dX10_child_243 : decode cX10_child 243 = .ok (.aload_n 0, 1) := by decide +kernel
theorem dX10_child_244 : decode cX10_child 244 = .ok (.iload 8, 2) := by decide +kernel
theorem dX10_child_246 : decode cX10_child 246 = .ok (.ifCond .ne 8, 3) := by decide +kernel
theorem dX10_child_249 : decode cX10_child 249 = .ok (.iload 11, 2) := by decide +kernel
theorem dX10_child_251 : decode cX10_child 251 = .ok (.goto 5, 3) := by decide +kernel
theorem dX10_child_254 : decode cX10_child 254 = .ok (.iload 12, 2) := by decide +kernel
theorem dX10_child_256 : decode cX10_child 256 = .ok (.invokevirtual 76, 3) := by decide +kernel
theorem dX10_child_259 : decode cX10_child 259 = .ok (.ireturn, 1) := by decide +kernel
theorem dX10_both_0 : decode cX10_both 0 = .ok (.iload_n 1, 1) := by decide +kernel
theorem dX10_both_1 : decode cX10_both 1 = .ok (.i2l, 1) := by decide +kernel
theorem dX10_both_2 : decode cX10_both 2 = .ok (.lconst 0, 1) := by decide +kernel
theorem dX10_both_3 : decode cX10_both 3 = .ok (.ldc2_w 167, 3) := by decide +kernel
theorem dX10_both_6 : decode cX10_both 6 = .ok (.invokestatic 82, 3) := by decide +kernel
theorem dX10_both_9 : decode cX10_both 9 = .ok (.ifCond .eq 17, 3) := by decide +kernel
theorem dX10_both_12 : decode cX10_both 12 = .ok (.iload_n 2, 1) := by decide +kernel
theorem dX10_both_13 : decode cX10_both 13 = .ok (.invokestatic 172, 3) := by decide +kernel
theorem dX10_both_16 : decode cX10_both 16 = .ok (.ifCond .eq 10, 3) := by decide +kernel
theorem dX10_both_19 : decode cX10_both 19 = .ok (.iload_n 3, 1) := by decide +kernel
theorem dX10_both_20 : decode cX10_both 20 = .ok (.invokestatic 133, 3) := by decide +kernel
theorem dX10_both_23 : decode cX10_both 23 = .ok (.ifCond .ne 6, 3) := by decide +kernel
theorem dX10_both_26 : decode cX10_both 26 = .ok (.bipush (-2), 2) := by decide +kernel
theorem dX10_both_28 : decode cX10_both 28 = .ok (.ireturn, 1) := by decide +kernel
theorem dX10_both_29 : decode cX10_both 29 = .ok (.aload_n 0, 1) := by decide +kernel
theorem dX10_both_30 : decode cX10_both 30 = .ok (.iconst 0, 1) := by decide +kernel
theorem dX10_both_31 : decode cX10_both 31 = .ok (.iload_n 3, 1) := by decide +kernel
theorem dX10_both_32 : decode cX10_both 32 = .ok (.sipush 999, 3) := by decide +kernel
theorem dX10_both_35 : decode cX10_both 35 = .ok (.invokevirtual 169, 3) := by decide +kernel
theorem dX10_both_38 : decode cX10_both 38 = .ok (.iconst 0, 1) := by decide +kernel
theorem dX10_both_39 : decode cX10_both 39 = .ok (.istore 4, 2) := by decide +kernel
theorem dX10_both_41 : decode cX10_both 41 = .ok (.iload 4, 2) := by decide +kernel
theorem dX10_both_43 : decode cX10_both 43 = .ok (.sipush 999, 3) := by decide +kernel
theorem dX10_both_46 : decode cX10_both 46 = .ok (.if_icmp .gt 32, 3) := by decide +kernel
theorem dX10_both_49 : decode cX10_both 49 = .ok (.aload_n 0, 1) := by decide +kernel
theorem dX10_both_50 : decode cX10_both 50 = .ok (.getfield 47, 3) := by decide +kernel
theorem dX10_both_53 : decode cX10_both 53 = .ok (.iload 4, 2) := by decide +kernel
theorem dX10_both_55 : decode cX10_both 55 = .ok (.aload_n 0, 1) := by decide +kernel
theorem dX10_both_56 : decode cX10_both 56 = .ok (.getfield 44, 3) := by decide +kernel
theorem dX10_both_59 : decode cX10_both 59 = .ok (.iload 4, 2) := by decide +kernel
theorem dX10_both_61 : decode cX10_both 61 = .ok (.iaload, 1) := by decide +kernel
theorem dX10_both_62 : decode cX10_both 62 = .ok (.iload_n 2, 1) := by decide +kernel
theorem dX10_both_63 : decode cX10_both 63 = .ok (.if_icmp .gt 7, 3) := by decide +kernel
theorem dX10_both_66 : decode cX10_both 66 = .ok (.iconst 1, 1) := by decide +kernel
theorem dX10_both_67 : decode cX10_both 67 = .ok (.goto 4, 3) := by decide +kernel
theorem dX10_both_70 : decode cX10_both 70 = .ok (.iconst 0, 1) := by decide +kernel
theorem dX10_both_71 : decode cX10_both 71 = .ok (.bastore, 1) := by decide +kernel
theorem dX10_both_72 : decode cX10_both 72 = .ok (.iinc 4 1, 3) := by decide +kernel
theorem dX10_both_75 : decode cX10_both 75 = .ok (.goto (-34), 3) := by decide +kernel
theorem dX10_both_78 : decode cX10_both 78 = .ok (.aload_n 0, 1) := by decide +kernel
theorem dX10_both_79 : decode cX10_both 79 = .ok (.iconst 1, 1) := by decide +kernel
theorem dX10_both_80 : decode cX10_both 80 = .ok (.iload_n 3, 1) := by decide +kernel
theorem dX10_both_81 : decode cX10_both 81 = .ok (.sipush 999, 3) := by decide +kernel
theorem dX10_both_84 : decode cX10_both 84 = .ok (.invokevirtual 169, 3) := by decide +kernel
theorem dX10_both_87 : decode cX10_both 87 = .ok (.iload_n 1, 1) := by decide +kernel
theorem dX10_both_88 : decode cX10_both 88 = .ok (.istore 4, 2) := by decide +kernel
theorem dX10_both_90 : decode cX10_both 90 = .ok (.iload 4, 2) := by decide +kernel
theorem dX10_both_92 : decode cX10_both 92 = .ok (.sipush 999, 3) := by decide +kernel
theorem dX10_both_95 : decode cX10_both 95 = .ok (.if_icmp .gt 33, 3) := by decide +kernel
theorem dX10_both_98 : decode cX10_both 98 = .ok (.aload_n 0, 1) := by decide +kernel
theorem dX10_both_99 : decode cX10_both 99 = .ok (.getfield 47, 3) := by decide +kernel
theorem dX10_both_102 : decode cX10_both 102 = .ok (.iload 4, 2) := by decide +kernel
theorem dX10_both_104 : decode cX10_both 104 = .ok (.baload, 1) := by decide +kernel
theorem dX10_both_105 : decode cX10_both 105 = .ok (.ifCond .eq 17, 3) := by decide +kernel
theorem dX10_both_108 : decode cX10_both 108 = .ok (.aload_n 0, 1) := by decide +kernel
theorem dX10_both_109 : decode cX10_both 109 = .ok (.getfield 44, 3) := by decide +kernel
theorem dX10_both_112 : decode cX10_both 112 = .ok (.iload 4, 2) := by decide +kernel
theorem dX10_both_114 : decode cX10_both 114 = .ok (.iaload, 1) := by decide +kernel
theorem dX10_both_115 : decode cX10_both 115 = .ok (.iload_n 2, 1) := by decide +kernel
theorem dX10_both_116 : decode cX10_both 116 = .ok (.if_icmp .gt 6, 3) := by decide +kernel
theorem dX10_both_119 : decode cX10_both 119 = .ok (.iload 4, 2) := by decide +kernel
theorem dX10_both_121 : decode cX10_both 121 = .ok (.ireturn, 1) := by decide +kernel
theorem dX10_both_122 : decode cX10_both 122 = .ok (.iinc 4 1, 3) := by decide +kernel
theorem dX10_both_125 : decode cX10_both 125 = .ok (.goto (-35), 3) := by decide +kernel
theorem dX10_both_128 : decode cX10_both 128 = .ok (.bipush (-9), 2) := by decide +kernel
theorem dX10_both_130 : decode cX10_both 130 = .ok (.ireturn, 1) := by decide +kernel
theorem dX10_written_0 : decode cX10_written 0 = .ok (.aload_n 0, 1) := by decide +kernel
theorem dX10_written_1 : decode cX10_written 1 = .ok (.iload_n 1, 1) := by decide +kernel
theorem dX10_written_2 : decode cX10_written 2 = .ok (.iload_n 2, 1) := by decide +kernel
theorem dX10_written_3 : decode cX10_written 3 = .ok (.iload_n 3, 1) := by decide +kernel
theorem dX10_written_4 : decode cX10_written 4 = .ok (.iload 4, 2) := by decide +kernel
theorem dX10_written_6 : decode cX10_written 6 = .ok (.iload 5, 2) := by decide +kernel
theorem dX10_written_8 : decode cX10_written 8 = .ok (.iload 6, 2) := by decide +kernel
theorem dX10_written_10 : decode cX10_written 10 = .ok (.i2l, 1) := by decide +kernel
theorem dX10_written_11 : decode cX10_written 11 = .ok (.lconst 0, 1) := by decide +kernel
theorem dX10_written_12 : decode cX10_written 12 = .ok (.ldc2_w 80, 3) := by decide +kernel
theorem dX10_written_15 : decode cX10_written 15 = .ok (.invokestatic 82, 3) := by decide +kernel
theorem dX10_written_18 : decode cX10_written 18 = .ok (.invokevirtual 160, 3) := by decide +kernel
theorem dX10_written_21 : decode cX10_written 21 = .ok (.istore 7, 2) := by decide +kernel
theorem dX10_written_23 : decode cX10_written 23 = .ok (.iload 7, 2) := by decide +kernel
theorem dX10_written_25 : decode cX10_written 25 = .ok (.ifCond .ge 6, 3) := by decide +kernel
theorem dX10_written_28 : decode cX10_written 28 = .ok (.iload 7, 2) := by decide +kernel
theorem dX10_written_30 : decode cX10_written 30 = .ok (.ireturn, 1) := by decide +kernel
theorem dX10_written_31 : decode cX10_written 31 = .ok (.iconst 0, 1) := by decide +kernel
theorem dX10_written_32 : decode cX10_written 32 = .ok (.istore 8, 2) := by decide +kernel
theorem dX10_written_34 : decode cX10_written 34 = .ok (.bipush (-9), 2) := by decide +kernel
theorem dX10_written_36 : decode cX10_written 36 = .ok (.istore 9, 2) := by decide +kernel
theorem dX10_written_38 : decode cX10_written 38 = .ok (.bipush (-9), 2) := by decide +kernel
theorem dX10_written_40 : decode cX10_written 40 = .ok (.istore 10, 2) := by decide +kernel
theorem dX10_written_42 : decode cX10_written 42 = .ok (.iconst 0, 1) := by decide +kernel
theorem dX10_written_43 : decode cX10_written 43 = .ok (.istore 11, 2) := by decide +kernel
theorem dX10_written_45 : decode cX10_written 45 = .ok (.iload 11, 2) := by decide +kernel
theorem dX10_written_47 : decode cX10_written 47 = .ok (.bipush 110, 2) := by decide +kernel
theorem dX10_written_49 : decode cX10_written 49 = .ok (.if_icmp .ge 49, 3) := by decide +kernel
theorem dX10_written_52 : decode cX10_written 52 = .ok (.aload_n 0, 1) := by decide +kernel
theorem dX10_written_53 : decode cX10_written 53 = .ok (.iload_n 1, 1) := by decide +kernel
theorem dX10_written_54 : decode cX10_written 54 = .ok (.iload 11, 2) := by decide +kernel
theorem dX10_written_56 : decode cX10_written 56 = .ok (.bipush 100, 2) := by decide +kernel
theorem dX10_written_58 : decode cX10_written 58 = .ok (.iload_n 2, 1) := by decide +kernel
theorem dX10_written_59 : decode cX10_written 59 = .ok (.imul, 1) := by decide +kernel
theorem dX10_written_60 : decode cX10_written 60 = .ok (.iload 4, 2) := by decide +kernel
theorem dX10_written_62 : decode cX10_written 62 = .ok (.iadd, 1) := by decide +kernel
theorem dX10_written_63 : decode cX10_written 63 = .ok (.iload 5, 2) := by decide +kernel
theorem dX10_written_65 : decode cX10_written 65 = .ok (.invokevirtual 164, 3) := by decide +kernel
theorem dX10_written_68 : decode cX10_written 68 = .ok (.ifCond .lt 24, 3) := by decide +kernel
theorem dX10_written_71 : decode cX10_written 71 = .ok (.iinc 8 1, 3) := by decide +kernel
theorem dX10_written_74 : decode cX10_written 74 = .ok (.iload 9, 2) := by decide +kernel
theorem dX10_written_76 : decode cX10_written 76 = .ok (.ifCond .ge 8, 3) := by decide +kernel
theorem dX10_written_79 : decode cX10_written 79 = .ok (.iload 11, 2) := by decide +kernel
theorem dX10_written_81 : decode cX10_written 81 = .ok (.goto 5, 3) := by decide +kernel
theorem dX10_written_84 : decode cX10_written 84 = .ok (.iload 9, 2) := by decide +kernel
theorem dX10_written_86 : decode cX10_written 86 = .ok (.istore 9, 2) := by decide +kernel
theorem dX10_written_88 : decode cX10_written 88 = .ok (.iload 11, 2) := by decide +kernel
theorem dX10_written_90 : decode cX10_written 90 = .ok (.istore 10, 2) := by decide +kernel
theorem dX10_written_92 : decode cX10_written 92 = .ok (.iinc 11 1, 3) := by decide +kernel
theorem dX10_written_95 : decode cX10_written 95 = .ok (.goto (-50), 3) := by decide +kernel
theorem dX10_written_98 : decode cX10_written 98 = .ok (.aload_n 0, 1) := by decide +kernel
theorem dX10_written_99 : decode cX10_written 99 = .ok (.iload 6, 2) := by decide +kernel
theorem dX10_written_101 : decode cX10_written 101 = .ok (.ifCond .ne 8, 3) := by decide +kernel
theorem dX10_written_104 : decode cX10_written 104 = .ok (.iload 8, 2) := by decide +kernel
theorem dX10_written_106 : decode cX10_written 106 = .ok (.goto 16, 3) := by decide +kernel
theorem dX10_written_109 : decode cX10_written 109 = .ok (.iload 6, 2) := by decide +kernel
theorem dX10_written_111 : decode cX10_written 111 = .ok (.iconst 1, 1) := by decide +kernel
theorem dX10_written_112 : decode cX10_written 112 = .ok (.if_icmp .ne 8, 3) := by decide +kernel
theorem dX10_written_115 : decode cX10_written 115 = .ok (.iload 9, 2) := by decide +kernel
theorem dX10_written_117 : decode cX10_written 117 = .ok (.goto 5, 3) := by decide +kernel
theorem dX10_written_120 : decode cX10_written 120 = .ok (.iload 10, 2) := by decide +kernel
theorem dX10_written_122 : decode cX10_written 122 = .ok (.invokevirtual 76, 3) := by decide +kernel
theorem dX10_written_125 : decode cX10_written 125 = .ok (.ireturn, 1) := by decide +kernel
theorem dX10_saidOf_0 : decode cX10_saidOf 0 = .ok (.iconst 0, 1) := by decide +kernel
theorem dX10_saidOf_1 : decode cX10_saidOf 1 = .ok (.istore_n 2, 1) := by decide +kernel
theorem dX10_saidOf_2 : decode cX10_saidOf 2 = .ok (.iconst 1, 1) := by decide +kernel
theorem dX10_saidOf_3 : decode cX10_saidOf 3 = .ok (.istore_n 3, 1) := by decide +kernel
end
section
theorem dX10_saidOf_4 : decode cX10_saidOf 4 = .ok (.iload_n 3, 1) := by decide +kernel
theorem dX10_saidOf_5 : decode cX10_saidOf 5 = .ok (.bipush 100, 2) := by decide +kernel
theorem dX10_saidOf_7 : decode cX10_saidOf 7 = .ok (.if_icmp .ge 27, 3) := by decide +kernel
theorem dX10_saidOf_10 : decode cX10_saidOf 10 = .ok (.iload_n 2, 1) := by decide +kernel
theorem dX10_saidOf_11 : decode cX10_saidOf 11 = .ok (.aload_n 0, 1) := by decide +kernel
theorem dX10_saidOf_12 : decode cX10_saidOf 12 = .ok (.getfield 44, 3) := by decide +kernel
theorem dX10_saidOf_15 : decode cX10_saidOf 15 = .ok (.iload_n 3, 1) := by decide +kernel
theorem dX10_saidOf_16 : decode cX10_saidOf 16 = .ok (.iaload, 1) := by decide +kernel
theorem dX10_saidOf_17 : decode cX10_saidOf 17 = .ok (.iload_n 1, 1) := by decide +kernel
theorem dX10_saidOf_18 : decode cX10_saidOf 18 = .ok (.if_icmp .gt 7, 3) := by decide +kernel
theorem dX10_saidOf_21 : decode cX10_saidOf 21 = .ok (.iconst 1, 1) := by decide +kernel
theorem dX10_saidOf_22 : decode cX10_saidOf 22 = .ok (.goto 4, 3) := by decide +kernel
theorem dX10_saidOf_25 : decode cX10_saidOf 25 = .ok (.iconst 0, 1) := by decide +kernel
theorem dX10_saidOf_26 : decode cX10_saidOf 26 = .ok (.iadd, 1) := by decide +kernel
theorem dX10_saidOf_27 : decode cX10_saidOf 27 = .ok (.istore_n 2, 1) := by decide +kernel
theorem dX10_saidOf_28 : decode cX10_saidOf 28 = .ok (.iinc 3 1, 3) := by decide +kernel
theorem dX10_saidOf_31 : decode cX10_saidOf 31 = .ok (.goto (-27), 3) := by decide +kernel
theorem dX10_saidOf_34 : decode cX10_saidOf 34 = .ok (.iload_n 2, 1) := by decide +kernel
theorem dX10_saidOf_35 : decode cX10_saidOf 35 = .ok (.ireturn, 1) := by decide +kernel
theorem dX10_lost_0 : decode cX10_lost 0 = .ok (.aload_n 0, 1) := by decide +kernel
theorem dX10_lost_1 : decode cX10_lost 1 = .ok (.iload_n 1, 1) := by decide +kernel
theorem dX10_lost_2 : decode cX10_lost 2 = .ok (.invokevirtual 127, 3) := by decide +kernel
theorem dX10_lost_5 : decode cX10_lost 5 = .ok (.ifCond .ne 10, 3) := by decide +kernel
theorem dX10_lost_8 : decode cX10_lost 8 = .ok (.iload_n 2, 1) := by decide +kernel
theorem dX10_lost_9 : decode cX10_lost 9 = .ok (.invokestatic 130, 3) := by decide +kernel
theorem dX10_lost_12 : decode cX10_lost 12 = .ok (.ifCond .eq 5, 3) := by decide +kernel
theorem dX10_lost_15 : decode cX10_lost 15 = .ok (.iconst (-1), 1) := by decide +kernel
theorem dX10_lost_16 : decode cX10_lost 16 = .ok (.ireturn, 1) := by decide +kernel
theorem dX10_lost_17 : decode cX10_lost 17 = .ok (.iload_n 3, 1) := by decide +kernel
theorem dX10_lost_18 : decode cX10_lost 18 = .ok (.invokestatic 133, 3) := by decide +kernel
theorem dX10_lost_21 : decode cX10_lost 21 = .ok (.ifCond .eq 11, 3) := by decide +kernel
theorem dX10_lost_24 : decode cX10_lost 24 = .ok (.iload 4, 2) := by decide +kernel
theorem dX10_lost_26 : decode cX10_lost 26 = .ok (.invokestatic 172, 3) := by decide +kernel
theorem dX10_lost_29 : decode cX10_lost 29 = .ok (.ifCond .ne 6, 3) := by decide +kernel
theorem dX10_lost_32 : decode cX10_lost 32 = .ok (.bipush (-2), 2) := by decide +kernel
theorem dX10_lost_34 : decode cX10_lost 34 = .ok (.ireturn, 1) := by decide +kernel
theorem dX10_lost_35 : decode cX10_lost 35 = .ok (.aload_n 0, 1) := by decide +kernel
theorem dX10_lost_36 : decode cX10_lost 36 = .ok (.iload_n 2, 1) := by decide +kernel
theorem dX10_lost_37 : decode cX10_lost 37 = .ok (.iload_n 3, 1) := by decide +kernel
theorem dX10_lost_38 : decode cX10_lost 38 = .ok (.bipush 99, 2) := by decide +kernel
theorem dX10_lost_40 : decode cX10_lost 40 = .ok (.invokevirtual 169, 3) := by decide +kernel
theorem dX10_lost_43 : decode cX10_lost 43 = .ok (.aload_n 0, 1) := by decide +kernel
theorem dX10_lost_44 : decode cX10_lost 44 = .ok (.iload 4, 2) := by decide +kernel
theorem dX10_lost_46 : decode cX10_lost 46 = .ok (.invokevirtual 175, 3) := by decide +kernel
theorem dX10_lost_49 : decode cX10_lost 49 = .ok (.istore 5, 2) := by decide +kernel
theorem dX10_lost_51 : decode cX10_lost 51 = .ok (.aload_n 0, 1) := by decide +kernel
theorem dX10_lost_52 : decode cX10_lost 52 = .ok (.iload_n 2, 1) := by decide +kernel
theorem dX10_lost_53 : decode cX10_lost 53 = .ok (.iload_n 3, 1) := by decide +kernel
theorem dX10_lost_54 : decode cX10_lost 54 = .ok (.iload_n 1, 1) := by decide +kernel
theorem dX10_lost_55 : decode cX10_lost 55 = .ok (.invokevirtual 149, 3) := by decide +kernel
theorem dX10_lost_58 : decode cX10_lost 58 = .ok (.aload_n 0, 1) := by decide +kernel
theorem dX10_lost_59 : decode cX10_lost 59 = .ok (.bipush 99, 2) := by decide +kernel
theorem dX10_lost_61 : decode cX10_lost 61 = .ok (.invokevirtual 153, 3) := by decide +kernel
theorem dX10_lost_64 : decode cX10_lost 64 = .ok (.iload 5, 2) := by decide +kernel
theorem dX10_lost_66 : decode cX10_lost 66 = .ok (.aload_n 0, 1) := by decide +kernel
theorem dX10_lost_67 : decode cX10_lost 67 = .ok (.iload 4, 2) := by decide +kernel
theorem dX10_lost_69 : decode cX10_lost 69 = .ok (.invokevirtual 175, 3) := by decide +kernel
theorem dX10_lost_72 : decode cX10_lost 72 = .ok (.isub, 1) := by decide +kernel
theorem dX10_lost_73 : decode cX10_lost 73 = .ok (.ireturn, 1) := by decide +kernel
theorem dX10_isSaidBy_0 : decode cX10_isSaidBy 0 = .ok (.aload_n 0, 1) := by decide +kernel
theorem dX10_isSaidBy_1 : decode cX10_isSaidBy 1 = .ok (.iload_n 2, 1) := by decide +kernel
theorem dX10_isSaidBy_2 : decode cX10_isSaidBy 2 = .ok (.iload_n 3, 1) := by decide +kernel
theorem dX10_isSaidBy_3 : decode cX10_isSaidBy 3 = .ok (.bipush (-9), 2) := by decide +kernel
theorem dX10_isSaidBy_5 : decode cX10_isSaidBy 5 = .ok (.invokevirtual 149, 3) := by decide +kernel
theorem dX10_isSaidBy_8 : decode cX10_isSaidBy 8 = .ok (.iconst 0, 1) := by decide +kernel
theorem dX10_isSaidBy_9 : decode cX10_isSaidBy 9 = .ok (.istore 6, 2) := by decide +kernel
theorem dX10_isSaidBy_11 : decode cX10_isSaidBy 11 = .ok (.iload 6, 2) := by decide +kernel
theorem dX10_isSaidBy_13 : decode cX10_isSaidBy 13 = .ok (.aload_n 0, 1) := by decide +kernel
theorem dX10_isSaidBy_14 : decode cX10_isSaidBy 14 = .ok (.getfield 93, 3) := by decide +kernel
theorem dX10_isSaidBy_17 : decode cX10_isSaidBy 17 = .ok (.if_icmp .ge 33, 3) := by decide +kernel
theorem dX10_isSaidBy_20 : decode cX10_isSaidBy 20 = .ok (.iload 5, 2) := by decide +kernel
theorem dX10_isSaidBy_22 : decode cX10_isSaidBy 22 = .ok (.iload 6, 2) := by decide +kernel
theorem dX10_isSaidBy_24 : decode cX10_isSaidBy 24 = .ok (.ishr, 1) := by decide +kernel
theorem dX10_isSaidBy_25 : decode cX10_isSaidBy 25 = .ok (.iconst 1, 1) := by decide +kernel
theorem dX10_isSaidBy_26 : decode cX10_isSaidBy 26 = .ok (.iand, 1) := by decide +kernel
theorem dX10_isSaidBy_27 : decode cX10_isSaidBy 27 = .ok (.iconst 1, 1) := by decide +kernel
theorem dX10_isSaidBy_28 : decode cX10_isSaidBy 28 = .ok (.if_icmp .ne 16, 3) := by decide +kernel
theorem dX10_isSaidBy_31 : decode cX10_isSaidBy 31 = .ok (.aload_n 0, 1) := by decide +kernel
theorem dX10_isSaidBy_32 : decode cX10_isSaidBy 32 = .ok (.getfield 40, 3) := by decide +kernel
theorem dX10_isSaidBy_35 : decode cX10_isSaidBy 35 = .ok (.aload_n 0, 1) := by decide +kernel
theorem dX10_isSaidBy_36 : decode cX10_isSaidBy 36 = .ok (.getfield 16, 3) := by decide +kernel
theorem dX10_isSaidBy_39 : decode cX10_isSaidBy 39 = .ok (.iload 6, 2) := by decide +kernel
theorem dX10_isSaidBy_41 : decode cX10_isSaidBy 41 = .ok (.iaload, 1) := by decide +kernel
theorem dX10_isSaidBy_42 : decode cX10_isSaidBy 42 = .ok (.iconst 1, 1) := by decide +kernel
theorem dX10_isSaidBy_43 : decode cX10_isSaidBy 43 = .ok (.bastore, 1) := by decide +kernel
theorem dX10_isSaidBy_44 : decode cX10_isSaidBy 44 = .ok (.iinc 6 1, 3) := by decide +kernel
theorem dX10_isSaidBy_47 : decode cX10_isSaidBy 47 = .ok (.goto (-36), 3) := by decide +kernel
theorem dX10_isSaidBy_50 : decode cX10_isSaidBy 50 = .ok (.aload_n 0, 1) := by decide +kernel
theorem dX10_isSaidBy_51 : decode cX10_isSaidBy 51 = .ok (.iload_n 1, 1) := by decide +kernel
theorem dX10_isSaidBy_52 : decode cX10_isSaidBy 52 = .ok (.invokevirtual 153, 3) := by decide +kernel
theorem dX10_isSaidBy_55 : decode cX10_isSaidBy 55 = .ok (.aload_n 0, 1) := by decide +kernel
theorem dX10_isSaidBy_56 : decode cX10_isSaidBy 56 = .ok (.getfield 44, 3) := by decide +kernel
theorem dX10_isSaidBy_59 : decode cX10_isSaidBy 59 = .ok (.iload_n 1, 1) := by decide +kernel
theorem dX10_isSaidBy_60 : decode cX10_isSaidBy 60 = .ok (.iaload, 1) := by decide +kernel
theorem dX10_isSaidBy_61 : decode cX10_isSaidBy 61 = .ok (.iload 4, 2) := by decide +kernel
theorem dX10_isSaidBy_63 : decode cX10_isSaidBy 63 = .ok (.if_icmp .gt 7, 3) := by decide +kernel
theorem dX10_isSaidBy_66 : decode cX10_isSaidBy 66 = .ok (.iconst 1, 1) := by decide +kernel
theorem dX10_isSaidBy_67 : decode cX10_isSaidBy 67 = .ok (.goto 4, 3) := by decide +kernel
theorem dX10_isSaidBy_70 : decode cX10_isSaidBy 70 = .ok (.iconst 0, 1) := by decide +kernel
theorem dX10_isSaidBy_71 : decode cX10_isSaidBy 71 = .ok (.ireturn, 1) := by decide +kernel
theorem dX10_setOf_0 : decode cX10_setOf 0 = .ok (.iconst 0, 1) := by decide +kernel
theorem dX10_setOf_1 : decode cX10_setOf 1 = .ok (.istore 4, 2) := by decide +kernel
theorem dX10_setOf_3 : decode cX10_setOf 3 = .ok (.bipush (-9), 2) := by decide +kernel
theorem dX10_setOf_5 : decode cX10_setOf 5 = .ok (.istore 5, 2) := by decide +kernel
theorem dX10_setOf_7 : decode cX10_setOf 7 = .ok (.iconst 0, 1) := by decide +kernel
theorem dX10_setOf_8 : decode cX10_setOf 8 = .ok (.istore 6, 2) := by decide +kernel
theorem dX10_setOf_10 : decode cX10_setOf 10 = .ok (.iload_n 1, 1) := by decide +kernel
theorem dX10_setOf_11 : decode cX10_setOf 11 = .ok (.istore 7, 2) := by decide +kernel
theorem dX10_setOf_13 : decode cX10_setOf 13 = .ok (.iconst 0, 1) := by decide +kernel
theorem dX10_setOf_14 : decode cX10_setOf 14 = .ok (.istore 8, 2) := by decide +kernel
theorem dX10_setOf_16 : decode cX10_setOf 16 = .ok (.iload 8, 2) := by decide +kernel
theorem dX10_setOf_18 : decode cX10_setOf 18 = .ok (.iconst 3, 1) := by decide +kernel
theorem dX10_setOf_19 : decode cX10_setOf 19 = .ok (.if_icmp .ge 87, 3) := by decide +kernel
theorem dX10_setOf_22 : decode cX10_setOf 22 = .ok (.iload 7, 2) := by decide +kernel
theorem dX10_setOf_24 : decode cX10_setOf 24 = .ok (.bipush 121, 2) := by decide +kernel
theorem dX10_setOf_26 : decode cX10_setOf 26 = .ok (.idiv, 1) := by decide +kernel
theorem dX10_setOf_27 : decode cX10_setOf 27 = .ok (.istore 9, 2) := by decide +kernel
theorem dX10_setOf_29 : decode cX10_setOf 29 = .ok (.iload 7, 2) := by decide +kernel
theorem dX10_setOf_31 : decode cX10_setOf 31 = .ok (.bipush 121, 2) := by decide +kernel
theorem dX10_setOf_33 : decode cX10_setOf 33 = .ok (.irem, 1) := by decide +kernel
theorem dX10_setOf_34 : decode cX10_setOf 34 = .ok (.bipush 11, 2) := by decide +kernel
theorem dX10_setOf_36 : decode cX10_setOf 36 = .ok (.imul, 1) := by decide +kernel
theorem dX10_setOf_37 : decode cX10_setOf 37 = .ok (.istore 7, 2) := by decide +kernel
theorem dX10_setOf_39 : decode cX10_setOf 39 = .ok (.iload 9, 2) := by decide +kernel
theorem dX10_setOf_41 : decode cX10_setOf 41 = .ok (.bipush 10, 2) := by decide +kernel
theorem dX10_setOf_43 : decode cX10_setOf 43 = .ok (.if_icmp .ge 54, 3) := by decide +kernel
theorem dX10_setOf_46 : decode cX10_setOf 46 = .ok (.iload 6, 2) := by decide +kernel
theorem dX10_setOf_48 : decode cX10_setOf 48 = .ok (.ifCond .ne 30, 3) := by decide +kernel
theorem dX10_setOf_51 : decode cX10_setOf 51 = .ok (.iload 9, 2) := by decide +kernel
theorem dX10_setOf_53 : decode cX10_setOf 53 = .ok (.iload 5, 2) := by decide +kernel
theorem dX10_setOf_55 : decode cX10_setOf 55 = .ok (.if_icmp .le 23, 3) := by decide +kernel
theorem dX10_setOf_58 : decode cX10_setOf 58 = .ok (.iload 9, 2) := by decide +kernel
theorem dX10_setOf_60 : decode cX10_setOf 60 = .ok (.aload_n 0, 1) := by decide +kernel
theorem dX10_setOf_61 : decode cX10_setOf 61 = .ok (.getfield 93, 3) := by decide +kernel
theorem dX10_setOf_64 : decode cX10_setOf 64 = .ok (.if_icmp .ge 14, 3) := by decide +kernel
theorem dX10_setOf_67 : decode cX10_setOf 67 = .ok (.aload_n 0, 1) := by decide +kernel
theorem dX10_setOf_68 : decode cX10_setOf 68 = .ok (.iload 9, 2) := by decide +kernel
theorem dX10_setOf_70 : decode cX10_setOf 70 = .ok (.iload_n 2, 1) := by decide +kernel
theorem dX10_setOf_71 : decode cX10_setOf 71 = .ok (.iload_n 3, 1) := by decide +kernel
theorem dX10_setOf_72 : decode cX10_setOf 72 = .ok (.invokevirtual 136, 3) := by decide +kernel
theorem dX10_setOf_75 : decode cX10_setOf 75 = .ok (.ifCond .eq 6, 3) := by decide +kernel
theorem dX10_setOf_78 : decode cX10_setOf 78 = .ok (.bipush (-9), 2) := by decide +kernel
theorem dX10_setOf_80 : decode cX10_setOf 80 = .ok (.ireturn, 1) := by decide +kernel
theorem dX10_setOf_81 : decode cX10_setOf 81 = .ok (.iload 4, 2) := by decide +kernel
theorem dX10_setOf_83 : decode cX10_setOf 83 = .ok (.iconst 1, 1) := by decide +kernel
theorem dX10_setOf_84 : decode cX10_setOf 84 = .ok (.iload 9, 2) := by decide +kernel
theorem dX10_setOf_86 : decode cX10_setOf 86 = .ok (.ishl, 1) := by decide +kernel
theorem dX10_setOf_87 : decode cX10_setOf 87 = .ok (.ior, 1) := by decide +kernel
theorem dX10_setOf_88 : decode cX10_setOf 88 = .ok (.istore 4, 2) := by decide +kernel
theorem dX10_setOf_90 : decode cX10_setOf 90 = .ok (.iload 9, 2) := by decide +kernel
theorem dX10_setOf_92 : decode cX10_setOf 92 = .ok (.istore 5, 2) := by decide +kernel
theorem dX10_setOf_94 : decode cX10_setOf 94 = .ok (.goto 6, 3) := by decide +kernel
theorem dX10_setOf_97 : decode cX10_setOf 97 = .ok (.iconst 1, 1) := by decide +kernel
theorem dX10_setOf_98 : decode cX10_setOf 98 = .ok (.istore 6, 2) := by decide +kernel
theorem dX10_setOf_100 : decode cX10_setOf 100 = .ok (.iinc 8 1, 3) := by decide +kernel
theorem dX10_setOf_103 : decode cX10_setOf 103 = .ok (.goto (-87), 3) := by decide +kernel
theorem dX10_setOf_106 : decode cX10_setOf 106 = .ok (.iload 4, 2) := by decide +kernel
theorem dX10_setOf_108 : decode cX10_setOf 108 = .ok (.ireturn, 1) := by decide +kernel
theorem dX10_bits_0 : decode cX10_bits 0 = .ok (.iconst 0, 1) := by decide +kernel
theorem dX10_bits_1 : decode cX10_bits 1 = .ok (.istore_n 1, 1) := by decide +kernel
theorem dX10_bits_2 : decode cX10_bits 2 = .ok (.iload_n 0, 1) := by decide +kernel
theorem dX10_bits_3 : decode cX10_bits 3 = .ok (.istore_n 2, 1) := by decide +kernel
theorem dX10_bits_4 : decode cX10_bits 4 = .ok (.iload_n 2, 1) := by decide +kernel
theorem dX10_bits_5 : decode cX10_bits 5 = .ok (.ifCond .le 16, 3) := by decide +kernel
theorem dX10_bits_8 : decode cX10_bits 8 = .ok (.iload_n 1, 1) := by decide +kernel
theorem dX10_bits_9 : decode cX10_bits 9 = .ok (.iload_n 2, 1) := by decide +kernel
theorem dX10_bits_10 : decode cX10_bits 10 = .ok (.iconst 1, 1) := by decide +kernel
theorem dX10_bits_11 : decode cX10_bits 11 = .ok (.iand, 1) := by decide +kernel
theorem dX10_bits_12 : decode cX10_bits 12 = .ok (.iadd, 1) := by decide +kernel
theorem dX10_bits_13 : decode cX10_bits 13 = .ok (.istore_n 1, 1) := by decide +kernel
theorem dX10_bits_14 : decode cX10_bits 14 = .ok (.iload_n 2, 1) := by decide +kernel
theorem dX10_bits_15 : decode cX10_bits 15 = .ok (.iconst 1, 1) := by decide +kernel
theorem dX10_bits_16 : decode cX10_bits 16 = .ok (.ishr, 1) := by decide +kernel
theorem dX10_bits_17 : decode cX10_bits 17 = .ok (.istore_n 2, 1) := by decide +kernel
theorem dX10_bits_18 : decode cX10_bits 18 = .ok (.goto (-14), 3) := by decide +kernel
theorem dX10_bits_21 : decode cX10_bits 21 = .ok (.iload_n 1, 1) := by decide +kernel
theorem dX10_bits_22 : decode cX10_bits 22 = .ok (.ireturn, 1) := by decide +kernel
theorem dX10_back_0 : decode cX10_back 0 = .ok (.iload_n 2, 1) := by decide +kernel
theorem dX10_back_1 : decode cX10_back 1 = .ok (.invokestatic 130, 3) := by decide +kernel
theorem dX10_back_4 : decode cX10_back 4 = .ok (.ifCond .ne 18, 3) := by decide +kernel
theorem dX10_back_7 : decode cX10_back 7 = .ok (.iload 5, 2) := by decide +kernel
theorem dX10_back_9 : decode cX10_back 9 = .ok (.i2l, 1) := by decide +kernel
theorem dX10_back_10 : decode cX10_back 10 = .ok (.ldc2_w 178, 3) := by decide +kernel
theorem dX10_back_13 : decode cX10_back 13 = .ok (.ldc2_w 80, 3) := by decide +kernel
theorem dX10_back_16 : decode cX10_back 16 = .ok (.invokestatic 82, 3) := by decide +kernel
theorem dX10_back_19 : decode cX10_back 19 = .ok (.ifCond .ne 5, 3) := by decide +kernel
theorem dX10_back_22 : decode cX10_back 22 = .ok (.iconst (-1), 1) := by decide +kernel
theorem dX10_back_23 : decode cX10_back 23 = .ok (.ireturn, 1) := by decide +kernel
theorem dX10_back_24 : decode cX10_back 24 = .ok (.iload_n 1, 1) := by decide +kernel
theorem dX10_back_25 : decode cX10_back 25 = .ok (.i2l, 1) := by decide +kernel
theorem dX10_back_26 : decode cX10_back 26 = .ok (.lconst 0, 1) := by decide +kernel
theorem dX10_back_27 : decode cX10_back 27 = .ok (.ldc2_w 167, 3) := by decide +kernel
theorem dX10_back_30 : decode cX10_back 30 = .ok (.invokestatic 82, 3) := by decide +kernel
theorem dX10_back_33 : decode cX10_back 33 = .ok (.ifCond .eq 18, 3) := by decide +kernel
theorem dX10_back_36 : decode cX10_back 36 = .ok (.iload_n 3, 1) := by decide +kernel
theorem dX10_back_37 : decode cX10_back 37 = .ok (.invokestatic 133, 3) := by decide +kernel
theorem dX10_back_40 : decode cX10_back 40 = .ok (.ifCond .eq 11, 3) := by decide +kernel
theorem dX10_back_43 : decode cX10_back 43 = .ok (.iload 4, 2) := by decide +kernel
theorem dX10_back_45 : decode cX10_back 45 = .ok (.invokestatic 172, 3) := by decide +kernel
theorem dX10_back_48 : decode cX10_back 48 = .ok (.ifCond .ne 6, 3) := by decide +kernel
theorem dX10_back_51 : decode cX10_back 51 = .ok (.bipush (-2), 2) := by decide +kernel
theorem dX10_back_53 : decode cX10_back 53 = .ok (.ireturn, 1) := by decide +kernel
theorem dX10_back_54 : decode cX10_back 54 = .ok (.bipush (-9), 2) := by decide +kernel
theorem dX10_back_56 : decode cX10_back 56 = .ok (.istore 6, 2) := by decide +kernel
theorem dX10_back_58 : decode cX10_back 58 = .ok (.iconst 0, 1) := by decide +kernel
theorem dX10_back_59 : decode cX10_back 59 = .ok (.istore 7, 2) := by decide +kernel
theorem dX10_back_61 : decode cX10_back 61 = .ok (.iconst 0, 1) := by decide +kernel
theorem dX10_back_62 : decode cX10_back 62 = .ok (.istore 8, 2) := by decide +kernel
theorem dX10_back_64 : decode cX10_back 64 = .ok (.iload 8, 2) := by decide +kernel
theorem dX10_back_66 : decode cX10_back 66 = .ok (.sipush 1331, 3) := by decide +kernel
theorem dX10_back_69 : decode cX10_back 69 = .ok (.if_icmp .ge 64, 3) := by decide +kernel
theorem dX10_back_72 : decode cX10_back 72 = .ok (.aload_n 0, 1) := by decide +kernel
theorem dX10_back_73 : decode cX10_back 73 = .ok (.iload 8, 2) := by decide +kernel
theorem dX10_back_75 : decode cX10_back 75 = .ok (.iload_n 2, 1) := by decide +kernel
theorem dX10_back_76 : decode cX10_back 76 = .ok (.iload_n 3, 1) := by decide +kernel
theorem dX10_back_77 : decode cX10_back 77 = .ok (.invokevirtual 180, 3) := by decide +kernel
theorem dX10_back_80 : decode cX10_back 80 = .ok (.istore 9, 2) := by decide +kernel
theorem dX10_back_82 : decode cX10_back 82 = .ok (.iload 9, 2) := by decide +kernel
theorem dX10_back_84 : decode cX10_back 84 = .ok (.ifCond .lt 43, 3) := by decide +kernel
theorem dX10_back_87 : decode cX10_back 87 = .ok (.iload 6, 2) := by decide +kernel
theorem dX10_back_89 : decode cX10_back 89 = .ok (.ifCond .lt 16, 3) := by decide +kernel
theorem dX10_back_92 : decode cX10_back 92 = .ok (.iload 9, 2) := by decide +kernel
theorem dX10_back_94 : decode cX10_back 94 = .ok (.invokestatic 183, 3) := by decide +kernel
theorem dX10_back_97 : decode cX10_back 97 = .ok (.iload 6, 2) := by decide +kernel
theorem dX10_back_99 : decode cX10_back 99 = .ok (.invokestatic 183, 3) := by decide +kernel
theorem dX10_back_102 : decode cX10_back 102 = .ok (.if_icmp .ge 25, 3) := by decide +kernel
theorem dX10_back_105 : decode cX10_back 105 = .ok (.aload_n 0, 1) := by decide +kernel
theorem dX10_back_106 : decode cX10_back 106 = .ok (.iload_n 1, 1) := by decide +kernel
theorem dX10_back_107 : decode cX10_back 107 = .ok (.iload_n 2, 1) := by decide +kernel
theorem dX10_back_108 : decode cX10_back 108 = .ok (.iload_n 3, 1) := by decide +kernel
theorem dX10_back_109 : decode cX10_back 109 = .ok (.iload 4, 2) := by decide +kernel
theorem dX10_back_111 : decode cX10_back 111 = .ok (.iload 9, 2) := by decide +kernel
theorem dX10_back_113 : decode cX10_back 113 = .ok (.invokevirtual 186, 3) := by decide +kernel
theorem dX10_back_116 : decode cX10_back 116 = .ok (.ifCond .eq 11, 3) := by decide +kernel
theorem dX10_back_119 : decode cX10_back 119 = .ok (.iload 9, 2) := by decide +kernel
theorem dX10_back_121 : decode cX10_back 121 = .ok (.istore 6, 2) := by decide +kernel
theorem dX10_back_123 : decode cX10_back 123 = .ok (.iload 8, 2) := by decide +kernel
theorem dX10_back_125 : decode cX10_back 125 = .ok (.istore 7, 2) := by decide +kernel
theorem dX10_back_127 : decode cX10_back 127 = .ok (.iinc 8 1, 3) := by decide +kernel
theorem dX10_back_130 : decode cX10_back 130 = .ok (.goto (-66), 3) := by decide +kernel
theorem dX10_back_133 : decode cX10_back 133 = .ok (.iload 6, 2) := by decide +kernel
theorem dX10_back_135 : decode cX10_back 135 = .ok (.ifCond .ge 6, 3) := by decide +kernel
theorem dX10_back_138 : decode cX10_back 138 = .ok (.bipush (-9), 2) := by decide +kernel
theorem dX10_back_140 : decode cX10_back 140 = .ok (.ireturn, 1) := by decide +kernel
theorem dX10_back_141 : decode cX10_back 141 = .ok (.iload 6, 2) := by decide +kernel
theorem dX10_back_143 : decode cX10_back 143 = .ok (.invokestatic 183, 3) := by decide +kernel
theorem dX10_back_146 : decode cX10_back 146 = .ok (.istore 8, 2) := by decide +kernel
theorem dX10_back_148 : decode cX10_back 148 = .ok (.iload 5, 2) := by decide +kernel
theorem dX10_back_150 : decode cX10_back 150 = .ok (.ifCond .ge 8, 3) := by decide +kernel
theorem dX10_back_153 : decode cX10_back 153 = .ok (.iload 8, 2) := by decide +kernel
theorem dX10_back_155 : decode cX10_back 155 = .ok (.goto 50, 3) := by decide +kernel
theorem dX10_back_158 : decode cX10_back 158 = .ok (.iload 5, 2) := by decide +kernel
theorem dX10_back_160 : decode cX10_back 160 = .ok (.iload 8, 2) := by decide +kernel
theorem dX10_back_162 : decode cX10_back 162 = .ok (.if_icmp .lt 8, 3) := by decide +kernel
theorem dX10_back_165 : decode cX10_back 165 = .ok (.bipush (-9), 2) := by decide +kernel
theorem dX10_back_167 : decode cX10_back 167 = .ok (.goto 38, 3) := by decide +kernel
theorem dX10_back_170 : decode cX10_back 170 = .ok (.iload 5, 2) := by decide +kernel
theorem dX10_back_172 : decode cX10_back 172 = .ok (.ifCond .ne 11, 3) := by decide +kernel
theorem dX10_back_175 : decode cX10_back 175 = .ok (.iload 7, 2) := by decide +kernel
theorem dX10_back_177 : decode cX10_back 177 = .ok (.bipush 121, 2) := by decide +kernel
theorem dX10_back_179 : decode cX10_back 179 = .ok (.idiv, 1) := by decide +kernel
theorem dX10_back_180 : decode cX10_back 180 = .ok (.goto 25, 3) := by decide +kernel
theorem dX10_back_183 : decode cX10_back 183 = .ok (.iload 5, 2) := by decide +kernel
theorem dX10_back_185 : decode cX10_back 185 = .ok (.iconst 1, 1) := by decide +kernel
theorem dX10_back_186 : decode cX10_back 186 = .ok (.if_icmp .ne 14, 3) := by decide +kernel
theorem dX10_back_189 : decode cX10_back 189 = .ok (.iload 7, 2) := by decide +kernel
theorem dX10_back_191 : decode cX10_back 191 = .ok (.bipush 11, 2) := by decide +kernel
theorem dX10_back_193 : decode cX10_back 193 = .ok (.idiv, 1) := by decide +kernel
theorem dX10_back_194 : decode cX10_back 194 = .ok (.bipush 11, 2) := by decide +kernel
theorem dX10_back_196 : decode cX10_back 196 = .ok (.irem, 1) := by decide +kernel
theorem dX10_back_197 : decode cX10_back 197 = .ok (.goto 8, 3) := by decide +kernel
theorem dX10_back_200 : decode cX10_back 200 = .ok (.iload 7, 2) := by decide +kernel
theorem dX10_back_202 : decode cX10_back 202 = .ok (.bipush 11, 2) := by decide +kernel
theorem dX10_back_204 : decode cX10_back 204 = .ok (.irem, 1) := by decide +kernel
theorem dX10_back_205 : decode cX10_back 205 = .ok (.ireturn, 1) := by decide +kernel
theorem dX10_told_0 : decode cX10_told 0 = .ok (.iload_n 1, 1) := by decide +kernel
theorem dX10_told_1 : decode cX10_told 1 = .ok (.invokestatic 130, 3) := by decide +kernel
theorem dX10_told_4 : decode cX10_told 4 = .ok (.ifCond .ne 28, 3) := by decide +kernel
theorem dX10_told_7 : decode cX10_told 7 = .ok (.iload_n 2, 1) := by decide +kernel
theorem dX10_told_8 : decode cX10_told 8 = .ok (.invokestatic 133, 3) := by decide +kernel
theorem dX10_told_11 : decode cX10_told 11 = .ok (.ifCond .eq 21, 3) := by decide +kernel
theorem dX10_told_14 : decode cX10_told 14 = .ok (.iload_n 3, 1) := by decide +kernel
theorem dX10_told_15 : decode cX10_told 15 = .ok (.invokestatic 172, 3) := by decide +kernel
theorem dX10_told_18 : decode cX10_told 18 = .ok (.ifCond .eq 14, 3) := by decide +kernel
theorem dX10_told_21 : decode cX10_told 21 = .ok (.iload 4, 2) := by decide +kernel
theorem dX10_told_23 : decode cX10_told 23 = .ok (.i2l, 1) := by decide +kernel
theorem dX10_told_24 : decode cX10_told 24 = .ok (.lconst 0, 1) := by decide +kernel
theorem dX10_told_25 : decode cX10_told 25 = .ok (.lconst 1, 1) := by decide +kernel
theorem dX10_told_26 : decode cX10_told 26 = .ok (.invokestatic 82, 3) := by decide +kernel
theorem dX10_told_29 : decode cX10_told 29 = .ok (.ifCond .ne 7, 3) := by decide +kernel
theorem dX10_told_32 : decode cX10_told 32 = .ok (.invokestatic 68, 3) := by decide +kernel
theorem dX10_told_35 : decode cX10_told 35 = .ok (.lreturn, 1) := by decide +kernel
theorem dX10_told_36 : decode cX10_told 36 = .ok (.aload_n 0, 1) := by decide +kernel
theorem dX10_told_37 : decode cX10_told 37 = .ok (.iload_n 1, 1) := by decide +kernel
theorem dX10_told_38 : decode cX10_told 38 = .ok (.iload_n 2, 1) := by decide +kernel
theorem dX10_told_39 : decode cX10_told 39 = .ok (.bipush 99, 2) := by decide +kernel
theorem dX10_told_41 : decode cX10_told 41 = .ok (.invokevirtual 169, 3) := by decide +kernel
theorem dX10_told_44 : decode cX10_told 44 = .ok (.aload_n 0, 1) := by decide +kernel
theorem dX10_told_45 : decode cX10_told 45 = .ok (.iload_n 3, 1) := by decide +kernel
theorem dX10_told_46 : decode cX10_told 46 = .ok (.invokevirtual 175, 3) := by decide +kernel
theorem dX10_told_49 : decode cX10_told 49 = .ok (.i2l, 1) := by decide +kernel
theorem dX10_told_50 : decode cX10_told 50 = .ok (.ldc2_w 140, 3) := by decide +kernel
theorem dX10_told_53 : decode cX10_told 53 = .ok (.iload 4, 2) := by decide +kernel
theorem dX10_told_55 : decode cX10_told 55 = .ok (.invokestatic 190, 3) := by decide +kernel
theorem dX10_told_58 : decode cX10_told 58 = .ok (.lreturn, 1) := by decide +kernel
theorem dX10_noSheet_0 : decode cX10_noSheet 0 = .ok (.iload_n 0, 1) := by decide +kernel
theorem dX10_noSheet_1 : decode cX10_noSheet 1 = .ok (.i2l, 1) := by decide +kernel
theorem dX10_noSheet_2 : decode cX10_noSheet 2 = .ok (.lconst 0, 1) := by decide +kernel
theorem dX10_noSheet_3 : decode cX10_noSheet 3 = .ok (.ldc2_w 194, 3) := by decide +kernel
theorem dX10_noSheet_6 : decode cX10_noSheet 6 = .ok (.invokestatic 82, 3) := by decide +kernel
theorem dX10_noSheet_9 : decode cX10_noSheet 9 = .ok (.ifCond .ne 7, 3) := by decide +kernel
theorem dX10_noSheet_12 : decode cX10_noSheet 12 = .ok (.iconst 1, 1) := by decide +kernel
theorem dX10_noSheet_13 : decode cX10_noSheet 13 = .ok (.goto 4, 3) := by decide +kernel
theorem dX10_noSheet_16 : decode cX10_noSheet 16 = .ok (.iconst 0, 1) := by decide +kernel
theorem dX10_noSheet_17 : decode cX10_noSheet 17 = .ok (.ireturn, 1) := by decide +kernel
theorem dX10_sheet_0 : decode cX10_sheet 0 = .ok (.iload_n 1, 1) := by decide +kernel
theorem dX10_sheet_1 : decode cX10_sheet 1 = .ok (.invokestatic 72, 3) := by decide +kernel
theorem dX10_sheet_4 : decode cX10_sheet 4 = .ok (.ifCond .eq 9, 3) := by decide +kernel
theorem dX10_sheet_7 : decode cX10_sheet 7 = .ok (.aload_n 0, 1) := by decide +kernel
theorem dX10_sheet_8 : decode cX10_sheet 8 = .ok (.iconst (-1), 1) := by decide +kernel
theorem dX10_sheet_9 : decode cX10_sheet 9 = .ok (.invokevirtual 76, 3) := by decide +kernel
theorem dX10_sheet_12 : decode cX10_sheet 12 = .ok (.ireturn, 1) := by decide +kernel
theorem dX10_sheet_13 : decode cX10_sheet 13 = .ok (.iload_n 2, 1) := by decide +kernel
theorem dX10_sheet_14 : decode cX10_sheet 14 = .ok (.i2l, 1) := by decide +kernel
theorem dX10_sheet_15 : decode cX10_sheet 15 = .ok (.lconst 0, 1) := by decide +kernel
theorem dX10_sheet_16 : decode cX10_sheet 16 = .ok (.ldc2_w 80, 3) := by decide +kernel
theorem dX10_sheet_19 : decode cX10_sheet 19 = .ok (.invokestatic 82, 3) := by decide +kernel
theorem dX10_sheet_22 : decode cX10_sheet 22 = .ok (.ifCond .eq 9, 3) := by decide +kernel
theorem dX10_sheet_25 : decode cX10_sheet 25 = .ok (.iload_n 3, 1) := by decide +kernel
theorem dX10_sheet_26 : decode cX10_sheet 26 = .ok (.bipush 100, 2) := by decide +kernel
theorem dX10_sheet_28 : decode cX10_sheet 28 = .ok (.if_icmp .le 10, 3) := by decide +kernel
theorem dX10_sheet_31 : decode cX10_sheet 31 = .ok (.aload_n 0, 1) := by decide +kernel
theorem dX10_sheet_32 : decode cX10_sheet 32 = .ok (.bipush (-2), 2) := by decide +kernel
theorem dX10_sheet_34 : decode cX10_sheet 34 = .ok (.invokevirtual 76, 3) := by decide +kernel
theorem dX10_sheet_37 : decode cX10_sheet 37 = .ok (.ireturn, 1) := by decide +kernel
theorem dX10_sheet_38 : decode cX10_sheet 38 = .ok (.iload_n 3, 1) := by decide +kernel
theorem dX10_sheet_39 : decode cX10_sheet 39 = .ok (.ifCond .ge 9, 3) := by decide +kernel
theorem dX10_sheet_42 : decode cX10_sheet 42 = .ok (.aload_n 0, 1) := by decide +kernel
theorem dX10_sheet_43 : decode cX10_sheet 43 = .ok (.iconst 4, 1) := by decide +kernel
theorem dX10_sheet_44 : decode cX10_sheet 44 = .ok (.invokevirtual 86, 3) := by decide +kernel
theorem dX10_sheet_47 : decode cX10_sheet 47 = .ok (.ireturn, 1) := by decide +kernel
theorem dX10_sheet_48 : decode cX10_sheet 48 = .ok (.aload_n 0, 1) := by decide +kernel
theorem dX10_sheet_49 : decode cX10_sheet 49 = .ok (.getfield 50, 3) := by decide +kernel
theorem dX10_sheet_52 : decode cX10_sheet 52 = .ok (.iload_n 1, 1) := by decide +kernel
theorem dX10_sheet_53 : decode cX10_sheet 53 = .ok (.iload_n 3, 1) := by decide +kernel
theorem dX10_sheet_54 : decode cX10_sheet 54 = .ok (.iastore, 1) := by decide +kernel
theorem dX10_sheet_55 : decode cX10_sheet 55 = .ok (.aload_n 0, 1) := by decide +kernel
theorem dX10_sheet_56 : decode cX10_sheet 56 = .ok (.getfield 53, 3) := by decide +kernel
theorem dX10_sheet_59 : decode cX10_sheet 59 = .ok (.iload_n 1, 1) := by decide +kernel
theorem dX10_sheet_60 : decode cX10_sheet 60 = .ok (.iload_n 2, 1) := by decide +kernel
theorem dX10_sheet_61 : decode cX10_sheet 61 = .ok (.iastore, 1) := by decide +kernel
theorem dX10_sheet_62 : decode cX10_sheet 62 = .ok (.iconst 0, 1) := by decide +kernel
theorem dX10_sheet_63 : decode cX10_sheet 63 = .ok (.istore 4, 2) := by decide +kernel
theorem dX10_sheet_65 : decode cX10_sheet 65 = .ok (.iload 4, 2) := by decide +kernel
theorem dX10_sheet_67 : decode cX10_sheet 67 = .ok (.iload_n 3, 1) := by decide +kernel
theorem dX10_sheet_68 : decode cX10_sheet 68 = .ok (.if_icmp .ge 22, 3) := by decide +kernel
theorem dX10_sheet_71 : decode cX10_sheet 71 = .ok (.aload_n 0, 1) := by decide +kernel
theorem dX10_sheet_72 : decode cX10_sheet 72 = .ok (.getfield 56, 3) := by decide +kernel
theorem dX10_sheet_75 : decode cX10_sheet 75 = .ok (.bipush 100, 2) := by decide +kernel
theorem dX10_sheet_77 : decode cX10_sheet 77 = .ok (.iload_n 1, 1) := by decide +kernel
theorem dX10_sheet_78 : decode cX10_sheet 78 = .ok (.imul, 1) := by decide +kernel
theorem dX10_sheet_79 : decode cX10_sheet 79 = .ok (.iload 4, 2) := by decide +kernel
theorem dX10_sheet_81 : decode cX10_sheet 81 = .ok (.iadd, 1) := by decide +kernel
theorem dX10_sheet_82 : decode cX10_sheet 82 = .ok (.iconst 0, 1) := by decide +kernel
theorem dX10_sheet_83 : decode cX10_sheet 83 = .ok (.iastore, 1) := by decide +kernel
theorem dX10_sheet_84 : decode cX10_sheet 84 = .ok (.iinc 4 1, 3) := by decide +kernel
theorem dX10_sheet_87 : decode cX10_sheet 87 = .ok (.goto (-22), 3) := by decide +kernel
theorem dX10_sheet_90 : decode cX10_sheet 90 = .ok (.aload_n 0, 1) := by decide +kernel
theorem dX10_sheet_91 : decode cX10_sheet 91 = .ok (.iconst 1, 1) := by decide +kernel
theorem dX10_sheet_92 : decode cX10_sheet 92 = .ok (.invokevirtual 76, 3) := by decide +kernel
theorem dX10_sheet_95 : decode cX10_sheet 95 = .ok (.ireturn, 1) := by decide +kernel
theorem dX10_lose_0 : decode cX10_lose 0 = .ok (.iload_n 1, 1) := by decide +kernel
theorem dX10_lose_1 : decode cX10_lose 1 = .ok (.invokestatic 72, 3) := by decide +kernel
theorem dX10_lose_4 : decode cX10_lose 4 = .ok (.ifCond .eq 5, 3) := by decide +kernel
theorem dX10_lose_7 : decode cX10_lose 7 = .ok (.iconst (-1), 1) := by decide +kernel
theorem dX10_lose_8 : decode cX10_lose 8 = .ok (.ireturn, 1) := by decide +kernel
theorem dX10_lose_9 : decode cX10_lose 9 = .ok (.aload_n 0, 1) := by decide +kernel
theorem dX10_lose_10 : decode cX10_lose 10 = .ok (.getfield 50, 3) := by decide +kernel
theorem dX10_lose_13 : decode cX10_lose 13 = .ok (.iload_n 1, 1) := by decide +kernel
theorem dX10_lose_14 : decode cX10_lose 14 = .ok (.iaload, 1) := by decide +kernel
theorem dX10_lose_15 : decode cX10_lose 15 = .ok (.ifCond .ge 7, 3) := by decide +kernel
theorem dX10_lose_18 : decode cX10_lose 18 = .ok (.iconst 0, 1) := by decide +kernel
theorem dX10_lose_19 : decode cX10_lose 19 = .ok (.goto 4, 3) := by decide +kernel
theorem dX10_lose_22 : decode cX10_lose 22 = .ok (.iconst 1, 1) := by decide +kernel
theorem dX10_lose_23 : decode cX10_lose 23 = .ok (.istore_n 2, 1) := by decide +kernel
theorem dX10_lose_24 : decode cX10_lose 24 = .ok (.aload_n 0, 1) := by decide +kernel
theorem dX10_lose_25 : decode cX10_lose 25 = .ok (.getfield 50, 3) := by decide +kernel
theorem dX10_lose_28 : decode cX10_lose 28 = .ok (.iload_n 1, 1) := by decide +kernel
theorem dX10_lose_29 : decode cX10_lose 29 = .ok (.iconst (-1), 1) := by decide +kernel
theorem dX10_lose_30 : decode cX10_lose 30 = .ok (.iastore, 1) := by decide +kernel
theorem dX10_lose_31 : decode cX10_lose 31 = .ok (.iload_n 2, 1) := by decide +kernel
theorem dX10_lose_32 : decode cX10_lose 32 = .ok (.ireturn, 1) := by decide +kernel
theorem dX10_noCell_0 : decode cX10_noCell 0 = .ok (.aload_n 0, 1) := by decide +kernel
theorem dX10_noCell_1 : decode cX10_noCell 1 = .ok (.getfield 50, 3) := by decide +kernel
theorem dX10_noCell_4 : decode cX10_noCell 4 = .ok (.iload_n 1, 1) := by decide +kernel
theorem dX10_noCell_5 : decode cX10_noCell 5 = .ok (.iaload, 1) := by decide +kernel
theorem dX10_noCell_6 : decode cX10_noCell 6 = .ok (.ifCond .ge 7, 3) := by decide +kernel
theorem dX10_noCell_9 : decode cX10_noCell 9 = .ok (.iconst 1, 1) := by decide +kernel
theorem dX10_noCell_10 : decode cX10_noCell 10 = .ok (.goto 26, 3) := by decide +kernel
theorem dX10_noCell_13 : decode cX10_noCell 13 = .ok (.iload_n 2, 1) := by decide +kernel
theorem dX10_noCell_14 : decode cX10_noCell 14 = .ok (.i2l, 1) := by decide +kernel
theorem dX10_noCell_15 : decode cX10_noCell 15 = .ok (.lconst 0, 1) := by decide +kernel
theorem dX10_noCell_16 : decode cX10_noCell 16 = .ok (.aload_n 0, 1) := by decide +kernel
theorem dX10_noCell_17 : decode cX10_noCell 17 = .ok (.getfield 50, 3) := by decide +kernel
theorem dX10_noCell_20 : decode cX10_noCell 20 = .ok (.iload_n 1, 1) := by decide +kernel
theorem dX10_noCell_21 : decode cX10_noCell 21 = .ok (.iaload, 1) := by decide +kernel
theorem dX10_noCell_22 : decode cX10_noCell 22 = .ok (.i2l, 1) := by decide +kernel
theorem dX10_noCell_23 : decode cX10_noCell 23 = .ok (.lconst 1, 1) := by decide +kernel
theorem dX10_noCell_24 : decode cX10_noCell 24 = .ok (.lsub, 1) := by decide +kernel
theorem dX10_noCell_25 : decode cX10_noCell 25 = .ok (.invokestatic 82, 3) := by decide +kernel
theorem dX10_noCell_28 : decode cX10_noCell 28 = .ok (.ifCond .eq 7, 3) := by decide +kernel
theorem dX10_noCell_31 : decode cX10_noCell 31 = .ok (.iconst 0, 1) := by decide +kernel
theorem dX10_noCell_32 : decode cX10_noCell 32 = .ok (.goto 4, 3) := by decide +kernel
theorem dX10_noCell_35 : decode cX10_noCell 35 = .ok (.iconst 3, 1) := by decide +kernel
theorem dX10_noCell_36 : decode cX10_noCell 36 = .ok (.ireturn, 1) := by decide +kernel
theorem dX10_put_0 : decode cX10_put 0 = .ok (.iload_n 1, 1) := by decide +kernel
theorem dX10_put_1 : decode cX10_put 1 = .ok (.invokestatic 72, 3) := by decide +kernel
theorem dX10_put_4 : decode cX10_put 4 = .ok (.ifCond .eq 9, 3) := by decide +kernel
theorem dX10_put_7 : decode cX10_put 7 = .ok (.aload_n 0, 1) := by decide +kernel
theorem dX10_put_8 : decode cX10_put 8 = .ok (.iconst (-1), 1) := by decide +kernel
theorem dX10_put_9 : decode cX10_put 9 = .ok (.invokevirtual 76, 3) := by decide +kernel
theorem dX10_put_12 : decode cX10_put 12 = .ok (.ireturn, 1) := by decide +kernel
theorem dX10_put_13 : decode cX10_put 13 = .ok (.aload_n 0, 1) := by decide +kernel
theorem dX10_put_14 : decode cX10_put 14 = .ok (.iload_n 1, 1) := by decide +kernel
theorem dX10_put_15 : decode cX10_put 15 = .ok (.iload_n 2, 1) := by decide +kernel
theorem dX10_put_16 : decode cX10_put 16 = .ok (.invokevirtual 196, 3) := by decide +kernel
theorem dX10_put_19 : decode cX10_put 19 = .ok (.ifCond .le 14, 3) := by decide +kernel
theorem dX10_put_22 : decode cX10_put 22 = .ok (.aload_n 0, 1) := by decide +kernel
theorem dX10_put_23 : decode cX10_put 23 = .ok (.aload_n 0, 1) := by decide +kernel
theorem dX10_put_24 : decode cX10_put 24 = .ok (.iload_n 1, 1) := by decide +kernel
theorem dX10_put_25 : decode cX10_put 25 = .ok (.iload_n 2, 1) := by decide +kernel
theorem dX10_put_26 : decode cX10_put 26 = .ok (.invokevirtual 196, 3) := by decide +kernel
theorem dX10_put_29 : decode cX10_put 29 = .ok (.invokevirtual 86, 3) := by decide +kernel
theorem dX10_put_32 : decode cX10_put 32 = .ok (.ireturn, 1) := by decide +kernel
theorem dX10_put_33 : decode cX10_put 33 = .ok (.aload_n 0, 1) := by decide +kernel
theorem dX10_put_34 : decode cX10_put 34 = .ok (.getfield 56, 3) := by decide +kernel
theorem dX10_put_37 : decode cX10_put 37 = .ok (.bipush 100, 2) := by decide +kernel
theorem dX10_put_39 : decode cX10_put 39 = .ok (.iload_n 1, 1) := by decide +kernel
theorem dX10_put_40 : decode cX10_put 40 = .ok (.imul, 1) := by decide +kernel
theorem dX10_put_41 : decode cX10_put 41 = .ok (.iload_n 2, 1) := by decide +kernel
theorem dX10_put_42 : decode cX10_put 42 = .ok (.iadd, 1) := by decide +kernel
theorem dX10_put_43 : decode cX10_put 43 = .ok (.aload_n 0, 1) := by decide +kernel
theorem dX10_put_44 : decode cX10_put 44 = .ok (.getfield 53, 3) := by decide +kernel
theorem dX10_put_47 : decode cX10_put 47 = .ok (.iload_n 1, 1) := by decide +kernel
theorem dX10_put_48 : decode cX10_put 48 = .ok (.iaload, 1) := by decide +kernel
theorem dX10_put_49 : decode cX10_put 49 = .ok (.ifCond .ne 8, 3) := by decide +kernel
theorem dX10_put_52 : decode cX10_put 52 = .ok (.iload_n 3, 1) := by decide +kernel
theorem dX10_put_53 : decode cX10_put 53 = .ok (.i2b, 1) := by decide +kernel
theorem dX10_put_54 : decode cX10_put 54 = .ok (.goto 19, 3) := by decide +kernel
theorem dX10_put_57 : decode cX10_put 57 = .ok (.aload_n 0, 1) := by decide +kernel
theorem dX10_put_58 : decode cX10_put 58 = .ok (.getfield 53, 3) := by decide +kernel
theorem dX10_put_61 : decode cX10_put 61 = .ok (.iload_n 1, 1) := by decide +kernel
theorem dX10_put_62 : decode cX10_put 62 = .ok (.iaload, 1) := by decide +kernel
theorem dX10_put_63 : decode cX10_put 63 = .ok (.iconst 1, 1) := by decide +kernel
theorem dX10_put_64 : decode cX10_put 64 = .ok (.if_icmp .ne 8, 3) := by decide +kernel
theorem dX10_put_67 : decode cX10_put 67 = .ok (.iload_n 3, 1) := by decide +kernel
theorem dX10_put_68 : decode cX10_put 68 = .ok (.i2s, 1) := by decide +kernel
theorem dX10_put_69 : decode cX10_put 69 = .ok (.goto 4, 3) := by decide +kernel
theorem dX10_put_72 : decode cX10_put 72 = .ok (.iload_n 3, 1) := by decide +kernel
theorem dX10_put_73 : decode cX10_put 73 = .ok (.iastore, 1) := by decide +kernel
theorem dX10_put_74 : decode cX10_put 74 = .ok (.aload_n 0, 1) := by decide +kernel
theorem dX10_put_75 : decode cX10_put 75 = .ok (.iconst 1, 1) := by decide +kernel
theorem dX10_put_76 : decode cX10_put 76 = .ok (.invokevirtual 76, 3) := by decide +kernel
theorem dX10_put_79 : decode cX10_put 79 = .ok (.ireturn, 1) := by decide +kernel
theorem dX10_cell_0 : decode cX10_cell 0 = .ok (.aload_n 0, 1) := by decide +kernel
theorem dX10_cell_1 : decode cX10_cell 1 = .ok (.iconst 0, 1) := by decide +kernel
theorem dX10_cell_2 : decode cX10_cell 2 = .ok (.putfield 64, 3) := by decide +kernel
theorem dX10_cell_5 : decode cX10_cell 5 = .ok (.iload_n 1, 1) := by decide +kernel
theorem dX10_cell_6 : decode cX10_cell 6 = .ok (.invokestatic 72, 3) := by decide +kernel
theorem dX10_cell_9 : decode cX10_cell 9 = .ok (.ifCond .ne 15, 3) := by decide +kernel
theorem dX10_cell_12 : decode cX10_cell 12 = .ok (.iload_n 3, 1) := by decide +kernel
theorem dX10_cell_13 : decode cX10_cell 13 = .ok (.i2l, 1) := by decide +kernel
theorem dX10_cell_14 : decode cX10_cell 14 = .ok (.lconst 0, 1) := by decide +kernel
theorem dX10_cell_15 : decode cX10_cell 15 = .ok (.ldc2_w 80, 3) := by decide +kernel
theorem dX10_cell_18 : decode cX10_cell 18 = .ok (.invokestatic 82, 3) := by decide +kernel
theorem dX10_cell_21 : decode cX10_cell 21 = .ok (.ifCond .ne 7, 3) := by decide +kernel
theorem dX10_cell_24 : decode cX10_cell 24 = .ok (.invokestatic 68, 3) := by decide +kernel
theorem dX10_cell_27 : decode cX10_cell 27 = .ok (.lreturn, 1) := by decide +kernel
theorem dX10_cell_28 : decode cX10_cell 28 = .ok (.aload_n 0, 1) := by decide +kernel
theorem dX10_cell_29 : decode cX10_cell 29 = .ok (.getfield 50, 3) := by decide +kernel
theorem dX10_cell_32 : decode cX10_cell 32 = .ok (.iload_n 1, 1) := by decide +kernel
theorem dX10_cell_33 : decode cX10_cell 33 = .ok (.iaload, 1) := by decide +kernel
theorem dX10_cell_34 : decode cX10_cell 34 = .ok (.ifCond .lt 19, 3) := by decide +kernel
theorem dX10_cell_37 : decode cX10_cell 37 = .ok (.aload_n 0, 1) := by decide +kernel
theorem dX10_cell_38 : decode cX10_cell 38 = .ok (.getfield 53, 3) := by decide +kernel
theorem dX10_cell_41 : decode cX10_cell 41 = .ok (.iload_n 1, 1) := by decide +kernel
theorem dX10_cell_42 : decode cX10_cell 42 = .ok (.iaload, 1) := by decide +kernel
theorem dX10_cell_43 : decode cX10_cell 43 = .ok (.iload_n 3, 1) := by decide +kernel
theorem dX10_cell_44 : decode cX10_cell 44 = .ok (.if_icmp .eq 9, 3) := by decide +kernel
theorem dX10_cell_47 : decode cX10_cell 47 = .ok (.aload_n 0, 1) := by decide +kernel
theorem dX10_cell_48 : decode cX10_cell 48 = .ok (.iconst 2, 1) := by decide +kernel
theorem dX10_cell_49 : decode cX10_cell 49 = .ok (.invokevirtual 199, 3) := by decide +kernel
theorem dX10_cell_52 : decode cX10_cell 52 = .ok (.lreturn, 1) := by decide +kernel
theorem dX10_cell_53 : decode cX10_cell 53 = .ok (.aload_n 0, 1) := by decide +kernel
theorem dX10_cell_54 : decode cX10_cell 54 = .ok (.iload_n 1, 1) := by decide +kernel
theorem dX10_cell_55 : decode cX10_cell 55 = .ok (.iload_n 2, 1) := by decide +kernel
theorem dX10_cell_56 : decode cX10_cell 56 = .ok (.invokevirtual 196, 3) := by decide +kernel
theorem dX10_cell_59 : decode cX10_cell 59 = .ok (.ifCond .le 16, 3) := by decide +kernel
theorem dX10_cell_62 : decode cX10_cell 62 = .ok (.aload_n 0, 1) := by decide +kernel
theorem dX10_cell_63 : decode cX10_cell 63 = .ok (.aload_n 0, 1) := by decide +kernel
theorem dX10_cell_64 : decode cX10_cell 64 = .ok (.iload_n 1, 1) := by decide +kernel
theorem dX10_cell_65 : decode cX10_cell 65 = .ok (.iload_n 2, 1) := by decide +kernel
theorem dX10_cell_66 : decode cX10_cell 66 = .ok (.invokevirtual 196, 3) := by decide +kernel
theorem dX10_cell_69 : decode cX10_cell 69 = .ok (.invokevirtual 199, 3) := by decide +kernel
theorem dX10_cell_72 : decode cX10_cell 72 = .ok (.goto 15, 3) := by decide +kernel
theorem dX10_cell_75 : decode cX10_cell 75 = .ok (.aload_n 0, 1) := by decide +kernel
theorem dX10_cell_76 : decode cX10_cell 76 = .ok (.getfield 56, 3) := by decide +kernel
theorem dX10_cell_79 : decode cX10_cell 79 = .ok (.bipush 100, 2) := by decide +kernel
theorem dX10_cell_81 : decode cX10_cell 81 = .ok (.iload_n 1, 1) := by decide +kernel
theorem dX10_cell_82 : decode cX10_cell 82 = .ok (.imul, 1) := by decide +kernel
theorem dX10_cell_83 : decode cX10_cell 83 = .ok (.iload_n 2, 1) := by decide +kernel
theorem dX10_cell_84 : decode cX10_cell 84 = .ok (.iadd, 1) := by decide +kernel
theorem dX10_cell_85 : decode cX10_cell 85 = .ok (.iaload, 1) := by decide +kernel
theorem dX10_cell_86 : decode cX10_cell 86 = .ok (.i2l, 1) := by decide +kernel
theorem dX10_cell_87 : decode cX10_cell 87 = .ok (.lreturn, 1) := by decide +kernel
theorem dX10_isBeyond_0 : decode cX10_isBeyond 0 = .ok (.iload_n 0, 1) := by decide +kernel
theorem dX10_isBeyond_1 : decode cX10_isBeyond 1 = .ok (.ifCond .lt 19, 3) := by decide +kernel
theorem dX10_isBeyond_4 : decode cX10_isBeyond 4 = .ok (.lload_n 1, 1) := by decide +kernel
theorem dX10_isBeyond_5 : decode cX10_isBeyond 5 = .ok (.lconst 0, 1) := by decide +kernel
theorem dX10_isBeyond_6 : decode cX10_isBeyond 6 = .ok (.lcmp, 1) := by decide +kernel
theorem dX10_isBeyond_7 : decode cX10_isBeyond 7 = .ok (.ifCond .lt 13, 3) := by decide +kernel
theorem dX10_isBeyond_10 : decode cX10_isBeyond 10 = .ok (.iload_n 0, 1) := by decide +kernel
theorem dX10_isBeyond_11 : decode cX10_isBeyond 11 = .ok (.i2l, 1) := by decide +kernel
theorem dX10_isBeyond_12 : decode cX10_isBeyond 12 = .ok (.lload_n 1, 1) := by decide +kernel
theorem dX10_isBeyond_13 : decode cX10_isBeyond 13 = .ok (.ladd, 1) := by decide +kernel
theorem dX10_isBeyond_14 : decode cX10_isBeyond 14 = .ok (.iload_n 3, 1) := by decide +kernel
theorem dX10_isBeyond_15 : decode cX10_isBeyond 15 = .ok (.i2l, 1) := by decide +kernel
theorem dX10_isBeyond_16 : decode cX10_isBeyond 16 = .ok (.lcmp, 1) := by decide +kernel
theorem dX10_isBeyond_17 : decode cX10_isBeyond 17 = .ok (.ifCond .le 7, 3) := by decide +kernel
theorem dX10_isBeyond_20 : decode cX10_isBeyond 20 = .ok (.iconst 1, 1) := by decide +kernel
theorem dX10_isBeyond_21 : decode cX10_isBeyond 21 = .ok (.goto 4, 3) := by decide +kernel
theorem dX10_isBeyond_24 : decode cX10_isBeyond 24 = .ok (.iconst 0, 1) := by decide +kernel
theorem dX10_isBeyond_25 : decode cX10_isBeyond 25 = .ok (.ireturn, 1) := by decide +kernel
theorem dX10_copy_0 : decode cX10_copy 0 = .ok (.iload_n 1, 1) := by decide +kernel
theorem dX10_copy_1 : decode cX10_copy 1 = .ok (.invokestatic 72, 3) := by decide +kernel
theorem dX10_copy_4 : decode cX10_copy 4 = .ok (.ifCond .ne 10, 3) := by decide +kernel
theorem dX10_copy_7 : decode cX10_copy 7 = .ok (.iload_n 3, 1) := by decide +kernel
theorem dX10_copy_8 : decode cX10_copy 8 = .ok (.invokestatic 72, 3) := by decide +kernel
theorem dX10_copy_11 : decode cX10_copy 11 = .ok (.ifCond .eq 9, 3) := by decide +kernel
theorem dX10_copy_14 : decode cX10_copy 14 = .ok (.aload_n 0, 1) := by decide +kernel
theorem dX10_copy_15 : decode cX10_copy 15 = .ok (.iconst (-1), 1) := by decide +kernel
theorem dX10_copy_16 : decode cX10_copy 16 = .ok (.invokevirtual 76, 3) := by decide +kernel
theorem dX10_copy_19 : decode cX10_copy 19 = .ok (.ireturn, 1) := by decide +kernel
theorem dX10_copy_20 : decode cX10_copy 20 = .ok (.aload_n 0, 1) := by decide +kernel
theorem dX10_copy_21 : decode cX10_copy 21 = .ok (.getfield 50, 3) := by decide +kernel
theorem dX10_copy_24 : decode cX10_copy 24 = .ok (.iload_n 1, 1) := by decide +kernel
theorem dX10_copy_25 : decode cX10_copy 25 = .ok (.iaload, 1) := by decide +kernel
theorem dX10_copy_26 : decode cX10_copy 26 = .ok (.ifCond .lt 12, 3) := by decide +kernel
theorem dX10_copy_29 : decode cX10_copy 29 = .ok (.aload_n 0, 1) := by decide +kernel
theorem dX10_copy_30 : decode cX10_copy 30 = .ok (.getfield 50, 3) := by decide +kernel
theorem dX10_copy_33 : decode cX10_copy 33 = .ok (.iload_n 3, 1) := by decide +kernel
theorem dX10_copy_34 : decode cX10_copy 34 = .ok (.iaload, 1) := by decide +kernel
theorem dX10_copy_35 : decode cX10_copy 35 = .ok (.ifCond .ge 9, 3) := by decide +kernel
theorem dX10_copy_38 : decode cX10_copy 38 = .ok (.aload_n 0, 1) := by decide +kernel
theorem dX10_copy_39 : decode cX10_copy 39 = .ok (.iconst 1, 1) := by decide +kernel
theorem dX10_copy_40 : decode cX10_copy 40 = .ok (.invokevirtual 86, 3) := by decide +kernel
theorem dX10_copy_43 : decode cX10_copy 43 = .ok (.ireturn, 1) := by decide +kernel
theorem dX10_copy_44 : decode cX10_copy 44 = .ok (.aload_n 0, 1) := by decide +kernel
theorem dX10_copy_45 : decode cX10_copy 45 = .ok (.getfield 53, 3) := by decide +kernel
theorem dX10_copy_48 : decode cX10_copy 48 = .ok (.iload_n 1, 1) := by decide +kernel
theorem dX10_copy_49 : decode cX10_copy 49 = .ok (.iaload, 1) := by decide +kernel
theorem dX10_copy_50 : decode cX10_copy 50 = .ok (.aload_n 0, 1) := by decide +kernel
theorem dX10_copy_51 : decode cX10_copy 51 = .ok (.getfield 53, 3) := by decide +kernel
theorem dX10_copy_54 : decode cX10_copy 54 = .ok (.iload_n 3, 1) := by decide +kernel
theorem dX10_copy_55 : decode cX10_copy 55 = .ok (.iaload, 1) := by decide +kernel
theorem dX10_copy_56 : decode cX10_copy 56 = .ok (.if_icmp .eq 9, 3) := by decide +kernel
theorem dX10_copy_59 : decode cX10_copy 59 = .ok (.aload_n 0, 1) := by decide +kernel
theorem dX10_copy_60 : decode cX10_copy 60 = .ok (.iconst 2, 1) := by decide +kernel
theorem dX10_copy_61 : decode cX10_copy 61 = .ok (.invokevirtual 86, 3) := by decide +kernel
theorem dX10_copy_64 : decode cX10_copy 64 = .ok (.ireturn, 1) := by decide +kernel
theorem dX10_copy_65 : decode cX10_copy 65 = .ok (.iload_n 2, 1) := by decide +kernel
theorem dX10_copy_66 : decode cX10_copy 66 = .ok (.iload 5, 2) := by decide +kernel
theorem dX10_copy_68 : decode cX10_copy 68 = .ok (.i2l, 1) := by decide +kernel
theorem dX10_copy_69 : decode cX10_copy 69 = .ok (.aload_n 0, 1) := by decide +kernel
theorem dX10_copy_70 : decode cX10_copy 70 = .ok (.getfield 50, 3) := by decide +kernel
theorem dX10_copy_73 : decode cX10_copy 73 = .ok (.iload_n 1, 1) := by decide +kernel
theorem dX10_copy_74 : decode cX10_copy 74 = .ok (.iaload, 1) := by decide +kernel
theorem dX10_copy_75 : decode cX10_copy 75 = .ok (.invokestatic 89, 3) := by decide +kernel
theorem dX10_copy_78 : decode cX10_copy 78 = .ok (.ifCond .ne 20, 3) := by decide +kernel
theorem dX10_copy_81 : decode cX10_copy 81 = .ok (.iload 4, 2) := by decide +kernel
theorem dX10_copy_83 : decode cX10_copy 83 = .ok (.iload 5, 2) := by decide +kernel
theorem dX10_copy_85 : decode cX10_copy 85 = .ok (.i2l, 1) := by decide +kernel
theorem dX10_copy_86 : decode cX10_copy 86 = .ok (.aload_n 0, 1) := by decide +kernel
theorem dX10_copy_87 : decode cX10_copy 87 = .ok (.getfield 50, 3) := by decide +kernel
theorem dX10_copy_90 : decode cX10_copy 90 = .ok (.iload_n 3, 1) := by decide +kernel
theorem dX10_copy_91 : decode cX10_copy 91 = .ok (.iaload, 1) := by decide +kernel
theorem dX10_copy_92 : decode cX10_copy 92 = .ok (.invokestatic 89, 3) := by decide +kernel
theorem dX10_copy_95 : decode cX10_copy 95 = .ok (.ifCond .eq 9, 3) := by decide +kernel
theorem dX10_copy_98 : decode cX10_copy 98 = .ok (.aload_n 0, 1) := by decide +kernel
theorem dX10_copy_99 : decode cX10_copy 99 = .ok (.iconst 3, 1) := by decide +kernel
theorem dX10_copy_100 : decode cX10_copy 100 = .ok (.invokevirtual 86, 3) := by decide +kernel
theorem dX10_copy_103 : decode cX10_copy 103 = .ok (.ireturn, 1) := by decide +kernel
theorem dX10_copy_104 : decode cX10_copy 104 = .ok (.iconst 0, 1) := by decide +kernel
theorem dX10_copy_105 : decode cX10_copy 105 = .ok (.istore 6, 2) := by decide +kernel
theorem dX10_copy_107 : decode cX10_copy 107 = .ok (.iload 6, 2) := by decide +kernel
theorem dX10_copy_109 : decode cX10_copy 109 = .ok (.iload 5, 2) := by decide +kernel
theorem dX10_copy_111 : decode cX10_copy 111 = .ok (.if_icmp .ge 30, 3) := by decide +kernel
theorem dX10_copy_114 : decode cX10_copy 114 = .ok (.aload_n 0, 1) := by decide +kernel
theorem dX10_copy_115 : decode cX10_copy 115 = .ok (.getfield 59, 3) := by decide +kernel
theorem dX10_copy_118 : decode cX10_copy 118 = .ok (.iload 6, 2) := by decide +kernel
theorem dX10_copy_120 : decode cX10_copy 120 = .ok (.aload_n 0, 1) := by decide +kernel
theorem dX10_copy_121 : decode cX10_copy 121 = .ok (.getfield 56, 3) := by decide +kernel
theorem dX10_copy_124 : decode cX10_copy 124 = .ok (.bipush 100, 2) := by decide +kernel
theorem dX10_copy_126 : decode cX10_copy 126 = .ok (.iload_n 1, 1) := by decide +kernel
theorem dX10_copy_127 : decode cX10_copy 127 = .ok (.imul, 1) := by decide +kernel
theorem dX10_copy_128 : decode cX10_copy 128 = .ok (.iload_n 2, 1) := by decide +kernel
theorem dX10_copy_129 : decode cX10_copy 129 = .ok (.iadd, 1) := by decide +kernel
theorem dX10_copy_130 : decode cX10_copy 130 = .ok (.iload 6, 2) := by decide +kernel
theorem dX10_copy_132 : decode cX10_copy 132 = .ok (.iadd, 1) := by decide +kernel
theorem dX10_copy_133 : decode cX10_copy 133 = .ok (.iaload, 1) := by decide +kernel
theorem dX10_copy_134 : decode cX10_copy 134 = .ok (.iastore, 1) := by decide +kernel
theorem dX10_copy_135 : decode cX10_copy 135 = .ok (.iinc 6 1, 3) := by decide +kernel
theorem dX10_copy_138 : decode cX10_copy 138 = .ok (.goto (-31), 3) := by decide +kernel
theorem dX10_copy_141 : decode cX10_copy 141 = .ok (.iconst 0, 1) := by decide +kernel
theorem dX10_copy_142 : decode cX10_copy 142 = .ok (.istore 6, 2) := by decide +kernel
theorem dX10_copy_144 : decode cX10_copy 144 = .ok (.iload 6, 2) := by decide +kernel
theorem dX10_copy_146 : decode cX10_copy 146 = .ok (.iload 5, 2) := by decide +kernel
theorem dX10_copy_148 : decode cX10_copy 148 = .ok (.if_icmp .ge 31, 3) := by decide +kernel
theorem dX10_copy_151 : decode cX10_copy 151 = .ok (.aload_n 0, 1) := by decide +kernel
theorem dX10_copy_152 : decode cX10_copy 152 = .ok (.getfield 56, 3) := by decide +kernel
theorem dX10_copy_155 : decode cX10_copy 155 = .ok (.bipush 100, 2) := by decide +kernel
theorem dX10_copy_157 : decode cX10_copy 157 = .ok (.iload_n 3, 1) := by decide +kernel
theorem dX10_copy_158 : decode cX10_copy 158 = .ok (.imul, 1) := by decide +kernel
theorem dX10_copy_159 : decode cX10_copy 159 = .ok (.iload 4, 2) := by decide +kernel
theorem dX10_copy_161 : decode cX10_copy 161 = .ok (.iadd, 1) := by decide +kernel
theorem dX10_copy_162 : decode cX10_copy 162 = .ok (.iload 6, 2) := by decide +kernel
theorem dX10_copy_164 : decode cX10_copy 164 = .ok (.iadd, 1) := by decide +kernel
theorem dX10_copy_165 : decode cX10_copy 165 = .ok (.aload_n 0, 1) := by decide +kernel
theorem dX10_copy_166 : decode cX10_copy 166 = .ok (.getfield 59, 3) := by decide +kernel
theorem dX10_copy_169 : decode cX10_copy 169 = .ok (.iload 6, 2) := by decide +kernel
theorem dX10_copy_171 : decode cX10_copy 171 = .ok (.iaload, 1) := by decide +kernel
theorem dX10_copy_172 : decode cX10_copy 172 = .ok (.iastore, 1) := by decide +kernel
theorem dX10_copy_173 : decode cX10_copy 173 = .ok (.iinc 6 1, 3) := by decide +kernel
theorem dX10_copy_176 : decode cX10_copy 176 = .ok (.goto (-32), 3) := by decide +kernel
theorem dX10_copy_179 : decode cX10_copy 179 = .ok (.aload_n 0, 1) := by decide +kernel
theorem dX10_copy_180 : decode cX10_copy 180 = .ok (.iload 5, 2) := by decide +kernel
theorem dX10_copy_182 : decode cX10_copy 182 = .ok (.invokevirtual 76, 3) := by decide +kernel
theorem dX10_copy_185 : decode cX10_copy 185 = .ok (.ireturn, 1) := by decide +kernel
theorem dX10_traced_0 : decode cX10_traced 0 = .ok (.aload_n 0, 1) := by decide +kernel
theorem dX10_traced_1 : decode cX10_traced 1 = .ok (.bipush 31, 2) := by decide +kernel
theorem dX10_traced_3 : decode cX10_traced 3 = .ok (.aload_n 0, 1) := by decide +kernel
theorem dX10_traced_4 : decode cX10_traced 4 = .ok (.getfield 203, 3) := by decide +kernel
theorem dX10_traced_7 : decode cX10_traced 7 = .ok (.imul, 1) := by decide +kernel
theorem dX10_traced_8 : decode cX10_traced 8 = .ok (.iload_n 1, 1) := by decide +kernel
theorem dX10_traced_9 : decode cX10_traced 9 = .ok (.iadd, 1) := by decide +kernel
theorem dX10_traced_10 : decode cX10_traced 10 = .ok (.putfield 203, 3) := by decide +kernel
theorem dX10_traced_13 : decode cX10_traced 13 = .ok (.return_, 1) := by decide +kernel
theorem dX10_tell_0 : decode cX10_tell 0 = .ok (.aload_n 0, 1) := by decide +kernel
theorem dX10_tell_1 : decode cX10_tell 1 = .ok (.iload_n 1, 1) := by decide +kernel
theorem dX10_tell_2 : decode cX10_tell 2 = .ok (.invokevirtual 127, 3) := by decide +kernel
theorem dX10_tell_5 : decode cX10_tell 5 = .ok (.ifCond .eq 5, 3) := by decide +kernel
theorem dX10_tell_8 : decode cX10_tell 8 = .ok (.iconst (-1), 1) := by decide +kernel
theorem dX10_tell_9 : decode cX10_tell 9 = .ok (.ireturn, 1) := by decide +kernel
theorem dX10_tell_10 : decode cX10_tell 10 = .ok (.aload_n 0, 1) := by decide +kernel
theorem dX10_tell_11 : decode cX10_tell 11 = .ok (.getfield 7, 3) := by decide +kernel
theorem dX10_tell_14 : decode cX10_tell 14 = .ok (.iload_n 1, 1) := by decide +kernel
theorem dX10_tell_15 : decode cX10_tell 15 = .ok (.iaload, 1) := by decide +kernel
theorem dX10_tell_16 : decode cX10_tell 16 = .ok (.istore_n 2, 1) := by decide +kernel
theorem dX10_tell_17 : decode cX10_tell 17 = .ok (.iload_n 2, 1) := by decide +kernel
theorem dX10_tell_18 : decode cX10_tell 18 = .ok (.iconst 2, 1) := by decide +kernel
theorem dX10_tell_19 : decode cX10_tell 19 = .ok (.if_icmp .ne 8, 3) := by decide +kernel
theorem dX10_tell_22 : decode cX10_tell 22 = .ok (.aload_n 0, 1) := by decide +kernel
theorem dX10_tell_23 : decode cX10_tell 23 = .ok (.iconst 3, 1) := by decide +kernel
theorem dX10_tell_24 : decode cX10_tell 24 = .ok (.invokevirtual 206, 3) := by decide +kernel
theorem dX10_tell_27 : decode cX10_tell 27 = .ok (.iload_n 2, 1) := by decide +kernel
theorem dX10_tell_28 : decode cX10_tell 28 = .ok (.ifCond .le 8, 3) := by decide +kernel
theorem dX10_tell_31 : decode cX10_tell 31 = .ok (.aload_n 0, 1) := by decide +kernel
theorem dX10_tell_32 : decode cX10_tell 32 = .ok (.iconst 2, 1) := by decide +kernel
theorem dX10_tell_33 : decode cX10_tell 33 = .ok (.invokevirtual 206, 3) := by decide +kernel
theorem dX10_tell_36 : decode cX10_tell 36 = .ok (.aload_n 0, 1) := by decide +kernel
theorem dX10_tell_37 : decode cX10_tell 37 = .ok (.iconst 1, 1) := by decide +kernel
theorem dX10_tell_38 : decode cX10_tell 38 = .ok (.invokevirtual 206, 3) := by decide +kernel
theorem dX10_tell_41 : decode cX10_tell 41 = .ok (.iload_n 2, 1) := by decide +kernel
theorem dX10_tell_42 : decode cX10_tell 42 = .ok (.iconst 2, 1) := by decide +kernel
theorem dX10_tell_43 : decode cX10_tell 43 = .ok (.if_icmp .ne 8, 3) := by decide +kernel
theorem dX10_tell_46 : decode cX10_tell 46 = .ok (.aload_n 0, 1) := by decide +kernel
theorem dX10_tell_47 : decode cX10_tell 47 = .ok (.iconst 1, 1) := by decide +kernel
theorem dX10_tell_48 : decode cX10_tell 48 = .ok (.invokevirtual 206, 3) := by decide +kernel
theorem dX10_tell_51 : decode cX10_tell 51 = .ok (.aload_n 0, 1) := by decide +kernel
theorem dX10_tell_52 : decode cX10_tell 52 = .ok (.getfield 16, 3) := by decide +kernel
theorem dX10_tell_55 : decode cX10_tell 55 = .ok (.iload_n 1, 1) := by decide +kernel
theorem dX10_tell_56 : decode cX10_tell 56 = .ok (.iaload, 1) := by decide +kernel
theorem dX10_tell_57 : decode cX10_tell 57 = .ok (.istore_n 3, 1) := by decide +kernel
theorem dX10_tell_58 : decode cX10_tell 58 = .ok (.iload_n 2, 1) := by decide +kernel
theorem dX10_tell_59 : decode cX10_tell 59 = .ok (.ifCond .ne 7, 3) := by decide +kernel
theorem dX10_tell_62 : decode cX10_tell 62 = .ok (.iload_n 3, 1) := by decide +kernel
theorem dX10_tell_63 : decode cX10_tell 63 = .ok (.goto 21, 3) := by decide +kernel
theorem dX10_tell_66 : decode cX10_tell 66 = .ok (.iload_n 2, 1) := by decide +kernel
theorem dX10_tell_67 : decode cX10_tell 67 = .ok (.iconst 1, 1) := by decide +kernel
theorem dX10_tell_68 : decode cX10_tell 68 = .ok (.if_icmp .ne 10, 3) := by decide +kernel
theorem dX10_tell_71 : decode cX10_tell 71 = .ok (.iload_n 3, 1) := by decide +kernel
theorem dX10_tell_72 : decode cX10_tell 72 = .ok (.bipush 100, 2) := by decide +kernel
theorem dX10_tell_74 : decode cX10_tell 74 = .ok (.iadd, 1) := by decide +kernel
theorem dX10_tell_75 : decode cX10_tell 75 = .ok (.goto 9, 3) := by decide +kernel
theorem dX10_tell_78 : decode cX10_tell 78 = .ok (.iconst 2, 1) := by decide +kernel
theorem dX10_tell_79 : decode cX10_tell 79 = .ok (.iload_n 3, 1) := by decide +kernel
theorem dX10_tell_80 : decode cX10_tell 80 = .ok (.imul, 1) := by decide +kernel
theorem dX10_tell_81 : decode cX10_tell 81 = .ok (.bipush 100, 2) := by decide +kernel
theorem dX10_tell_83 : decode cX10_tell 83 = .ok (.iadd, 1) := by decide +kernel
theorem dX10_tell_84 : decode cX10_tell 84 = .ok (.ireturn, 1) := by decide +kernel
theorem dX10_mourn_0 : decode cX10_mourn 0 = .ok (.aload_n 0, 1) := by decide +kernel
theorem dX10_mourn_1 : decode cX10_mourn 1 = .ok (.iload_n 1, 1) := by decide +kernel
theorem dX10_mourn_2 : decode cX10_mourn 2 = .ok (.invokevirtual 127, 3) := by decide +kernel
theorem dX10_mourn_5 : decode cX10_mourn 5 = .ok (.ifCond .eq 5, 3) := by decide +kernel
theorem dX10_mourn_8 : decode cX10_mourn 8 = .ok (.iconst (-1), 1) := by decide +kernel
theorem dX10_mourn_9 : decode cX10_mourn 9 = .ok (.ireturn, 1) := by decide +kernel
theorem dX10_mourn_10 : decode cX10_mourn 10 = .ok (.aload_n 0, 1) := by decide +kernel
theorem dX10_mourn_11 : decode cX10_mourn 11 = .ok (.aload_n 0, 1) := by decide +kernel
theorem dX10_mourn_12 : decode cX10_mourn 12 = .ok (.getfield 7, 3) := by decide +kernel
theorem dX10_mourn_15 : decode cX10_mourn 15 = .ok (.iload_n 1, 1) := by decide +kernel
theorem dX10_mourn_16 : decode cX10_mourn 16 = .ok (.iaload, 1) := by decide +kernel
theorem dX10_mourn_17 : decode cX10_mourn 17 = .ok (.iconst 2, 1) := by decide +kernel
theorem dX10_mourn_18 : decode cX10_mourn 18 = .ok (.if_icmp .ne 7, 3) := by decide +kernel
theorem dX10_mourn_21 : decode cX10_mourn 21 = .ok (.iconst 5, 1) := by decide +kernel
theorem dX10_mourn_22 : decode cX10_mourn 22 = .ok (.goto 4, 3) := by decide +kernel
theorem dX10_mourn_25 : decode cX10_mourn 25 = .ok (.iconst 4, 1) := by decide +kernel
theorem dX10_mourn_26 : decode cX10_mourn 26 = .ok (.invokevirtual 206, 3) := by decide +kernel
theorem dX10_mourn_29 : decode cX10_mourn 29 = .ok (.aload_n 0, 1) := by decide +kernel
theorem dX10_mourn_30 : decode cX10_mourn 30 = .ok (.getfield 7, 3) := by decide +kernel
theorem dX10_mourn_33 : decode cX10_mourn 33 = .ok (.iload_n 1, 1) := by decide +kernel
theorem dX10_mourn_34 : decode cX10_mourn 34 = .ok (.iaload, 1) := by decide +kernel
theorem dX10_mourn_35 : decode cX10_mourn 35 = .ok (.iconst 2, 1) := by decide +kernel
theorem dX10_mourn_36 : decode cX10_mourn 36 = .ok (.if_icmp .ne 8, 3) := by decide +kernel
theorem dX10_mourn_39 : decode cX10_mourn 39 = .ok (.bipush 80, 2) := by decide +kernel
theorem dX10_mourn_41 : decode cX10_mourn 41 = .ok (.goto 4, 3) := by decide +kernel
theorem dX10_mourn_44 : decode cX10_mourn 44 = .ok (.iload_n 1, 1) := by decide +kernel
theorem dX10_mourn_45 : decode cX10_mourn 45 = .ok (.ireturn, 1) := by decide +kernel
theorem dX10_as_0 : decode cX10_as 0 = .ok (.aload_n 0, 1) := by decide +kernel
theorem dX10_as_1 : decode cX10_as 1 = .ok (.iload_n 1, 1) := by decide +kernel
theorem dX10_as_2 : decode cX10_as 2 = .ok (.invokevirtual 127, 3) := by decide +kernel
theorem dX10_as_5 : decode cX10_as 5 = .ok (.ifCond .eq 9, 3) := by decide +kernel
theorem dX10_as_8 : decode cX10_as 8 = .ok (.aload_n 0, 1) := by decide +kernel
theorem dX10_as_9 : decode cX10_as 9 = .ok (.iconst (-1), 1) := by decide +kernel
theorem dX10_as_10 : decode cX10_as 10 = .ok (.invokevirtual 76, 3) := by decide +kernel
theorem dX10_as_13 : decode cX10_as 13 = .ok (.ireturn, 1) := by decide +kernel
theorem dX10_as_14 : decode cX10_as 14 = .ok (.iload_n 2, 1) := by decide +kernel
theorem dX10_as_15 : decode cX10_as 15 = .ok (.i2l, 1) := by decide +kernel
theorem dX10_as_16 : decode cX10_as 16 = .ok (.lconst 0, 1) := by decide +kernel
theorem dX10_as_17 : decode cX10_as 17 = .ok (.ldc2_w 80, 3) := by decide +kernel
theorem dX10_as_20 : decode cX10_as 20 = .ok (.invokestatic 82, 3) := by decide +kernel
theorem dX10_as_23 : decode cX10_as 23 = .ok (.ifCond .ne 10, 3) := by decide +kernel
theorem dX10_as_26 : decode cX10_as 26 = .ok (.aload_n 0, 1) := by decide +kernel
theorem dX10_as_27 : decode cX10_as 27 = .ok (.bipush (-2), 2) := by decide +kernel
theorem dX10_as_29 : decode cX10_as 29 = .ok (.invokevirtual 76, 3) := by decide +kernel
theorem dX10_as_32 : decode cX10_as 32 = .ok (.ireturn, 1) := by decide +kernel
theorem dX10_as_33 : decode cX10_as 33 = .ok (.aload_n 0, 1) := by decide +kernel
theorem dX10_as_34 : decode cX10_as 34 = .ok (.getfield 7, 3) := by decide +kernel
theorem dX10_as_37 : decode cX10_as 37 = .ok (.iload_n 1, 1) := by decide +kernel
theorem dX10_as_38 : decode cX10_as 38 = .ok (.iaload, 1) := by decide +kernel
theorem dX10_as_39 : decode cX10_as 39 = .ok (.iload_n 2, 1) := by decide +kernel
theorem dX10_as_40 : decode cX10_as 40 = .ok (.if_icmp .lt 11, 3) := by decide +kernel
theorem dX10_as_43 : decode cX10_as 43 = .ok (.aload_n 0, 1) := by decide +kernel
theorem dX10_as_44 : decode cX10_as 44 = .ok (.iconst 1, 1) := by decide +kernel
theorem dX10_as_45 : decode cX10_as 45 = .ok (.invokevirtual 76, 3) := by decide +kernel
theorem dX10_as_48 : decode cX10_as 48 = .ok (.goto 8, 3) := by decide +kernel
theorem dX10_as_51 : decode cX10_as 51 = .ok (.aload_n 0, 1) := by decide +kernel
theorem dX10_as_52 : decode cX10_as 52 = .ok (.iconst 2, 1) := by decide +kernel
theorem dX10_as_53 : decode cX10_as 53 = .ok (.invokevirtual 86, 3) := by decide +kernel
theorem dX10_as_56 : decode cX10_as 56 = .ok (.ireturn, 1) := by decide +kernel
theorem dX10_trace_0 : decode cX10_trace 0 = .ok (.aload_n 0, 1) := by decide +kernel
theorem dX10_trace_1 : decode cX10_trace 1 = .ok (.getfield 203, 3) := by decide +kernel
theorem dX10_trace_4 : decode cX10_trace 4 = .ok (.ireturn, 1) := by decide +kernel
theorem dX10_fault_0 : decode cX10_fault 0 = .ok (.aload_n 0, 1) := by decide +kernel
theorem dX10_fault_1 : decode cX10_fault 1 = .ok (.getfield 64, 3) := by decide +kernel
theorem dX10_fault_4 : decode cX10_fault 4 = .ok (.ireturn, 1) := by decide +kernel
theorem dX10_many_0 : decode cX10_many 0 = .ok (.aload_n 0, 1) := by decide +kernel
theorem dX10_many_1 : decode cX10_many 1 = .ok (.getfield 93, 3) := by decide +kernel
theorem dX10_many_4 : decode cX10_many 4 = .ok (.ireturn, 1) := by decide +kernel
theorem dJ9_min_7cf53_0 : decode cJ9_min_7cf53 0 = .ok (.iload_n 0, 1) := by decide +kernel
theorem dJ9_min_7cf53_1 : decode cJ9_min_7cf53 1 = .ok (.iload_n 1, 1) := by decide +kernel
theorem dJ9_min_7cf53_2 : decode cJ9_min_7cf53 2 = .ok (.if_icmp .gt 7, 3) := by decide +kernel
theorem dJ9_min_7cf53_5 : decode cJ9_min_7cf53 5 = .ok (.iload_n 0, 1) := by decide +kernel
theorem dJ9_min_7cf53_6 : decode cJ9_min_7cf53 6 = .ok (.goto 4, 3) := by decide +kernel
theorem dJ9_min_7cf53_9 : decode cJ9_min_7cf53 9 = .ok (.iload_n 1, 1) := by decide +kernel
theorem dJ9_min_7cf53_10 : decode cJ9_min_7cf53 10 = .ok (.ireturn, 1) := by decide +kernel
end
section
/-! Z: the ints of the machine as integers; rows of the kit turned to them -/
def jI (z : Int) : Int32 := Int32.ofInt z
def jL (z : Int) : Int64 := Int64.ofInt z
theorem jI_int {z : Int} (h : -2147483648 ≤ z ∧ z ≤ 2147483647) : (jI z).toInt = z := Int32.toInt_ofInt_of_le (by omega) (by omega)
theorem jL_int {z : Int} (h : -9223372036854775808 ≤ z ∧ z ≤ 9223372036854775807) : (jL z).toInt = z := Int64.toInt_ofInt_of_le (by omega) (by omega)
theorem jI_of (x : Int32) : x = jI x.toInt := (Int32.ofInt_toInt x).symm
theorem jI_rng (x : Int32) : -2147483648 ≤ x.toInt ∧ x.toInt ≤ 2147483647 := ⟨x.le_toInt, by have := x.toInt_lt; omega⟩
theorem jI_inj {a b : Int} (ha : -2147483648 ≤ a ∧ a ≤ 2147483647) (hb : -2147483648 ≤ b ∧ b ≤ 2147483647) : jI a = jI b ↔ a = b := by
  rw [← Int32.toInt_inj, jI_int ha, jI_int hb]
theorem jI_lt {a b : Int} (ha : -2147483648 ≤ a ∧ a ≤ 2147483647) (hb : -2147483648 ≤ b ∧ b ≤ 2147483647) : jI a < jI b ↔ a < b := by
  rw [Int32.lt_iff_toInt_lt, jI_int ha, jI_int hb]
theorem jI_le {a b : Int} (ha : -2147483648 ≤ a ∧ a ≤ 2147483647) (hb : -2147483648 ≤ b ∧ b ≤ 2147483647) : jI a ≤ jI b ↔ a ≤ b := by
  rw [Int32.le_iff_toInt_le, jI_int ha, jI_int hb]
theorem jL_inj {a b : Int} (ha : -9223372036854775808 ≤ a ∧ a ≤ 9223372036854775807) (hb : -9223372036854775808 ≤ b ∧ b ≤ 9223372036854775807) : jL a = jL b ↔ a = b := by
  rw [← Int64.toInt_inj, jL_int ha, jL_int hb]
theorem jL_lt {a b : Int} (ha : -9223372036854775808 ≤ a ∧ a ≤ 9223372036854775807) (hb : -9223372036854775808 ≤ b ∧ b ≤ 9223372036854775807) : jL a < jL b ↔ a < b := by
  rw [Int64.lt_iff_toInt_lt, jL_int ha, jL_int hb]
theorem jI_add (a b : Int) : jI a + jI b = jI (a + b) := (Int32.ofInt_add a b).symm
theorem jI_sub (a b : Int) : jI a - jI b = jI (a - b) := (Int32.ofInt_sub a b).symm
theorem jI_mul (a b : Int) : jI a * jI b = jI (a * b) := (Int32.ofInt_mul a b).symm
theorem jL_add (a b : Int) : jL a + jL b = jL (a + b) := (Int64.ofInt_add a b).symm
theorem jL_sub (a b : Int) : jL a - jL b = jL (a - b) := (Int64.ofInt_sub a b).symm
theorem jL_mul (a b : Int) : jL a * jL b = jL (a * b) := (Int64.ofInt_mul a b).symm
theorem jI_div {a b : Int} (ha : 0 ≤ a ∧ a ≤ 2147483647) (hb : 0 < b ∧ b ≤ 2147483647) : jI a / jI b = jI (a / b) := by
  rw [← Int32.toInt_inj, Int32.toInt_div, jI_int (by omega), jI_int (by omega), Int.tdiv_eq_ediv_of_nonneg (by omega)]
  have h1 : 0 ≤ a / b := Int.ediv_nonneg (by omega) (by omega)
  have h2 : a / b ≤ a := Int.ediv_le_self b (by omega)
  rw [jI_int (by omega)]
  exact Int.bmod_eq_of_le (by omega) (by omega)
theorem jI_rem {a b : Int} (ha : 0 ≤ a ∧ a ≤ 2147483647) (hb : 0 < b ∧ b ≤ 2147483647) : jI a - jI a / jI b * jI b = jI (a % b) := by
  rw [jI_div ha hb, jI_mul, jI_sub, Int.emod_def, Int.mul_comm]
theorem jL_div {a b : Int} (ha : 0 ≤ a ∧ a ≤ 9223372036854775807) (hb : 0 < b ∧ b ≤ 9223372036854775807) : jL a / jL b = jL (a / b) := by
  rw [← Int64.toInt_inj, Int64.toInt_div, jL_int (by omega), jL_int (by omega), Int.tdiv_eq_ediv_of_nonneg (by omega)]
  have h1 : 0 ≤ a / b := Int.ediv_nonneg (by omega) (by omega)
  have h2 : a / b ≤ a := Int.ediv_le_self b (by omega)
  rw [jL_int (by omega)]
  exact Int.bmod_eq_of_le (by omega) (by omega)
theorem jL_rem {a b : Int} (ha : 0 ≤ a ∧ a ≤ 9223372036854775807) (hb : 0 < b ∧ b ≤ 9223372036854775807) : jL a - jL a / jL b * jL b = jL (a % b) := by
  rw [jL_div ha hb, jL_mul, jL_sub, Int.emod_def, Int.mul_comm]
theorem jI_long {a : Int} (ha : -2147483648 ≤ a ∧ a ≤ 2147483647) : (jI a).toInt64 = jL a := by
  rw [← Int64.toInt_inj, Int32.toInt_toInt64, jI_int ha, jL_int (by omega)]
theorem jI_clamp {i : Int} (h : 0 ≤ i ∧ i ≤ 2147483647) : ((jI i).toNatClampNeg : Int) = i := by
  show (((jI i).toInt.toNat : Nat) : Int) = i
  rw [jI_int (by omega)]
  omega
theorem jI_nI (n : Nat) : Int32.ofNat n = jI n := Int32.ofInt_eq_ofNat.symm
theorem jI_byte (a : Int) : (jI a).toInt8.toInt32 = jI (a.bmod 256) := by
  have h1 : -128 ≤ a.bmod 256 := by have := @Int.le_bmod a 256 (by omega); omega
  have h2 : a.bmod 256 < 128 := by have := @Int.bmod_lt a 256 (by omega); omega
  rw [← Int32.toInt_inj, jI_int (by omega), Int8.toInt_toInt32, show (jI a).toInt8 = Int8.ofInt a from Int32.toInt8_ofInt, Int8.toInt_ofInt]
theorem jI_short (a : Int) : (jI a).toInt16.toInt32 = jI (a.bmod 65536) := by
  have h1 : -32768 ≤ a.bmod 65536 := by have := @Int.le_bmod a 65536 (by omega); omega
  have h2 : a.bmod 65536 < 32768 := by have := @Int.bmod_lt a 65536 (by omega); omega
  rw [← Int32.toInt_inj, jI_int (by omega), Int16.toInt_toInt32, show (jI a).toInt16 = Int16.ofInt a from Int32.toInt16_ofInt, Int16.toInt_ofInt]
theorem jI_inRow {i : Int} {n : Nat} (h : 0 ≤ i ∧ i < n ∧ n ≤ 2147483647) : vp_in (jI i) n := by
  rw [vp_in_iff, jI_int (by omega)]
  omega
/-- rows of ints: by a function of integers -/
def aI (f : Int → Int) : Nat → Int32 := fun j => jI (f (j : Int))
def zu (f : Int → Int) (i v : Int) : Int → Int := fun j => if j = i then v else f j
theorem zu_s {f : Int → Int} {i v : Int} : zu f i v i = v := by simp [zu]
theorem zu_e {f : Int → Int} {i j v : Int} (h : j = i) : zu f i v j = v := by simp [zu, h]
theorem zu_n {f : Int → Int} {i j v : Int} (h : j ≠ i) : zu f i v j = f j := by simp [zu, h]
theorem aI_get {f : Int → Int} {i : Int} (h : 0 ≤ i ∧ i ≤ 2147483647) : aI f (jI i).toNatClampNeg = jI (f i) := by
  show jI (f (((jI i).toNatClampNeg : Nat) : Int)) = _
  rw [jI_clamp h]
theorem aI_set {f : Int → Int} {i v : Int} (h : 0 ≤ i ∧ i ≤ 2147483647) : upd (aI f) (jI i).toNatClampNeg (jI v) = aI (zu f i v) := by
  funext j
  have e := jI_clamp h
  by_cases hj : j = (jI i).toNatClampNeg
  · rw [hj, pk_us]
    show _ = jI (zu f i v (((jI i).toNatClampNeg : Nat) : Int))
    rw [e, zu_s]
  · rw [pk_un hj]
    show jI _ = jI (zu f i v (j : Int))
    rw [zu_n (by omega)]
theorem aI_0 : aI (fun _ => 0) = fun _ => (0 : Int32) := rfl
/-- 1 where it holds, else 0 -/
noncomputable def zb (P : Prop) : Int := @ite Int P (Classical.propDecidable P) 1 0
theorem zb_t {P : Prop} (h : P) : zb P = 1 := by unfold zb; exact if_pos h
theorem zb_f {P : Prop} (h : ¬ P) : zb P = 0 := by unfold zb; exact if_neg h
theorem zb_or (P : Prop) : (P ∧ zb P = 1) ∨ (¬ P ∧ zb P = 0) := (Classical.em P).elim (fun h => Or.inl ⟨h, zb_t h⟩) (fun h => Or.inr ⟨h, zb_f h⟩)
def zr (k mc ms : Nat) : Room := { frames := k, cells := mc, slots := ms, locals := 64 * k }
section ZW
variable {p : Program} {l : Launch} {e : Env} {R : Room} {s : State} {m : MethodId} {args : Array Value} {below : List Frame} {meth : Method} {c : Code} {H : Heap} {locs : List Loc} {cells slots : Nat} {Q : State → Prop}
variable {cc : ByteArray} {pc nL : Nat} {ls : Array Slot} {rest : List Value} {Ts : List Cond} {own : String}
theorem z_iconst (S : CallFix p m c cc nL s args Ts own) {n : Int}  (hdg : decode cc pc = .ok (.iconst n, 1)) (k : W p l e R s m args below meth c H locs cells slots Q (F0 m (pc + 1) ls (.int (jI n) :: rest))) : W p l e R s m args below meth c H locs cells slots Q (F0 m (pc) ls (rest)) := lv_iconst S.1 S.2.1 hdg rfl k
theorem z_bipush (S : CallFix p m c cc nL s args Ts own) {n : Int} (hv : (Int8.ofInt n).toInt32 = jI n) (hdg : decode cc pc = .ok (.bipush n, 2)) (k : W p l e R s m args below meth c H locs cells slots Q (F0 m (pc + 2) ls (.int (jI n) :: rest))) : W p l e R s m args below meth c H locs cells slots Q (F0 m (pc) ls (rest)) := lv_bipush S.1 S.2.1 hdg hv k
theorem z_sipush (S : CallFix p m c cc nL s args Ts own) {n : Int} (hv : (Int16.ofInt n).toInt32 = jI n) (hdg : decode cc pc = .ok (.sipush n, 3)) (k : W p l e R s m args below meth c H locs cells slots Q (F0 m (pc + 3) ls (.int (jI n) :: rest))) : W p l e R s m args below meth c H locs cells slots Q (F0 m (pc) ls (rest)) := lv_sipush S.1 S.2.1 hdg hv k
theorem z_lconst (S : CallFix p m c cc nL s args Ts own) {n : Fin 2} {z : Int} (hz : Int64.ofNat (n : Nat) = jL z) (hdg : decode cc pc = .ok (.lconst n, 1)) (k : W p l e R s m args below meth c H locs cells slots Q (F0 m (pc + 1) ls (.long (jL z) :: rest))) : W p l e R s m args below meth c H locs cells slots Q (F0 m (pc) ls (rest)) := lv_lconst S.1 S.2.1 hdg hz k
theorem z_ldc (S : CallFix p m c cc nL s args Ts own) {idx : Nat} {v : Int32} {n : Int} (hc : Cond.constant own idx v ∈ Ts) (hv : v = jI n) (hdg : decode cc pc = .ok (.ldc idx, 2)) (k : W p l e R s m args below meth c H locs cells slots Q (F0 m (pc + 2) ls (.int (jI n) :: rest))) : W p l e R s m args below meth c H locs cells slots Q (F0 m (pc) ls (rest)) := lv_ldc S.1 S.2.1 S.2.2.2.1 (S.2.2.2.2 _ hc) hdg (by rw [hv]; exact k)
theorem z_ldc2 (S : CallFix p m c cc nL s args Ts own) {idx : Nat} {v : Int64} {n : Int} (hc : Cond.constantLong own idx v ∈ Ts) (hv : v = jL n) (hdg : decode cc pc = .ok (.ldc2_w idx, 3)) (k : W p l e R s m args below meth c H locs cells slots Q (F0 m (pc + 3) ls (.long (jL n) :: rest))) : W p l e R s m args below meth c H locs cells slots Q (F0 m (pc) ls (rest)) := lv_ldc2 S.1 S.2.1 S.2.2.2.1 (S.2.2.2.2 _ hc) hdg (by rw [hv]; exact k)
theorem z_iadd (S : CallFix p m c cc nL s args Ts own) {x y : Int} (hdg : decode cc pc = .ok (.iadd, 1)) (k : W p l e R s m args below meth c H locs cells slots Q (F0 m (pc + 1) ls (.int (jI (x + y)) :: rest))) : W p l e R s m args below meth c H locs cells slots Q (F0 m (pc) ls (.int (jI y) :: .int (jI x) :: rest)) := lv_iadd S.1 S.2.1 hdg (by rw [jI_add]; exact k)
theorem z_isub (S : CallFix p m c cc nL s args Ts own) {x y : Int} (hdg : decode cc pc = .ok (.isub, 1)) (k : W p l e R s m args below meth c H locs cells slots Q (F0 m (pc + 1) ls (.int (jI (x - y)) :: rest))) : W p l e R s m args below meth c H locs cells slots Q (F0 m (pc) ls (.int (jI y) :: .int (jI x) :: rest)) := lv_isub S.1 S.2.1 hdg (by rw [jI_sub]; exact k)
theorem z_imul (S : CallFix p m c cc nL s args Ts own) {x y : Int} (hdg : decode cc pc = .ok (.imul, 1)) (k : W p l e R s m args below meth c H locs cells slots Q (F0 m (pc + 1) ls (.int (jI (x * y)) :: rest))) : W p l e R s m args below meth c H locs cells slots Q (F0 m (pc) ls (.int (jI y) :: .int (jI x) :: rest)) := lv_imul S.1 S.2.1 hdg (by rw [jI_mul]; exact k)
theorem z_ladd (S : CallFix p m c cc nL s args Ts own) {x y : Int} (hdg : decode cc pc = .ok (.ladd, 1)) (k : W p l e R s m args below meth c H locs cells slots Q (F0 m (pc + 1) ls (.long (jL (x + y)) :: rest))) : W p l e R s m args below meth c H locs cells slots Q (F0 m (pc) ls (.long (jL y) :: .long (jL x) :: rest)) := lv_ladd S.1 S.2.1 hdg (by rw [jL_add]; exact k)
theorem z_lsub (S : CallFix p m c cc nL s args Ts own) {x y : Int} (hdg : decode cc pc = .ok (.lsub, 1)) (k : W p l e R s m args below meth c H locs cells slots Q (F0 m (pc + 1) ls (.long (jL (x - y)) :: rest))) : W p l e R s m args below meth c H locs cells slots Q (F0 m (pc) ls (.long (jL y) :: .long (jL x) :: rest)) := lv_lsub S.1 S.2.1 hdg (by rw [jL_sub]; exact k)
theorem z_lmul (S : CallFix p m c cc nL s args Ts own) {x y : Int} (hdg : decode cc pc = .ok (.lmul, 1)) (k : W p l e R s m args below meth c H locs cells slots Q (F0 m (pc + 1) ls (.long (jL (x * y)) :: rest))) : W p l e R s m args below meth c H locs cells slots Q (F0 m (pc) ls (.long (jL y) :: .long (jL x) :: rest)) := lv_lmul S.1 S.2.1 hdg (by rw [jL_mul]; exact k)
theorem z_idiv (S : CallFix p m c cc nL s args Ts own) {x y : Int} (hx : 0 ≤ x ∧ x ≤ 2147483647) (hy : 0 < y ∧ y ≤ 2147483647) (hdg : decode cc pc = .ok (.idiv, 1)) (k : W p l e R s m args below meth c H locs cells slots Q (F0 m (pc + 1) ls (.int (jI (x / y)) :: rest))) : W p l e R s m args below meth c H locs cells slots Q (F0 m (pc) ls (.int (jI y) :: .int (jI x) :: rest)) := lv_idiv S.1 S.2.1 hdg (fun h => by have h2 := (jI_inj (a := y) (b := 0) (by omega) (by omega)).mp h; omega) (by rw [jI_div hx hy]; exact k)
theorem z_irem (S : CallFix p m c cc nL s args Ts own) {x y : Int} (hx : 0 ≤ x ∧ x ≤ 2147483647) (hy : 0 < y ∧ y ≤ 2147483647) (hdg : decode cc pc = .ok (.irem, 1)) (k : W p l e R s m args below meth c H locs cells slots Q (F0 m (pc + 1) ls (.int (jI (x % y)) :: rest))) : W p l e R s m args below meth c H locs cells slots Q (F0 m (pc) ls (.int (jI y) :: .int (jI x) :: rest)) := lv_irem S.1 S.2.1 hdg (fun h => by have h2 := (jI_inj (a := y) (b := 0) (by omega) (by omega)).mp h; omega) (by rw [jI_rem hx hy]; exact k)
theorem z_ldiv (S : CallFix p m c cc nL s args Ts own) {x y : Int} (hx : 0 ≤ x ∧ x ≤ 9223372036854775807) (hy : 0 < y ∧ y ≤ 9223372036854775807) (hdg : decode cc pc = .ok (.ldiv, 1)) (k : W p l e R s m args below meth c H locs cells slots Q (F0 m (pc + 1) ls (.long (jL (x / y)) :: rest))) : W p l e R s m args below meth c H locs cells slots Q (F0 m (pc) ls (.long (jL y) :: .long (jL x) :: rest)) := lv_ldiv S.1 S.2.1 hdg (fun h => by have h2 := (jL_inj (a := y) (b := 0) (by omega) (by omega)).mp h; omega) (by rw [jL_div hx hy]; exact k)
theorem z_lrem (S : CallFix p m c cc nL s args Ts own) {x y : Int} (hx : 0 ≤ x ∧ x ≤ 9223372036854775807) (hy : 0 < y ∧ y ≤ 9223372036854775807) (hdg : decode cc pc = .ok (.lrem, 1)) (k : W p l e R s m args below meth c H locs cells slots Q (F0 m (pc + 1) ls (.long (jL (x % y)) :: rest))) : W p l e R s m args below meth c H locs cells slots Q (F0 m (pc) ls (.long (jL y) :: .long (jL x) :: rest)) := lv_lrem S.1 S.2.1 hdg (fun h => by have h2 := (jL_inj (a := y) (b := 0) (by omega) (by omega)).mp h; omega) (by rw [jL_rem hx hy]; exact k)
theorem z_i2l (S : CallFix p m c cc nL s args Ts own) {x : Int} (hx : (-2147483648 ≤ x ∧ x ≤ 2147483647)) (hdg : decode cc pc = .ok (.i2l, 1)) (k : W p l e R s m args below meth c H locs cells slots Q (F0 m (pc + 1) ls (.long (jL x) :: rest))) : W p l e R s m args below meth c H locs cells slots Q (F0 m (pc) ls (.int (jI x) :: rest)) := lv_i2l S.1 S.2.1 hdg (jI_long hx) k
theorem z_i2b (S : CallFix p m c cc nL s args Ts own) {x : Int} (hdg : decode cc pc = .ok (.i2b, 1)) (k : W p l e R s m args below meth c H locs cells slots Q (F0 m (pc + 1) ls (.int (jI (x.bmod 256)) :: rest))) : W p l e R s m args below meth c H locs cells slots Q (F0 m (pc) ls (.int (jI x) :: rest)) := lv_i2b S.1 S.2.1 hdg (jI_byte x) k
theorem z_i2s (S : CallFix p m c cc nL s args Ts own) {x : Int} (hdg : decode cc pc = .ok (.i2s, 1)) (k : W p l e R s m args below meth c H locs cells slots Q (F0 m (pc + 1) ls (.int (jI (x.bmod 65536)) :: rest))) : W p l e R s m args below meth c H locs cells slots Q (F0 m (pc) ls (.int (jI x) :: rest)) := lv_i2s S.1 S.2.1 hdg (jI_short x) k
theorem z_lcmp (S : CallFix p m c cc nL s args Ts own) {x y : Int} (hx : (-9223372036854775808 ≤ x ∧ x ≤ 9223372036854775807) ∧ (-9223372036854775808 ≤ y ∧ y ≤ 9223372036854775807)) (hdg : decode cc pc = .ok (.lcmp, 1)) (k : ∀ v : Int, ((v = -1 ∧ x < y) ∨ (v = 0 ∧ x = y) ∨ (v = 1 ∧ y < x)) → W p l e R s m args below meth c H locs cells slots Q (F0 m (pc + 1) ls (.int (jI v) :: rest))) : W p l e R s m args below meth c H locs cells slots Q (F0 m (pc) ls (.long (jL y) :: .long (jL x) :: rest)) := by
  refine W.lcmp S.1 S.2.1 hdg ?_
  unfold lg_cmp
  by_cases h1 : y < x
  · rw [if_pos (show jL x > jL y from (jL_lt hx.2 hx.1).mpr h1)]
    exact k 1 (Or.inr (Or.inr ⟨rfl, h1⟩))
  · rw [if_neg (fun q : jL x > jL y => h1 ((jL_lt hx.2 hx.1).mp q))]
    by_cases h2 : x = y
    · rw [if_pos (congrArg jL h2)]
      exact k 0 (Or.inr (Or.inl ⟨rfl, h2⟩))
    · rw [if_neg (fun q => h2 ((jL_inj hx.1 hx.2).mp q))]
      exact k (-1) (Or.inl ⟨rfl, by omega⟩)
theorem z_icmp_lt (S : CallFix p m c cc nL s args Ts own) {x y : Int} {off : Int} {tgt : Nat} (hdg : decode cc pc = .ok (.if_icmp .lt off, 3)) (ht : (pc : Int) + off = (tgt : Int)) (hr : (-2147483648 ≤ x ∧ x ≤ 2147483647) ∧ (-2147483648 ≤ y ∧ y ≤ 2147483647)) (kt : x < y → W p l e R s m args below meth c H locs cells slots Q (F0 m (tgt) ls (rest))) (kf : y ≤ x → W p l e R s m args below meth c H locs cells slots Q (F0 m (pc + 3) ls (rest))) : W p l e R s m args below meth c H locs cells slots Q (F0 m (pc) ls (.int (jI y) :: .int (jI x) :: rest)) := lv_icmp_lt S.1 S.2.1 hdg ht (fun h => kt ((jI_lt hr.1 hr.2).mp h)) (fun h => kf (Int.not_lt.mp (fun q => h ((jI_lt hr.1 hr.2).mpr q))))
theorem z_if_lt (S : CallFix p m c cc nL s args Ts own) {x : Int} {off : Int} {tgt : Nat} (hdg : decode cc pc = .ok (.ifCond .lt off, 3)) (ht : (pc : Int) + off = (tgt : Int)) (hr : (-2147483648 ≤ x ∧ x ≤ 2147483647)) (kt : x < 0 → W p l e R s m args below meth c H locs cells slots Q (F0 m (tgt) ls (rest))) (kf : 0 ≤ x → W p l e R s m args below meth c H locs cells slots Q (F0 m (pc + 3) ls (rest))) : W p l e R s m args below meth c H locs cells slots Q (F0 m (pc) ls (.int (jI x) :: rest)) := lv_if_lt S.1 S.2.1 hdg ht (fun h => kt ((jI_lt hr (show -2147483648 ≤ (0 : Int) ∧ (0 : Int) ≤ 2147483647 by omega)).mp h)) (fun h => kf (Int.not_lt.mp (fun q => h ((jI_lt hr (show -2147483648 ≤ (0 : Int) ∧ (0 : Int) ≤ 2147483647 by omega)).mpr q))))
theorem z_icmp_ge (S : CallFix p m c cc nL s args Ts own) {x y : Int} {off : Int} {tgt : Nat} (hdg : decode cc pc = .ok (.if_icmp .ge off, 3)) (ht : (pc : Int) + off = (tgt : Int)) (hr : (-2147483648 ≤ x ∧ x ≤ 2147483647) ∧ (-2147483648 ≤ y ∧ y ≤ 2147483647)) (kt : y ≤ x → W p l e R s m args below meth c H locs cells slots Q (F0 m (tgt) ls (rest))) (kf : x < y → W p l e R s m args below meth c H locs cells slots Q (F0 m (pc + 3) ls (rest))) : W p l e R s m args below meth c H locs cells slots Q (F0 m (pc) ls (.int (jI y) :: .int (jI x) :: rest)) := lv_icmp_ge S.1 S.2.1 hdg ht (fun h => kt ((jI_le hr.2 hr.1).mp h)) (fun h => kf (Int.not_le.mp (fun q => h ((jI_le hr.2 hr.1).mpr q))))
theorem z_if_ge (S : CallFix p m c cc nL s args Ts own) {x : Int} {off : Int} {tgt : Nat} (hdg : decode cc pc = .ok (.ifCond .ge off, 3)) (ht : (pc : Int) + off = (tgt : Int)) (hr : (-2147483648 ≤ x ∧ x ≤ 2147483647)) (kt : 0 ≤ x → W p l e R s m args below meth c H locs cells slots Q (F0 m (tgt) ls (rest))) (kf : x < 0 → W p l e R s m args below meth c H locs cells slots Q (F0 m (pc + 3) ls (rest))) : W p l e R s m args below meth c H locs cells slots Q (F0 m (pc) ls (.int (jI x) :: rest)) := lv_if_ge S.1 S.2.1 hdg ht (fun h => kt ((jI_le (show -2147483648 ≤ (0 : Int) ∧ (0 : Int) ≤ 2147483647 by omega) hr).mp h)) (fun h => kf (Int.not_le.mp (fun q => h ((jI_le (show -2147483648 ≤ (0 : Int) ∧ (0 : Int) ≤ 2147483647 by omega) hr).mpr q))))
theorem z_icmp_gt (S : CallFix p m c cc nL s args Ts own) {x y : Int} {off : Int} {tgt : Nat} (hdg : decode cc pc = .ok (.if_icmp .gt off, 3)) (ht : (pc : Int) + off = (tgt : Int)) (hr : (-2147483648 ≤ x ∧ x ≤ 2147483647) ∧ (-2147483648 ≤ y ∧ y ≤ 2147483647)) (kt : y < x → W p l e R s m args below meth c H locs cells slots Q (F0 m (tgt) ls (rest))) (kf : x ≤ y → W p l e R s m args below meth c H locs cells slots Q (F0 m (pc + 3) ls (rest))) : W p l e R s m args below meth c H locs cells slots Q (F0 m (pc) ls (.int (jI y) :: .int (jI x) :: rest)) := lv_icmp_gt S.1 S.2.1 hdg ht (fun h => kt ((jI_lt hr.2 hr.1).mp h)) (fun h => kf (Int.not_lt.mp (fun q => h ((jI_lt hr.2 hr.1).mpr q))))
theorem z_if_gt (S : CallFix p m c cc nL s args Ts own) {x : Int} {off : Int} {tgt : Nat} (hdg : decode cc pc = .ok (.ifCond .gt off, 3)) (ht : (pc : Int) + off = (tgt : Int)) (hr : (-2147483648 ≤ x ∧ x ≤ 2147483647)) (kt : 0 < x → W p l e R s m args below meth c H locs cells slots Q (F0 m (tgt) ls (rest))) (kf : x ≤ 0 → W p l e R s m args below meth c H locs cells slots Q (F0 m (pc + 3) ls (rest))) : W p l e R s m args below meth c H locs cells slots Q (F0 m (pc) ls (.int (jI x) :: rest)) := lv_if_gt S.1 S.2.1 hdg ht (fun h => kt ((jI_lt (show -2147483648 ≤ (0 : Int) ∧ (0 : Int) ≤ 2147483647 by omega) hr).mp h)) (fun h => kf (Int.not_lt.mp (fun q => h ((jI_lt (show -2147483648 ≤ (0 : Int) ∧ (0 : Int) ≤ 2147483647 by omega) hr).mpr q))))
theorem z_icmp_le (S : CallFix p m c cc nL s args Ts own) {x y : Int} {off : Int} {tgt : Nat} (hdg : decode cc pc = .ok (.if_icmp .le off, 3)) (ht : (pc : Int) + off = (tgt : Int)) (hr : (-2147483648 ≤ x ∧ x ≤ 2147483647) ∧ (-2147483648 ≤ y ∧ y ≤ 2147483647)) (kt : x ≤ y → W p l e R s m args below meth c H locs cells slots Q (F0 m (tgt) ls (rest))) (kf : y < x → W p l e R s m args below meth c H locs cells slots Q (F0 m (pc + 3) ls (rest))) : W p l e R s m args below meth c H locs cells slots Q (F0 m (pc) ls (.int (jI y) :: .int (jI x) :: rest)) := lv_icmp_le S.1 S.2.1 hdg ht (fun h => kt ((jI_le hr.1 hr.2).mp h)) (fun h => kf (Int.not_le.mp (fun q => h ((jI_le hr.1 hr.2).mpr q))))
theorem z_if_le (S : CallFix p m c cc nL s args Ts own) {x : Int} {off : Int} {tgt : Nat} (hdg : decode cc pc = .ok (.ifCond .le off, 3)) (ht : (pc : Int) + off = (tgt : Int)) (hr : (-2147483648 ≤ x ∧ x ≤ 2147483647)) (kt : x ≤ 0 → W p l e R s m args below meth c H locs cells slots Q (F0 m (tgt) ls (rest))) (kf : 0 < x → W p l e R s m args below meth c H locs cells slots Q (F0 m (pc + 3) ls (rest))) : W p l e R s m args below meth c H locs cells slots Q (F0 m (pc) ls (.int (jI x) :: rest)) := lv_if_le S.1 S.2.1 hdg ht (fun h => kt ((jI_le hr (show -2147483648 ≤ (0 : Int) ∧ (0 : Int) ≤ 2147483647 by omega)).mp h)) (fun h => kf (Int.not_le.mp (fun q => h ((jI_le hr (show -2147483648 ≤ (0 : Int) ∧ (0 : Int) ≤ 2147483647 by omega)).mpr q))))
theorem z_icmp_eq (S : CallFix p m c cc nL s args Ts own) {x y : Int} {off : Int} {tgt : Nat} (hdg : decode cc pc = .ok (.if_icmp .eq off, 3)) (ht : (pc : Int) + off = (tgt : Int)) (hr : (-2147483648 ≤ x ∧ x ≤ 2147483647) ∧ (-2147483648 ≤ y ∧ y ≤ 2147483647)) (kt : x = y → W p l e R s m args below meth c H locs cells slots Q (F0 m (tgt) ls (rest))) (kf : x ≠ y → W p l e R s m args below meth c H locs cells slots Q (F0 m (pc + 3) ls (rest))) : W p l e R s m args below meth c H locs cells slots Q (F0 m (pc) ls (.int (jI y) :: .int (jI x) :: rest)) := lv_icmp_eq S.1 S.2.1 hdg ht (fun h => kt ((jI_inj hr.1 hr.2).mp h)) (fun h => kf (fun q => h ((jI_inj hr.1 hr.2).mpr q)))
theorem z_if_eq (S : CallFix p m c cc nL s args Ts own) {x : Int} {off : Int} {tgt : Nat} (hdg : decode cc pc = .ok (.ifCond .eq off, 3)) (ht : (pc : Int) + off = (tgt : Int)) (hr : (-2147483648 ≤ x ∧ x ≤ 2147483647)) (kt : x = 0 → W p l e R s m args below meth c H locs cells slots Q (F0 m (tgt) ls (rest))) (kf : x ≠ 0 → W p l e R s m args below meth c H locs cells slots Q (F0 m (pc + 3) ls (rest))) : W p l e R s m args below meth c H locs cells slots Q (F0 m (pc) ls (.int (jI x) :: rest)) := lv_if_eq S.1 S.2.1 hdg ht (fun h => kt ((jI_inj hr (show -2147483648 ≤ (0 : Int) ∧ (0 : Int) ≤ 2147483647 by omega)).mp h)) (fun h => kf (fun q => h ((jI_inj hr (show -2147483648 ≤ (0 : Int) ∧ (0 : Int) ≤ 2147483647 by omega)).mpr q)))
theorem z_icmp_ne (S : CallFix p m c cc nL s args Ts own) {x y : Int} {off : Int} {tgt : Nat} (hdg : decode cc pc = .ok (.if_icmp .ne off, 3)) (ht : (pc : Int) + off = (tgt : Int)) (hr : (-2147483648 ≤ x ∧ x ≤ 2147483647) ∧ (-2147483648 ≤ y ∧ y ≤ 2147483647)) (kt : x ≠ y → W p l e R s m args below meth c H locs cells slots Q (F0 m (tgt) ls (rest))) (kf : x = y → W p l e R s m args below meth c H locs cells slots Q (F0 m (pc + 3) ls (rest))) : W p l e R s m args below meth c H locs cells slots Q (F0 m (pc) ls (.int (jI y) :: .int (jI x) :: rest)) := lv_icmp_ne S.1 S.2.1 hdg ht (fun h => kt (fun q => h (congrArg jI q))) (fun h => kf ((jI_inj hr.1 hr.2).mp h))
theorem z_if_ne (S : CallFix p m c cc nL s args Ts own) {x : Int} {off : Int} {tgt : Nat} (hdg : decode cc pc = .ok (.ifCond .ne off, 3)) (ht : (pc : Int) + off = (tgt : Int)) (hr : (-2147483648 ≤ x ∧ x ≤ 2147483647)) (kt : x ≠ 0 → W p l e R s m args below meth c H locs cells slots Q (F0 m (tgt) ls (rest))) (kf : x = 0 → W p l e R s m args below meth c H locs cells slots Q (F0 m (pc + 3) ls (rest))) : W p l e R s m args below meth c H locs cells slots Q (F0 m (pc) ls (.int (jI x) :: rest)) := lv_if_ne S.1 S.2.1 hdg ht (fun h => kt (fun q => h (congrArg jI q))) (fun h => kf ((jI_inj hr (by omega)).mp h))
theorem z_goto (S : CallFix p m c cc nL s args Ts own) {off : Int} {tgt : Nat} (hdg : decode cc pc = .ok (.goto off, 3)) (ht : (pc : Int) + off = (tgt : Int)) (k : W p l e R s m args below meth c H locs cells slots Q (F0 m (tgt) ls (rest))) : W p l e R s m args below meth c H locs cells slots Q (F0 m (pc) ls (rest)) := lv_goto S.1 S.2.1 hdg ht k
theorem z_iinc (S : CallFix p m c cc nL s args Ts own) {i k : Nat} {n x : Int} {lv lv' : List (Nat × Value)} (h : lv_has ls nL lv) (hk : lv[k]? = some (i, .int (jI x))) (hn : i < nL) (hl : (i, Value.int (jI (x + n))) :: lv.filter (fun q => !(q.1 == i) && !(q.1 + 1 == i && q.2.category == 2)) = lv') (hdg : decode cc pc = .ok (.iinc i n, 3)) (kk : ∀ ls' : Array Slot, lv_has ls' nL lv' → W p l e R s m args below meth c H locs cells slots Q (F0 m (pc + 3) ls' (rest))) : W p l e R s m args below meth c H locs cells slots Q (F0 m (pc) ls (rest)) := lv_iinc (v := jI (x + n)) S.1 S.2.1 hdg h hk (jI_add x n) hn hl kk
end ZW
end
section
/-! the classes' worlds: E = (what the kit calls D, the classes of int rows, of boolean rows, of rows of people) -/
abbrev zE : Type := va_G × (ClassId × (ClassId × ClassId))
abbrev zT (E : zE) : List (ClassId × FieldType) := [(E.2.1, .int), (E.2.2.1, .boolean), (E.2.2.2, .object "LivingNumbers$Named")]
abbrev zP (E : zE) (ws : va_W) (H : Heap) : Prop := va_P E.1 vwCl ws H
abbrev zK (E : zE) (s : State) : Prop := va_K E.1 vwCl (zT E) s
abbrev eI (E : zE) (n : Nat) (f : Int → Int) : va_E := .inl (E.2.1, n, .inl (aI f))
abbrev eZ (E : zE) (n : Nat) (f : Int → Int) : va_E := .inl (E.2.2.1, n, .inl (aI f))
abbrev eN (E : zE) (n : Nat) (f : Nat → Option Nat) : va_E := .inl (E.2.2.2, n, .inr (.inr (.inr (.inr f))))
/-- a method that changes nothing: contracts (int, long, reference or null) -/
def zQi (post : Int → Prop) : Array Value → State → Outcome → State → Prop := fun _ st oc t => (∃ r : Int, oc = .returned (some (.int (jI r))) ∧ post r) ∧ t.heap = st.heap
def zQl (post : Int → Prop) : Array Value → State → Outcome → State → Prop := fun _ st oc t => (∃ r : Int, oc = .returned (some (.long (jL r))) ∧ post r) ∧ t.heap = st.heap
def zQq (post : Option Nat → Prop) : Array Value → State → Outcome → State → Prop := fun _ st oc t => (∃ r : Option Nat, oc = .returned (some (va_rf r)) ∧ post r) ∧ t.heap = st.heap
def zPc (E : zE) (av : List Value) (G : Heap → Prop) : Array Value → State → Prop := va_Pc av (fun U => G U.heap ∧ zK E U)
def zRi (l : Launch) (E : zE) (y : MethodName) (wsy : List Cond) (rm : Room) (av : List Value) (G : Heap → Prop) (post : Int → Prop) : Prop := Met l y wsy rm (zPc E av G) (zQi post) 0 0 (fun _ => False)
def zRl (l : Launch) (E : zE) (y : MethodName) (wsy : List Cond) (rm : Room) (av : List Value) (G : Heap → Prop) (post : Int → Prop) : Prop := Met l y wsy rm (zPc E av G) (zQl post) 0 0 (fun _ => False)
def zRq (l : Launch) (E : zE) (y : MethodName) (wsy : List Cond) (rm : Room) (av : List Value) (G : Heap → Prop) (post : Option Nat → Prop) : Prop := Met l y wsy rm (zPc E av G) (zQq post) 0 0 (fun _ => False)
/-- a method that changes its world's cells: contracts (int, long, nothing) -/
def zQMi {S : Type} (E : zE) (ws : va_W) (sz : Nat) (post : Int → S → Prop) (ws' : S → va_W) : Array Value → State → Outcome → State → Prop := fun _ st oc t => (∃ (r : Int) (u : S), oc = .returned (some (.int (jI r))) ∧ post r u ∧ zP E (ws' u) t.heap ∧ va_D (va_A ws sz) (ws' u)) ∧ va_F (va_A ws sz) st t
def zQMl {S : Type} (E : zE) (ws : va_W) (sz : Nat) (post : Int → S → Prop) (ws' : S → va_W) : Array Value → State → Outcome → State → Prop := fun _ st oc t => (∃ (r : Int) (u : S), oc = .returned (some (.long (jL r))) ∧ post r u ∧ zP E (ws' u) t.heap ∧ va_D (va_A ws sz) (ws' u)) ∧ va_F (va_A ws sz) st t
def zQMv {S : Type} (E : zE) (ws : va_W) (sz : Nat) (post : S → Prop) (ws' : S → va_W) : Array Value → State → Outcome → State → Prop := fun _ st oc t => (∃ u : S, oc = .returned none ∧ post u ∧ zP E (ws' u) t.heap ∧ va_D (va_A ws sz) (ws' u)) ∧ va_F (va_A ws sz) st t
def zPm (E : zE) (av : List Value) (ws : va_W) (sz : Nat) (G : Heap → Prop) : Array Value → State → Prop := va_Pc av (fun U => U.heap.size = sz ∧ zP E ws U.heap ∧ zK E U ∧ va_D (fun _ => True) ws ∧ G U.heap)
def zMi {S : Type} (l : Launch) (E : zE) (y : MethodName) (wsy : List Cond) (rm : Room) (av : List Value) (ws : va_W) (G : Heap → Prop) (post : Int → S → Prop) (ws' : S → va_W) (mc ms : Nat) : Prop := ∀ sz, Met l y wsy rm (zPm E av ws sz G) (zQMi E ws sz post ws') mc ms (va_A ws sz)
def zMl {S : Type} (l : Launch) (E : zE) (y : MethodName) (wsy : List Cond) (rm : Room) (av : List Value) (ws : va_W) (G : Heap → Prop) (post : Int → S → Prop) (ws' : S → va_W) (mc ms : Nat) : Prop := ∀ sz, Met l y wsy rm (zPm E av ws sz G) (zQMl E ws sz post ws') mc ms (va_A ws sz)
def zMv {S : Type} (l : Launch) (E : zE) (y : MethodName) (wsy : List Cond) (rm : Room) (av : List Value) (ws : va_W) (G : Heap → Prop) (post : S → Prop) (ws' : S → va_W) (mc ms : Nat) : Prop := ∀ sz, Met l y wsy rm (zPm E av ws sz G) (zQMv E ws sz post ws') mc ms (va_A ws sz)
theorem zPc_blind {E : zE} {av : List Value} {G : Heap → Prop} : FrameBlind (zPc E av G) := fun a U g mk q => ⟨q.1, q.2.1, va_K.moved (u := U) (U := U.calling g mk a) (Vm.Alike.refl U.vm) q.2.2⟩
theorem zPm_blind {E : zE} {av : List Value} {ws : va_W} {sz : Nat} {G : Heap → Prop} : FrameBlind (zPm E av ws sz G) := fun a U g mk q => ⟨q.1, q.2.1, q.2.2.1, va_K.moved (u := U) (U := U.calling g mk a) (Vm.Alike.refl U.vm) q.2.2.2.1, q.2.2.2.2⟩
section ZR
variable {l : Launch} {E : zE} {y : MethodName} {wsy ws' : List Cond} {k : Nat} {av : List Value} {G : Heap → Prop} {cc : ByteArray} {maxL : Nat} {rt : FieldType} {own : String}
theorem zRi_of {post : Int → Prop} (hy : plainName y.cls = true) (hw : wsy = Cond.code y cc maxL (some .int) :: ws') (hlen : (lg_sl av).length ≤ maxL) (ho : y.cls = own)
    (body : ∀ (p : Program) (e : Env) (s : State) (m : MethodId) (args : Array Value) (below : List Frame) (meth : Method) (c : Code) (Q : State → Prop), CallFix p m c cc maxL s args wsy own → zK E s → G s.heap → (∀ r : Int, post r → ∀ (pc : Nat) (ls : Array Slot), decode cc pc = .ok (.ireturn, 1) → W p l e (zr k 0 0) s m args below meth c s.heap [] 0 0 Q (F0 m pc ls [.int (jI r)])) → ∀ ls : Array Slot, lv_has ls maxL (lv_args 0 av) → W p l e (zr k 0 0) s m args below meth c s.heap [] 0 0 Q (F0 m 0 ls [])) : zRi l E y wsy (zr k 0 0) av G post := by
  refine Met.ofW (cc := cc) (maxL := maxL) (ret := some .int) hy hw ?_
  intro p e s m args below meth c s₁ B hml hv
  obtain ⟨rfl, hG, hK⟩ := hv
  have hr := B.returns
  have hlocks := B.notSynchronized
  have S : CallFix p m c cc maxL s av.toArray wsy own := ⟨B.exec, B.bytes, hml, by rw [← ho]; exact findClass_of_methodNamed B.named, atoms_spec (ws := wsy) B.pre⟩
  have hl := lv_entry av (n := maxL) hlen
  rw [lg_entry_eq]
  exact body p e s m _ below meth c _ S hK hG (fun r hp pc ls hd => W.iret (v := jI r) S.1 S.2.1 hr (fun t ht hW => ⟨⟨r, rfl, hp⟩, ht⟩) (fun q h => by cases h) hd) _ hl
theorem zRz_of {post : Int → Prop} (hy : plainName y.cls = true) (hw : wsy = Cond.code y cc maxL (some .boolean) :: ws') (hlen : (lg_sl av).length ≤ maxL) (ho : y.cls = own)
    (body : ∀ (p : Program) (e : Env) (s : State) (m : MethodId) (args : Array Value) (below : List Frame) (meth : Method) (c : Code) (Q : State → Prop), CallFix p m c cc maxL s args wsy own → zK E s → G s.heap → (∀ r : Int, (r = 0 ∨ r = 1) → post r → ∀ (pc : Nat) (ls : Array Slot), decode cc pc = .ok (.ireturn, 1) → W p l e (zr k 0 0) s m args below meth c s.heap [] 0 0 Q (F0 m pc ls [.int (jI r)])) → ∀ ls : Array Slot, lv_has ls maxL (lv_args 0 av) → W p l e (zr k 0 0) s m args below meth c s.heap [] 0 0 Q (F0 m 0 ls [])) : zRi l E y wsy (zr k 0 0) av G post := by
  refine Met.ofW (cc := cc) (maxL := maxL) (ret := some .boolean) hy hw ?_
  intro p e s m args below meth c s₁ B hml hv
  obtain ⟨rfl, hG, hK⟩ := hv
  have hr := B.returns
  have hlocks := B.notSynchronized
  have S : CallFix p m c cc maxL s av.toArray wsy own := ⟨B.exec, B.bytes, hml, by rw [← ho]; exact findClass_of_methodNamed B.named, atoms_spec (ws := wsy) B.pre⟩
  have hl := lv_entry av (n := maxL) hlen
  rw [lg_entry_eq]
  exact body p e s m _ below meth c _ S hK hG (fun r h01 hp pc ls hd => W.zret (v := jI r) S.1 S.2.1 hr (by rcases h01 with rfl | rfl <;> decide +kernel) (fun t ht hW => ⟨⟨r, rfl, hp⟩, ht⟩) (fun q h => by cases h) hd) _ hl
theorem zRl_of {post : Int → Prop} (hy : plainName y.cls = true) (hw : wsy = Cond.code y cc maxL (some .long) :: ws') (hlen : (lg_sl av).length ≤ maxL) (ho : y.cls = own)
    (body : ∀ (p : Program) (e : Env) (s : State) (m : MethodId) (args : Array Value) (below : List Frame) (meth : Method) (c : Code) (Q : State → Prop), CallFix p m c cc maxL s args wsy own → zK E s → G s.heap → (∀ r : Int, post r → ∀ (pc : Nat) (ls : Array Slot), decode cc pc = .ok (.lreturn, 1) → W p l e (zr k 0 0) s m args below meth c s.heap [] 0 0 Q (F0 m pc ls [.long (jL r)])) → ∀ ls : Array Slot, lv_has ls maxL (lv_args 0 av) → W p l e (zr k 0 0) s m args below meth c s.heap [] 0 0 Q (F0 m 0 ls [])) : zRl l E y wsy (zr k 0 0) av G post := by
  refine Met.ofW (cc := cc) (maxL := maxL) (ret := some .long) hy hw ?_
  intro p e s m args below meth c s₁ B hml hv
  obtain ⟨rfl, hG, hK⟩ := hv
  have hr := B.returns
  have hlocks := B.notSynchronized
  have S : CallFix p m c cc maxL s av.toArray wsy own := ⟨B.exec, B.bytes, hml, by rw [← ho]; exact findClass_of_methodNamed B.named, atoms_spec (ws := wsy) B.pre⟩
  have hl := lv_entry av (n := maxL) hlen
  rw [lg_entry_eq]
  exact body p e s m _ below meth c _ S hK hG (fun r hp pc ls hd => W.lret (v := jL r) S.1 S.2.1 hr (fun t ht hW => ⟨⟨r, rfl, hp⟩, ht⟩) (fun q h => by cases h) hd) _ hl
theorem zRq_of {post : Option Nat → Prop} {cn : String} (hy : plainName y.cls = true) (hw : wsy = Cond.code y cc maxL (some (.object cn)) :: ws') (hlen : (lg_sl av).length ≤ maxL) (ho : y.cls = own)
    (body : ∀ (p : Program) (e : Env) (s : State) (m : MethodId) (args : Array Value) (below : List Frame) (meth : Method) (c : Code) (Q : State → Prop), CallFix p m c cc maxL s args wsy own → zK E s → G s.heap → (∀ r : Option Nat, post r → ∀ (pc : Nat) (ls : Array Slot), decode cc pc = .ok (.areturn, 1) → W p l e (zr k 0 0) s m args below meth c s.heap [] 0 0 Q (F0 m pc ls [va_rf r])) → ∀ ls : Array Slot, lv_has ls maxL (lv_args 0 av) → W p l e (zr k 0 0) s m args below meth c s.heap [] 0 0 Q (F0 m 0 ls [])) : zRq l E y wsy (zr k 0 0) av G post := by
  refine Met.ofW (cc := cc) (maxL := maxL) (ret := some (.object cn)) hy hw ?_
  intro p e s m args below meth c s₁ B hml hv
  obtain ⟨rfl, hG, hK⟩ := hv
  have hr := B.returns
  have hlocks := B.notSynchronized
  have S : CallFix p m c cc maxL s av.toArray wsy own := ⟨B.exec, B.bytes, hml, by rw [← ho]; exact findClass_of_methodNamed B.named, atoms_spec (ws := wsy) B.pre⟩
  have hl := lv_entry av (n := maxL) hlen
  rw [lg_entry_eq]
  exact body p e s m _ below meth c _ S hK hG (fun r hp pc ls hd => W.aret (v := va_rf r) S.1 S.2.1 hr (Or.inl ⟨cn, rfl⟩) (by cases r with | none => exact Or.inl rfl | some a => exact Or.inr ⟨a, rfl⟩) (fun t ht hW => ⟨⟨r, rfl, hp⟩, ht⟩) (fun q h => by cases h) hd) _ hl
theorem zMi_of {S : Type} {ws : va_W} {post : Int → S → Prop} {wsF : S → va_W} {mc ms : Nat} (hy : plainName y.cls = true) (hw : wsy = Cond.code y cc maxL (some .int) :: ws') (hlen : (lg_sl av).length ≤ maxL) (ho : y.cls = own)
    (body : ∀ (p : Program) (e : Env) (s : State) (m : MethodId) (args : Array Value) (below : List Frame) (meth : Method) (c : Code) (Q : State → Prop) (A : Nat → Prop), CallFix p m c cc maxL s args wsy own → zK E s → (∀ q, s.heap.size ≤ q → A q) → va_S A s.heap s.heap [] → zP E ws s.heap → va_D A ws → va_A ws s.heap.size = A → G s.heap → (∀ (r : Int) (u : S) (H : Heap) (locs : List Loc), post r u → zP E (wsF u) H → va_D A (wsF u) → va_S A s.heap H locs → ∀ (pc : Nat) (ls : Array Slot), decode cc pc = .ok (.ireturn, 1) → W p l e (zr k mc ms) s m args below meth c H locs mc ms Q (F0 m pc ls [.int (jI r)])) → ∀ ls : Array Slot, lv_has ls maxL (lv_args 0 av) → W p l e (zr k mc ms) s m args below meth c s.heap [] 0 0 Q (F0 m 0 ls [])) : zMi l E y wsy (zr k mc ms) av ws G post wsF mc ms := by
  intro sz
  refine Met.ofW (cc := cc) (maxL := maxL) (ret := some .int) hy hw ?_
  intro p e s m args below meth c s₁ B hml hv
  obtain ⟨rfl, hsz, hP, hK, hD0, hG⟩ := hv
  have hr := B.returns
  have hlocks := B.notSynchronized
  subst hsz
  have hD := hD0.self (sz := s.heap.size)
  have S0 : CallFix p m c cc maxL s av.toArray wsy own := ⟨B.exec, B.bytes, hml, by rw [← ho]; exact findClass_of_methodNamed B.named, atoms_spec (ws := wsy) B.pre⟩
  have hl := lv_entry av (n := maxL) hlen
  rw [lg_entry_eq]
  have S := S0
  exact body p e s m _ below meth c _ _ S0 hK (fun q h => Or.inr h) va_S.rf hP hD rfl hG (fun r u H locs hp hP hD hS pc ls hd => W.iret (v := jI r) S.1 S.2.1 hr (fun t ht hW => ⟨⟨r, u, rfl, hp, by rw [ht]; exact hP, hD⟩, hS.F ht⟩) hS.2.2 hd) _ hl
theorem zMz_of {S : Type} {ws : va_W} {post : Int → S → Prop} {wsF : S → va_W} {mc ms : Nat} (hy : plainName y.cls = true) (hw : wsy = Cond.code y cc maxL (some .boolean) :: ws') (hlen : (lg_sl av).length ≤ maxL) (ho : y.cls = own)
    (body : ∀ (p : Program) (e : Env) (s : State) (m : MethodId) (args : Array Value) (below : List Frame) (meth : Method) (c : Code) (Q : State → Prop) (A : Nat → Prop), CallFix p m c cc maxL s args wsy own → zK E s → (∀ q, s.heap.size ≤ q → A q) → va_S A s.heap s.heap [] → zP E ws s.heap → va_D A ws → va_A ws s.heap.size = A → G s.heap → (∀ (r : Int) (u : S) (H : Heap) (locs : List Loc), (r = 0 ∨ r = 1) → post r u → zP E (wsF u) H → va_D A (wsF u) → va_S A s.heap H locs → ∀ (pc : Nat) (ls : Array Slot), decode cc pc = .ok (.ireturn, 1) → W p l e (zr k mc ms) s m args below meth c H locs mc ms Q (F0 m pc ls [.int (jI r)])) → ∀ ls : Array Slot, lv_has ls maxL (lv_args 0 av) → W p l e (zr k mc ms) s m args below meth c s.heap [] 0 0 Q (F0 m 0 ls [])) : zMi l E y wsy (zr k mc ms) av ws G post wsF mc ms := by
  intro sz
  refine Met.ofW (cc := cc) (maxL := maxL) (ret := some .boolean) hy hw ?_
  intro p e s m args below meth c s₁ B hml hv
  obtain ⟨rfl, hsz, hP, hK, hD0, hG⟩ := hv
  have hr := B.returns
  have hlocks := B.notSynchronized
  subst hsz
  have hD := hD0.self (sz := s.heap.size)
  have S0 : CallFix p m c cc maxL s av.toArray wsy own := ⟨B.exec, B.bytes, hml, by rw [← ho]; exact findClass_of_methodNamed B.named, atoms_spec (ws := wsy) B.pre⟩
  have hl := lv_entry av (n := maxL) hlen
  rw [lg_entry_eq]
  have S := S0
  exact body p e s m _ below meth c _ _ S0 hK (fun q h => Or.inr h) va_S.rf hP hD rfl hG (fun r u H locs h01 hp hP hD hS pc ls hd => W.zret (v := jI r) S.1 S.2.1 hr (by rcases h01 with rfl | rfl <;> decide +kernel) (fun t ht hW => ⟨⟨r, u, rfl, hp, by rw [ht]; exact hP, hD⟩, hS.F ht⟩) hS.2.2 hd) _ hl
theorem zMl_of {S : Type} {ws : va_W} {post : Int → S → Prop} {wsF : S → va_W} {mc ms : Nat} (hy : plainName y.cls = true) (hw : wsy = Cond.code y cc maxL (some .long) :: ws') (hlen : (lg_sl av).length ≤ maxL) (ho : y.cls = own)
    (body : ∀ (p : Program) (e : Env) (s : State) (m : MethodId) (args : Array Value) (below : List Frame) (meth : Method) (c : Code) (Q : State → Prop) (A : Nat → Prop), CallFix p m c cc maxL s args wsy own → zK E s → (∀ q, s.heap.size ≤ q → A q) → va_S A s.heap s.heap [] → zP E ws s.heap → va_D A ws → va_A ws s.heap.size = A → G s.heap → (∀ (r : Int) (u : S) (H : Heap) (locs : List Loc), post r u → zP E (wsF u) H → va_D A (wsF u) → va_S A s.heap H locs → ∀ (pc : Nat) (ls : Array Slot), decode cc pc = .ok (.lreturn, 1) → W p l e (zr k mc ms) s m args below meth c H locs mc ms Q (F0 m pc ls [.long (jL r)])) → ∀ ls : Array Slot, lv_has ls maxL (lv_args 0 av) → W p l e (zr k mc ms) s m args below meth c s.heap [] 0 0 Q (F0 m 0 ls [])) : zMl l E y wsy (zr k mc ms) av ws G post wsF mc ms := by
  intro sz
  refine Met.ofW (cc := cc) (maxL := maxL) (ret := some .long) hy hw ?_
  intro p e s m args below meth c s₁ B hml hv
  obtain ⟨rfl, hsz, hP, hK, hD0, hG⟩ := hv
  have hr := B.returns
  have hlocks := B.notSynchronized
  subst hsz
  have hD := hD0.self (sz := s.heap.size)
  have S0 : CallFix p m c cc maxL s av.toArray wsy own := ⟨B.exec, B.bytes, hml, by rw [← ho]; exact findClass_of_methodNamed B.named, atoms_spec (ws := wsy) B.pre⟩
  have hl := lv_entry av (n := maxL) hlen
  rw [lg_entry_eq]
  have S := S0
  exact body p e s m _ below meth c _ _ S0 hK (fun q h => Or.inr h) va_S.rf hP hD rfl hG (fun r u H locs hp hP hD hS pc ls hd => W.lret (v := jL r) S.1 S.2.1 hr (fun t ht hW => ⟨⟨r, u, rfl, hp, by rw [ht]; exact hP, hD⟩, hS.F ht⟩) hS.2.2 hd) _ hl
theorem zMv_of {S : Type} {ws : va_W} {post : S → Prop} {wsF : S → va_W} {mc ms : Nat} (hy : plainName y.cls = true) (hw : wsy = Cond.code y cc maxL (none) :: ws') (hlen : (lg_sl av).length ≤ maxL) (ho : y.cls = own)
    (body : ∀ (p : Program) (e : Env) (s : State) (m : MethodId) (args : Array Value) (below : List Frame) (meth : Method) (c : Code) (Q : State → Prop) (A : Nat → Prop), CallFix p m c cc maxL s args wsy own → zK E s → meth.name = y.name → (∀ q, s.heap.size ≤ q → A q) → va_S A s.heap s.heap [] → zP E ws s.heap → va_D A ws → va_A ws s.heap.size = A → G s.heap → (∀ (u : S) (H : Heap) (locs : List Loc), post u → zP E (wsF u) H → va_D A (wsF u) → va_S A s.heap H locs → ∀ (pc : Nat) (ls : Array Slot), decode cc pc = .ok (.return_, 1) → W p l e (zr k mc ms) s m args below meth c H locs mc ms Q (F0 m pc ls [])) → ∀ ls : Array Slot, lv_has ls maxL (lv_args 0 av) → W p l e (zr k mc ms) s m args below meth c s.heap [] 0 0 Q (F0 m 0 ls [])) : zMv l E y wsy (zr k mc ms) av ws G post wsF mc ms := by
  intro sz
  refine Met.ofW (cc := cc) (maxL := maxL) (ret := none) hy hw ?_
  intro p e s m args below meth c s₁ B hml hv
  obtain ⟨rfl, hsz, hP, hK, hD0, hG⟩ := hv
  have hr := B.returns
  have hlocks := B.notSynchronized
  subst hsz
  have hD := hD0.self (sz := s.heap.size)
  have S0 : CallFix p m c cc maxL s av.toArray wsy own := ⟨B.exec, B.bytes, hml, by rw [← ho]; exact findClass_of_methodNamed B.named, atoms_spec (ws := wsy) B.pre⟩
  have hl := lv_entry av (n := maxL) hlen
  rw [lg_entry_eq]
  have S := S0
  exact body p e s m _ below meth c _ _ S0 hK (name_of_methodNamed B.named B.method).1 (fun q h => Or.inr h) va_S.rf hP hD rfl hG (fun u H locs hp hP hD hS pc ls hd => W.vret S.1 S.2.1 hr (fun t ht hW => ⟨⟨u, rfl, hp, by rw [ht]; exact hP, hD⟩, hS.F ht⟩) hS.2.2 hd) _ hl
end ZR
section ZA
variable {p : Program} {l : Launch} {e : Env} {R : Room} {s : State} {m : MethodId} {args : Array Value} {below : List Frame} {meth : Method} {c : Code} {H : Heap} {locs : List Loc} {cells slots : Nat} {Q : State → Prop}
variable {cc : ByteArray} {pc nL : Nat} {ls : Array Slot} {rest : List Value} {Ts : List Cond} {own : String} {E : zE} {ws : va_W} {A : Nat → Prop} {a : Nat}
theorem z_get (S : CallFix p m c cc nL s args Ts own) (hK : zK E s) (hP : zP E ws H) (q0 : Nat) {ci : Nat} {fs : List Value} (he : ws[q0]? = some (a, .inr (ci, fs))) {C : String} {T : u_T} {N : Nat} (hc : vwCl[ci]? = some (C, T, N)) (k : Nat) (hk : k < N) (hin : ∀ w ∈ u_ws C T N, w ∈ Ts) {index : Nat} (hlink : Cond.fieldLink own index (T k).1 (T k).2.1 (T k).2.2.1 ∈ Ts) {v : Value} (hv : fs[k]? = some v) (hdg : decode cc pc = .ok (.getfield index, 3)) (kk : W p l e R s m args below meth c H locs cells slots Q (F0 m (pc + 3) ls (v :: rest))) : W p l e R s m args below meth c H locs cells slots Q (F0 m (pc) ls (.ref a :: rest)) := va_get (D := E.1) S.1 S.2.1 S.2.2.2.2 hin S.2.2.2.1 hK hP q0 he hc k hk (S.2.2.2.2 _ hlink) (fun _ h => h) hv hdg kk
theorem z_puti (S : CallFix p m c cc nL s args Ts own) (hK : zK E s) (hP : zP E ws H) (hD : va_D A ws) (hS : va_S A s.heap H locs) (q0 : Nat) {ci : Nat} {fs : List Value} (he : ws[q0]? = some (a, .inr (ci, fs))) {C : String} {T : u_T} {N : Nat} (hc : vwCl[ci]? = some (C, T, N)) (k : Nat) (hk : k < N) (hin : ∀ w ∈ u_ws C T N, w ∈ Ts) {index : Nat} (hlink : Cond.fieldLink own index (T k).1 (T k).2.1 (T k).2.2.1 ∈ Ts) (ty0 : Nat → FieldType) (hty : ∀ k, k < N → parseFieldDescriptor (T k).2.2.1 = some (ty0 k)) (hnm : ∀ a, a < N → ∀ b, b < N → a ≠ b → (T a).2.1 ≠ (T b).2.1) {x : Int} (hfin : (T k).2.2.2 = false) (hd : parseFieldDescriptor (T k).2.2.1 = some .int) (hl : k < fs.length) (hdg : decode cc pc = .ok (.putfield index, 3)) (kk : ∀ (H1 : Heap) (locs1 : List Loc), zP E (ws.set q0 (a, .inr (ci, fs.set k (.int (jI x))))) H1 → va_D A (ws.set q0 (a, .inr (ci, fs.set k (.int (jI x))))) → va_S A s.heap H1 locs1 → W p l e R s m args below meth c H1 locs1 cells slots Q (F0 m (pc + 3) ls (rest))) : W p l e R s m args below meth c H locs cells slots Q (F0 m (pc) ls (.int (jI x) :: .ref a :: rest)) := va_put (D := E.1) S.1 S.2.1 S.2.2.2.2 hin ty0 hty hnm S.2.2.2.1 hK hP hD hS q0 he hc k hk (S.2.2.2.2 _ hlink) (fun _ h => h) hfin hd rfl rfl hl hdg kk
theorem z_putFi (S : CallFix p m c cc nL s args Ts own) (hK : zK E s) (hP : zP E ws H) (hD : va_D A ws) (hS : va_S A s.heap H locs) (q0 : Nat) {ci : Nat} {fs : List Value} (he : ws[q0]? = some (a, .inr (ci, fs))) {C : String} {T : u_T} {N : Nat} (hc : vwCl[ci]? = some (C, T, N)) (k : Nat) (hk : k < N) (hin : ∀ w ∈ u_ws C T N, w ∈ Ts) {index : Nat} (hlink : Cond.fieldLink own index (T k).1 (T k).2.1 (T k).2.2.1 ∈ Ts) (ty0 : Nat → FieldType) (hty : ∀ k, k < N → parseFieldDescriptor (T k).2.2.1 = some (ty0 k)) (hnm : ∀ a, a < N → ∀ b, b < N → a ≠ b → (T a).2.1 ≠ (T b).2.1) {x : Int} (hini : meth.name = "<init>") (hfin : (T k).2.2.2 = true) (hCo : (T k).1 = own) (hd : parseFieldDescriptor (T k).2.2.1 = some .int) (hl : k < fs.length) (hdg : decode cc pc = .ok (.putfield index, 3)) (kk : ∀ (H1 : Heap) (locs1 : List Loc), zP E (ws.set q0 (a, .inr (ci, fs.set k (.int (jI x))))) H1 → va_D A (ws.set q0 (a, .inr (ci, fs.set k (.int (jI x))))) → va_S A s.heap H1 locs1 → W p l e R s m args below meth c H1 locs1 cells slots Q (F0 m (pc + 3) ls (rest))) : W p l e R s m args below meth c H locs cells slots Q (F0 m (pc) ls (.int (jI x) :: .ref a :: rest)) := va_putF (D := E.1) S.1 S.2.1 S.2.2.2.2 hin ty0 hty hnm S.2.2.2.1 hK hP hD hS q0 he hc k hk (S.2.2.2.2 _ hlink) (fun _ h => h) hfin hini hCo hd rfl rfl hl hdg kk
theorem z_putFr (S : CallFix p m c cc nL s args Ts own) (hK : zK E s) (hP : zP E ws H) (hD : va_D A ws) (hS : va_S A s.heap H locs) (q0 : Nat) {ci : Nat} {fs : List Value} (he : ws[q0]? = some (a, .inr (ci, fs))) {C : String} {T : u_T} {N : Nat} (hc : vwCl[ci]? = some (C, T, N)) (k : Nat) (hk : k < N) (hin : ∀ w ∈ u_ws C T N, w ∈ Ts) {index : Nat} (hlink : Cond.fieldLink own index (T k).1 (T k).2.1 (T k).2.2.1 ∈ Ts) (ty0 : Nat → FieldType) (hty : ∀ k, k < N → parseFieldDescriptor (T k).2.2.1 = some (ty0 k)) (hnm : ∀ a, a < N → ∀ b, b < N → a ≠ b → (T a).2.1 ≠ (T b).2.1) {x : Nat} {ty : FieldType} (hini : meth.name = "<init>") (hfin : (T k).2.2.2 = true) (hCo : (T k).1 = own) (hd : parseFieldDescriptor (T k).2.2.1 = some ty) (hn : narrow ty (.ref x) = .ref x) (hfit : fits ty (.ref x) = true) (hl : k < fs.length) (hdg : decode cc pc = .ok (.putfield index, 3)) (kk : ∀ (H1 : Heap) (locs1 : List Loc), zP E (ws.set q0 (a, .inr (ci, fs.set k (.ref x)))) H1 → va_D A (ws.set q0 (a, .inr (ci, fs.set k (.ref x)))) → va_S A s.heap H1 locs1 → W p l e R s m args below meth c H1 locs1 cells slots Q (F0 m (pc + 3) ls (rest))) : W p l e R s m args below meth c H locs cells slots Q (F0 m (pc) ls (.ref x :: .ref a :: rest)) := va_putF (D := E.1) S.1 S.2.1 S.2.2.2.2 hin ty0 hty hnm S.2.2.2.1 hK hP hD hS q0 he hc k hk (S.2.2.2.2 _ hlink) (fun _ h => h) hfin hini hCo hd hn hfit hl hdg kk
theorem z_iald (S : CallFix p m c cc nL s args Ts own) (hK : zK E s) (hP : zP E ws H) (q0 : Nat) {n : Nat} {f : Int → Int} (he : ws[q0]? = some (a, .inl (E.2.1, n, .inl (aI f)))) {i : Int} (hi : 0 ≤ i ∧ i < n ∧ n ≤ 2147483647) (hdg : decode cc pc = .ok (.iaload, 1)) (kk : W p l e R s m args below meth c H locs cells slots Q (F0 m (pc + 1) ls (.int (jI (f i)) :: rest))) : W p l e R s m args below meth c H locs cells slots Q (F0 m (pc) ls (.int (jI i) :: .ref a :: rest)) := va_iald (D := E.1) S.1 S.2.1 hK hP q0 0 he rfl (jI_inRow hi) hdg (by rw [aI_get (by omega)]; exact kk)
theorem z_zald (S : CallFix p m c cc nL s args Ts own) (hK : zK E s) (hP : zP E ws H) (q0 : Nat) {n : Nat} {f : Int → Int} (he : ws[q0]? = some (a, .inl (E.2.2.1, n, .inl (aI f)))) {i : Int} (hi : 0 ≤ i ∧ i < n ∧ n ≤ 2147483647) (hdg : decode cc pc = .ok (.baload, 1)) (kk : W p l e R s m args below meth c H locs cells slots Q (F0 m (pc + 1) ls (.int (jI (f i)) :: rest))) : W p l e R s m args below meth c H locs cells slots Q (F0 m (pc) ls (.int (jI i) :: .ref a :: rest)) := va_zald (D := E.1) S.1 S.2.1 hK hP q0 1 he rfl (jI_inRow hi) hdg (by rw [aI_get (by omega)]; exact kk)
theorem z_iast (S : CallFix p m c cc nL s args Ts own) (hK : zK E s) (hP : zP E ws H) (hD : va_D A ws) (hS : va_S A s.heap H locs) (q0 : Nat) {n : Nat} {f : Int → Int} (he : ws[q0]? = some (a, .inl (E.2.1, n, .inl (aI f)))) {i : Int} (hi : 0 ≤ i ∧ i < n ∧ n ≤ 2147483647) {v : Int} (hdg : decode cc pc = .ok (.iastore, 1)) (kk : ∀ (H1 : Heap) (locs1 : List Loc), zP E (ws.set q0 (a, .inl (E.2.1, n, .inl (aI (zu f i v))))) H1 → va_D A (ws.set q0 (a, .inl (E.2.1, n, .inl (aI (zu f i v))))) → va_S A s.heap H1 locs1 → W p l e R s m args below meth c H1 locs1 cells slots Q (F0 m (pc + 1) ls (rest))) : W p l e R s m args below meth c H locs cells slots Q (F0 m (pc) ls (.int (jI v) :: .int (jI i) :: .ref a :: rest)) := va_iast (D := E.1) S.1 S.2.1 hK hP hD hS q0 0 he rfl (jI_inRow hi) hdg (by rw [aI_set (by omega)]; exact kk)
theorem z_zast (S : CallFix p m c cc nL s args Ts own) (hK : zK E s) (hP : zP E ws H) (hD : va_D A ws) (hS : va_S A s.heap H locs) (q0 : Nat) {n : Nat} {f : Int → Int} (he : ws[q0]? = some (a, .inl (E.2.2.1, n, .inl (aI f)))) {i : Int} (hi : 0 ≤ i ∧ i < n ∧ n ≤ 2147483647) {v : Int} (hv : v = 0 ∨ v = 1) (hdg : decode cc pc = .ok (.bastore, 1)) (kk : ∀ (H1 : Heap) (locs1 : List Loc), zP E (ws.set q0 (a, .inl (E.2.2.1, n, .inl (aI (zu f i v))))) H1 → va_D A (ws.set q0 (a, .inl (E.2.2.1, n, .inl (aI (zu f i v))))) → va_S A s.heap H1 locs1 → W p l e R s m args below meth c H1 locs1 cells slots Q (F0 m (pc + 1) ls (rest))) : W p l e R s m args below meth c H locs cells slots Q (F0 m (pc) ls (.int (jI v) :: .int (jI i) :: .ref a :: rest)) := va_zast (D := E.1) S.1 S.2.1 hK hP hD hS q0 1 he rfl (jI_inRow hi) hdg (by rw [show vp_nar .boolean (jI v) = jI v by rcases hv with rfl | rfl <;> decide +kernel, aI_set (by omega)]; exact kk)
theorem z_qald (S : CallFix p m c cc nL s args Ts own) (hK : zK E s) (hP : zP E ws H) (q0 : Nat) {n : Nat} {f : Nat → Option Nat} (he : ws[q0]? = some (a, .inl (E.2.2.2, n, .inr (.inr (.inr (.inr f)))))) {i : Int} (hi : 0 ≤ i ∧ i < n ∧ n ≤ 2147483647) (hdg : decode cc pc = .ok (.aaload, 1)) (kk : W p l e R s m args below meth c H locs cells slots Q (F0 m (pc + 1) ls (va_rf (f i.toNat) :: rest))) : W p l e R s m args below meth c H locs cells slots Q (F0 m (pc) ls (.int (jI i) :: .ref a :: rest)) := va_aldq (D := E.1) S.1 S.2.1 hK hP q0 2 he rfl (jI_inRow hi) hdg (by rw [show (jI i).toNatClampNeg = i.toNat by have := jI_clamp (i := i) (by omega); omega]; exact kk)
theorem z_alen (S : CallFix p m c cc nL s args Ts own) (hK : zK E s) (hP : zP E ws H) (q0 : Nat) {n : Nat} {f : Int → Int} (he : ws[q0]? = some (a, .inl (E.2.1, n, .inl (aI f)))) (hdg : decode cc pc = .ok (.arraylength, 1)) (kk : W p l e R s m args below meth c H locs cells slots Q (F0 m (pc + 1) ls (.int (jI n) :: rest))) : W p l e R s m args below meth c H locs cells slots Q (F0 m (pc) ls (.ref a :: rest)) := va_alen (D := E.1) S.1 S.2.1 hK hP q0 0 he rfl (jI_nI n) hdg kk
theorem z_zlen (S : CallFix p m c cc nL s args Ts own) (hK : zK E s) (hP : zP E ws H) (q0 : Nat) {n : Nat} {f : Int → Int} (he : ws[q0]? = some (a, .inl (E.2.2.1, n, .inl (aI f)))) (hdg : decode cc pc = .ok (.arraylength, 1)) (kk : W p l e R s m args below meth c H locs cells slots Q (F0 m (pc + 1) ls (.int (jI n) :: rest))) : W p l e R s m args below meth c H locs cells slots Q (F0 m (pc) ls (.ref a :: rest)) := va_alen (D := E.1) S.1 S.2.1 hK hP q0 1 he rfl (jI_nI n) hdg kk
theorem z_qlen (S : CallFix p m c cc nL s args Ts own) (hK : zK E s) (hP : zP E ws H) (q0 : Nat) {n : Nat} {f : Nat → Option Nat} (he : ws[q0]? = some (a, .inl (E.2.2.2, n, .inr (.inr (.inr (.inr f)))))) (hdg : decode cc pc = .ok (.arraylength, 1)) (kk : W p l e R s m args below meth c H locs cells slots Q (F0 m (pc + 1) ls (.int (jI n) :: rest))) : W p l e R s m args below meth c H locs cells slots Q (F0 m (pc) ls (.ref a :: rest)) := va_alen (D := E.1) S.1 S.2.1 hK hP q0 2 he rfl (jI_nI n) hdg kk
theorem z_ifnull (S : CallFix p m c cc nL s args Ts own) {r : Option Nat} {off : Int} {tgt : Nat} (hdg : decode cc pc = .ok (.ifnull off, 3)) (ht : (pc : Int) + off = (tgt : Int)) (kt : r = none → W p l e R s m args below meth c H locs cells slots Q (F0 m (tgt) ls (rest))) (kf : ∀ x, r = some x → W p l e R s m args below meth c H locs cells slots Q (F0 m (pc + 3) ls (rest))) : W p l e R s m args below meth c H locs cells slots Q (F0 m (pc) ls (va_rf r :: rest)) := by
  cases r with
  | none => exact lv_ifnullN S.1 S.2.1 hdg ht (kt rfl)
  | some x => exact lv_ifnull S.1 S.2.1 hdg (kf x rfl)
theorem z_ifnonnull (S : CallFix p m c cc nL s args Ts own) {r : Option Nat} {off : Int} {tgt : Nat} (hdg : decode cc pc = .ok (.ifnonnull off, 3)) (ht : (pc : Int) + off = (tgt : Int)) (kt : ∀ x, r = some x → W p l e R s m args below meth c H locs cells slots Q (F0 m (tgt) ls (rest))) (kf : r = none → W p l e R s m args below meth c H locs cells slots Q (F0 m (pc + 3) ls (rest))) : W p l e R s m args below meth c H locs cells slots Q (F0 m (pc) ls (va_rf r :: rest)) := by
  cases r with
  | none => exact lv_ifnonnullN S.1 S.2.1 hdg (kf rfl)
  | some x => exact lv_ifnonnull S.1 S.2.1 hdg ht (kt x rfl)
end ZA
end
section
section ZC
variable {p : Program} {l : Launch} {e : Env} {R : Room} {s : State} {m : MethodId} {args : Array Value} {below : List Frame} {meth : Method} {c : Code} {H : Heap} {locs : List Loc} {cells slots : Nat} {Q : State → Prop}
variable {cc : ByteArray} {pc nL : Nat} {ls : Array Slot} {st rest : List Value} {Ts : List Cond} {own : String} {E : zE} {A : Nat → Prop} {av : Array Value} {mc ms : Nat}
theorem z_ri {post : Int → Prop} (hr : va_Run p l e R s m args below meth c H locs cells slots 0 0 (F0 m pc ls st) rest (zQi post av) (fun _ => False)) (kk : ∀ r : Int, post r → W p l e R s m args below meth c H locs cells slots Q (F0 m (pc + 3) ls (.int (jI r) :: rest))) : W p l e R s m args below meth c H locs cells slots Q (F0 m (pc) ls (st)) := by
  intro T hT X
  obtain ⟨v, st₀, t, T', L, h0, X', hL, e1, e2, ⟨⟨r, hv, hp⟩, hh⟩, st⟩ := hr T hT X
  cases hv
  have hL0 : L = [] := by
    cases L with
    | nil => rfl
    | cons q L => exact (hL q List.mem_cons_self).elim
  subst hL0
  obtain ⟨t2, a1, b1⟩ := kk r hp T' (by rw [e1, hh, h0]) (by rw [List.append_nil] at X'; exact X')
  exact ⟨t2, st t2 a1, b1⟩
theorem z_rl {post : Int → Prop} (hr : va_Run p l e R s m args below meth c H locs cells slots 0 0 (F0 m pc ls st) rest (zQl post av) (fun _ => False)) (kk : ∀ r : Int, post r → W p l e R s m args below meth c H locs cells slots Q (F0 m (pc + 3) ls (.long (jL r) :: rest))) : W p l e R s m args below meth c H locs cells slots Q (F0 m (pc) ls (st)) := by
  intro T hT X
  obtain ⟨v, st₀, t, T', L, h0, X', hL, e1, e2, ⟨⟨r, hv, hp⟩, hh⟩, st⟩ := hr T hT X
  cases hv
  have hL0 : L = [] := by
    cases L with
    | nil => rfl
    | cons q L => exact (hL q List.mem_cons_self).elim
  subst hL0
  obtain ⟨t2, a1, b1⟩ := kk r hp T' (by rw [e1, hh, h0]) (by rw [List.append_nil] at X'; exact X')
  exact ⟨t2, st t2 a1, b1⟩
theorem z_rq {post : Option Nat → Prop} (hr : va_Run p l e R s m args below meth c H locs cells slots 0 0 (F0 m pc ls st) rest (zQq post av) (fun _ => False)) (kk : ∀ r : Option Nat, post r → W p l e R s m args below meth c H locs cells slots Q (F0 m (pc + 3) ls (va_rf r :: rest))) : W p l e R s m args below meth c H locs cells slots Q (F0 m (pc) ls (st)) := by
  intro T hT X
  obtain ⟨v, st₀, t, T', L, h0, X', hL, e1, e2, ⟨⟨r, hv, hp⟩, hh⟩, st⟩ := hr T hT X
  cases hv
  have hL0 : L = [] := by
    cases L with
    | nil => rfl
    | cons q L => exact (hL q List.mem_cons_self).elim
  subst hL0
  obtain ⟨t2, a1, b1⟩ := kk r hp T' (by rw [e1, hh, h0]) (by rw [List.append_nil] at X'; exact X')
  exact ⟨t2, st t2 a1, b1⟩
theorem z_join {S : Type} {ws wc wr w1 ws2 : va_W} {H H1 : Heap} (hP : zP E ws H) (hD : va_D A ws) (isC isR isF : List Nat) (hC : isC.map (fun i => ws[i]?) = wc.map some) (hR : isR.map (fun i => ws[i]?) = wr.map some) (hn : va_nd isR = true) (hdis : ∀ i ∈ isR, i ∉ isC)
    (hk : ∀ q : Nat, q < H.size → ¬ va_A wc H.size q → H1[q]? = H[q]?) (hF : ∀ q, va_A wc H.size q → A q) (hP1 : zP E w1 H1) (hD1 : va_D (va_A wc H.size) w1) (hnF : va_nd isF = true) (hF2 : isF.map (fun i => (wr ++ w1)[i]?) = ws2.map some) : zP E ws2 H1 ∧ va_D A ws2 := by
  obtain ⟨h1, h2⟩ := va_join (wr := wr) (w1 := w1) hP hD isC isR hC hR hn hdis hk hF hP1 hD1
  refine ⟨h1.sub isF ?_, h2.sub isF hnF hF2⟩
  have e : ∀ (is : List Nat) (w : va_W), is.map (fun i => (wr ++ w1)[i]?) = w.map some → is.filterMap (fun i => (wr ++ w1)[i]?) = w := by
    intro is
    induction is with
    | nil =>
      intro w h
      cases w with
      | nil => rfl
      | cons a w => cases h
    | cons i is ih =>
      intro w h
      cases w with
      | nil => cases h
      | cons a w =>
        rw [List.map_cons, List.map_cons] at h
        have e1 := (List.cons.inj h).1
        rw [List.filterMap_cons, e1, ih w (List.cons.inj h).2]
  exact e isF ws2 hF2
theorem z_mic {S : Type} {post : Int → S → Prop} {ws1 : S → va_W} {wc : va_W} (hr : va_Run p l e R s m args below meth c H locs cells slots mc ms (F0 m pc ls st) rest (zQMi E wc H.size post ws1 av) (va_A wc H.size)) {ws : va_W} (hD : va_D A ws) (hS : va_S A s.heap H locs) (hA : ∀ q, s.heap.size ≤ q → A q) (isC : List Nat) (hC : isC.map (fun i => ws[i]?) = wc.map some)
    (kk : ∀ (r : Int) (u : S) (H1 : Heap) (locs1 : List Loc), post r u → zP E (ws1 u) H1 → va_D (va_A wc H.size) (ws1 u) → va_S A s.heap H1 locs1 → H.size ≤ H1.size → (∀ q : Nat, q < H.size → ¬ va_A wc H.size q → H1[q]? = H[q]?) → (∀ q, va_A wc H.size q → A q) → W p l e R s m args below meth c H1 locs1 (cells + mc) (slots + ms) Q (F0 m (pc + 3) ls (.int (jI r) :: rest))) : W p l e R s m args below meth c H locs cells slots Q (F0 m (pc) ls (st)) := by
  have hF := va_free hD hS hA isC hC
  intro T hT X
  obtain ⟨v, st₀, t, T', L, h0, X', hL, e1, e2, ⟨⟨r, u, hv, hp, hP1, hD1⟩, hz, hk⟩, st⟩ := hr T hT X
  cases hv
  rw [h0] at hz hk
  rw [← e1] at hz hk hP1
  have hS1 : va_S A s.heap T'.heap (locs ++ L) := ⟨Nat.le_trans hS.1 hz, fun q h1 h2 => by rw [hk q (Nat.lt_of_lt_of_le h1 hS.1) (fun z => h2 (hF q z))]; exact hS.2.1 q h1 h2, fun q hq => (List.mem_append.mp hq).elim (fun h => hS.2.2 q h) (fun h => hF _ (hL q h))⟩
  obtain ⟨t2, a1, b1⟩ := kk r u T'.heap (locs ++ L) hp hP1 hD1 hS1 hz hk hF T' rfl X'
  exact ⟨t2, st t2 a1, b1⟩
theorem z_mi {S : Type} {post : Int → S → Prop} {ws1 : S → va_W} {wc : va_W} (hr : va_Run p l e R s m args below meth c H locs cells slots mc ms (F0 m pc ls st) rest (zQMi E wc H.size post ws1 av) (va_A wc H.size)) {ws wr : va_W} (hP : zP E ws H) (hD : va_D A ws) (hS : va_S A s.heap H locs) (hA : ∀ q, s.heap.size ≤ q → A q) (isC isR isF : List Nat) (hC : isC.map (fun i => ws[i]?) = wc.map some) (hR : isR.map (fun i => ws[i]?) = wr.map some) (hn : va_nd isR = true) (hdis : ∀ i ∈ isR, i ∉ isC) (ws2 : S → va_W) (hnF : va_nd isF = true) (hF2 : ∀ u : S, isF.map (fun i => (wr ++ ws1 u)[i]?) = (ws2 u).map some)
    (kk : ∀ (r : Int) (u : S) (H1 : Heap) (locs1 : List Loc), post r u → zP E (ws2 u) H1 → va_D A (ws2 u) → va_S A s.heap H1 locs1 → W p l e R s m args below meth c H1 locs1 (cells + mc) (slots + ms) Q (F0 m (pc + 3) ls (.int (jI r) :: rest))) : W p l e R s m args below meth c H locs cells slots Q (F0 m (pc) ls (st)) := by
  refine z_mic hr hD hS hA isC hC (fun r u H1 locs1 hp hP1 hD1 hS1 hz hk hF => ?_)
  obtain ⟨h1, h2⟩ := z_join (S := S) hP hD isC isR isF hC hR hn hdis hk hF hP1 hD1 hnF (hF2 u)
  exact kk r u H1 locs1 hp h1 h2 hS1
theorem z_miw {S : Type} {post : Int → S → Prop} {ws1 : S → va_W} {ws : va_W} (hr : va_Run p l e R s m args below meth c H locs cells slots mc ms (F0 m pc ls st) rest (zQMi E ws H.size post ws1 av) (va_A ws H.size)) (hD : va_D A ws) (hS : va_S A s.heap H locs) (hA : ∀ q, s.heap.size ≤ q → A q)
    (kk : ∀ (r : Int) (u : S) (H1 : Heap) (locs1 : List Loc), post r u → zP E (ws1 u) H1 → va_D A (ws1 u) → va_S A s.heap H1 locs1 → W p l e R s m args below meth c H1 locs1 (cells + mc) (slots + ms) Q (F0 m (pc + 3) ls (.int (jI r) :: rest))) : W p l e R s m args below meth c H locs cells slots Q (F0 m (pc) ls (st)) := by
  have hF : ∀ q, va_A ws H.size q → A q := fun q h => h.elim (fun ⟨k, e, h⟩ => hD.2 k (q, e) h) (fun h => hA q (Nat.le_trans hS.1 h))
  intro T hT X
  obtain ⟨v, st₀, t, T', L, h0, X', hL, e1, e2, ⟨⟨r, u, hv, hp, hP1, hD1⟩, hz, hk⟩, st⟩ := hr T hT X
  cases hv
  rw [h0] at hz hk
  rw [← e1] at hz hk hP1
  have hS1 : va_S A s.heap T'.heap (locs ++ L) := ⟨Nat.le_trans hS.1 hz, fun q h1 h2 => by rw [hk q (Nat.lt_of_lt_of_le h1 hS.1) (fun z => h2 (hF q z))]; exact hS.2.1 q h1 h2, fun q hq => (List.mem_append.mp hq).elim (fun h => hS.2.2 q h) (fun h => hF _ (hL q h))⟩
  obtain ⟨t2, a1, b1⟩ := kk r u T'.heap (locs ++ L) hp hP1 (hD1.weaken (fun k q _ h => hF q.1 h)) hS1 T' rfl X'
  exact ⟨t2, st t2 a1, b1⟩
theorem z_mlc {S : Type} {post : Int → S → Prop} {ws1 : S → va_W} {wc : va_W} (hr : va_Run p l e R s m args below meth c H locs cells slots mc ms (F0 m pc ls st) rest (zQMl E wc H.size post ws1 av) (va_A wc H.size)) {ws : va_W} (hD : va_D A ws) (hS : va_S A s.heap H locs) (hA : ∀ q, s.heap.size ≤ q → A q) (isC : List Nat) (hC : isC.map (fun i => ws[i]?) = wc.map some)
    (kk : ∀ (r : Int) (u : S) (H1 : Heap) (locs1 : List Loc), post r u → zP E (ws1 u) H1 → va_D (va_A wc H.size) (ws1 u) → va_S A s.heap H1 locs1 → H.size ≤ H1.size → (∀ q : Nat, q < H.size → ¬ va_A wc H.size q → H1[q]? = H[q]?) → (∀ q, va_A wc H.size q → A q) → W p l e R s m args below meth c H1 locs1 (cells + mc) (slots + ms) Q (F0 m (pc + 3) ls (.long (jL r) :: rest))) : W p l e R s m args below meth c H locs cells slots Q (F0 m (pc) ls (st)) := by
  have hF := va_free hD hS hA isC hC
  intro T hT X
  obtain ⟨v, st₀, t, T', L, h0, X', hL, e1, e2, ⟨⟨r, u, hv, hp, hP1, hD1⟩, hz, hk⟩, st⟩ := hr T hT X
  cases hv
  rw [h0] at hz hk
  rw [← e1] at hz hk hP1
  have hS1 : va_S A s.heap T'.heap (locs ++ L) := ⟨Nat.le_trans hS.1 hz, fun q h1 h2 => by rw [hk q (Nat.lt_of_lt_of_le h1 hS.1) (fun z => h2 (hF q z))]; exact hS.2.1 q h1 h2, fun q hq => (List.mem_append.mp hq).elim (fun h => hS.2.2 q h) (fun h => hF _ (hL q h))⟩
  obtain ⟨t2, a1, b1⟩ := kk r u T'.heap (locs ++ L) hp hP1 hD1 hS1 hz hk hF T' rfl X'
  exact ⟨t2, st t2 a1, b1⟩
theorem z_ml {S : Type} {post : Int → S → Prop} {ws1 : S → va_W} {wc : va_W} (hr : va_Run p l e R s m args below meth c H locs cells slots mc ms (F0 m pc ls st) rest (zQMl E wc H.size post ws1 av) (va_A wc H.size)) {ws wr : va_W} (hP : zP E ws H) (hD : va_D A ws) (hS : va_S A s.heap H locs) (hA : ∀ q, s.heap.size ≤ q → A q) (isC isR isF : List Nat) (hC : isC.map (fun i => ws[i]?) = wc.map some) (hR : isR.map (fun i => ws[i]?) = wr.map some) (hn : va_nd isR = true) (hdis : ∀ i ∈ isR, i ∉ isC) (ws2 : S → va_W) (hnF : va_nd isF = true) (hF2 : ∀ u : S, isF.map (fun i => (wr ++ ws1 u)[i]?) = (ws2 u).map some)
    (kk : ∀ (r : Int) (u : S) (H1 : Heap) (locs1 : List Loc), post r u → zP E (ws2 u) H1 → va_D A (ws2 u) → va_S A s.heap H1 locs1 → W p l e R s m args below meth c H1 locs1 (cells + mc) (slots + ms) Q (F0 m (pc + 3) ls (.long (jL r) :: rest))) : W p l e R s m args below meth c H locs cells slots Q (F0 m (pc) ls (st)) := by
  refine z_mlc hr hD hS hA isC hC (fun r u H1 locs1 hp hP1 hD1 hS1 hz hk hF => ?_)
  obtain ⟨h1, h2⟩ := z_join (S := S) hP hD isC isR isF hC hR hn hdis hk hF hP1 hD1 hnF (hF2 u)
  exact kk r u H1 locs1 hp h1 h2 hS1
theorem z_mlw {S : Type} {post : Int → S → Prop} {ws1 : S → va_W} {ws : va_W} (hr : va_Run p l e R s m args below meth c H locs cells slots mc ms (F0 m pc ls st) rest (zQMl E ws H.size post ws1 av) (va_A ws H.size)) (hD : va_D A ws) (hS : va_S A s.heap H locs) (hA : ∀ q, s.heap.size ≤ q → A q)
    (kk : ∀ (r : Int) (u : S) (H1 : Heap) (locs1 : List Loc), post r u → zP E (ws1 u) H1 → va_D A (ws1 u) → va_S A s.heap H1 locs1 → W p l e R s m args below meth c H1 locs1 (cells + mc) (slots + ms) Q (F0 m (pc + 3) ls (.long (jL r) :: rest))) : W p l e R s m args below meth c H locs cells slots Q (F0 m (pc) ls (st)) := by
  have hF : ∀ q, va_A ws H.size q → A q := fun q h => h.elim (fun ⟨k, e, h⟩ => hD.2 k (q, e) h) (fun h => hA q (Nat.le_trans hS.1 h))
  intro T hT X
  obtain ⟨v, st₀, t, T', L, h0, X', hL, e1, e2, ⟨⟨r, u, hv, hp, hP1, hD1⟩, hz, hk⟩, st⟩ := hr T hT X
  cases hv
  rw [h0] at hz hk
  rw [← e1] at hz hk hP1
  have hS1 : va_S A s.heap T'.heap (locs ++ L) := ⟨Nat.le_trans hS.1 hz, fun q h1 h2 => by rw [hk q (Nat.lt_of_lt_of_le h1 hS.1) (fun z => h2 (hF q z))]; exact hS.2.1 q h1 h2, fun q hq => (List.mem_append.mp hq).elim (fun h => hS.2.2 q h) (fun h => hF _ (hL q h))⟩
  obtain ⟨t2, a1, b1⟩ := kk r u T'.heap (locs ++ L) hp hP1 (hD1.weaken (fun k q _ h => hF q.1 h)) hS1 T' rfl X'
  exact ⟨t2, st t2 a1, b1⟩
theorem z_mvc {S : Type} {post : S → Prop} {ws1 : S → va_W} {wc : va_W} (hr : va_Run p l e R s m args below meth c H locs cells slots mc ms (F0 m pc ls st) rest (zQMv E wc H.size post ws1 av) (va_A wc H.size)) {ws : va_W} (hD : va_D A ws) (hS : va_S A s.heap H locs) (hA : ∀ q, s.heap.size ≤ q → A q) (isC : List Nat) (hC : isC.map (fun i => ws[i]?) = wc.map some)
    (kk : ∀ (u : S) (H1 : Heap) (locs1 : List Loc), post u → zP E (ws1 u) H1 → va_D (va_A wc H.size) (ws1 u) → va_S A s.heap H1 locs1 → H.size ≤ H1.size → (∀ q : Nat, q < H.size → ¬ va_A wc H.size q → H1[q]? = H[q]?) → (∀ q, va_A wc H.size q → A q) → W p l e R s m args below meth c H1 locs1 (cells + mc) (slots + ms) Q (F0 m (pc + 3) ls (rest))) : W p l e R s m args below meth c H locs cells slots Q (F0 m (pc) ls (st)) := by
  have hF := va_free hD hS hA isC hC
  intro T hT X
  obtain ⟨v, st₀, t, T', L, h0, X', hL, e1, e2, ⟨⟨u, hv, hp, hP1, hD1⟩, hz, hk⟩, st⟩ := hr T hT X
  cases hv
  rw [h0] at hz hk
  rw [← e1] at hz hk hP1
  have hS1 : va_S A s.heap T'.heap (locs ++ L) := ⟨Nat.le_trans hS.1 hz, fun q h1 h2 => by rw [hk q (Nat.lt_of_lt_of_le h1 hS.1) (fun z => h2 (hF q z))]; exact hS.2.1 q h1 h2, fun q hq => (List.mem_append.mp hq).elim (fun h => hS.2.2 q h) (fun h => hF _ (hL q h))⟩
  obtain ⟨t2, a1, b1⟩ := kk u T'.heap (locs ++ L) hp hP1 hD1 hS1 hz hk hF T' rfl X'
  exact ⟨t2, st t2 a1, b1⟩
theorem z_mv {S : Type} {post : S → Prop} {ws1 : S → va_W} {wc : va_W} (hr : va_Run p l e R s m args below meth c H locs cells slots mc ms (F0 m pc ls st) rest (zQMv E wc H.size post ws1 av) (va_A wc H.size)) {ws wr : va_W} (hP : zP E ws H) (hD : va_D A ws) (hS : va_S A s.heap H locs) (hA : ∀ q, s.heap.size ≤ q → A q) (isC isR isF : List Nat) (hC : isC.map (fun i => ws[i]?) = wc.map some) (hR : isR.map (fun i => ws[i]?) = wr.map some) (hn : va_nd isR = true) (hdis : ∀ i ∈ isR, i ∉ isC) (ws2 : S → va_W) (hnF : va_nd isF = true) (hF2 : ∀ u : S, isF.map (fun i => (wr ++ ws1 u)[i]?) = (ws2 u).map some)
    (kk : ∀ (u : S) (H1 : Heap) (locs1 : List Loc), post u → zP E (ws2 u) H1 → va_D A (ws2 u) → va_S A s.heap H1 locs1 → W p l e R s m args below meth c H1 locs1 (cells + mc) (slots + ms) Q (F0 m (pc + 3) ls (rest))) : W p l e R s m args below meth c H locs cells slots Q (F0 m (pc) ls (st)) := by
  refine z_mvc hr hD hS hA isC hC (fun u H1 locs1 hp hP1 hD1 hS1 hz hk hF => ?_)
  obtain ⟨h1, h2⟩ := z_join (S := S) hP hD isC isR isF hC hR hn hdis hk hF hP1 hD1 hnF (hF2 u)
  exact kk u H1 locs1 hp h1 h2 hS1
theorem z_mvw {S : Type} {post : S → Prop} {ws1 : S → va_W} {ws : va_W} (hr : va_Run p l e R s m args below meth c H locs cells slots mc ms (F0 m pc ls st) rest (zQMv E ws H.size post ws1 av) (va_A ws H.size)) (hD : va_D A ws) (hS : va_S A s.heap H locs) (hA : ∀ q, s.heap.size ≤ q → A q)
    (kk : ∀ (u : S) (H1 : Heap) (locs1 : List Loc), post u → zP E (ws1 u) H1 → va_D A (ws1 u) → va_S A s.heap H1 locs1 → W p l e R s m args below meth c H1 locs1 (cells + mc) (slots + ms) Q (F0 m (pc + 3) ls (rest))) : W p l e R s m args below meth c H locs cells slots Q (F0 m (pc) ls (st)) := by
  have hF : ∀ q, va_A ws H.size q → A q := fun q h => h.elim (fun ⟨k, e, h⟩ => hD.2 k (q, e) h) (fun h => hA q (Nat.le_trans hS.1 h))
  intro T hT X
  obtain ⟨v, st₀, t, T', L, h0, X', hL, e1, e2, ⟨⟨u, hv, hp, hP1, hD1⟩, hz, hk⟩, st⟩ := hr T hT X
  cases hv
  rw [h0] at hz hk
  rw [← e1] at hz hk hP1
  have hS1 : va_S A s.heap T'.heap (locs ++ L) := ⟨Nat.le_trans hS.1 hz, fun q h1 h2 => by rw [hk q (Nat.lt_of_lt_of_le h1 hS.1) (fun z => h2 (hF q z))]; exact hS.2.1 q h1 h2, fun q hq => (List.mem_append.mp hq).elim (fun h => hS.2.2 q h) (fun h => hF _ (hL q h))⟩
  obtain ⟨t2, a1, b1⟩ := kk u T'.heap (locs ++ L) hp hP1 (hD1.weaken (fun k q _ h => hF q.1 h)) hS1 T' rfl X'
  exact ⟨t2, st t2 a1, b1⟩
theorem z_rV (S : CallFix p m c cc nL s args Ts own) (hK : zK E s) {y : MethodName} {wsy ws' : List Cond} {k : Nat} {As : List Value} {G : Heap → Prop} {Qc : Array Value → State → Outcome → State → Prop} {free : Addr → Prop} {bytes : ByteArray} {maxL n index : Nat} {ret : Option FieldType} {C : String} {b : Nat} (hM : Met l y wsy (zr k mc ms) (zPc E (.ref b :: As) G) Qc mc ms free) (hT : GoodIn Ts (wsV own index C y wsy)) (hw : wsy = Cond.code y bytes maxL ret :: ws') (hd : y.cls = C ∧ y.cls ≠ "java/lang/invoke/MethodHandle" ∧ y.cls ≠ "java/lang/invoke/VarHandle" ∧ (parseMethodDescriptor y.desc).map (fun d => d.parameters.length) = some n) (hR : k + 1 ≤ R.frames ∧ 8 + (maxL + 11) + 64 * k ≤ R.locals) (hrc : ∃ cellB : Cell, H[b]? = some cellB ∧ cellB.vm.isStatics = false ∧ s.vm.findClass C = some cellB.cls) (hG : G H) (hl : ls.size = nL) (hn : As.length = n) (hroom : (rest.map fun v => v.category).sum ≤ 8) (hf : cells + mc ≤ R.cells ∧ slots + ms ≤ R.slots) (hst : st = As.reverse ++ .ref b :: rest) (hdg : decode cc pc = .ok (.invokevirtual index, 3)) : va_Run p l e R s m args below meth c H locs cells slots mc ms (F0 m pc ls st) rest (Qc (Value.ref b :: As).toArray) free := va_runV S hM (cwV n S.2.2.2.2 hT hw rfl rfl hd ⟨hR.1, hR.2⟩) ⟨zPc_blind, hrc, fun U hU hW => ⟨rfl, by rw [hU]; exact hG, va_K.moved hW.alike hK⟩⟩ rfl hn hl hst (lv_room hroom) hdg hf
theorem z_mV (S : CallFix p m c cc nL s args Ts own) (hK : zK E s) {y : MethodName} {wsy ws' : List Cond} {k : Nat} {As : List Value} {G : Heap → Prop} {Qc : Array Value → State → Outcome → State → Prop} {free : Addr → Prop} {bytes : ByteArray} {maxL n index : Nat} {ret : Option FieldType} {C : String} {b : Nat} {wc : va_W} (hM : Met l y wsy (zr k mc ms) (zPm E (.ref b :: As) wc H.size G) Qc mc ms free) (hT : GoodIn Ts (wsV own index C y wsy)) (hw : wsy = Cond.code y bytes maxL ret :: ws') (hd : y.cls = C ∧ y.cls ≠ "java/lang/invoke/MethodHandle" ∧ y.cls ≠ "java/lang/invoke/VarHandle" ∧ (parseMethodDescriptor y.desc).map (fun d => d.parameters.length) = some n) (hR : k + 1 ≤ R.frames ∧ 8 + (maxL + 11) + 64 * k ≤ R.locals) (hrc : ∃ cellB : Cell, H[b]? = some cellB ∧ cellB.vm.isStatics = false ∧ s.vm.findClass C = some cellB.cls) (hP : zP E wc H) (hD : va_D A wc) (hG : G H) (hl : ls.size = nL) (hn : As.length = n) (hroom : (rest.map fun v => v.category).sum ≤ 8) (hf : cells + mc ≤ R.cells ∧ slots + ms ≤ R.slots) (hst : st = As.reverse ++ .ref b :: rest) (hdg : decode cc pc = .ok (.invokevirtual index, 3)) : va_Run p l e R s m args below meth c H locs cells slots mc ms (F0 m pc ls st) rest (Qc (Value.ref b :: As).toArray) free := va_runV S hM (cwV n S.2.2.2.2 hT hw rfl rfl hd ⟨hR.1, hR.2⟩) ⟨zPm_blind, hrc, fun U hU hW => ⟨rfl, by rw [hU], by rw [hU]; exact hP, va_K.moved hW.alike hK, hD.weaken (fun _ _ _ _ => trivial), by rw [hU]; exact hG⟩⟩ rfl hn hl hst (lv_room hroom) hdg hf
theorem z_rS (S : CallFix p m c cc nL s args Ts own) (hK : zK E s) {y : MethodName} {wsy ws' : List Cond} {k : Nat} {As : List Value} {G : Heap → Prop} {Qc : Array Value → State → Outcome → State → Prop} {free : Addr → Prop} {bytes : ByteArray} {maxL n index : Nat} {ret : Option FieldType} (hM : Met l y wsy (zr k mc ms) (zPc E As G) Qc mc ms free) (hT : GoodIn Ts (va_wsS own index y wsy)) (hw : wsy = Cond.code y bytes maxL ret :: ws') (hd : y.cls ≠ "java/lang/invoke/MethodHandle" ∧ y.cls ≠ "java/lang/invoke/VarHandle" ∧ (parseMethodDescriptor y.desc).map (fun d => d.parameters.length) = some n) (hR : k + 1 ≤ R.frames ∧ 8 + (maxL + 11) + 64 * k ≤ R.locals)  (hG : G H) (hl : ls.size = nL) (hn : As.length = n) (hroom : (rest.map fun v => v.category).sum ≤ 8) (hf : cells + mc ≤ R.cells ∧ slots + ms ≤ R.slots) (hst : st = As.reverse ++ rest) (hdg : decode cc pc = .ok (.invokestatic index, 3)) : va_Run p l e R s m args below meth c H locs cells slots mc ms (F0 m pc ls st) rest (Qc As.toArray) free := va_runS S hM (va_cwS n S.2.2.2.2 hT hw rfl rfl hd ⟨hR.1, hR.2⟩) ⟨zPc_blind, fun U hU hW => ⟨rfl, by rw [hU]; exact hG, va_K.moved hW.alike hK⟩⟩ rfl hn hl hst (lv_room hroom) hdg hf
theorem z_mS (S : CallFix p m c cc nL s args Ts own) (hK : zK E s) {y : MethodName} {wsy ws' : List Cond} {k : Nat} {As : List Value} {G : Heap → Prop} {Qc : Array Value → State → Outcome → State → Prop} {free : Addr → Prop} {bytes : ByteArray} {maxL n index : Nat} {ret : Option FieldType} {wc : va_W} (hM : Met l y wsy (zr k mc ms) (zPm E As wc H.size G) Qc mc ms free) (hT : GoodIn Ts (va_wsS own index y wsy)) (hw : wsy = Cond.code y bytes maxL ret :: ws') (hd : y.cls ≠ "java/lang/invoke/MethodHandle" ∧ y.cls ≠ "java/lang/invoke/VarHandle" ∧ (parseMethodDescriptor y.desc).map (fun d => d.parameters.length) = some n) (hR : k + 1 ≤ R.frames ∧ 8 + (maxL + 11) + 64 * k ≤ R.locals)  (hP : zP E wc H) (hD : va_D A wc) (hG : G H) (hl : ls.size = nL) (hn : As.length = n) (hroom : (rest.map fun v => v.category).sum ≤ 8) (hf : cells + mc ≤ R.cells ∧ slots + ms ≤ R.slots) (hst : st = As.reverse ++ rest) (hdg : decode cc pc = .ok (.invokestatic index, 3)) : va_Run p l e R s m args below meth c H locs cells slots mc ms (F0 m pc ls st) rest (Qc As.toArray) free := va_runS S hM (va_cwS n S.2.2.2.2 hT hw rfl rfl hd ⟨hR.1, hR.2⟩) ⟨zPm_blind, fun U hU hW => ⟨rfl, by rw [hU], by rw [hU]; exact hP, va_K.moved hW.alike hK, hD.weaken (fun _ _ _ _ => trivial), by rw [hU]; exact hG⟩⟩ rfl hn hl hst (lv_room hroom) hdg hf
theorem z_rU (S : CallFix p m c cc nL s args Ts own) (hK : zK E s) {y : MethodName} {wsy ws' : List Cond} {k : Nat} {As : List Value} {G : Heap → Prop} {Qc : Array Value → State → Outcome → State → Prop} {free : Addr → Prop} {bytes : ByteArray} {maxL n index : Nat} {ret : Option FieldType} {C owner : String} {x : MethodName} {b : Nat} (hM : Met l y wsy (zr k mc ms) (zPc E (.ref b :: As) G) Qc mc ms free) (hT : GoodIn Ts (va_wsU own index C owner x y wsy)) (hyx : y = ⟨owner, x.name, x.desc⟩) (hw : wsy = Cond.code y bytes maxL ret :: ws') (hd : owner ≠ "java/lang/invoke/MethodHandle" ∧ owner ≠ "java/lang/invoke/VarHandle" ∧ (parseMethodDescriptor x.desc).map (fun d => d.parameters.length) = some n) (hR : k + 1 ≤ R.frames ∧ 8 + (maxL + 11) + 64 * k ≤ R.locals) (hrc : ∃ cellB : Cell, H[b]? = some cellB ∧ cellB.vm.isStatics = false ∧ s.vm.findClass C = some cellB.cls) (hG : G H) (hl : ls.size = nL) (hn : As.length = n) (hroom : (rest.map fun v => v.category).sum ≤ 8) (hf : cells + mc ≤ R.cells ∧ slots + ms ≤ R.slots) (hst : st = As.reverse ++ .ref b :: rest) (hdg : decode cc pc = .ok (.invokevirtual index, 3)) : va_Run p l e R s m args below meth c H locs cells slots mc ms (F0 m pc ls st) rest (Qc (Value.ref b :: As).toArray) free := va_runU S hM (va_cwU n S.2.2.2.2 hT hw rfl rfl hyx hd ⟨hR.1, hR.2⟩) ⟨zPc_blind, hrc, fun U hU hW => ⟨rfl, by rw [hU]; exact hG, va_K.moved hW.alike hK⟩⟩ rfl hn hl hst (lv_room hroom) hdg hf
theorem z_mU (S : CallFix p m c cc nL s args Ts own) (hK : zK E s) {y : MethodName} {wsy ws' : List Cond} {k : Nat} {As : List Value} {G : Heap → Prop} {Qc : Array Value → State → Outcome → State → Prop} {free : Addr → Prop} {bytes : ByteArray} {maxL n index : Nat} {ret : Option FieldType} {C owner : String} {x : MethodName} {b : Nat} {wc : va_W} (hM : Met l y wsy (zr k mc ms) (zPm E (.ref b :: As) wc H.size G) Qc mc ms free) (hT : GoodIn Ts (va_wsU own index C owner x y wsy)) (hyx : y = ⟨owner, x.name, x.desc⟩) (hw : wsy = Cond.code y bytes maxL ret :: ws') (hd : owner ≠ "java/lang/invoke/MethodHandle" ∧ owner ≠ "java/lang/invoke/VarHandle" ∧ (parseMethodDescriptor x.desc).map (fun d => d.parameters.length) = some n) (hR : k + 1 ≤ R.frames ∧ 8 + (maxL + 11) + 64 * k ≤ R.locals) (hrc : ∃ cellB : Cell, H[b]? = some cellB ∧ cellB.vm.isStatics = false ∧ s.vm.findClass C = some cellB.cls) (hP : zP E wc H) (hD : va_D A wc) (hG : G H) (hl : ls.size = nL) (hn : As.length = n) (hroom : (rest.map fun v => v.category).sum ≤ 8) (hf : cells + mc ≤ R.cells ∧ slots + ms ≤ R.slots) (hst : st = As.reverse ++ .ref b :: rest) (hdg : decode cc pc = .ok (.invokevirtual index, 3)) : va_Run p l e R s m args below meth c H locs cells slots mc ms (F0 m pc ls st) rest (Qc (Value.ref b :: As).toArray) free := va_runU S hM (va_cwU n S.2.2.2.2 hT hw rfl rfl hyx hd ⟨hR.1, hR.2⟩) ⟨zPm_blind, hrc, fun U hU hW => ⟨rfl, by rw [hU], by rw [hU]; exact hP, va_K.moved hW.alike hK, hD.weaken (fun _ _ _ _ => trivial), by rw [hU]; exact hG⟩⟩ rfl hn hl hst (lv_room hroom) hdg hf
theorem z_rO (S : CallFix p m c cc nL s args Ts own) (hK : zK E s) {y : MethodName} {wsy ws' : List Cond} {k : Nat} {As : List Value} {G : Heap → Prop} {Qc : Array Value → State → Outcome → State → Prop} {free : Addr → Prop} {bytes : ByteArray} {maxL n index : Nat} {ret : Option FieldType} {C owner : String} {x : MethodName} {b : Nat} (hM : Met l y wsy (zr k mc ms) (zPc E (.ref b :: As) G) Qc mc ms free) (hT : GoodIn Ts (va_wsO own index C owner x y wsy)) {b0 : ByteArray} {m0 : Nat} {r0 : Option FieldType} (h0 : Cond.code ⟨owner, x.name, x.desc⟩ b0 m0 r0 ∈ Ts) (hw : wsy = Cond.code y bytes maxL ret :: ws') (hd : owner ≠ "java/lang/invoke/MethodHandle" ∧ owner ≠ "java/lang/invoke/VarHandle" ∧ (parseMethodDescriptor x.desc).map (fun d => d.parameters.length) = some n) (hR : k + 1 ≤ R.frames ∧ 8 + (maxL + 11) + 64 * k ≤ R.locals) (hrc : ∃ cellB : Cell, H[b]? = some cellB ∧ cellB.vm.isStatics = false ∧ s.vm.findClass C = some cellB.cls) (hG : G H) (hl : ls.size = nL) (hn : As.length = n) (hroom : (rest.map fun v => v.category).sum ≤ 8) (hf : cells + mc ≤ R.cells ∧ slots + ms ≤ R.slots) (hst : st = As.reverse ++ .ref b :: rest) (hdg : decode cc pc = .ok (.invokevirtual index, 3)) : va_Run p l e R s m args below meth c H locs cells slots mc ms (F0 m pc ls st) rest (Qc (Value.ref b :: As).toArray) free := va_runU S hM (va_cwO n S.2.2.2.2 hT hw rfl rfl h0 hd ⟨hR.1, hR.2⟩) ⟨zPc_blind, hrc, fun U hU hW => ⟨rfl, by rw [hU]; exact hG, va_K.moved hW.alike hK⟩⟩ rfl hn hl hst (lv_room hroom) hdg hf
theorem z_mO (S : CallFix p m c cc nL s args Ts own) (hK : zK E s) {y : MethodName} {wsy ws' : List Cond} {k : Nat} {As : List Value} {G : Heap → Prop} {Qc : Array Value → State → Outcome → State → Prop} {free : Addr → Prop} {bytes : ByteArray} {maxL n index : Nat} {ret : Option FieldType} {C owner : String} {x : MethodName} {b : Nat} {wc : va_W} (hM : Met l y wsy (zr k mc ms) (zPm E (.ref b :: As) wc H.size G) Qc mc ms free) (hT : GoodIn Ts (va_wsO own index C owner x y wsy)) {b0 : ByteArray} {m0 : Nat} {r0 : Option FieldType} (h0 : Cond.code ⟨owner, x.name, x.desc⟩ b0 m0 r0 ∈ Ts) (hw : wsy = Cond.code y bytes maxL ret :: ws') (hd : owner ≠ "java/lang/invoke/MethodHandle" ∧ owner ≠ "java/lang/invoke/VarHandle" ∧ (parseMethodDescriptor x.desc).map (fun d => d.parameters.length) = some n) (hR : k + 1 ≤ R.frames ∧ 8 + (maxL + 11) + 64 * k ≤ R.locals) (hrc : ∃ cellB : Cell, H[b]? = some cellB ∧ cellB.vm.isStatics = false ∧ s.vm.findClass C = some cellB.cls) (hP : zP E wc H) (hD : va_D A wc) (hG : G H) (hl : ls.size = nL) (hn : As.length = n) (hroom : (rest.map fun v => v.category).sum ≤ 8) (hf : cells + mc ≤ R.cells ∧ slots + ms ≤ R.slots) (hst : st = As.reverse ++ .ref b :: rest) (hdg : decode cc pc = .ok (.invokevirtual index, 3)) : va_Run p l e R s m args below meth c H locs cells slots mc ms (F0 m pc ls st) rest (Qc (Value.ref b :: As).toArray) free := va_runU S hM (va_cwO n S.2.2.2.2 hT hw rfl rfl h0 hd ⟨hR.1, hR.2⟩) ⟨zPm_blind, hrc, fun U hU hW => ⟨rfl, by rw [hU], by rw [hU]; exact hP, va_K.moved hW.alike hK, hD.weaken (fun _ _ _ _ => trivial), by rw [hU]; exact hG⟩⟩ rfl hn hl hst (lv_room hroom) hdg hf
theorem z_rI (S : CallFix p m c cc nL s args Ts own) (hK : zK E s) {y : MethodName} {wsy ws' : List Cond} {k : Nat} {As : List Value} {G : Heap → Prop} {Qc : Array Value → State → Outcome → State → Prop} {free : Addr → Prop} {bytes : ByteArray} {maxL n index : Nat} {b : Nat} (hM : Met l y wsy (zr k mc ms) (zPc E (.ref b :: As) G) Qc mc ms free) (hT : GoodIn Ts wsy) (hini : Cond.initialized y.cls ∈ Ts) (hlk : Cond.methodLink own index y ∈ Ts) (hinm : Cond.instanceMethod y ∈ Ts) (hy1 : y.name = "<init>") (hw : wsy = Cond.code y bytes maxL none :: ws') (hd : y.cls ≠ "java/lang/invoke/MethodHandle" ∧ y.cls ≠ "java/lang/invoke/VarHandle" ∧ (parseMethodDescriptor y.desc).map (fun d => d.parameters.length) = some n) (hR : k + 1 ≤ R.frames ∧ 8 + (maxL + 11) + 64 * k ≤ R.locals)  (hG : G H) (hl : ls.size = nL) (hn : As.length = n) (hroom : (rest.map fun v => v.category).sum ≤ 8) (hf : cells + mc ≤ R.cells ∧ slots + ms ≤ R.slots) (hst : st = As.reverse ++ .ref b :: rest) (hdg : decode cc pc = .ok (.invokespecial index, 3)) : va_Run p l e R s m args below meth c H locs cells slots mc ms (F0 m pc ls st) rest (Qc (Value.ref b :: As).toArray) free := va_runI S hM (cwI n S.2.2.2.2 hT hw rfl rfl (S.2.2.2.2 _ hini) (S.2.2.2.2 _ hlk) (S.2.2.2.2 _ hinm) hy1 hd ⟨hR.1, hR.2⟩) ⟨zPc_blind, fun U hU hW => ⟨rfl, by rw [hU]; exact hG, va_K.moved hW.alike hK⟩⟩ rfl hn hl hst (lv_room hroom) hdg hf
theorem z_mI (S : CallFix p m c cc nL s args Ts own) (hK : zK E s) {y : MethodName} {wsy ws' : List Cond} {k : Nat} {As : List Value} {G : Heap → Prop} {Qc : Array Value → State → Outcome → State → Prop} {free : Addr → Prop} {bytes : ByteArray} {maxL n index : Nat} {b : Nat} {wc : va_W} (hM : Met l y wsy (zr k mc ms) (zPm E (.ref b :: As) wc H.size G) Qc mc ms free) (hT : GoodIn Ts wsy) (hini : Cond.initialized y.cls ∈ Ts) (hlk : Cond.methodLink own index y ∈ Ts) (hinm : Cond.instanceMethod y ∈ Ts) (hy1 : y.name = "<init>") (hw : wsy = Cond.code y bytes maxL none :: ws') (hd : y.cls ≠ "java/lang/invoke/MethodHandle" ∧ y.cls ≠ "java/lang/invoke/VarHandle" ∧ (parseMethodDescriptor y.desc).map (fun d => d.parameters.length) = some n) (hR : k + 1 ≤ R.frames ∧ 8 + (maxL + 11) + 64 * k ≤ R.locals)  (hP : zP E wc H) (hD : va_D A wc) (hG : G H) (hl : ls.size = nL) (hn : As.length = n) (hroom : (rest.map fun v => v.category).sum ≤ 8) (hf : cells + mc ≤ R.cells ∧ slots + ms ≤ R.slots) (hst : st = As.reverse ++ .ref b :: rest) (hdg : decode cc pc = .ok (.invokespecial index, 3)) : va_Run p l e R s m args below meth c H locs cells slots mc ms (F0 m pc ls st) rest (Qc (Value.ref b :: As).toArray) free := va_runI S hM (cwI n S.2.2.2.2 hT hw rfl rfl (S.2.2.2.2 _ hini) (S.2.2.2.2 _ hlk) (S.2.2.2.2 _ hinm) hy1 hd ⟨hR.1, hR.2⟩) ⟨zPm_blind, fun U hU hW => ⟨rfl, by rw [hU], by rw [hU]; exact hP, va_K.moved hW.alike hK, hD.weaken (fun _ _ _ _ => trivial), by rw [hU]; exact hG⟩⟩ rfl hn hl hst (lv_room hroom) hdg hf
theorem z_rP (S : CallFix p m c cc nL s args Ts own) (hK : zK E s) {y : MethodName} {wsy ws' : List Cond} {k : Nat} {As : List Value} {G : Heap → Prop} {Qc : Array Value → State → Outcome → State → Prop} {free : Addr → Prop} {bytes : ByteArray} {maxL n index : Nat} {ret : Option FieldType} {C : String} {b : Nat} (hM : Met l y wsy (zr k mc ms) (zPc E (.ref b :: As) G) Qc mc ms free) {cC : ClassId} (hat : ClassAt s C cC) (hT : GoodIn Ts (va_wsSU own index y wsy)) (hw : wsy = Cond.code y bytes maxL ret :: ws') (hd : y.name ≠ "<init>" ∧ (parseMethodDescriptor y.desc).map (fun d => d.parameters.length) = some n) (hR : k + 1 ≤ R.frames ∧ 8 + (maxL + 11) + 64 * k ≤ R.locals) (hrc : ∃ cellB : Cell, H[b]? = some cellB ∧ cellB.vm.isStatics = false ∧ s.vm.findClass C = some cellB.cls) (hG : G H) (hl : ls.size = nL) (hn : As.length = n) (hroom : (rest.map fun v => v.category).sum ≤ 8) (hf : cells + mc ≤ R.cells ∧ slots + ms ≤ R.slots) (hst : st = As.reverse ++ .ref b :: rest) (hdg : decode cc pc = .ok (.invokespecial index, 3)) : va_Run p l e R s m args below meth c H locs cells slots mc ms (F0 m pc ls st) rest (Qc (Value.ref b :: As).toArray) free := va_runSU hat S hM (va_cwSU n S.2.2.2.2 hT hw rfl rfl hd ⟨hR.1, hR.2⟩) ⟨zPc_blind, hrc, fun U hU hW => ⟨rfl, by rw [hU]; exact hG, va_K.moved hW.alike hK⟩⟩ rfl hn hl hst (lv_room hroom) hdg hf
theorem z_mP (S : CallFix p m c cc nL s args Ts own) (hK : zK E s) {y : MethodName} {wsy ws' : List Cond} {k : Nat} {As : List Value} {G : Heap → Prop} {Qc : Array Value → State → Outcome → State → Prop} {free : Addr → Prop} {bytes : ByteArray} {maxL n index : Nat} {ret : Option FieldType} {C : String} {b : Nat} {wc : va_W} (hM : Met l y wsy (zr k mc ms) (zPm E (.ref b :: As) wc H.size G) Qc mc ms free) {cC : ClassId} (hat : ClassAt s C cC) (hT : GoodIn Ts (va_wsSU own index y wsy)) (hw : wsy = Cond.code y bytes maxL ret :: ws') (hd : y.name ≠ "<init>" ∧ (parseMethodDescriptor y.desc).map (fun d => d.parameters.length) = some n) (hR : k + 1 ≤ R.frames ∧ 8 + (maxL + 11) + 64 * k ≤ R.locals) (hrc : ∃ cellB : Cell, H[b]? = some cellB ∧ cellB.vm.isStatics = false ∧ s.vm.findClass C = some cellB.cls) (hP : zP E wc H) (hD : va_D A wc) (hG : G H) (hl : ls.size = nL) (hn : As.length = n) (hroom : (rest.map fun v => v.category).sum ≤ 8) (hf : cells + mc ≤ R.cells ∧ slots + ms ≤ R.slots) (hst : st = As.reverse ++ .ref b :: rest) (hdg : decode cc pc = .ok (.invokespecial index, 3)) : va_Run p l e R s m args below meth c H locs cells slots mc ms (F0 m pc ls st) rest (Qc (Value.ref b :: As).toArray) free := va_runSU hat S hM (va_cwSU n S.2.2.2.2 hT hw rfl rfl hd ⟨hR.1, hR.2⟩) ⟨zPm_blind, hrc, fun U hU hW => ⟨rfl, by rw [hU], by rw [hU]; exact hP, va_K.moved hW.alike hK, hD.weaken (fun _ _ _ _ => trivial), by rw [hU]; exact hG⟩⟩ rfl hn hl hst (lv_room hroom) hdg hf
end ZC
end
section
/-! the words of the answers -/
def zmin (x y : Int) : Int := if x ≤ y then x else y
theorem zmin_is (x y : Int) : (zmin x y = x ∧ x ≤ y) ∨ (zmin x y = y ∧ y < x) := by
  unfold zmin; split <;> omega
theorem zsw (x lo hi : Int) : (x < lo ∨ hi < x) ∨ (lo ≤ x ∧ x ≤ hi) := by omega
section ZX
variable {p : Program} {l : Launch} {e : Env} {R : Room} {s : State} {m : MethodId} {args : Array Value} {below : List Frame} {meth : Method} {c : Code} {H : Heap} {locs : List Loc} {cells slots : Nat} {Q : State → Prop}
variable {cc : ByteArray} {pc nL : Nat} {ls : Array Slot} {rest : List Value} {Ts : List Cond} {own : String}
theorem z_min (S : CallFix p m c cc nL s args Ts own) {idx : Nat} {x y : Int} (hr : (-2147483648 ≤ x ∧ x ≤ 2147483647) ∧ (-2147483648 ≤ y ∧ y ≤ 2147483647)) (h1 : Cond.methodLink own idx Lib.Math.min.name ∈ Ts) (h2 : Cond.static Lib.Math.min.name ∈ Ts) (h3 : Cond.initialized "java/lang/Math" ∈ Ts) (h4 : Cond.code Lib.Math.min.name Lib.Math.min.code 2 (some .int) ∈ Ts) (hl : ls.size = nL) (hf : 1 ≤ R.frames) (hlo : (rest.map fun v => v.category).sum + 13 ≤ R.locals) (hc : cells ≤ R.cells ∧ slots ≤ R.slots) (hdg : decode cc pc = .ok (.invokestatic idx, 3))
    (kk : W p l e R s m args below meth c H locs cells slots Q (F0 m (pc + 3) ls (.int (jI (zmin x y)) :: rest))) : W p l e R s m args below meth c H locs cells slots Q (F0 m pc ls (.int (jI y) :: .int (jI x) :: rest)) := by
  refine va_mmin S.1 S.2.1 (S.2.2.1.trans hl.symm) S.2.2.2.1 (S.2.2.2.2 _ h1) (S.2.2.2.2 _ h2) (S.2.2.2.2 _ h3) (S.2.2.2.2 _ h4) hf hlo hc.1 hc.2 hdg ?_
  have e : (if jI y < jI x then jI y else jI x) = jI (zmin x y) := by
    by_cases h : y < x
    · rw [if_pos ((jI_lt hr.2 hr.1).mpr h), zmin, if_neg (by omega)]
    · rw [if_neg (fun q => h ((jI_lt hr.2 hr.1).mp q)), zmin, if_pos (by omega)]
  rw [e]
  exact kk
theorem z_swOut (S : CallFix p m c cc nL s args Ts own) {dflt lo hi : Int} {offs : Array Int} {len tgt : Nat} {x : Int} (hdg : decode cc pc = .ok (.tableswitch dflt lo hi offs, len)) (hr : -2147483648 ≤ x ∧ x ≤ 2147483647) (h : x < lo ∨ hi < x) (ht : (pc : Int) + dflt = (tgt : Int)) (k : W p l e R s m args below meth c H locs cells slots Q (F0 m tgt ls rest)) : W p l e R s m args below meth c H locs cells slots Q (F0 m pc ls (.int (jI x) :: rest)) :=
  lv_tableOut S.1 S.2.1 hdg (by rw [jI_int hr]; exact h) ht k
theorem z_swIn (S : CallFix p m c cc nL s args Ts own) {dflt lo hi off : Int} {offs : Array Int} {len tgt : Nat} {x z : Int} (hdg : decode cc pc = .ok (.tableswitch dflt lo hi offs, len)) (hr : -2147483648 ≤ x ∧ x ≤ 2147483647) (hz : x = z) (h1 : ¬ z < lo) (h2 : ¬ hi < z) (ho : offs[(z - lo).toNat]? = some off) (ht : (pc : Int) + off = (tgt : Int)) (k : W p l e R s m args below meth c H locs cells slots Q (F0 m tgt ls rest)) : W p l e R s m args below meth c H locs cells slots Q (F0 m pc ls (.int (jI x) :: rest)) := by
  subst hz
  exact lv_tableIn S.1 S.2.1 hdg (by rw [jI_int hr]; exact h1) (by rw [jI_int hr]; exact h2) (by rw [jI_int hr]; exact ho) ht k
end ZX
/-- a word lives -/
def zlive (kd vl fr tl : Int → Int) (x v d : Int) : Prop := (kd x = 2 ∨ vl x = v) ∧ fr x ≤ d ∧ ((kd x = 0 ∧ d < tl x) ∨ (kd x ≠ 0 ∧ d < tl x + 10))
def zPeo (n : Int) (kd vl nb fr tl : Int → Int) : Prop := ∀ x, 0 ≤ x → x < n → (0 ≤ kd x ∧ kd x ≤ 2) ∧ (0 ≤ vl x ∧ vl x ≤ 1) ∧ (1 ≤ nb x ∧ nb x ≤ 99) ∧ (0 ≤ fr x ∧ fr x ≤ 98) ∧ (fr x < tl x ∧ tl x ≤ 99)
/-- the one by whom a number is said -/
def zBear (nb : Int → Int) (lv : Int → Prop) (n num r : Int) : Prop := (r = -9 ∧ ∀ x, 0 ≤ x → x < n → ¬ (nb x = num ∧ lv x)) ∨ ((0 ≤ r ∧ r < n) ∧ (nb r = num ∧ lv r) ∧ ∀ x, 0 ≤ x → x < r → ¬ (nb x = num ∧ lv x))
def zCan (nb : Int → Int) (lv : Int → Prop) (n num : Int) : Prop := ∃ x, (0 ≤ x ∧ x < n) ∧ nb x = num ∧ lv x
/-- how many of 1 .. n -/
noncomputable def zcnt (P : Int → Prop) : Nat → Int
  | 0 => 0
  | n + 1 => zcnt P n + zb (P ((n : Int) + 1))
def zSayable (P : Int → Prop) (k r : Int) : Prop := (∃ num : Int, (1 ≤ num ∧ num ≤ 99) ∧ P num ∧ zcnt P (num - 1).toNat = k ∧ r = num) ∨ ((∀ num : Int, 1 ≤ num → num ≤ 99 → P num → zcnt P (num - 1).toNat ≠ k) ∧ ((k = -1 ∧ r = zcnt P 99) ∨ (k ≠ -1 ∧ r = -9)))
/-- a quantity said by w numbers -/
def zSay (c : Int → Prop) : Nat → Int → Prop
  | 0, q => q = 0
  | w + 1, q => ∃ a : Int, (1 ≤ a ∧ a ≤ 99) ∧ c a ∧ zSay c w (q - a)
def zMin (c : Int → Prop) (q : Int) (w : Nat) : Prop := zSay c w q ∧ ∀ k, k < w → ¬ zSay c k q
def zIn (c : Int → Prop) (w : Int) (q : Int) : Prop := ∃ k : Nat, (k : Int) ≤ w ∧ zSay c k q
def zTab (c : Int → Prop) (t : Int → Int) (B nv : Int) : Prop := ∀ q, 0 ≤ q → q ≤ B → (∃ w : Nat, zMin c q w ∧ t q = w) ∨ ((∀ w, ¬ zSay c w q) ∧ t q = nv)
/-- the first number of the row that says a quantity -/
def zSt (c : Int → Prop) (q a : Int) : Prop := ∃ w : Nat, zMin c q (w + 1) ∧ ((1 ≤ a ∧ a ≤ 99) ∧ c a ∧ zMin c (q - a) w) ∧ ∀ b, a < b → b ≤ 99 → c b → ¬ zMin c (q - b) w
def zNth (c : Int → Prop) : Nat → Int → Int → Prop
  | 0, q, r => zSt c q r
  | k + 1, q, r => ∃ a, zSt c q a ∧ zNth c k (q - a) r
def zSaid (c : Int → Prop) (q k r : Int) : Prop := ((∀ w, ¬ zSay c w q) ∧ r = -9) ∨ ∃ w : Nat, zMin c q w ∧ ((k = -1 ∧ r = w) ∨ (k ≠ -1 ∧ w ≤ k ∧ r = -9) ∨ (0 ≤ k ∧ k < w ∧ zNth c k.toNat q r))
/-- what a row means -/
def zMean (nb : Int → Int) (lv : Int → Prop) (t : Int → Int) (n r : Int) (sum : Int) : Prop := (∃ j, (0 ≤ j ∧ j < n) ∧ ¬ lv (t j) ∧ (∀ i, 0 ≤ i → i < j → lv (t i)) ∧ r = -100 - j) ∨ ((∀ i, 0 ≤ i → i < n → lv (t i)) ∧ r = sum)
def zsum (f : Int → Int) : Nat → Int
  | 0 => 0
  | n + 1 => zsum f n + f (n : Int)
def zFewest (c : Int → Prop) (q r : Int) : Prop := ((∀ w, ¬ zSay c w q) ∧ r = -9) ∨ ∃ w : Nat, zMin c q w ∧ r = w
def zLeast (P : Int → Prop) (q r : Int) : Prop := ((q ≤ r ∧ r ≤ 999) ∧ P r ∧ ∀ x, q ≤ x → x < r → ¬ P x) ∨ (r = -9 ∧ ∀ x, q ≤ x → x ≤ 999 → ¬ P x)
def zArg (f : Int → Int) (best most : Int) : Prop := (1 ≤ best ∧ best ≤ 99) ∧ most = f best ∧ (∀ x, 1 ≤ x → x ≤ 99 → f x ≤ most) ∧ ∀ x, 1 ≤ x → x < best → f x < most
end
section
def mW (E : zE) (ad : Nat → Nat) (flt ppl : Int) (kd vl nb fr tl : Int → Int) (rA rP : Int) (rk rv rn rf rt can fw fs ss sl sh hd : Int → Int) (tr : Int) : va_W := [(ad 0, .inr (10, [.int (jI flt), .int (jI ppl), .ref (ad 1), .ref (ad 2), .ref (ad 3), .ref (ad 4), .ref (ad 5), .int (jI rA), .int (jI rP), .ref (ad 6), .ref (ad 7), .ref (ad 8), .ref (ad 9), .ref (ad 10), .ref (ad 11), .ref (ad 12), .ref (ad 13), .ref (ad 14), .ref (ad 15), .ref (ad 16), .ref (ad 17), .int (jI tr)])), (ad 1, eI E 10 kd), (ad 2, eI E 10 vl), (ad 3, eI E 10 nb), (ad 4, eI E 10 fr), (ad 5, eI E 10 tl), (ad 6, eI E 10 rk), (ad 7, eI E 10 rv), (ad 8, eI E 10 rn), (ad 9, eI E 10 rf), (ad 10, eI E 10 rt), (ad 11, eZ E 100 can), (ad 12, eI E 1000 fw), (ad 13, eZ E 1000 fs), (ad 14, eI E 4 ss), (ad 15, eI E 4 sl), (ad 16, eI E 400 sh), (ad 17, eI E 100 hd)]
theorem q_X10_nothing_1 : Cond.constantLong RX10 62 (-9223372036854775808) ∈ wsX10_nothing := List.mem_of_getElem? (i := 1) rfl
theorem hs_X10_in : yX10_in.cls ≠ "java/lang/invoke/MethodHandle" ∧ yX10_in.cls ≠ "java/lang/invoke/VarHandle" ∧ (parseMethodDescriptor yX10_in.desc).map (fun d => d.parameters.length) = some 3 := by decide +kernel
theorem q_X10_isDay_1 : Cond.constantLong RX10 96 (109) ∈ wsX10_isDay := List.mem_of_getElem? (i := 1) rfl
theorem q_X10_isFew_1 : Cond.constantLong RX10 98 (9) ∈ wsX10_isFew := List.mem_of_getElem? (i := 1) rfl
theorem q_X10_noSheet_1 : Cond.constantLong RX10 194 (3) ∈ wsX10_noSheet := List.mem_of_getElem? (i := 1) rfl
theorem i_X10_noOne_10 : ∀ w ∈ u_ws RX10 TX10 22, w ∈ wsX10_noOne := fun w h => List.mem_cons_of_mem _ (List.mem_append_right _ h)
theorem q_X10_noOne_1 : Cond.fieldLink RX10 93 "LivingNumbersModel" "people" "I" ∈ wsX10_noOne := List.mem_of_getElem? (i := 1) rfl
theorem i_X10_refused_10 : ∀ w ∈ u_ws RX10 TX10 22, w ∈ wsX10_refused := fun w h => List.mem_cons_of_mem _ (List.mem_append_right _ h)
theorem q_X10_refused_1 : Cond.fieldLink RX10 64 "LivingNumbersModel" "fault" "I" ∈ wsX10_refused := List.mem_of_getElem? (i := 1) rfl
theorem i_X10_failed_10 : ∀ w ∈ u_ws RX10 TX10 22, w ∈ wsX10_failed := fun w h => List.mem_cons_of_mem _ (List.mem_append_right _ h)
theorem q_X10_failed_1 : Cond.fieldLink RX10 64 "LivingNumbersModel" "fault" "I" ∈ wsX10_failed := List.mem_of_getElem? (i := 1) rfl
set_option maxHeartbeats 1000000 in
set_option maxRecDepth 20000 in
theorem c_X10_in (l : Launch) (E : zE) (v : Int) (lo : Int) (hi : Int) (h1 : -9223372036854775808 ≤ v ∧ v ≤ 9223372036854775807) (h2 : -9223372036854775808 ≤ lo ∧ lo ≤ 9223372036854775807) (h3 : -9223372036854775808 ≤ hi ∧ hi ≤ 9223372036854775807) : zRi l E yX10_in wsX10_in (zr 1 0 0) [.long (jL (v)), .long (jL (lo)), .long (jL (hi))] (fun _ => True) (fun r => (r = 1 ∧ (lo ≤ v ∧ v ≤ hi)) ∨ (r = 0 ∧ ¬ (lo ≤ v ∧ v ≤ hi))) := by
  refine zRz_of (own := RX10) (cc := cX10_in) (maxL := 6) (by decide) rfl (Nat.le_of_ble_eq_true rfl) rfl ?_
  intro p e s m args below meth c Q S hK hP hQ ls hl
  have hl : lv_has ls 6 [(0, .long (jL (v))), (2, .long (jL (lo))), (4, .long (jL (hi)))] := hl
  refine lv_lload_n S.1 S.2.1 dX10_in_0 rfl (lv_at hl 0 rfl) ?_
  refine lv_lload_n S.1 S.2.1 dX10_in_1 rfl (lv_at hl 1 rfl) ?_
  refine z_lcmp S (by omega) dX10_in_2 (fun v_1 hv_2 => ?_)
  refine z_if_lt (tgt := 17) S dX10_in_3 (by decide) (by omega) (fun c_3 => ?_) (fun c_3 => ?_)
  · skip
    refine z_iconst S dX10_in_17 ?_
    exact hQ (0) (by omega) (by omega) _ _ dX10_in_18
  · skip
    refine lv_lload_n S.1 S.2.1 dX10_in_6 rfl (lv_at hl 0 rfl) ?_
    refine lv_lload S.1 S.2.1 dX10_in_7 (lv_at hl 2 rfl) ?_
    refine z_lcmp S (by omega) dX10_in_9 (fun v_3 hv_4 => ?_)
    refine z_if_gt (tgt := 17) S dX10_in_10 (by decide) (by omega) (fun c_10 => ?_) (fun c_10 => ?_)
    · skip
      refine z_iconst S dX10_in_17 ?_
      exact hQ (0) (by omega) (by omega) _ _ dX10_in_18
    · skip
      refine z_iconst S dX10_in_13 ?_
      refine z_goto (tgt := 18) S dX10_in_14 (by decide) ?_
      exact hQ (1) (by omega) (by omega) _ _ dX10_in_18

set_option maxHeartbeats 1000000 in
set_option maxRecDepth 20000 in
theorem c_X10_nothing (l : Launch) (E : zE) : zRl l E yX10_nothing wsX10_nothing (zr 1 0 0) [] (fun _ => True) (fun r => r = -9223372036854775808) := by
  refine zRl_of (own := RX10) (cc := cX10_nothing) (maxL := 0) (by decide) rfl (Nat.le_of_ble_eq_true rfl) rfl ?_
  intro p e s m args below meth c Q S hK hP hQ ls hl
  have hl : lv_has ls 0 [] := hl
  refine z_ldc2 (n := -9223372036854775808) S q_X10_nothing_1 (by decide +kernel) dX10_nothing_0 ?_
  exact hQ (-9223372036854775808) (by omega) _ _ dX10_nothing_3

set_option maxHeartbeats 1000000 in
set_option maxRecDepth 20000 in
theorem c_X10_lesser (l : Launch) (E : zE) (a : Int) (b : Int) (h1 : -2147483648 ≤ a ∧ a ≤ 2147483647) (h2 : -2147483648 ≤ b ∧ b ≤ 2147483647) : zRi l E yX10_lesser wsX10_lesser (zr 1 0 0) [.int (jI (a)), .int (jI (b))] (fun _ => True) (fun r => (r = a ∧ a < b) ∨ (r = b ∧ b ≤ a)) := by
  refine zRi_of (own := RX10) (cc := cX10_lesser) (maxL := 2) (by decide) rfl (Nat.le_of_ble_eq_true rfl) rfl ?_
  intro p e s m args below meth c Q S hK hP hQ ls hl
  have hl : lv_has ls 2 [(0, .int (jI (a))), (1, .int (jI (b)))] := hl
  refine lv_iload_n S.1 S.2.1 dX10_lesser_0 rfl (lv_at hl 0 rfl) ?_
  refine lv_iload_n S.1 S.2.1 dX10_lesser_1 rfl (lv_at hl 1 rfl) ?_
  refine z_icmp_ge (tgt := 9) S dX10_lesser_2 (by decide) (by omega) (fun c_2 => ?_) (fun c_2 => ?_)
  · skip
    refine lv_iload_n S.1 S.2.1 dX10_lesser_9 rfl (lv_at hl 1 rfl) ?_
    exact hQ (b) (by omega) _ _ dX10_lesser_10
  · skip
    refine lv_iload_n S.1 S.2.1 dX10_lesser_5 rfl (lv_at hl 0 rfl) ?_
    refine z_goto (tgt := 10) S dX10_lesser_6 (by decide) ?_
    exact hQ (a) (by omega) _ _ dX10_lesser_10

set_option maxHeartbeats 1000000 in
set_option maxRecDepth 20000 in
theorem c_X10_noVillage (l : Launch) (E : zE) (v : Int) (h1 : -2147483648 ≤ v ∧ v ≤ 2147483647) : zRi l E yX10_noVillage wsX10_noVillage (zr 2 0 0) [.int (jI (v))] (fun _ => True) (fun r => (r = 1 ∧ (v < 0 ∨ 1 < v)) ∨ (r = 0 ∧ ¬ (v < 0 ∨ 1 < v))) := by
  refine zRz_of (own := RX10) (cc := cX10_noVillage) (maxL := 1) (by decide) rfl (Nat.le_of_ble_eq_true rfl) rfl ?_
  intro p e s m args below meth c Q S hK hP hQ ls hl
  have hl : lv_has ls 1 [(0, .int (jI (v)))] := hl
  refine lv_iload_n S.1 S.2.1 dX10_noVillage_0 rfl (lv_at hl 0 rfl) ?_
  refine z_i2l S (by omega) dX10_noVillage_1 ?_
  refine z_lconst (z := 0) S (by decide +kernel) dX10_noVillage_2 ?_
  refine z_lconst (z := 1) S (by decide +kernel) dX10_noVillage_3 ?_
  refine z_ri (z_rS S hK (c_X10_in l E v 0 1 (by omega) (by omega) (by omega)) gX10_noVillage_X10_in rfl hs_X10_in ⟨Nat.le_of_ble_eq_true rfl, Nat.le_of_ble_eq_true rfl⟩ trivial hl.1 rfl (Nat.le_of_ble_eq_true rfl) ⟨by decide, by decide⟩ rfl dX10_noVillage_4) (fun r_4 h_4 => ?_)
  refine z_if_ne (tgt := 14) S dX10_noVillage_7 (by decide) (by omega) (fun c_7 => ?_) (fun c_7 => ?_)
  · skip
    refine z_iconst S dX10_noVillage_14 ?_
    exact hQ (0) (by omega) (by omega) _ _ dX10_noVillage_15
  · skip
    refine z_iconst S dX10_noVillage_10 ?_
    refine z_goto (tgt := 15) S dX10_noVillage_11 (by decide) ?_
    exact hQ (1) (by omega) (by omega) _ _ dX10_noVillage_15

set_option maxHeartbeats 1000000 in
set_option maxRecDepth 20000 in
theorem c_X10_isDay (l : Launch) (E : zE) (d : Int) (h1 : -2147483648 ≤ d ∧ d ≤ 2147483647) : zRi l E yX10_isDay wsX10_isDay (zr 2 0 0) [.int (jI (d))] (fun _ => True) (fun r => (r = 1 ∧ (0 ≤ d ∧ d ≤ 109)) ∨ (r = 0 ∧ ¬ (0 ≤ d ∧ d ≤ 109))) := by
  refine zRz_of (own := RX10) (cc := cX10_isDay) (maxL := 1) (by decide) rfl (Nat.le_of_ble_eq_true rfl) rfl ?_
  intro p e s m args below meth c Q S hK hP hQ ls hl
  have hl : lv_has ls 1 [(0, .int (jI (d)))] := hl
  refine lv_iload_n S.1 S.2.1 dX10_isDay_0 rfl (lv_at hl 0 rfl) ?_
  refine z_i2l S (by omega) dX10_isDay_1 ?_
  refine z_lconst (z := 0) S (by decide +kernel) dX10_isDay_2 ?_
  refine z_ldc2 (n := 109) S q_X10_isDay_1 (by decide +kernel) dX10_isDay_3 ?_
  refine z_ri (z_rS S hK (c_X10_in l E d 0 109 (by omega) (by omega) (by omega)) gX10_isDay_X10_in rfl hs_X10_in ⟨Nat.le_of_ble_eq_true rfl, Nat.le_of_ble_eq_true rfl⟩ trivial hl.1 rfl (Nat.le_of_ble_eq_true rfl) ⟨by decide, by decide⟩ rfl dX10_isDay_6) (fun r_6 h_6 => ?_)
  exact hQ (r_6) (by omega) (by omega) _ _ dX10_isDay_9

set_option maxHeartbeats 1000000 in
set_option maxRecDepth 20000 in
theorem c_X10_isFew (l : Launch) (E : zE) (w : Int) (h1 : -2147483648 ≤ w ∧ w ≤ 2147483647) : zRi l E yX10_isFew wsX10_isFew (zr 2 0 0) [.int (jI (w))] (fun _ => True) (fun r => (r = 1 ∧ (1 ≤ w ∧ w ≤ 9)) ∨ (r = 0 ∧ ¬ (1 ≤ w ∧ w ≤ 9))) := by
  refine zRz_of (own := RX10) (cc := cX10_isFew) (maxL := 1) (by decide) rfl (Nat.le_of_ble_eq_true rfl) rfl ?_
  intro p e s m args below meth c Q S hK hP hQ ls hl
  have hl : lv_has ls 1 [(0, .int (jI (w)))] := hl
  refine lv_iload_n S.1 S.2.1 dX10_isFew_0 rfl (lv_at hl 0 rfl) ?_
  refine z_i2l S (by omega) dX10_isFew_1 ?_
  refine z_lconst (z := 1) S (by decide +kernel) dX10_isFew_2 ?_
  refine z_ldc2 (n := 9) S q_X10_isFew_1 (by decide +kernel) dX10_isFew_3 ?_
  refine z_ri (z_rS S hK (c_X10_in l E w 1 9 (by omega) (by omega) (by omega)) gX10_isFew_X10_in rfl hs_X10_in ⟨Nat.le_of_ble_eq_true rfl, Nat.le_of_ble_eq_true rfl⟩ trivial hl.1 rfl (Nat.le_of_ble_eq_true rfl) ⟨by decide, by decide⟩ rfl dX10_isFew_6) (fun r_6 h_6 => ?_)
  exact hQ (r_6) (by omega) (by omega) _ _ dX10_isFew_9

set_option maxHeartbeats 1000000 in
set_option maxRecDepth 20000 in
theorem c_X10_noSheet (l : Launch) (E : zE) (k : Int) (h1 : -2147483648 ≤ k ∧ k ≤ 2147483647) : zRi l E yX10_noSheet wsX10_noSheet (zr 2 0 0) [.int (jI (k))] (fun _ => True) (fun r => (r = 1 ∧ (k < 0 ∨ 3 < k)) ∨ (r = 0 ∧ ¬ (k < 0 ∨ 3 < k))) := by
  refine zRz_of (own := RX10) (cc := cX10_noSheet) (maxL := 1) (by decide) rfl (Nat.le_of_ble_eq_true rfl) rfl ?_
  intro p e s m args below meth c Q S hK hP hQ ls hl
  have hl : lv_has ls 1 [(0, .int (jI (k)))] := hl
  refine lv_iload_n S.1 S.2.1 dX10_noSheet_0 rfl (lv_at hl 0 rfl) ?_
  refine z_i2l S (by omega) dX10_noSheet_1 ?_
  refine z_lconst (z := 0) S (by decide +kernel) dX10_noSheet_2 ?_
  refine z_ldc2 (n := 3) S q_X10_noSheet_1 (by decide +kernel) dX10_noSheet_3 ?_
  refine z_ri (z_rS S hK (c_X10_in l E k 0 3 (by omega) (by omega) (by omega)) gX10_noSheet_X10_in rfl hs_X10_in ⟨Nat.le_of_ble_eq_true rfl, Nat.le_of_ble_eq_true rfl⟩ trivial hl.1 rfl (Nat.le_of_ble_eq_true rfl) ⟨by decide, by decide⟩ rfl dX10_noSheet_6) (fun r_6 h_6 => ?_)
  refine z_if_ne (tgt := 16) S dX10_noSheet_9 (by decide) (by omega) (fun c_9 => ?_) (fun c_9 => ?_)
  · skip
    refine z_iconst S dX10_noSheet_16 ?_
    exact hQ (0) (by omega) (by omega) _ _ dX10_noSheet_17
  · skip
    refine z_iconst S dX10_noSheet_12 ?_
    refine z_goto (tgt := 17) S dX10_noSheet_13 (by decide) ?_
    exact hQ (1) (by omega) (by omega) _ _ dX10_noSheet_17

set_option maxHeartbeats 1000000 in
set_option maxRecDepth 20000 in
theorem c_X10_isBeyond (l : Launch) (E : zE) (i : Int) (n : Int) (all : Int) (h1 : -2147483648 ≤ i ∧ i ≤ 2147483647) (h2 : -2147483648 ≤ n ∧ n ≤ 2147483647) (h3 : -2147483648 ≤ all ∧ all ≤ 2147483647) : zRi l E yX10_isBeyond wsX10_isBeyond (zr 1 0 0) [.int (jI (i)), .long (jL (n)), .int (jI (all))] (fun _ => True) (fun r => (r = 1 ∧ (i < 0 ∨ n < 0 ∨ all < i + n)) ∨ (r = 0 ∧ ¬ (i < 0 ∨ n < 0 ∨ all < i + n))) := by
  refine zRz_of (own := RX10) (cc := cX10_isBeyond) (maxL := 4) (by decide) rfl (Nat.le_of_ble_eq_true rfl) rfl ?_
  intro p e s m args below meth c Q S hK hP hQ ls hl
  have hl : lv_has ls 4 [(0, .int (jI (i))), (1, .long (jL (n))), (3, .int (jI (all)))] := hl
  refine lv_iload_n S.1 S.2.1 dX10_isBeyond_0 rfl (lv_at hl 0 rfl) ?_
  refine z_if_lt (tgt := 20) S dX10_isBeyond_1 (by decide) (by omega) (fun c_1 => ?_) (fun c_1 => ?_)
  · skip
    refine z_iconst S dX10_isBeyond_20 ?_
    refine z_goto (tgt := 25) S dX10_isBeyond_21 (by decide) ?_
    exact hQ (1) (by omega) (by omega) _ _ dX10_isBeyond_25
  · skip
    refine lv_lload_n S.1 S.2.1 dX10_isBeyond_4 rfl (lv_at hl 1 rfl) ?_
    refine z_lconst (z := 0) S (by decide +kernel) dX10_isBeyond_5 ?_
    refine z_lcmp S (by omega) dX10_isBeyond_6 (fun v_1 hv_2 => ?_)
    refine z_if_lt (tgt := 20) S dX10_isBeyond_7 (by decide) (by omega) (fun c_7 => ?_) (fun c_7 => ?_)
    · skip
      refine z_iconst S dX10_isBeyond_20 ?_
      refine z_goto (tgt := 25) S dX10_isBeyond_21 (by decide) ?_
      exact hQ (1) (by omega) (by omega) _ _ dX10_isBeyond_25
    · skip
      refine lv_iload_n S.1 S.2.1 dX10_isBeyond_10 rfl (lv_at hl 0 rfl) ?_
      refine z_i2l S (by omega) dX10_isBeyond_11 ?_
      refine lv_lload_n S.1 S.2.1 dX10_isBeyond_12 rfl (lv_at hl 1 rfl) ?_
      refine z_ladd S dX10_isBeyond_13 ?_
      refine lv_iload_n S.1 S.2.1 dX10_isBeyond_14 rfl (lv_at hl 2 rfl) ?_
      refine z_i2l S (by omega) dX10_isBeyond_15 ?_
      refine z_lcmp S (by omega) dX10_isBeyond_16 (fun v_3 hv_4 => ?_)
      refine z_if_le (tgt := 24) S dX10_isBeyond_17 (by decide) (by omega) (fun c_17 => ?_) (fun c_17 => ?_)
      · skip
        refine z_iconst S dX10_isBeyond_24 ?_
        exact hQ (0) (by omega) (by omega) _ _ dX10_isBeyond_25
      · skip
        refine z_iconst S dX10_isBeyond_20 ?_
        refine z_goto (tgt := 25) S dX10_isBeyond_21 (by decide) ?_
        exact hQ (1) (by omega) (by omega) _ _ dX10_isBeyond_25

set_option maxHeartbeats 1000000 in
set_option maxRecDepth 20000 in
theorem c_X10_noOne (l : Launch) (E : zE) (ad : Nat → Nat) (flt ppl : Int) (kd vl nb fr tl : Int → Int) (rA rP : Int) (rk rv rn rf rt can fw fs ss sl sh hd : Int → Int) (tr : Int) (x : Int) (h1 : -2147483648 ≤ x ∧ x ≤ 2147483647) (hp : 0 ≤ ppl ∧ ppl ≤ 10) : zRi l E yX10_noOne wsX10_noOne (zr 2 0 0) [.ref (ad 0), .int (jI (x))] (fun H => zP E (mW E ad flt ppl kd vl nb fr tl rA rP rk rv rn rf rt can fw fs ss sl sh hd tr) H) (fun r => (r = 1 ∧ (x < 0 ∨ ppl ≤ x)) ∨ (r = 0 ∧ ¬ (x < 0 ∨ ppl ≤ x))) := by
  refine zRz_of (own := RX10) (cc := cX10_noOne) (maxL := 2) (by decide) rfl (Nat.le_of_ble_eq_true rfl) rfl ?_
  intro p e s m args below meth c Q S hK hP hQ ls hl
  have hl : lv_has ls 2 [(0, .ref (ad 0)), (1, .int (jI (x)))] := hl
  refine lv_iload_n S.1 S.2.1 dX10_noOne_0 rfl (lv_at hl 1 rfl) ?_
  refine z_i2l S (by omega) dX10_noOne_1 ?_
  refine z_lconst (z := 0) S (by decide +kernel) dX10_noOne_2 ?_
  refine lv_aload_n S.1 S.2.1 dX10_noOne_3 rfl (lv_at hl 0 rfl) ?_
  refine z_get S hK hP 0 rfl rfl 1 (by decide) i_X10_noOne_10 q_X10_noOne_1 rfl dX10_noOne_4 ?_
  refine z_i2l S (by omega) dX10_noOne_7 ?_
  refine z_lconst (z := 1) S (by decide +kernel) dX10_noOne_8 ?_
  refine z_lsub S dX10_noOne_9 ?_
  refine z_ri (z_rS S hK (c_X10_in l E x 0 (ppl - 1) (by omega) (by omega) (by omega)) gX10_noOne_X10_in rfl hs_X10_in ⟨Nat.le_of_ble_eq_true rfl, Nat.le_of_ble_eq_true rfl⟩ trivial hl.1 rfl (Nat.le_of_ble_eq_true rfl) ⟨by decide, by decide⟩ rfl dX10_noOne_10) (fun r_10 h_10 => ?_)
  refine z_if_ne (tgt := 20) S dX10_noOne_13 (by decide) (by omega) (fun c_13 => ?_) (fun c_13 => ?_)
  · skip
    refine z_iconst S dX10_noOne_20 ?_
    exact hQ (0) (by omega) (by omega) _ _ dX10_noOne_21
  · skip
    refine z_iconst S dX10_noOne_16 ?_
    refine z_goto (tgt := 21) S dX10_noOne_17 (by decide) ?_
    exact hQ (1) (by omega) (by omega) _ _ dX10_noOne_21

set_option maxHeartbeats 1000000 in
set_option maxRecDepth 20000 in
theorem c_X10_refused (l : Launch) (E : zE) (ad : Nat → Nat) (flt ppl : Int) (kd vl nb fr tl : Int → Int) (rA rP : Int) (rk rv rn rf rt can fw fs ss sl sh hd : Int → Int) (tr : Int) (code : Int) : zMi l E yX10_refused wsX10_refused (zr 1 0 0) [.ref (ad 0), .int (jI (code))] (mW E ad flt ppl kd vl nb fr tl rA rP rk rv rn rf rt can fw fs ss sl sh hd tr) (fun _ => True) (fun r (u : Unit) => r = code) (fun (u : Unit) => mW E ad 0 ppl kd vl nb fr tl rA rP rk rv rn rf rt can fw fs ss sl sh hd tr) 0 0 := by
  refine zMi_of (own := RX10) (cc := cX10_refused) (maxL := 2) (by decide) rfl (Nat.le_of_ble_eq_true rfl) rfl ?_
  intro p e s m args below meth c Q A S hK hA hS hP hD hAe hG hQ ls hl
  have hl : lv_has ls 2 [(0, .ref (ad 0)), (1, .int (jI (code)))] := hl
  refine lv_aload_n S.1 S.2.1 dX10_refused_0 rfl (lv_at hl 0 rfl) ?_
  refine z_iconst S dX10_refused_1 ?_
  refine z_puti S hK hP hD hS 0 rfl rfl 0 (by decide) i_X10_refused_10 q_X10_refused_1 tyX10 tyX10_ok nmX10 rfl (by decide +kernel) (Nat.le_of_ble_eq_true rfl) dX10_refused_2 (fun H locs hP hD hS => ?_)
  have hP : zP E (mW E ad 0 ppl kd vl nb fr tl rA rP rk rv rn rf rt can fw fs ss sl sh hd tr) H := hP
  have hD : va_D A (mW E ad 0 ppl kd vl nb fr tl rA rP rk rv rn rf rt can fw fs ss sl sh hd tr) := hD
  refine lv_iload_n S.1 S.2.1 dX10_refused_5 rfl (lv_at hl 1 rfl) ?_
  exact hQ (code) (()) H locs (by omega) hP hD hS _ _ dX10_refused_6

set_option maxHeartbeats 1000000 in
set_option maxRecDepth 20000 in
theorem c_X10_failed (l : Launch) (E : zE) (ad : Nat → Nat) (flt ppl : Int) (kd vl nb fr tl : Int → Int) (rA rP : Int) (rk rv rn rf rt can fw fs ss sl sh hd : Int → Int) (tr : Int) (f : Int) : zMi l E yX10_failed wsX10_failed (zr 1 0 0) [.ref (ad 0), .int (jI (f))] (mW E ad flt ppl kd vl nb fr tl rA rP rk rv rn rf rt can fw fs ss sl sh hd tr) (fun _ => True) (fun r (u : Unit) => r = -10 - f) (fun (u : Unit) => mW E ad f ppl kd vl nb fr tl rA rP rk rv rn rf rt can fw fs ss sl sh hd tr) 0 0 := by
  refine zMi_of (own := RX10) (cc := cX10_failed) (maxL := 2) (by decide) rfl (Nat.le_of_ble_eq_true rfl) rfl ?_
  intro p e s m args below meth c Q A S hK hA hS hP hD hAe hG hQ ls hl
  have hl : lv_has ls 2 [(0, .ref (ad 0)), (1, .int (jI (f)))] := hl
  refine lv_aload_n S.1 S.2.1 dX10_failed_0 rfl (lv_at hl 0 rfl) ?_
  refine lv_iload_n S.1 S.2.1 dX10_failed_1 rfl (lv_at hl 1 rfl) ?_
  refine z_puti S hK hP hD hS 0 rfl rfl 0 (by decide) i_X10_failed_10 q_X10_failed_1 tyX10 tyX10_ok nmX10 rfl (by decide +kernel) (Nat.le_of_ble_eq_true rfl) dX10_failed_2 (fun H locs hP hD hS => ?_)
  have hP : zP E (mW E ad f ppl kd vl nb fr tl rA rP rk rv rn rf rt can fw fs ss sl sh hd tr) H := hP
  have hD : va_D A (mW E ad f ppl kd vl nb fr tl rA rP rk rv rn rf rt can fw fs ss sl sh hd tr) := hD
  refine z_bipush S (by decide +kernel) dX10_failed_5 ?_
  refine lv_iload_n S.1 S.2.1 dX10_failed_7 rfl (lv_at hl 1 rfl) ?_
  refine z_isub S dX10_failed_8 ?_
  exact hQ ((-10) - f) (()) H locs (by omega) hP hD hS _ _ dX10_failed_9
end
