section
-- ===== PART A: goes FIRST, ahead of the names: the tables' words, and 'selects' of the private methods out of them =====
/-- a private method of a class that the tables say can be made, by its rows of tables_1 -/
def lw_okq (q : MethodName × Nat) : Prop := (q.1.cls ≠ "java/lang/invoke/MethodHandle" ∧ q.1.cls ≠ "java/lang/invoke/VarHandle") ∧ Cond.instantiable q.1.cls q.2 ∈ tables_1 ∧ Cond.privateMethod q.1 ∈ tables_1 ∧ Cond.instanceMethod q.1 ∈ tables_1
theorem lw_p0 : lw_okq (⟨"FoldLaboratory$Paper", "fold", "()V"⟩, 8) := ⟨⟨by decide +kernel, by decide +kernel⟩, List.mem_of_getElem? (i := 25) (by decide +kernel), List.mem_of_getElem? (i := 35) (by decide +kernel), List.mem_of_getElem? (i := 36) (by decide +kernel)⟩
theorem lw_p1 : lw_okq (⟨"FoldLaboratory$Paper", "imagesOver", "(I)I"⟩, 8) := ⟨⟨by decide +kernel, by decide +kernel⟩, List.mem_of_getElem? (i := 25) (by decide +kernel), List.mem_of_getElem? (i := 213) (by decide +kernel), List.mem_of_getElem? (i := 214) (by decide +kernel)⟩
theorem lw_p2 : lw_okq (⟨"FoldLaboratory$Reductions", "copyPattern", "()V"⟩, 8) := ⟨⟨by decide +kernel, by decide +kernel⟩, List.mem_of_getElem? (i := 97) (by decide +kernel), List.mem_of_getElem? (i := 229) (by decide +kernel), List.mem_of_getElem? (i := 230) (by decide +kernel)⟩
theorem lw_p3 : lw_okq (⟨"FoldLaboratory$Reductions", "reduceOnce", "()Z"⟩, 8) := ⟨⟨by decide +kernel, by decide +kernel⟩, List.mem_of_getElem? (i := 97) (by decide +kernel), List.mem_of_getElem? (i := 235) (by decide +kernel), List.mem_of_getElem? (i := 236) (by decide +kernel)⟩
theorem lw_p4 : lw_okq (⟨"FoldLaboratory$Reductions", "note", "(II)V"⟩, 8) := ⟨⟨by decide +kernel, by decide +kernel⟩, List.mem_of_getElem? (i := 97) (by decide +kernel), List.mem_of_getElem? (i := 239) (by decide +kernel), List.mem_of_getElem? (i := 240) (by decide +kernel)⟩
theorem lw_p5 : lw_okq (⟨"FoldLaboratory$Reductions", "removeLengths", "(II)V"⟩, 8) := ⟨⟨by decide +kernel, by decide +kernel⟩, List.mem_of_getElem? (i := 97) (by decide +kernel), List.mem_of_getElem? (i := 243) (by decide +kernel), List.mem_of_getElem? (i := 244) (by decide +kernel)⟩
theorem lw_p6 : lw_okq (⟨"FoldLaboratory$Reductions", "removeCreases", "(II)V"⟩, 8) := ⟨⟨by decide +kernel, by decide +kernel⟩, List.mem_of_getElem? (i := 97) (by decide +kernel), List.mem_of_getElem? (i := 247) (by decide +kernel), List.mem_of_getElem? (i := 248) (by decide +kernel)⟩
theorem lw_p7 : lw_okq (⟨"FoldLaboratory$Reductions", "leftmostPleat", "()I"⟩, 8) := ⟨⟨by decide +kernel, by decide +kernel⟩, List.mem_of_getElem? (i := 97) (by decide +kernel), List.mem_of_getElem? (i := 251) (by decide +kernel), List.mem_of_getElem? (i := 252) (by decide +kernel)⟩
theorem lw_p8 : lw_okq (⟨"FoldLaboratory$Reductions", "flatten", "(I)V"⟩, 8) := ⟨⟨by decide +kernel, by decide +kernel⟩, List.mem_of_getElem? (i := 97) (by decide +kernel), List.mem_of_getElem? (i := 255) (by decide +kernel), List.mem_of_getElem? (i := 256) (by decide +kernel)⟩
theorem lw_p9 : lw_okq (⟨"FoldLaboratory$LayerOrders", "decide", "(III)V"⟩, 5) := ⟨⟨by decide +kernel, by decide +kernel⟩, List.mem_of_getElem? (i := 132) (by decide +kernel), List.mem_of_getElem? (i := 271) (by decide +kernel), List.mem_of_getElem? (i := 272) (by decide +kernel)⟩
theorem lw_p10 : lw_okq (⟨"FoldLaboratory$LayerOrders", "keep", "(I)V"⟩, 5) := ⟨⟨by decide +kernel, by decide +kernel⟩, List.mem_of_getElem? (i := 132) (by decide +kernel), List.mem_of_getElem? (i := 275) (by decide +kernel), List.mem_of_getElem? (i := 276) (by decide +kernel)⟩
theorem lw_p11 : lw_okq (⟨"FoldLaboratory$LayerOrders", "markingOf", "(I)I"⟩, 5) := ⟨⟨by decide +kernel, by decide +kernel⟩, List.mem_of_getElem? (i := 132) (by decide +kernel), List.mem_of_getElem? (i := 293) (by decide +kernel), List.mem_of_getElem? (i := 294) (by decide +kernel)⟩
theorem lw_p12 : lw_okq (⟨"FoldLaboratory$LayerOrders", "keepsMark", "(III)Z"⟩, 5) := ⟨⟨by decide +kernel, by decide +kernel⟩, List.mem_of_getElem? (i := 132) (by decide +kernel), List.mem_of_getElem? (i := 307) (by decide +kernel), List.mem_of_getElem? (i := 308) (by decide +kernel)⟩
theorem lw_p13 : lw_okq (⟨"FoldLaboratory$LayerOrders", "makesNoRound", "(III)Z"⟩, 5) := ⟨⟨by decide +kernel, by decide +kernel⟩, List.mem_of_getElem? (i := 132) (by decide +kernel), List.mem_of_getElem? (i := 315) (by decide +kernel), List.mem_of_getElem? (i := 316) (by decide +kernel)⟩
theorem lw_p14 : lw_okq (⟨"FoldLaboratory$LayerOrders", "crossesNoCrease", "(III)Z"⟩, 5) := ⟨⟨by decide +kernel, by decide +kernel⟩, List.mem_of_getElem? (i := 132) (by decide +kernel), List.mem_of_getElem? (i := 319) (by decide +kernel), List.mem_of_getElem? (i := 320) (by decide +kernel)⟩
theorem lw_p15 : lw_okq (⟨"FoldLaboratory$LayerOrders", "creasesNest", "(III)Z"⟩, 5) := ⟨⟨by decide +kernel, by decide +kernel⟩, List.mem_of_getElem? (i := 132) (by decide +kernel), List.mem_of_getElem? (i := 334) (by decide +kernel), List.mem_of_getElem? (i := 335) (by decide +kernel)⟩
def lw_privs_1 : List (MethodName × Nat) := [(⟨"FoldLaboratory$Paper", "fold", "()V"⟩, 8), (⟨"FoldLaboratory$Paper", "imagesOver", "(I)I"⟩, 8), (⟨"FoldLaboratory$Reductions", "copyPattern", "()V"⟩, 8), (⟨"FoldLaboratory$Reductions", "reduceOnce", "()Z"⟩, 8), (⟨"FoldLaboratory$Reductions", "note", "(II)V"⟩, 8), (⟨"FoldLaboratory$Reductions", "removeLengths", "(II)V"⟩, 8), (⟨"FoldLaboratory$Reductions", "removeCreases", "(II)V"⟩, 8), (⟨"FoldLaboratory$Reductions", "leftmostPleat", "()I"⟩, 8), (⟨"FoldLaboratory$Reductions", "flatten", "(I)V"⟩, 8), (⟨"FoldLaboratory$LayerOrders", "decide", "(III)V"⟩, 5), (⟨"FoldLaboratory$LayerOrders", "keep", "(I)V"⟩, 5), (⟨"FoldLaboratory$LayerOrders", "markingOf", "(I)I"⟩, 5), (⟨"FoldLaboratory$LayerOrders", "keepsMark", "(III)Z"⟩, 5), (⟨"FoldLaboratory$LayerOrders", "makesNoRound", "(III)Z"⟩, 5), (⟨"FoldLaboratory$LayerOrders", "crossesNoCrease", "(III)Z"⟩, 5), (⟨"FoldLaboratory$LayerOrders", "creasesNest", "(III)Z"⟩, 5)]
theorem lw_r1 : ∀ q ∈ lw_privs_1, lw_okq q := List.forall_mem_cons.mpr ⟨lw_p0, List.forall_mem_cons.mpr ⟨lw_p1, List.forall_mem_cons.mpr ⟨lw_p2, List.forall_mem_cons.mpr ⟨lw_p3, List.forall_mem_cons.mpr ⟨lw_p4, List.forall_mem_cons.mpr ⟨lw_p5, List.forall_mem_cons.mpr ⟨lw_p6, List.forall_mem_cons.mpr ⟨lw_p7, List.forall_mem_cons.mpr ⟨lw_p8, List.forall_mem_cons.mpr ⟨lw_p9, List.forall_mem_cons.mpr ⟨lw_p10, List.forall_mem_cons.mpr ⟨lw_p11, List.forall_mem_cons.mpr ⟨lw_p12, List.forall_mem_cons.mpr ⟨lw_p13, List.forall_mem_cons.mpr ⟨lw_p14, List.forall_mem_cons.mpr ⟨lw_p15, fun _ h => absurd h List.not_mem_nil⟩⟩⟩⟩⟩⟩⟩⟩⟩⟩⟩⟩⟩⟩⟩⟩
theorem lw_p16 : lw_okq (⟨"FoldLaboratory", "digitsFrom", "(II)I"⟩, 5) := ⟨⟨by decide +kernel, by decide +kernel⟩, List.mem_of_getElem? (i := 17) (by decide +kernel), List.mem_of_getElem? (i := 358) (by decide +kernel), List.mem_of_getElem? (i := 359) (by decide +kernel)⟩
theorem lw_p17 : lw_okq (⟨"FoldLaboratory", "operate", "(III)I"⟩, 5) := ⟨⟨by decide +kernel, by decide +kernel⟩, List.mem_of_getElem? (i := 17) (by decide +kernel), List.mem_of_getElem? (i := 365) (by decide +kernel), List.mem_of_getElem? (i := 366) (by decide +kernel)⟩
theorem lw_p18 : lw_okq (⟨"FoldLaboratory", "numberAt", "(II)I"⟩, 5) := ⟨⟨by decide +kernel, by decide +kernel⟩, List.mem_of_getElem? (i := 17) (by decide +kernel), List.mem_of_getElem? (i := 370) (by decide +kernel), List.mem_of_getElem? (i := 371) (by decide +kernel)⟩
theorem lw_p19 : lw_okq (⟨"FoldLaboratory", "tryStrip", "(I)I"⟩, 5) := ⟨⟨by decide +kernel, by decide +kernel⟩, List.mem_of_getElem? (i := 17) (by decide +kernel), List.mem_of_getElem? (i := 374) (by decide +kernel), List.mem_of_getElem? (i := 375) (by decide +kernel)⟩
theorem lw_p20 : lw_okq (⟨"FoldLaboratory", "tryCrease", "(II)I"⟩, 5) := ⟨⟨by decide +kernel, by decide +kernel⟩, List.mem_of_getElem? (i := 17) (by decide +kernel), List.mem_of_getElem? (i := 379) (by decide +kernel), List.mem_of_getElem? (i := 380) (by decide +kernel)⟩
theorem lw_p21 : lw_okq (⟨"FoldLaboratory$Paper", "hasCreaseAt", "(I)Z"⟩, 8) := ⟨⟨by decide +kernel, by decide +kernel⟩, List.mem_of_getElem? (i := 25) (by decide +kernel), List.mem_of_getElem? (i := 387) (by decide +kernel), List.mem_of_getElem? (i := 388) (by decide +kernel)⟩
theorem lw_p22 : lw_okq (⟨"FoldLaboratory$Paper", "creasesBefore", "(I)I"⟩, 8) := ⟨⟨by decide +kernel, by decide +kernel⟩, List.mem_of_getElem? (i := 25) (by decide +kernel), List.mem_of_getElem? (i := 391) (by decide +kernel), List.mem_of_getElem? (i := 392) (by decide +kernel)⟩
theorem lw_p23 : lw_okq (⟨"FoldLaboratory$Paper", "removeCrease", "(I)V"⟩, 8) := ⟨⟨by decide +kernel, by decide +kernel⟩, List.mem_of_getElem? (i := 25) (by decide +kernel), List.mem_of_getElem? (i := 399) (by decide +kernel), List.mem_of_getElem? (i := 400) (by decide +kernel)⟩
theorem lw_p24 : lw_okq (⟨"FoldLaboratory$Paper", "insertCrease", "(III)V"⟩, 8) := ⟨⟨by decide +kernel, by decide +kernel⟩, List.mem_of_getElem? (i := 25) (by decide +kernel), List.mem_of_getElem? (i := 403) (by decide +kernel), List.mem_of_getElem? (i := 404) (by decide +kernel)⟩
theorem lw_p25 : lw_okq (⟨"java/lang/Throwable", "fillInStackTrace", "(I)Ljava/lang/Throwable;"⟩, 6) := ⟨⟨by decide +kernel, by decide +kernel⟩, List.mem_of_getElem? (i := 453) (by decide +kernel), List.mem_of_getElem? (i := 451) (by decide +kernel), List.mem_of_getElem? (i := 452) (by decide +kernel)⟩
theorem lw_p26 : lw_okq (⟨"FoldLaboratory$LayerOrders", "below", "(III)I"⟩, 5) := ⟨⟨by decide +kernel, by decide +kernel⟩, List.mem_of_getElem? (i := 132) (by decide +kernel), List.mem_of_getElem? (i := 585) (by decide +kernel), List.mem_of_getElem? (i := 586) (by decide +kernel)⟩
theorem lw_p27 : lw_okq (⟨"FoldLaboratoryModel", "refuse", "(ZZ)Z"⟩, 22) := ⟨⟨by decide +kernel, by decide +kernel⟩, List.mem_of_getElem? (i := 598) (by decide +kernel), List.mem_of_getElem? (i := 679) (by decide +kernel), List.mem_of_getElem? (i := 680) (by decide +kernel)⟩
theorem lw_p28 : lw_okq (⟨"FoldLaboratoryModel", "before", "(I)I"⟩, 22) := ⟨⟨by decide +kernel, by decide +kernel⟩, List.mem_of_getElem? (i := 598) (by decide +kernel), List.mem_of_getElem? (i := 687) (by decide +kernel), List.mem_of_getElem? (i := 688) (by decide +kernel)⟩
theorem lw_p29 : lw_okq (⟨"FoldLaboratoryModel", "free", "()I"⟩, 22) := ⟨⟨by decide +kernel, by decide +kernel⟩, List.mem_of_getElem? (i := 598) (by decide +kernel), List.mem_of_getElem? (i := 699) (by decide +kernel), List.mem_of_getElem? (i := 700) (by decide +kernel)⟩
theorem lw_p30 : lw_okq (⟨"FoldLaboratoryModel", "leftEnd", "(I)I"⟩, 22) := ⟨⟨by decide +kernel, by decide +kernel⟩, List.mem_of_getElem? (i := 598) (by decide +kernel), List.mem_of_getElem? (i := 707) (by decide +kernel), List.mem_of_getElem? (i := 708) (by decide +kernel)⟩
theorem lw_p31 : lw_okq (⟨"FoldLaboratoryModel", "rightEnd", "(I)I"⟩, 22) := ⟨⟨by decide +kernel, by decide +kernel⟩, List.mem_of_getElem? (i := 598) (by decide +kernel), List.mem_of_getElem? (i := 711) (by decide +kernel), List.mem_of_getElem? (i := 712) (by decide +kernel)⟩
def lw_privs_2 : List (MethodName × Nat) := [(⟨"FoldLaboratory", "digitsFrom", "(II)I"⟩, 5), (⟨"FoldLaboratory", "operate", "(III)I"⟩, 5), (⟨"FoldLaboratory", "numberAt", "(II)I"⟩, 5), (⟨"FoldLaboratory", "tryStrip", "(I)I"⟩, 5), (⟨"FoldLaboratory", "tryCrease", "(II)I"⟩, 5), (⟨"FoldLaboratory$Paper", "hasCreaseAt", "(I)Z"⟩, 8), (⟨"FoldLaboratory$Paper", "creasesBefore", "(I)I"⟩, 8), (⟨"FoldLaboratory$Paper", "removeCrease", "(I)V"⟩, 8), (⟨"FoldLaboratory$Paper", "insertCrease", "(III)V"⟩, 8), (⟨"java/lang/Throwable", "fillInStackTrace", "(I)Ljava/lang/Throwable;"⟩, 6), (⟨"FoldLaboratory$LayerOrders", "below", "(III)I"⟩, 5), (⟨"FoldLaboratoryModel", "refuse", "(ZZ)Z"⟩, 22), (⟨"FoldLaboratoryModel", "before", "(I)I"⟩, 22), (⟨"FoldLaboratoryModel", "free", "()I"⟩, 22), (⟨"FoldLaboratoryModel", "leftEnd", "(I)I"⟩, 22), (⟨"FoldLaboratoryModel", "rightEnd", "(I)I"⟩, 22)]
theorem lw_r2 : ∀ q ∈ lw_privs_2, lw_okq q := List.forall_mem_cons.mpr ⟨lw_p16, List.forall_mem_cons.mpr ⟨lw_p17, List.forall_mem_cons.mpr ⟨lw_p18, List.forall_mem_cons.mpr ⟨lw_p19, List.forall_mem_cons.mpr ⟨lw_p20, List.forall_mem_cons.mpr ⟨lw_p21, List.forall_mem_cons.mpr ⟨lw_p22, List.forall_mem_cons.mpr ⟨lw_p23, List.forall_mem_cons.mpr ⟨lw_p24, List.forall_mem_cons.mpr ⟨lw_p25, List.forall_mem_cons.mpr ⟨lw_p26, List.forall_mem_cons.mpr ⟨lw_p27, List.forall_mem_cons.mpr ⟨lw_p28, List.forall_mem_cons.mpr ⟨lw_p29, List.forall_mem_cons.mpr ⟨lw_p30, List.forall_mem_cons.mpr ⟨lw_p31, fun _ h => absurd h List.not_mem_nil⟩⟩⟩⟩⟩⟩⟩⟩⟩⟩⟩⟩⟩⟩⟩⟩
theorem lw_p32 : lw_okq (⟨"FoldLaboratoryModel", "low", "(I)I"⟩, 22) := ⟨⟨by decide +kernel, by decide +kernel⟩, List.mem_of_getElem? (i := 598) (by decide +kernel), List.mem_of_getElem? (i := 715) (by decide +kernel), List.mem_of_getElem? (i := 716) (by decide +kernel)⟩
theorem lw_p33 : lw_okq (⟨"FoldLaboratoryModel", "fold", "(I)I"⟩, 22) := ⟨⟨by decide +kernel, by decide +kernel⟩, List.mem_of_getElem? (i := 598) (by decide +kernel), List.mem_of_getElem? (i := 719) (by decide +kernel), List.mem_of_getElem? (i := 720) (by decide +kernel)⟩
theorem lw_p34 : lw_okq (⟨"FoldLaboratoryModel", "high", "(I)I"⟩, 22) := ⟨⟨by decide +kernel, by decide +kernel⟩, List.mem_of_getElem? (i := 598) (by decide +kernel), List.mem_of_getElem? (i := 723) (by decide +kernel), List.mem_of_getElem? (i := 724) (by decide +kernel)⟩
theorem lw_p35 : lw_okq (⟨"FoldLaboratoryModel", "isUp", "(I)Z"⟩, 22) := ⟨⟨by decide +kernel, by decide +kernel⟩, List.mem_of_getElem? (i := 598) (by decide +kernel), List.mem_of_getElem? (i := 727) (by decide +kernel), List.mem_of_getElem? (i := 728) (by decide +kernel)⟩
theorem lw_p36 : lw_okq (⟨"FoldLaboratoryModel", "covers", "(II)Z"⟩, 22) := ⟨⟨by decide +kernel, by decide +kernel⟩, List.mem_of_getElem? (i := 598) (by decide +kernel), List.mem_of_getElem? (i := 743) (by decide +kernel), List.mem_of_getElem? (i := 744) (by decide +kernel)⟩
theorem lw_p37 : lw_okq (⟨"FoldLaboratoryModel", "reduce", "()V"⟩, 22) := ⟨⟨by decide +kernel, by decide +kernel⟩, List.mem_of_getElem? (i := 598) (by decide +kernel), List.mem_of_getElem? (i := 751) (by decide +kernel), List.mem_of_getElem? (i := 752) (by decide +kernel)⟩
theorem lw_p38 : lw_okq (⟨"FoldLaboratoryModel", "middle", "()I"⟩, 22) := ⟨⟨by decide +kernel, by decide +kernel⟩, List.mem_of_getElem? (i := 598) (by decide +kernel), List.mem_of_getElem? (i := 755) (by decide +kernel), List.mem_of_getElem? (i := 756) (by decide +kernel)⟩
theorem lw_p39 : lw_okq (⟨"FoldLaboratoryModel", "note", "(II)V"⟩, 22) := ⟨⟨by decide +kernel, by decide +kernel⟩, List.mem_of_getElem? (i := 598) (by decide +kernel), List.mem_of_getElem? (i := 759) (by decide +kernel), List.mem_of_getElem? (i := 760) (by decide +kernel)⟩
theorem lw_p40 : lw_okq (⟨"FoldLaboratoryModel", "drop", "(I)V"⟩, 22) := ⟨⟨by decide +kernel, by decide +kernel⟩, List.mem_of_getElem? (i := 598) (by decide +kernel), List.mem_of_getElem? (i := 763) (by decide +kernel), List.mem_of_getElem? (i := 764) (by decide +kernel)⟩
theorem lw_p41 : lw_okq (⟨"FoldLaboratoryModel", "look", "(I)Z"⟩, 22) := ⟨⟨by decide +kernel, by decide +kernel⟩, List.mem_of_getElem? (i := 598) (by decide +kernel), List.mem_of_getElem? (i := 780) (by decide +kernel), List.mem_of_getElem? (i := 781) (by decide +kernel)⟩
theorem lw_p42 : lw_okq (⟨"FoldLaboratoryModel", "begin", "()I"⟩, 22) := ⟨⟨by decide +kernel, by decide +kernel⟩, List.mem_of_getElem? (i := 598) (by decide +kernel), List.mem_of_getElem? (i := 784) (by decide +kernel), List.mem_of_getElem? (i := 785) (by decide +kernel)⟩
theorem lw_p43 : lw_okq (⟨"FoldLaboratoryModel", "overlap", "(II)Z"⟩, 22) := ⟨⟨by decide +kernel, by decide +kernel⟩, List.mem_of_getElem? (i := 598) (by decide +kernel), List.mem_of_getElem? (i := 788) (by decide +kernel), List.mem_of_getElem? (i := 789) (by decide +kernel)⟩
theorem lw_p44 : lw_okq (⟨"FoldLaboratoryModel", "set", "(III)V"⟩, 22) := ⟨⟨by decide +kernel, by decide +kernel⟩, List.mem_of_getElem? (i := 598) (by decide +kernel), List.mem_of_getElem? (i := 792) (by decide +kernel), List.mem_of_getElem? (i := 793) (by decide +kernel)⟩
theorem lw_p45 : lw_okq (⟨"FoldLaboratoryModel", "get", "(II)I"⟩, 22) := ⟨⟨by decide +kernel, by decide +kernel⟩, List.mem_of_getElem? (i := 598) (by decide +kernel), List.mem_of_getElem? (i := 796) (by decide +kernel), List.mem_of_getElem? (i := 797) (by decide +kernel)⟩
theorem lw_p46 : lw_okq (⟨"FoldLaboratoryModel", "holds", "()Z"⟩, 22) := ⟨⟨by decide +kernel, by decide +kernel⟩, List.mem_of_getElem? (i := 598) (by decide +kernel), List.mem_of_getElem? (i := 800) (by decide +kernel), List.mem_of_getElem? (i := 801) (by decide +kernel)⟩
theorem lw_p47 : lw_okq (⟨"FoldLaboratoryModel", "turnsRound", "(III)Z"⟩, 22) := ⟨⟨by decide +kernel, by decide +kernel⟩, List.mem_of_getElem? (i := 598) (by decide +kernel), List.mem_of_getElem? (i := 804) (by decide +kernel), List.mem_of_getElem? (i := 805) (by decide +kernel)⟩
def lw_privs_3 : List (MethodName × Nat) := [(⟨"FoldLaboratoryModel", "low", "(I)I"⟩, 22), (⟨"FoldLaboratoryModel", "fold", "(I)I"⟩, 22), (⟨"FoldLaboratoryModel", "high", "(I)I"⟩, 22), (⟨"FoldLaboratoryModel", "isUp", "(I)Z"⟩, 22), (⟨"FoldLaboratoryModel", "covers", "(II)Z"⟩, 22), (⟨"FoldLaboratoryModel", "reduce", "()V"⟩, 22), (⟨"FoldLaboratoryModel", "middle", "()I"⟩, 22), (⟨"FoldLaboratoryModel", "note", "(II)V"⟩, 22), (⟨"FoldLaboratoryModel", "drop", "(I)V"⟩, 22), (⟨"FoldLaboratoryModel", "look", "(I)Z"⟩, 22), (⟨"FoldLaboratoryModel", "begin", "()I"⟩, 22), (⟨"FoldLaboratoryModel", "overlap", "(II)Z"⟩, 22), (⟨"FoldLaboratoryModel", "set", "(III)V"⟩, 22), (⟨"FoldLaboratoryModel", "get", "(II)I"⟩, 22), (⟨"FoldLaboratoryModel", "holds", "()Z"⟩, 22), (⟨"FoldLaboratoryModel", "turnsRound", "(III)Z"⟩, 22)]
theorem lw_r3 : ∀ q ∈ lw_privs_3, lw_okq q := List.forall_mem_cons.mpr ⟨lw_p32, List.forall_mem_cons.mpr ⟨lw_p33, List.forall_mem_cons.mpr ⟨lw_p34, List.forall_mem_cons.mpr ⟨lw_p35, List.forall_mem_cons.mpr ⟨lw_p36, List.forall_mem_cons.mpr ⟨lw_p37, List.forall_mem_cons.mpr ⟨lw_p38, List.forall_mem_cons.mpr ⟨lw_p39, List.forall_mem_cons.mpr ⟨lw_p40, List.forall_mem_cons.mpr ⟨lw_p41, List.forall_mem_cons.mpr ⟨lw_p42, List.forall_mem_cons.mpr ⟨lw_p43, List.forall_mem_cons.mpr ⟨lw_p44, List.forall_mem_cons.mpr ⟨lw_p45, List.forall_mem_cons.mpr ⟨lw_p46, List.forall_mem_cons.mpr ⟨lw_p47, fun _ h => absurd h List.not_mem_nil⟩⟩⟩⟩⟩⟩⟩⟩⟩⟩⟩⟩⟩⟩⟩⟩
theorem lw_p48 : lw_okq (⟨"FoldLaboratoryModel", "isMarked", "(I)Z"⟩, 22) := ⟨⟨by decide +kernel, by decide +kernel⟩, List.mem_of_getElem? (i := 598) (by decide +kernel), List.mem_of_getElem? (i := 808) (by decide +kernel), List.mem_of_getElem? (i := 809) (by decide +kernel)⟩
theorem lw_p49 : lw_okq (⟨"FoldLaboratoryModel", "isClear", "(I)Z"⟩, 22) := ⟨⟨by decide +kernel, by decide +kernel⟩, List.mem_of_getElem? (i := 598) (by decide +kernel), List.mem_of_getElem? (i := 812) (by decide +kernel), List.mem_of_getElem? (i := 813) (by decide +kernel)⟩
theorem lw_p50 : lw_okq (⟨"FoldLaboratoryModel", "between", "(III)I"⟩, 22) := ⟨⟨by decide +kernel, by decide +kernel⟩, List.mem_of_getElem? (i := 598) (by decide +kernel), List.mem_of_getElem? (i := 816) (by decide +kernel), List.mem_of_getElem? (i := 817) (by decide +kernel)⟩
theorem lw_p51 : lw_okq (⟨"FoldLaboratoryModel", "arePeaceful", "(II)Z"⟩, 22) := ⟨⟨by decide +kernel, by decide +kernel⟩, List.mem_of_getElem? (i := 598) (by decide +kernel), List.mem_of_getElem? (i := 820) (by decide +kernel), List.mem_of_getElem? (i := 821) (by decide +kernel)⟩
theorem lw_p52 : lw_okq (⟨"FoldLaboratoryModel", "sign", "(II)I"⟩, 22) := ⟨⟨by decide +kernel, by decide +kernel⟩, List.mem_of_getElem? (i := 598) (by decide +kernel), List.mem_of_getElem? (i := 844) (by decide +kernel), List.mem_of_getElem? (i := 845) (by decide +kernel)⟩
theorem lw_p53 : lw_okq (⟨"FoldLaboratoryModel", "does", "(II)Z"⟩, 22) := ⟨⟨by decide +kernel, by decide +kernel⟩, List.mem_of_getElem? (i := 598) (by decide +kernel), List.mem_of_getElem? (i := 851) (by decide +kernel), List.mem_of_getElem? (i := 852) (by decide +kernel)⟩
def lw_privs_4 : List (MethodName × Nat) := [(⟨"FoldLaboratoryModel", "isMarked", "(I)Z"⟩, 22), (⟨"FoldLaboratoryModel", "isClear", "(I)Z"⟩, 22), (⟨"FoldLaboratoryModel", "between", "(III)I"⟩, 22), (⟨"FoldLaboratoryModel", "arePeaceful", "(II)Z"⟩, 22), (⟨"FoldLaboratoryModel", "sign", "(II)I"⟩, 22), (⟨"FoldLaboratoryModel", "does", "(II)Z"⟩, 22)]
theorem lw_r4 : ∀ q ∈ lw_privs_4, lw_okq q := List.forall_mem_cons.mpr ⟨lw_p48, List.forall_mem_cons.mpr ⟨lw_p49, List.forall_mem_cons.mpr ⟨lw_p50, List.forall_mem_cons.mpr ⟨lw_p51, List.forall_mem_cons.mpr ⟨lw_p52, List.forall_mem_cons.mpr ⟨lw_p53, fun _ h => absurd h List.not_mem_nil⟩⟩⟩⟩⟩⟩
def lw_privs : List (MethodName × Nat) := lw_privs_1 ++ (lw_privs_2 ++ (lw_privs_3 ++ (lw_privs_4)))
def lw_tbl : List Cond := k2_sels lw_privs ++ tables_1
theorem lw_privs_ok : ∀ q ∈ lw_privs, lw_okq q := by
  show ∀ q ∈ lw_privs_1 ++ (lw_privs_2 ++ (lw_privs_3 ++ (lw_privs_4))), lw_okq q
  exact List.forall_mem_append.mpr ⟨lw_r1, List.forall_mem_append.mpr ⟨lw_r2, List.forall_mem_append.mpr ⟨lw_r3, lw_r4⟩⟩⟩
end
section
/-! names: classes, fields, methods (laid by gen.py out of the claim) -/
def RF : String := "FoldLaboratory"
def RP : String := "FoldLaboratory$Paper"
def RR : String := "FoldLaboratory$Reductions"
def RO : String := "FoldLaboratory$LayerOrders"
def RM : String := "FoldLaboratoryModel"
def RL : String := "FoldLaboratoryLaw"
def RJA : String := "java/util/Arrays"
def RJL : String := "java/lang/Long"
def TF : u_T := fun k => match k with
  | 0 => ("FoldLaboratory", "paper", "LFoldLaboratory$Paper;", true)
  | 1 => ("FoldLaboratory", "reductions", "LFoldLaboratory$Reductions;", true)
  | 2 => ("FoldLaboratory", "layerOrders", "LFoldLaboratory$LayerOrders;", true)
  | 3 => ("FoldLaboratory", "signs", "[I", true)
  | _ => ("FoldLaboratory", "typed", "I", false)
def tF : Nat → FieldType := fun k => match k with
  | 0 => .object "FoldLaboratory$Paper"
  | 1 => .object "FoldLaboratory$Reductions"
  | 2 => .object "FoldLaboratory$LayerOrders"
  | 3 => .array .int
  | _ => .int
theorem nF : ∀ a, a < 5 → ∀ b, b < 5 → a ≠ b → (TF a).2.1 ≠ (TF b).2.1 := by decide +kernel
theorem tF_ok : ∀ k, k < 5 → parseFieldDescriptor (TF k).2.2.1 = some (tF k) := by decide +kernel
def TP : u_T := fun k => match k with
  | 0 => ("FoldLaboratory$Paper", "length", "I", false)
  | 1 => ("FoldLaboratory$Paper", "creases", "I", false)
  | 2 => ("FoldLaboratory$Paper", "turned", "Z", false)
  | 3 => ("FoldLaboratory$Paper", "creasePlaces", "[I", true)
  | 4 => ("FoldLaboratory$Paper", "creaseMarks", "[I", true)
  | 5 => ("FoldLaboratory$Paper", "bends", "[I", true)
  | 6 => ("FoldLaboratory$Paper", "imageLow", "[I", true)
  | _ => ("FoldLaboratory$Paper", "imageHigh", "[I", true)
def tP : Nat → FieldType := fun k => match k with
  | 0 => .int
  | 1 => .int
  | 2 => .boolean
  | 3 => .array .int
  | 4 => .array .int
  | 5 => .array .int
  | 6 => .array .int
  | _ => .array .int
theorem nP : ∀ a, a < 8 → ∀ b, b < 8 → a ≠ b → (TP a).2.1 ≠ (TP b).2.1 := by decide +kernel
theorem tP_ok : ∀ k, k < 8 → parseFieldDescriptor (TP k).2.2.1 = some (tP k) := by decide +kernel
def TR : u_T := fun k => match k with
  | 0 => ("FoldLaboratory$Reductions", "paper", "LFoldLaboratory$Paper;", true)
  | 1 => ("FoldLaboratory$Reductions", "lengths", "[I", true)
  | 2 => ("FoldLaboratory$Reductions", "places", "[I", true)
  | 3 => ("FoldLaboratory$Reductions", "creaseMarks", "[I", true)
  | 4 => ("FoldLaboratory$Reductions", "remaining", "I", false)
  | 5 => ("FoldLaboratory$Reductions", "done", "I", false)
  | 6 => ("FoldLaboratory$Reductions", "kinds", "[I", true)
  | _ => ("FoldLaboratory$Reductions", "wentAt", "[I", true)
def tR : Nat → FieldType := fun k => match k with
  | 0 => .object "FoldLaboratory$Paper"
  | 1 => .array .int
  | 2 => .array .int
  | 3 => .array .int
  | 4 => .int
  | 5 => .int
  | 6 => .array .int
  | _ => .array .int
theorem nR : ∀ a, a < 8 → ∀ b, b < 8 → a ≠ b → (TR a).2.1 ≠ (TR b).2.1 := by decide +kernel
theorem tR_ok : ∀ k, k < 8 → parseFieldDescriptor (TR k).2.2.1 = some (tR k) := by decide +kernel
def TO : u_T := fun k => match k with
  | 0 => ("FoldLaboratory$LayerOrders", "paper", "LFoldLaboratory$Paper;", true)
  | 1 => ("FoldLaboratory$LayerOrders", "known", "Z", false)
  | 2 => ("FoldLaboratory$LayerOrders", "found", "I", false)
  | 3 => ("FoldLaboratory$LayerOrders", "rows", "[I", false)
  | _ => ("FoldLaboratory$LayerOrders", "markings", "J", false)
def tO : Nat → FieldType := fun k => match k with
  | 0 => .object "FoldLaboratory$Paper"
  | 1 => .boolean
  | 2 => .int
  | 3 => .array .int
  | _ => .long
theorem nO : ∀ a, a < 5 → ∀ b, b < 5 → a ≠ b → (TO a).2.1 ≠ (TO b).2.1 := by decide +kernel
theorem tO_ok : ∀ k, k < 5 → parseFieldDescriptor (TO k).2.2.1 = some (tO k) := by decide +kernel
def TM : u_T := fun k => match k with
  | 0 => ("FoldLaboratoryModel", "thrown", "I", false)
  | 1 => ("FoldLaboratoryModel", "length", "I", false)
  | 2 => ("FoldLaboratoryModel", "turned", "Z", false)
  | 3 => ("FoldLaboratoryModel", "places", "[I", true)
  | 4 => ("FoldLaboratoryModel", "marks", "[I", true)
  | 5 => ("FoldLaboratoryModel", "creases", "I", false)
  | 6 => ("FoldLaboratoryModel", "text", "[I", true)
  | 7 => ("FoldLaboratoryModel", "typed", "I", false)
  | 8 => ("FoldLaboratoryModel", "order", "[I", true)
  | 9 => ("FoldLaboratoryModel", "pairA", "[I", true)
  | 10 => ("FoldLaboratoryModel", "pairB", "[I", true)
  | 11 => ("FoldLaboratoryModel", "lows", "[I", true)
  | 12 => ("FoldLaboratoryModel", "highs", "[I", true)
  | 13 => ("FoldLaboratoryModel", "meets", "[I", true)
  | 14 => ("FoldLaboratoryModel", "found", "I", false)
  | 15 => ("FoldLaboratoryModel", "row", "[I", true)
  | 16 => ("FoldLaboratoryModel", "rowMarks", "[I", true)
  | 17 => ("FoldLaboratoryModel", "rowPlaces", "[I", true)
  | 18 => ("FoldLaboratoryModel", "rowCount", "I", false)
  | 19 => ("FoldLaboratoryModel", "stepKinds", "[I", true)
  | 20 => ("FoldLaboratoryModel", "stepPlaces", "[I", true)
  | _ => ("FoldLaboratoryModel", "stepCount", "I", false)
def tM : Nat → FieldType := fun k => match k with
  | 0 => .int
  | 1 => .int
  | 2 => .boolean
  | 3 => .array .int
  | 4 => .array .int
  | 5 => .int
  | 6 => .array .int
  | 7 => .int
  | 8 => .array .int
  | 9 => .array .int
  | 10 => .array .int
  | 11 => .array .int
  | 12 => .array .int
  | 13 => .array .int
  | 14 => .int
  | 15 => .array .int
  | 16 => .array .int
  | 17 => .array .int
  | 18 => .int
  | 19 => .array .int
  | 20 => .array .int
  | _ => .int
theorem nM : ∀ a, a < 22 → ∀ b, b < 22 → a ≠ b → (TM a).2.1 ≠ (TM b).2.1 := by decide +kernel
theorem tM_ok : ∀ k, k < 22 → parseFieldDescriptor (TM k).2.2.1 = some (tM k) := by decide +kernel
def TX : u_T := fun _ => ("", "", "", false)
def ev_CL : List vw_C := [(RF, TF, 5), (RP, TP, 8), (RR, TR, 8), (RO, TO, 5), (RM, TM, 22), ("java/lang/IllegalArgumentException", TX, 0), ("java/lang/UnsupportedOperationException", TX, 0), ("java/lang/IndexOutOfBoundsException", TX, 0)]
abbrev ev_M : Type := MethodName × ByteArray × Nat × Option FieldType × List (Nat × Nat × Nat × Nat)
abbrev cF_init : ByteArray := prog_1_method_1_code
def yF_init : MethodName := ⟨RF, "<init>", "()V"⟩
abbrev mF_init : ev_M := (yF_init, cF_init, 1, none, [])
abbrev cP_init : ByteArray := prog_3_method_1_code
def yP_init : MethodName := ⟨RP, "<init>", "()V"⟩
abbrev mP_init : ev_M := (yP_init, cP_init, 1, none, [])
abbrev cP_renew : ByteArray := prog_3_method_2_code
def yP_renew : MethodName := ⟨RP, "renew", "(I)V"⟩
abbrev mP_renew : ev_M := (yP_renew, cP_renew, 2, none, [])
abbrev cP_fold : ByteArray := prog_3_method_10_code
def yP_fold : MethodName := ⟨RP, "fold", "()V"⟩
abbrev mP_fold : ev_M := (yP_fold, cP_fold, 2, none, [])
abbrev cP_direction : ByteArray := prog_3_method_11_code
def yP_direction : MethodName := ⟨RP, "direction", "(I)I"⟩
abbrev mP_direction : ev_M := (yP_direction, cP_direction, 1, (some .int), [])
abbrev cP_segmentLength : ByteArray := prog_3_method_17_code
def yP_segmentLength : MethodName := ⟨RP, "segmentLength", "(I)I"⟩
abbrev mP_segmentLength : ev_M := (yP_segmentLength, cP_segmentLength, 2, (some .int), [])
abbrev cP_rightEnd : ByteArray := prog_3_method_16_code
def yP_rightEnd : MethodName := ⟨RP, "rightEnd", "(I)I"⟩
abbrev mP_rightEnd : ev_M := (yP_rightEnd, cP_rightEnd, 2, (some .int), [])
abbrev cP_leftEnd : ByteArray := prog_3_method_15_code
def yP_leftEnd : MethodName := ⟨RP, "leftEnd", "(I)I"⟩
abbrev mP_leftEnd : ev_M := (yP_leftEnd, cP_leftEnd, 2, (some .int), [])
abbrev cR_init : ByteArray := prog_4_method_1_code
def yR_init : MethodName := ⟨RR, "<init>", "(LFoldLaboratory$Paper;)V"⟩
abbrev mR_init : ev_M := (yR_init, cR_init, 2, none, [])
abbrev cO_init : ByteArray := prog_2_method_1_code
def yO_init : MethodName := ⟨RO, "<init>", "(LFoldLaboratory$Paper;)V"⟩
abbrev mO_init : ev_M := (yO_init, cO_init, 2, none, [])
abbrev cF_turn : ByteArray := prog_1_method_4_code
def yF_turn : MethodName := ⟨RF, "turn", "()Z"⟩
abbrev mF_turn : ev_M := (yF_turn, cF_turn, 1, (some .boolean), [])
abbrev cP_turnOver : ByteArray := prog_3_method_3_code
def yP_turnOver : MethodName := ⟨RP, "turnOver", "()V"⟩
abbrev mP_turnOver : ev_M := (yP_turnOver, cP_turnOver, 1, none, [])
abbrev cO_forget : ByteArray := prog_2_method_2_code
def yO_forget : MethodName := ⟨RO, "forget", "()V"⟩
abbrev mO_forget : ev_M := (yO_forget, cO_forget, 1, none, [])
abbrev cF_count : ByteArray := prog_1_method_5_code
def yF_count : MethodName := ⟨RF, "count", "(I)I"⟩
abbrev mF_count : ev_M := (yF_count, cF_count, 2, (some .int), [])
abbrev cP_freeCreases : ByteArray := prog_3_method_12_code
def yP_freeCreases : MethodName := ⟨RP, "freeCreases", "()I"⟩
abbrev mP_freeCreases : ev_M := (yP_freeCreases, cP_freeCreases, 3, (some .int), [])
abbrev cF_width : ByteArray := prog_1_method_8_code
def yF_width : MethodName := ⟨RF, "width", "()I"⟩
abbrev mF_width : ev_M := (yF_width, cF_width, 1, (some .int), [])
abbrev cP_reach : ByteArray := prog_3_method_20_code
def yP_reach : MethodName := ⟨RP, "reach", "()I"⟩
abbrev mP_reach : ev_M := (yP_reach, cP_reach, 4, (some .int), [])
abbrev cP_segments : ByteArray := prog_3_method_13_code
def yP_segments : MethodName := ⟨RP, "segments", "()I"⟩
abbrev mP_segments : ev_M := (yP_segments, cP_segments, 1, (some .int), [])
abbrev cF_thickness : ByteArray := prog_1_method_9_code
def yF_thickness : MethodName := ⟨RF, "thickness", "()I"⟩
abbrev mF_thickness : ev_M := (yF_thickness, cF_thickness, 1, (some .int), [])
abbrev cP_mostImages : ByteArray := prog_3_method_21_code
def yP_mostImages : MethodName := ⟨RP, "mostImages", "()I"⟩
abbrev mP_mostImages : ev_M := (yP_mostImages, cP_mostImages, 3, (some .int), [])
abbrev cP_imagesOver : ByteArray := prog_3_method_22_code
def yP_imagesOver : MethodName := ⟨RP, "imagesOver", "(I)I"⟩
abbrev mP_imagesOver : ev_M := (yP_imagesOver, cP_imagesOver, 4, (some .int), [])
abbrev cP_liesOver : ByteArray := prog_3_method_23_code
def yP_liesOver : MethodName := ⟨RP, "liesOver", "(II)Z"⟩
abbrev mP_liesOver : ev_M := (yP_liesOver, cP_liesOver, 3, (some .boolean), [])
abbrev cF_foldable : ByteArray := prog_1_method_10_code
def yF_foldable : MethodName := ⟨RF, "foldable", "()I"⟩
abbrev mF_foldable : ev_M := (yF_foldable, cF_foldable, 1, (some .int), [])
abbrev cR_reduce : ByteArray := prog_4_method_2_code
def yR_reduce : MethodName := ⟨RR, "reduce", "()V"⟩
abbrev mR_reduce : ev_M := (yR_reduce, cR_reduce, 3, none, [])
abbrev cR_copyPattern : ByteArray := prog_4_method_3_code
def yR_copyPattern : MethodName := ⟨RR, "copyPattern", "()V"⟩
abbrev mR_copyPattern : ev_M := (yR_copyPattern, cR_copyPattern, 2, none, [])
abbrev cR_reduceOnce : ByteArray := prog_4_method_4_code
def yR_reduceOnce : MethodName := ⟨RR, "reduceOnce", "()Z"⟩
abbrev mR_reduceOnce : ev_M := (yR_reduceOnce, cR_reduceOnce, 2, (some .boolean), [])
abbrev cR_note : ByteArray := prog_4_method_5_code
def yR_note : MethodName := ⟨RR, "note", "(II)V"⟩
abbrev mR_note : ev_M := (yR_note, cR_note, 3, none, [])
abbrev cR_removeLengths : ByteArray := prog_4_method_8_code
def yR_removeLengths : MethodName := ⟨RR, "removeLengths", "(II)V"⟩
abbrev mR_removeLengths : ev_M := (yR_removeLengths, cR_removeLengths, 4, none, [])
abbrev cR_removeCreases : ByteArray := prog_4_method_9_code
def yR_removeCreases : MethodName := ⟨RR, "removeCreases", "(II)V"⟩
abbrev mR_removeCreases : ev_M := (yR_removeCreases, cR_removeCreases, 4, none, [])
abbrev cR_leftmostPleat : ByteArray := prog_4_method_6_code
def yR_leftmostPleat : MethodName := ⟨RR, "leftmostPleat", "()I"⟩
abbrev mR_leftmostPleat : ev_M := (yR_leftmostPleat, cR_leftmostPleat, 2, (some .int), [])
abbrev cR_flatten : ByteArray := prog_4_method_7_code
def yR_flatten : MethodName := ⟨RR, "flatten", "(I)V"⟩
abbrev mR_flatten : ev_M := (yR_flatten, cR_flatten, 2, none, [])
abbrev cF_steps : ByteArray := prog_1_method_11_code
def yF_steps : MethodName := ⟨RF, "steps", "()I"⟩
abbrev mF_steps : ev_M := (yF_steps, cF_steps, 1, (some .int), [])
abbrev cF_orders : ByteArray := prog_1_method_13_code
def yF_orders : MethodName := ⟨RF, "orders", "()I"⟩
abbrev mF_orders : ev_M := (yF_orders, cF_orders, 1, (some .int), [])
abbrev cO_findAll : ByteArray := prog_2_method_3_code
def yO_findAll : MethodName := ⟨RO, "findAll", "()V"⟩
abbrev mO_findAll : ev_M := (yO_findAll, cO_findAll, 1, none, [])
abbrev cO_decide : ByteArray := prog_2_method_4_code
def yO_decide : MethodName := ⟨RO, "decide", "(III)V"⟩
abbrev mO_decide : ev_M := (yO_decide, cO_decide, 9, none, [])
abbrev cO_keep : ByteArray := prog_2_method_5_code
def yO_keep : MethodName := ⟨RO, "keep", "(I)V"⟩
abbrev mO_keep : ev_M := (yO_keep, cO_keep, 2, none, [])
abbrev cJA_copyOf : ByteArray := prog_18_method_123_code
def yJA_copyOf : MethodName := ⟨RJA, "copyOf", "([II)[I"⟩
abbrev mJA_copyOf : ev_M := (yJA_copyOf, cJA_copyOf, 3, (some (.array .int)), [])
abbrev cO_markingOf : ByteArray := prog_2_method_6_code
def yO_markingOf : MethodName := ⟨RO, "markingOf", "(I)I"⟩
abbrev mO_markingOf : ev_M := (yO_markingOf, cO_markingOf, 4, (some .int), [])
abbrev cO_isAbove : ByteArray := prog_2_method_8_code
def yO_isAbove : MethodName := ⟨RO, "isAbove", "(III)Z"⟩
abbrev mO_isAbove : ev_M := (yO_isAbove, cO_isAbove, 3, (some .boolean), [])
abbrev cO_bit : ByteArray := prog_2_method_7_code
def yO_bit : MethodName := ⟨RO, "bit", "(II)I"⟩
abbrev mO_bit : ev_M := (yO_bit, cO_bit, 2, (some .int), [])
abbrev cP_overlap : ByteArray := prog_3_method_24_code
def yP_overlap : MethodName := ⟨RP, "overlap", "(II)Z"⟩
abbrev mP_overlap : ev_M := (yP_overlap, cP_overlap, 3, (some .boolean), [])
abbrev cO_keepsMark : ByteArray := prog_2_method_10_code
def yO_keepsMark : MethodName := ⟨RO, "keepsMark", "(III)Z"⟩
abbrev mO_keepsMark : ev_M := (yO_keepsMark, cO_keepsMark, 5, (some .boolean), [])
abbrev cP_frontUp : ByteArray := prog_3_method_18_code
def yP_frontUp : MethodName := ⟨RP, "frontUp", "(I)Z"⟩
abbrev mP_frontUp : ev_M := (yP_frontUp, cP_frontUp, 2, (some .boolean), [])
abbrev cO_makesNoRound : ByteArray := prog_2_method_11_code
def yO_makesNoRound : MethodName := ⟨RO, "makesNoRound", "(III)Z"⟩
abbrev mO_makesNoRound : ev_M := (yO_makesNoRound, cO_makesNoRound, 5, (some .boolean), [])
abbrev cO_crossesNoCrease : ByteArray := prog_2_method_12_code
def yO_crossesNoCrease : MethodName := ⟨RO, "crossesNoCrease", "(III)Z"⟩
abbrev mO_crossesNoCrease : ev_M := (yO_crossesNoCrease, cO_crossesNoCrease, 4, (some .boolean), [])
abbrev cP_foldedCrease : ByteArray := prog_3_method_25_code
def yP_foldedCrease : MethodName := ⟨RP, "foldedCrease", "(I)I"⟩
abbrev mP_foldedCrease : ev_M := (yP_foldedCrease, cP_foldedCrease, 2, (some .int), [])
abbrev cP_hasInside : ByteArray := prog_3_method_26_code
def yP_hasInside : MethodName := ⟨RP, "hasInside", "(II)Z"⟩
abbrev mP_hasInside : ev_M := (yP_hasInside, cP_hasInside, 3, (some .boolean), [])
abbrev cO_isBetween : ByteArray := prog_2_method_9_code
def yO_isBetween : MethodName := ⟨RO, "isBetween", "(IIII)Z"⟩
abbrev mO_isBetween : ev_M := (yO_isBetween, cO_isBetween, 4, (some .boolean), [])
abbrev cO_creasesNest : ByteArray := prog_2_method_13_code
def yO_creasesNest : MethodName := ⟨RO, "creasesNest", "(III)Z"⟩
abbrev mO_creasesNest : ev_M := (yO_creasesNest, cO_creasesNest, 4, (some .boolean), [])
abbrev cF_marks : ByteArray := prog_1_method_16_code
def yF_marks : MethodName := ⟨RF, "marks", "()I"⟩
abbrev mF_marks : ev_M := (yF_marks, cF_marks, 1, (some .int), [])
abbrev cJL_bitCount : ByteArray := prog_11_method_50_code
def yJL_bitCount : MethodName := ⟨RJL, "bitCount", "(J)I"⟩
abbrev mJL_bitCount : ev_M := (yJL_bitCount, cJL_bitCount, 2, (some .int), [])
abbrev cF_run : ByteArray := prog_1_method_18_code
def yF_run : MethodName := ⟨RF, "run", "()I"⟩
abbrev mF_run : ev_M := (yF_run, cF_run, 5, (some .int), [])
abbrev cF_takesNumber : ByteArray := prog_1_method_19_code
def yF_takesNumber : MethodName := ⟨RF, "takesNumber", "(I)Z"⟩
abbrev mF_takesNumber : ev_M := (yF_takesNumber, cF_takesNumber, 1, (some .boolean), [])
abbrev cF_markOf : ByteArray := prog_1_method_20_code
def yF_markOf : MethodName := ⟨RF, "markOf", "(I)I"⟩
abbrev mF_markOf : ev_M := (yF_markOf, cF_markOf, 1, (some .int), [])
abbrev cF_digitsFrom : ByteArray := prog_1_method_21_code
def yF_digitsFrom : MethodName := ⟨RF, "digitsFrom", "(II)I"⟩
abbrev mF_digitsFrom : ev_M := (yF_digitsFrom, cF_digitsFrom, 4, (some .int), [])
abbrev cF_isDigit : ByteArray := prog_1_method_22_code
def yF_isDigit : MethodName := ⟨RF, "isDigit", "(I)Z"⟩
abbrev mF_isDigit : ev_M := (yF_isDigit, cF_isDigit, 1, (some .boolean), [])
abbrev cF_operate : ByteArray := prog_1_method_24_code
def yF_operate : MethodName := ⟨RF, "operate", "(III)I"⟩
abbrev mF_operate : ev_M := (yF_operate, cF_operate, 5, (some .int), [])
abbrev cF_numberAt : ByteArray := prog_1_method_23_code
def yF_numberAt : MethodName := ⟨RF, "numberAt", "(II)I"⟩
abbrev mF_numberAt : ev_M := (yF_numberAt, cF_numberAt, 5, (some .int), [])
abbrev cF_tryStrip : ByteArray := prog_1_method_25_code
def yF_tryStrip : MethodName := ⟨RF, "tryStrip", "(I)I"⟩
abbrev mF_tryStrip : ev_M := (yF_tryStrip, cF_tryStrip, 2, (some .int), [])
abbrev cF_tryCrease : ByteArray := prog_1_method_26_code
def yF_tryCrease : MethodName := ⟨RF, "tryCrease", "(II)I"⟩
abbrev mF_tryCrease : ev_M := (yF_tryCrease, cF_tryCrease, 4, (some .int), [])
abbrev cP_judgeCrease : ByteArray := prog_3_method_4_code
def yP_judgeCrease : MethodName := ⟨RP, "judgeCrease", "(II)I"⟩
abbrev mP_judgeCrease : ev_M := (yP_judgeCrease, cP_judgeCrease, 3, (some .int), [])
abbrev cP_hasCreaseAt : ByteArray := prog_3_method_6_code
def yP_hasCreaseAt : MethodName := ⟨RP, "hasCreaseAt", "(I)Z"⟩
abbrev mP_hasCreaseAt : ev_M := (yP_hasCreaseAt, cP_hasCreaseAt, 3, (some .boolean), [])
abbrev cP_creasesBefore : ByteArray := prog_3_method_7_code
def yP_creasesBefore : MethodName := ⟨RP, "creasesBefore", "(I)I"⟩
abbrev mP_creasesBefore : ev_M := (yP_creasesBefore, cP_creasesBefore, 3, (some .int), [])
abbrev cP_setCrease : ByteArray := prog_3_method_5_code
def yP_setCrease : MethodName := ⟨RP, "setCrease", "(II)V"⟩
abbrev mP_setCrease : ev_M := (yP_setCrease, cP_setCrease, 4, none, [])
abbrev cP_removeCrease : ByteArray := prog_3_method_9_code
def yP_removeCrease : MethodName := ⟨RP, "removeCrease", "(I)V"⟩
abbrev mP_removeCrease : ev_M := (yP_removeCrease, cP_removeCrease, 3, none, [])
abbrev cP_insertCrease : ByteArray := prog_3_method_8_code
def yP_insertCrease : MethodName := ⟨RP, "insertCrease", "(III)V"⟩
abbrev mP_insertCrease : ev_M := (yP_insertCrease, cP_insertCrease, 5, none, [])
abbrev cL_strip : ByteArray := method_3_code
def yL_strip : MethodName := ⟨RL, "strip", "(LFoldLaboratory;I)I"⟩
abbrev mL_strip : ev_M := (yL_strip, cL_strip, 3, (some .int), [(0, 5, 8, 13)])
abbrev cF_strip : ByteArray := prog_1_method_2_code
def yF_strip : MethodName := ⟨RF, "strip", "(I)V"⟩
abbrev mF_strip : ev_M := (yF_strip, cF_strip, 2, none, [])
abbrev cL_crease : ByteArray := method_4_code
def yL_crease : MethodName := ⟨RL, "crease", "(LFoldLaboratory;II[J)I"⟩
abbrev mL_crease : ev_M := (yL_crease, cL_crease, 5, (some .int), [(0, 10, 13, 13), (0, 10, 17, 19)])
abbrev cF_crease : ByteArray := prog_1_method_3_code
def yF_crease : MethodName := ⟨RF, "crease", "(II)I"⟩
abbrev mF_crease : ev_M := (yF_crease, cF_crease, 4, (some .int), [])
abbrev cL_segment : ByteArray := method_5_code
def yL_segment : MethodName := ⟨RL, "segment", "(LFoldLaboratory;II[J)I"⟩
abbrev mL_segment : ev_M := (yL_segment, cL_segment, 5, (some .int), [(0, 10, 13, 24), (0, 10, 17, 13)])
abbrev cF_segment : ByteArray := prog_1_method_6_code
def yF_segment : MethodName := ⟨RF, "segment", "(II)I"⟩
abbrev mF_segment : ev_M := (yF_segment, cF_segment, 3, (some .int), [])
abbrev cP_hasSegment : ByteArray := prog_3_method_14_code
def yP_hasSegment : MethodName := ⟨RP, "hasSegment", "(I)Z"⟩
abbrev mP_hasSegment : ev_M := (yP_hasSegment, cP_hasSegment, 2, (some .boolean), [])
abbrev cL_whereIs : ByteArray := method_6_code
def yL_whereIs : MethodName := ⟨RL, "whereIs", "(LFoldLaboratory;I[J)I"⟩
abbrev mL_whereIs : ev_M := (yL_whereIs, cL_whereIs, 4, (some .int), [(0, 9, 12, 13)])
abbrev cF_whereIs : ByteArray := prog_1_method_7_code
def yF_whereIs : MethodName := ⟨RF, "whereIs", "(I)I"⟩
abbrev mF_whereIs : ev_M := (yF_whereIs, cF_whereIs, 2, (some .int), [])
abbrev cP_foldedPlace : ByteArray := prog_3_method_19_code
def yP_foldedPlace : MethodName := ⟨RP, "foldedPlace", "(I)I"⟩
abbrev mP_foldedPlace : ev_M := (yP_foldedPlace, cP_foldedPlace, 3, (some .int), [])
abbrev cL_step : ByteArray := method_7_code
def yL_step : MethodName := ⟨RL, "step", "(LFoldLaboratory;II[J)I"⟩
abbrev mL_step : ev_M := (yL_step, cL_step, 5, (some .int), [(0, 10, 13, 24), (0, 10, 17, 13)])
abbrev cF_step : ByteArray := prog_1_method_12_code
def yF_step : MethodName := ⟨RF, "step", "(II)I"⟩
abbrev mF_step : ev_M := (yF_step, cF_step, 3, (some .int), [])
abbrev cL_above : ByteArray := method_8_code
def yL_above : MethodName := ⟨RL, "above", "(LFoldLaboratory;III[J)I"⟩
abbrev mL_above : ev_M := (yL_above, cL_above, 6, (some .int), [(0, 12, 15, 24)])
abbrev cF_above : ByteArray := prog_1_method_14_code
def yF_above : MethodName := ⟨RF, "above", "(III)I"⟩
abbrev mF_above : ev_M := (yF_above, cF_above, 4, (some .int), [])
abbrev cL_layer : ByteArray := method_9_code
def yL_layer : MethodName := ⟨RL, "layer", "(LFoldLaboratory;III[J)I"⟩
abbrev mL_layer : ev_M := (yL_layer, cL_layer, 6, (some .int), [(0, 12, 15, 24)])
abbrev cF_layer : ByteArray := prog_1_method_15_code
def yF_layer : MethodName := ⟨RF, "layer", "(III)I"⟩
abbrev mF_layer : ev_M := (yF_layer, cF_layer, 4, (some .int), [])
abbrev cO_segmentAt : ByteArray := prog_2_method_14_code
def yO_segmentAt : MethodName := ⟨RO, "segmentAt", "(III)I"⟩
abbrev mO_segmentAt : ev_M := (yO_segmentAt, cO_segmentAt, 5, (some .int), [])
abbrev cO_below : ByteArray := prog_2_method_15_code
def yO_below : MethodName := ⟨RO, "below", "(III)I"⟩
abbrev mO_below : ev_M := (yO_below, cO_below, 6, (some .int), [])
abbrev cL_type : ByteArray := method_10_code
def yL_type : MethodName := ⟨RL, "type", "(LFoldLaboratory;I[J)I"⟩
abbrev mL_type : ev_M := (yL_type, cL_type, 4, (some .int), [(0, 9, 12, 13), (0, 9, 15, 19)])
abbrev cF_type : ByteArray := prog_1_method_17_code
def yF_type : MethodName := ⟨RF, "type", "(I)I"⟩
abbrev mF_type : ev_M := (yF_type, cF_type, 2, (some .int), [])
abbrev cM_init : ByteArray := prog_6_method_1_code
def yM_init : MethodName := ⟨RM, "<init>", "()V"⟩
abbrev mM_init : ev_M := (yM_init, cM_init, 1, none, [])
abbrev cM_thrown : ByteArray := prog_6_method_2_code
def yM_thrown : MethodName := ⟨RM, "thrown", "()I"⟩
abbrev mM_thrown : ev_M := (yM_thrown, cM_thrown, 1, (some .int), [])
abbrev cM_strip : ByteArray := prog_6_method_4_code
def yM_strip : MethodName := ⟨RM, "strip", "(I)V"⟩
abbrev mM_strip : ev_M := (yM_strip, cM_strip, 2, none, [])
abbrev cM_refuse : ByteArray := prog_6_method_3_code
def yM_refuse : MethodName := ⟨RM, "refuse", "(ZZ)Z"⟩
abbrev mM_refuse : ev_M := (yM_refuse, cM_refuse, 3, (some .boolean), [])
abbrev cM_crease : ByteArray := prog_6_method_6_code
def yM_crease : MethodName := ⟨RM, "crease", "(II)I"⟩
abbrev mM_crease : ev_M := (yM_crease, cM_crease, 7, (some .int), [])
abbrev cM_before : ByteArray := prog_6_method_5_code
def yM_before : MethodName := ⟨RM, "before", "(I)I"⟩
abbrev mM_before : ev_M := (yM_before, cM_before, 4, (some .int), [])
abbrev cM_turn : ByteArray := prog_6_method_7_code
def yM_turn : MethodName := ⟨RM, "turn", "()Z"⟩
abbrev mM_turn : ev_M := (yM_turn, cM_turn, 1, (some .boolean), [])
abbrev cM_count : ByteArray := prog_6_method_9_code
def yM_count : MethodName := ⟨RM, "count", "(I)I"⟩
abbrev mM_count : ev_M := (yM_count, cM_count, 2, (some .int), [])
abbrev cM_free : ByteArray := prog_6_method_8_code
def yM_free : MethodName := ⟨RM, "free", "()I"⟩
abbrev mM_free : ev_M := (yM_free, cM_free, 3, (some .int), [])
abbrev cM_segment : ByteArray := prog_6_method_16_code
def yM_segment : MethodName := ⟨RM, "segment", "(II)I"⟩
abbrev mM_segment : ev_M := (yM_segment, cM_segment, 3, (some .int), [])
abbrev cM_leftEnd : ByteArray := prog_6_method_10_code
def yM_leftEnd : MethodName := ⟨RM, "leftEnd", "(I)I"⟩
abbrev mM_leftEnd : ev_M := (yM_leftEnd, cM_leftEnd, 2, (some .int), [])
abbrev cM_rightEnd : ByteArray := prog_6_method_11_code
def yM_rightEnd : MethodName := ⟨RM, "rightEnd", "(I)I"⟩
abbrev mM_rightEnd : ev_M := (yM_rightEnd, cM_rightEnd, 2, (some .int), [])
abbrev cM_low : ByteArray := prog_6_method_13_code
def yM_low : MethodName := ⟨RM, "low", "(I)I"⟩
abbrev mM_low : ev_M := (yM_low, cM_low, 4, (some .int), [])
abbrev cM_fold : ByteArray := prog_6_method_12_code
def yM_fold : MethodName := ⟨RM, "fold", "(I)I"⟩
abbrev mM_fold : ev_M := (yM_fold, cM_fold, 6, (some .int), [])
abbrev cM_high : ByteArray := prog_6_method_14_code
def yM_high : MethodName := ⟨RM, "high", "(I)I"⟩
abbrev mM_high : ev_M := (yM_high, cM_high, 2, (some .int), [])
abbrev cM_isUp : ByteArray := prog_6_method_15_code
def yM_isUp : MethodName := ⟨RM, "isUp", "(I)Z"⟩
abbrev mM_isUp : ev_M := (yM_isUp, cM_isUp, 2, (some .boolean), [])
abbrev cM_whereIs : ByteArray := prog_6_method_17_code
def yM_whereIs : MethodName := ⟨RM, "whereIs", "(I)I"⟩
abbrev mM_whereIs : ev_M := (yM_whereIs, cM_whereIs, 2, (some .int), [])
abbrev cM_width : ByteArray := prog_6_method_18_code
def yM_width : MethodName := ⟨RM, "width", "()I"⟩
abbrev mM_width : ev_M := (yM_width, cM_width, 4, (some .int), [])
abbrev cM_thickness : ByteArray := prog_6_method_20_code
def yM_thickness : MethodName := ⟨RM, "thickness", "()I"⟩
abbrev mM_thickness : ev_M := (yM_thickness, cM_thickness, 5, (some .int), [])
abbrev cM_covers : ByteArray := prog_6_method_19_code
def yM_covers : MethodName := ⟨RM, "covers", "(II)Z"⟩
abbrev mM_covers : ev_M := (yM_covers, cM_covers, 3, (some .boolean), [])
abbrev cM_foldable : ByteArray := prog_6_method_25_code
def yM_foldable : MethodName := ⟨RM, "foldable", "()I"⟩
abbrev mM_foldable : ev_M := (yM_foldable, cM_foldable, 1, (some .int), [])
abbrev cM_reduce : ByteArray := prog_6_method_24_code
def yM_reduce : MethodName := ⟨RM, "reduce", "()V"⟩
abbrev mM_reduce : ev_M := (yM_reduce, cM_reduce, 3, none, [])
abbrev cM_middle : ByteArray := prog_6_method_22_code
def yM_middle : MethodName := ⟨RM, "middle", "()I"⟩
abbrev mM_middle : ev_M := (yM_middle, cM_middle, 2, (some .int), [])
abbrev cM_note : ByteArray := prog_6_method_23_code
def yM_note : MethodName := ⟨RM, "note", "(II)V"⟩
abbrev mM_note : ev_M := (yM_note, cM_note, 3, none, [])
abbrev cM_drop : ByteArray := prog_6_method_21_code
def yM_drop : MethodName := ⟨RM, "drop", "(I)V"⟩
abbrev mM_drop : ev_M := (yM_drop, cM_drop, 3, none, [])
abbrev cM_steps : ByteArray := prog_6_method_26_code
def yM_steps : MethodName := ⟨RM, "steps", "()I"⟩
abbrev mM_steps : ev_M := (yM_steps, cM_steps, 1, (some .int), [])
abbrev cM_step : ByteArray := prog_6_method_27_code
def yM_step : MethodName := ⟨RM, "step", "(II)I"⟩
abbrev mM_step : ev_M := (yM_step, cM_step, 3, (some .int), [])
abbrev cM_orders : ByteArray := prog_6_method_39_code
def yM_orders : MethodName := ⟨RM, "orders", "()I"⟩
abbrev mM_orders : ev_M := (yM_orders, cM_orders, 2, (some .int), [])
abbrev cM_look : ByteArray := prog_6_method_38_code
def yM_look : MethodName := ⟨RM, "look", "(I)Z"⟩
abbrev mM_look : ev_M := (yM_look, cM_look, 6, (some .boolean), [])
abbrev cM_begin : ByteArray := prog_6_method_37_code
def yM_begin : MethodName := ⟨RM, "begin", "()I"⟩
abbrev mM_begin : ev_M := (yM_begin, cM_begin, 4, (some .int), [])
abbrev cM_overlap : ByteArray := prog_6_method_30_code
def yM_overlap : MethodName := ⟨RM, "overlap", "(II)Z"⟩
abbrev mM_overlap : ev_M := (yM_overlap, cM_overlap, 5, (some .boolean), [])
abbrev cM_set : ByteArray := prog_6_method_29_code
def yM_set : MethodName := ⟨RM, "set", "(III)V"⟩
abbrev mM_set : ev_M := (yM_set, cM_set, 4, none, [])
abbrev cM_get : ByteArray := prog_6_method_28_code
def yM_get : MethodName := ⟨RM, "get", "(II)I"⟩
abbrev mM_get : ev_M := (yM_get, cM_get, 3, (some .int), [])
abbrev cM_holds : ByteArray := prog_6_method_36_code
def yM_holds : MethodName := ⟨RM, "holds", "()Z"⟩
abbrev mM_holds : ev_M := (yM_holds, cM_holds, 6, (some .boolean), [])
abbrev cM_turnsRound : ByteArray := prog_6_method_32_code
def yM_turnsRound : MethodName := ⟨RM, "turnsRound", "(III)Z"⟩
abbrev mM_turnsRound : ev_M := (yM_turnsRound, cM_turnsRound, 4, (some .boolean), [])
abbrev cM_isMarked : ByteArray := prog_6_method_33_code
def yM_isMarked : MethodName := ⟨RM, "isMarked", "(I)Z"⟩
abbrev mM_isMarked : ev_M := (yM_isMarked, cM_isMarked, 4, (some .boolean), [])
abbrev cM_isClear : ByteArray := prog_6_method_34_code
def yM_isClear : MethodName := ⟨RM, "isClear", "(I)Z"⟩
abbrev mM_isClear : ev_M := (yM_isClear, cM_isClear, 6, (some .boolean), [])
abbrev cM_between : ByteArray := prog_6_method_31_code
def yM_between : MethodName := ⟨RM, "between", "(III)I"⟩
abbrev mM_between : ev_M := (yM_between, cM_between, 6, (some .int), [])
abbrev cM_arePeaceful : ByteArray := prog_6_method_35_code
def yM_arePeaceful : MethodName := ⟨RM, "arePeaceful", "(II)Z"⟩
abbrev mM_arePeaceful : ev_M := (yM_arePeaceful, cM_arePeaceful, 6, (some .boolean), [])
abbrev cM_above : ByteArray := prog_6_method_40_code
def yM_above : MethodName := ⟨RM, "above", "(III)I"⟩
abbrev mM_above : ev_M := (yM_above, cM_above, 5, (some .int), [])
abbrev cM_layer : ByteArray := prog_6_method_41_code
def yM_layer : MethodName := ⟨RM, "layer", "(III)I"⟩
abbrev mM_layer : ev_M := (yM_layer, cM_layer, 7, (some .int), [])
abbrev cM_marks : ByteArray := prog_6_method_42_code
def yM_marks : MethodName := ⟨RM, "marks", "()I"⟩
abbrev mM_marks : ev_M := (yM_marks, cM_marks, 7, (some .int), [])
abbrev cM_type : ByteArray := prog_6_method_43_code
def yM_type : MethodName := ⟨RM, "type", "(I)I"⟩
abbrev mM_type : ev_M := (yM_type, cM_type, 2, (some .int), [])
abbrev cM_run : ByteArray := prog_6_method_47_code
def yM_run : MethodName := ⟨RM, "run", "()I"⟩
abbrev mM_run : ev_M := (yM_run, cM_run, 9, (some .int), [])
abbrev cM_sign : ByteArray := prog_6_method_44_code
def yM_sign : MethodName := ⟨RM, "sign", "(II)I"⟩
abbrev mM_sign : ev_M := (yM_sign, cM_sign, 3, (some .int), [])
abbrev cM_isDigit : ByteArray := prog_6_method_45_code
def yM_isDigit : MethodName := ⟨RM, "isDigit", "(I)Z"⟩
abbrev mM_isDigit : ev_M := (yM_isDigit, cM_isDigit, 1, (some .boolean), [])
abbrev cM_does : ByteArray := prog_6_method_46_code
def yM_does : MethodName := ⟨RM, "does", "(II)Z"⟩
abbrev mM_does : ev_M := (yM_does, cM_does, 3, (some .boolean), [])
abbrev cL_law : ByteArray := code
def yL_law : MethodName := ⟨RL, "law", "([I)Z"⟩
abbrev mL_law : ev_M := (yL_law, cL_law, 7, (some .boolean), [])
end
section
/-! words: all good words of the tables, for every method the same list -/
def ev_WS : List Cond := lw_tbl.filter goodWord
theorem ev_good : ∀ w ∈ ev_WS, goodWord w = true := fun w h => (List.mem_filter.mp h).2
theorem ev_inA {w : Cond} (i : Nat) (h : tables_1_1[i]? = some w) (hg : goodWord w = true) : w ∈ ev_WS := List.mem_filter.mpr ⟨List.mem_append_right _ (List.mem_append_left _ (List.mem_of_getElem? h)), hg⟩
theorem ev_inB {w : Cond} (i : Nat) (h : tables_1_2[i]? = some w) (hg : goodWord w = true) : w ∈ ev_WS := List.mem_filter.mpr ⟨List.mem_append_right _ (List.mem_append_right _ (List.mem_append_left _ (List.mem_of_getElem? h))), hg⟩
theorem ev_inC {w : Cond} (i : Nat) (h : tables_1_3[i]? = some w) (hg : goodWord w = true) : w ∈ ev_WS := List.mem_filter.mpr ⟨List.mem_append_right _ (List.mem_append_right _ (List.mem_append_right _ (List.mem_append_left _ (List.mem_of_getElem? h)))), hg⟩
theorem ev_inD {w : Cond} (i : Nat) (h : tables_1_4[i]? = some w) (hg : goodWord w = true) : w ∈ ev_WS := List.mem_filter.mpr ⟨List.mem_append_right _ (List.mem_append_right _ (List.mem_append_right _ (List.mem_append_right _ (List.mem_of_getElem? h)))), hg⟩
theorem ev_inP {w : Cond} (i : Nat) (h : (k2_sels lw_privs)[i]? = some w) (hg : goodWord w = true) : w ∈ ev_WS := List.mem_filter.mpr ⟨List.mem_append_left _ (List.mem_of_getElem? h), hg⟩
def ev_NW : List Cond := []
theorem ev_NW_tab (w : Cond) (h : w ∈ ev_NW) : w.onTables = true := absurd h List.not_mem_nil
theorem ev_NW_warm {w : Cond} (h : w ∈ ev_NW) {s U : State} (_ : s.WarmedH U.vm) (_ : va_Nw w s) : va_Nw w U := absurd h List.not_mem_nil
theorem wi_F : Cond.initialized RF ∈ ev_WS := ev_inA 1 rfl rfl
theorem wi_P : Cond.initialized RP ∈ ev_WS := ev_inA 2 rfl rfl
theorem wi_R : Cond.initialized RR ∈ ev_WS := ev_inA 4 rfl rfl
theorem wi_O : Cond.initialized RO ∈ ev_WS := ev_inA 5 rfl rfl
theorem wi_M : Cond.initialized RM ∈ ev_WS := ev_inA 6 rfl rfl
theorem wi_L : Cond.initialized RL ∈ ev_WS := ev_inA 0 rfl rfl
theorem wi_JA : Cond.initialized RJA ∈ ev_WS := ev_inA 13 rfl rfl
theorem wi_JL : Cond.initialized RJL ∈ ev_WS := ev_inA 15 rfl rfl
theorem wi_Math : Cond.initialized "java/lang/Math" ∈ ev_WS := ev_inA 3 rfl rfl
theorem wi_System : Cond.initialized "java/lang/System" ∈ ev_WS := ev_inA 14 rfl rfl
theorem wa_int : Cond.arrayClass .int ∈ ev_WS := ev_inA 95 rfl rfl
theorem wa_long : Cond.arrayClass .long ∈ ev_WS := ev_inD 136 rfl rfl
theorem wl_F_0 : u_lay RF TF 0 ∈ ev_WS := ev_inA 161 rfl rfl
theorem wl_F_1 : u_lay RF TF 1 ∈ ev_WS := ev_inA 163 rfl rfl
theorem wl_F_2 : u_lay RF TF 2 ∈ ev_WS := ev_inA 165 rfl rfl
theorem wl_F_3 : u_lay RF TF 3 ∈ ev_WS := ev_inA 167 rfl rfl
theorem wl_F_4 : u_lay RF TF 4 ∈ ev_WS := ev_inA 169 rfl rfl
theorem wl_F : ∀ w ∈ u_ws RF TF 5, w ∈ ev_WS := (List.forall_mem_cons.mpr ⟨wl_F_0, (List.forall_mem_cons.mpr ⟨wl_F_1, (List.forall_mem_cons.mpr ⟨wl_F_2, (List.forall_mem_cons.mpr ⟨wl_F_3, (List.forall_mem_cons.mpr ⟨wl_F_4, (fun _ h => absurd h List.not_mem_nil)⟩)⟩)⟩)⟩)⟩)
theorem wn_F : Cond.instantiable RF 5 ∈ ev_WS := ev_inA 17 rfl rfl
theorem wl_P_0 : u_lay RP TP 0 ∈ ev_WS := ev_inA 78 rfl rfl
theorem wl_P_1 : u_lay RP TP 1 ∈ ev_WS := ev_inA 80 rfl rfl
theorem wl_P_2 : u_lay RP TP 2 ∈ ev_WS := ev_inA 82 rfl rfl
theorem wl_P_3 : u_lay RP TP 3 ∈ ev_WS := ev_inA 84 rfl rfl
theorem wl_P_4 : u_lay RP TP 4 ∈ ev_WS := ev_inA 86 rfl rfl
theorem wl_P_5 : u_lay RP TP 5 ∈ ev_WS := ev_inA 88 rfl rfl
theorem wl_P_6 : u_lay RP TP 6 ∈ ev_WS := ev_inA 90 rfl rfl
theorem wl_P_7 : u_lay RP TP 7 ∈ ev_WS := ev_inA 92 rfl rfl
theorem wl_P : ∀ w ∈ u_ws RP TP 8, w ∈ ev_WS := (List.forall_mem_cons.mpr ⟨wl_P_0, (List.forall_mem_cons.mpr ⟨wl_P_1, (List.forall_mem_cons.mpr ⟨wl_P_2, (List.forall_mem_cons.mpr ⟨wl_P_3, (List.forall_mem_cons.mpr ⟨wl_P_4, (List.forall_mem_cons.mpr ⟨wl_P_5, (List.forall_mem_cons.mpr ⟨wl_P_6, (List.forall_mem_cons.mpr ⟨wl_P_7, (fun _ h => absurd h List.not_mem_nil)⟩)⟩)⟩)⟩)⟩)⟩)⟩)⟩)
theorem wn_P : Cond.instantiable RP 8 ∈ ev_WS := ev_inA 25 rfl rfl
theorem wl_R_0 : u_lay RR TR 0 ∈ ev_WS := ev_inA 114 rfl rfl
theorem wl_R_1 : u_lay RR TR 1 ∈ ev_WS := ev_inA 116 rfl rfl
theorem wl_R_2 : u_lay RR TR 2 ∈ ev_WS := ev_inA 118 rfl rfl
theorem wl_R_3 : u_lay RR TR 3 ∈ ev_WS := ev_inA 120 rfl rfl
theorem wl_R_4 : u_lay RR TR 4 ∈ ev_WS := ev_inA 122 rfl rfl
theorem wl_R_5 : u_lay RR TR 5 ∈ ev_WS := ev_inA 124 rfl rfl
theorem wl_R_6 : u_lay RR TR 6 ∈ ev_WS := ev_inA 126 rfl rfl
theorem wl_R_7 : u_lay RR TR 7 ∈ ev_WS := ev_inA 128 rfl rfl
theorem wl_R : ∀ w ∈ u_ws RR TR 8, w ∈ ev_WS := (List.forall_mem_cons.mpr ⟨wl_R_0, (List.forall_mem_cons.mpr ⟨wl_R_1, (List.forall_mem_cons.mpr ⟨wl_R_2, (List.forall_mem_cons.mpr ⟨wl_R_3, (List.forall_mem_cons.mpr ⟨wl_R_4, (List.forall_mem_cons.mpr ⟨wl_R_5, (List.forall_mem_cons.mpr ⟨wl_R_6, (List.forall_mem_cons.mpr ⟨wl_R_7, (fun _ h => absurd h List.not_mem_nil)⟩)⟩)⟩)⟩)⟩)⟩)⟩)⟩)
theorem wn_R : Cond.instantiable RR 8 ∈ ev_WS := ev_inA 97 rfl rfl
theorem wl_O_0 : u_lay RO TO 0 ∈ ev_WS := ev_inA 145 rfl rfl
theorem wl_O_1 : u_lay RO TO 1 ∈ ev_WS := ev_inA 147 rfl rfl
theorem wl_O_2 : u_lay RO TO 2 ∈ ev_WS := ev_inA 149 rfl rfl
theorem wl_O_3 : u_lay RO TO 3 ∈ ev_WS := ev_inA 151 rfl rfl
theorem wl_O_4 : u_lay RO TO 4 ∈ ev_WS := ev_inA 153 rfl rfl
theorem wl_O : ∀ w ∈ u_ws RO TO 5, w ∈ ev_WS := (List.forall_mem_cons.mpr ⟨wl_O_0, (List.forall_mem_cons.mpr ⟨wl_O_1, (List.forall_mem_cons.mpr ⟨wl_O_2, (List.forall_mem_cons.mpr ⟨wl_O_3, (List.forall_mem_cons.mpr ⟨wl_O_4, (fun _ h => absurd h List.not_mem_nil)⟩)⟩)⟩)⟩)⟩)
theorem wn_O : Cond.instantiable RO 5 ∈ ev_WS := ev_inA 132 rfl rfl
theorem wl_M_0 : u_lay RM TM 0 ∈ ev_WS := ev_inC 145 rfl rfl
theorem wl_M_1 : u_lay RM TM 1 ∈ ev_WS := ev_inC 147 rfl rfl
theorem wl_M_2 : u_lay RM TM 2 ∈ ev_WS := ev_inC 149 rfl rfl
theorem wl_M_3 : u_lay RM TM 3 ∈ ev_WS := ev_inC 151 rfl rfl
theorem wl_M_4 : u_lay RM TM 4 ∈ ev_WS := ev_inC 153 rfl rfl
theorem wl_M_5 : u_lay RM TM 5 ∈ ev_WS := ev_inC 155 rfl rfl
theorem wl_M_6 : u_lay RM TM 6 ∈ ev_WS := ev_inC 157 rfl rfl
theorem wl_M_7 : u_lay RM TM 7 ∈ ev_WS := ev_inC 159 rfl rfl
theorem wl_M_8 : u_lay RM TM 8 ∈ ev_WS := ev_inC 161 rfl rfl
theorem wl_M_9 : u_lay RM TM 9 ∈ ev_WS := ev_inC 163 rfl rfl
theorem wl_M_10 : u_lay RM TM 10 ∈ ev_WS := ev_inC 165 rfl rfl
theorem wl_M_11 : u_lay RM TM 11 ∈ ev_WS := ev_inC 167 rfl rfl
theorem wl_M_12 : u_lay RM TM 12 ∈ ev_WS := ev_inC 169 rfl rfl
theorem wl_M_13 : u_lay RM TM 13 ∈ ev_WS := ev_inC 171 rfl rfl
theorem wl_M_14 : u_lay RM TM 14 ∈ ev_WS := ev_inC 173 rfl rfl
theorem wl_M_15 : u_lay RM TM 15 ∈ ev_WS := ev_inC 175 rfl rfl
theorem wl_M_16 : u_lay RM TM 16 ∈ ev_WS := ev_inC 177 rfl rfl
theorem wl_M_17 : u_lay RM TM 17 ∈ ev_WS := ev_inC 179 rfl rfl
theorem wl_M_18 : u_lay RM TM 18 ∈ ev_WS := ev_inC 181 rfl rfl
theorem wl_M_19 : u_lay RM TM 19 ∈ ev_WS := ev_inC 183 rfl rfl
theorem wl_M_20 : u_lay RM TM 20 ∈ ev_WS := ev_inC 185 rfl rfl
theorem wl_M_21 : u_lay RM TM 21 ∈ ev_WS := ev_inC 187 rfl rfl
theorem wl_M : ∀ w ∈ u_ws RM TM 22, w ∈ ev_WS := (List.forall_mem_cons.mpr ⟨wl_M_0, (List.forall_mem_cons.mpr ⟨wl_M_1, (List.forall_mem_cons.mpr ⟨wl_M_2, (List.forall_mem_cons.mpr ⟨wl_M_3, (List.forall_mem_cons.mpr ⟨wl_M_4, (List.forall_mem_cons.mpr ⟨wl_M_5, (List.forall_mem_cons.mpr ⟨wl_M_6, (List.forall_mem_cons.mpr ⟨wl_M_7, (List.forall_mem_cons.mpr ⟨wl_M_8, (List.forall_mem_cons.mpr ⟨wl_M_9, (List.forall_mem_cons.mpr ⟨wl_M_10, (List.forall_mem_cons.mpr ⟨wl_M_11, (List.forall_mem_cons.mpr ⟨wl_M_12, (List.forall_mem_cons.mpr ⟨wl_M_13, (List.forall_mem_cons.mpr ⟨wl_M_14, (List.forall_mem_cons.mpr ⟨wl_M_15, (List.forall_mem_cons.mpr ⟨wl_M_16, (List.forall_mem_cons.mpr ⟨wl_M_17, (List.forall_mem_cons.mpr ⟨wl_M_18, (List.forall_mem_cons.mpr ⟨wl_M_19, (List.forall_mem_cons.mpr ⟨wl_M_20, (List.forall_mem_cons.mpr ⟨wl_M_21, (fun _ h => absurd h List.not_mem_nil)⟩)⟩)⟩)⟩)⟩)⟩)⟩)⟩)⟩)⟩)⟩)⟩)⟩)⟩)⟩)⟩)⟩)⟩)⟩)⟩)⟩)⟩)
theorem wn_M : Cond.instantiable RM 22 ∈ ev_WS := ev_inC 118 rfl rfl
theorem wk_L_8 : Cond.classLink RL 8 RF ∈ ev_WS := ev_inA 16 rfl rfl
theorem wk_F_9 : Cond.classLink RF 9 RP ∈ ev_WS := ev_inA 24 rfl rfl
theorem wk_F_16 : Cond.classLink RF 16 RR ∈ ev_WS := ev_inA 96 rfl rfl
theorem wk_F_25 : Cond.classLink RF 25 RO ∈ ev_WS := ev_inA 131 rfl rfl
theorem wk_L_44 : Cond.classLink RL 44 RM ∈ ev_WS := ev_inC 117 rfl rfl
theorem wf_P_31 : Cond.fieldLink RP 31 "FoldLaboratory$Paper" "length" "I" ∈ ev_WS := ev_inA 59 rfl rfl
theorem wf_F_75 : Cond.fieldLink RF 75 "FoldLaboratory$Paper" "length" "I" ∈ ev_WS := ev_inA 60 rfl rfl
theorem wf_P_35 : Cond.fieldLink RP 35 "FoldLaboratory$Paper" "creases" "I" ∈ ev_WS := ev_inA 61 rfl rfl
theorem wf_F_62 : Cond.fieldLink RF 62 "FoldLaboratory$Paper" "creases" "I" ∈ ev_WS := ev_inA 62 rfl rfl
theorem wf_R_55 : Cond.fieldLink RR 55 "FoldLaboratory$Paper" "creases" "I" ∈ ev_WS := ev_inA 63 rfl rfl
theorem wf_O_35 : Cond.fieldLink RO 35 "FoldLaboratory$Paper" "creases" "I" ∈ ev_WS := ev_inA 64 rfl rfl
theorem wf_P_38 : Cond.fieldLink RP 38 "FoldLaboratory$Paper" "turned" "Z" ∈ ev_WS := ev_inA 65 rfl rfl
theorem wf_F_71 : Cond.fieldLink RF 71 "FoldLaboratory$Paper" "turned" "Z" ∈ ev_WS := ev_inA 66 rfl rfl
theorem wf_P_9 : Cond.fieldLink RP 9 "FoldLaboratory$Paper" "creasePlaces" "[I" ∈ ev_WS := ev_inA 67 rfl rfl
theorem wf_R_58 : Cond.fieldLink RR 58 "FoldLaboratory$Paper" "creasePlaces" "[I" ∈ ev_WS := ev_inA 68 rfl rfl
theorem wf_P_15 : Cond.fieldLink RP 15 "FoldLaboratory$Paper" "creaseMarks" "[I" ∈ ev_WS := ev_inA 69 rfl rfl
theorem wf_R_61 : Cond.fieldLink RR 61 "FoldLaboratory$Paper" "creaseMarks" "[I" ∈ ev_WS := ev_inA 70 rfl rfl
theorem wf_F_106 : Cond.fieldLink RF 106 "FoldLaboratory$Paper" "creaseMarks" "[I" ∈ ev_WS := ev_inA 71 rfl rfl
theorem wf_O_78 : Cond.fieldLink RO 78 "FoldLaboratory$Paper" "creaseMarks" "[I" ∈ ev_WS := ev_inA 72 rfl rfl
theorem wf_P_18 : Cond.fieldLink RP 18 "FoldLaboratory$Paper" "bends" "[I" ∈ ev_WS := ev_inA 73 rfl rfl
theorem wf_P_21 : Cond.fieldLink RP 21 "FoldLaboratory$Paper" "imageLow" "[I" ∈ ev_WS := ev_inA 74 rfl rfl
theorem wf_F_97 : Cond.fieldLink RF 97 "FoldLaboratory$Paper" "imageLow" "[I" ∈ ev_WS := ev_inA 75 rfl rfl
theorem wf_P_24 : Cond.fieldLink RP 24 "FoldLaboratory$Paper" "imageHigh" "[I" ∈ ev_WS := ev_inA 76 rfl rfl
theorem wf_F_100 : Cond.fieldLink RF 100 "FoldLaboratory$Paper" "imageHigh" "[I" ∈ ev_WS := ev_inA 77 rfl rfl
theorem wf_R_9 : Cond.fieldLink RR 9 "FoldLaboratory$Reductions" "paper" "LFoldLaboratory$Paper;" ∈ ev_WS := ev_inA 102 rfl rfl
theorem wf_R_15 : Cond.fieldLink RR 15 "FoldLaboratory$Reductions" "lengths" "[I" ∈ ev_WS := ev_inA 103 rfl rfl
theorem wf_R_19 : Cond.fieldLink RR 19 "FoldLaboratory$Reductions" "places" "[I" ∈ ev_WS := ev_inA 104 rfl rfl
theorem wf_R_22 : Cond.fieldLink RR 22 "FoldLaboratory$Reductions" "creaseMarks" "[I" ∈ ev_WS := ev_inA 105 rfl rfl
theorem wf_R_34 : Cond.fieldLink RR 34 "FoldLaboratory$Reductions" "remaining" "I" ∈ ev_WS := ev_inA 106 rfl rfl
theorem wf_F_125 : Cond.fieldLink RF 125 "FoldLaboratory$Reductions" "remaining" "I" ∈ ev_WS := ev_inA 107 rfl rfl
theorem wf_R_42 : Cond.fieldLink RR 42 "FoldLaboratory$Reductions" "done" "I" ∈ ev_WS := ev_inA 108 rfl rfl
theorem wf_F_128 : Cond.fieldLink RF 128 "FoldLaboratory$Reductions" "done" "I" ∈ ev_WS := ev_inA 109 rfl rfl
theorem wf_R_25 : Cond.fieldLink RR 25 "FoldLaboratory$Reductions" "kinds" "[I" ∈ ev_WS := ev_inA 110 rfl rfl
theorem wf_F_138 : Cond.fieldLink RF 138 "FoldLaboratory$Reductions" "kinds" "[I" ∈ ev_WS := ev_inA 111 rfl rfl
theorem wf_R_28 : Cond.fieldLink RR 28 "FoldLaboratory$Reductions" "wentAt" "[I" ∈ ev_WS := ev_inA 112 rfl rfl
theorem wf_F_141 : Cond.fieldLink RF 141 "FoldLaboratory$Reductions" "wentAt" "[I" ∈ ev_WS := ev_inA 113 rfl rfl
theorem wf_O_9 : Cond.fieldLink RO 9 "FoldLaboratory$LayerOrders" "paper" "LFoldLaboratory$Paper;" ∈ ev_WS := ev_inA 137 rfl rfl
theorem wf_O_19 : Cond.fieldLink RO 19 "FoldLaboratory$LayerOrders" "known" "Z" ∈ ev_WS := ev_inA 138 rfl rfl
theorem wf_O_23 : Cond.fieldLink RO 23 "FoldLaboratory$LayerOrders" "found" "I" ∈ ev_WS := ev_inA 139 rfl rfl
theorem wf_F_147 : Cond.fieldLink RF 147 "FoldLaboratory$LayerOrders" "found" "I" ∈ ev_WS := ev_inA 140 rfl rfl
theorem wf_O_15 : Cond.fieldLink RO 15 "FoldLaboratory$LayerOrders" "rows" "[I" ∈ ev_WS := ev_inA 141 rfl rfl
theorem wf_F_156 : Cond.fieldLink RF 156 "FoldLaboratory$LayerOrders" "rows" "[I" ∈ ev_WS := ev_inA 142 rfl rfl
theorem wf_O_27 : Cond.fieldLink RO 27 "FoldLaboratory$LayerOrders" "markings" "J" ∈ ev_WS := ev_inA 143 rfl rfl
theorem wf_F_169 : Cond.fieldLink RF 169 "FoldLaboratory$LayerOrders" "markings" "J" ∈ ev_WS := ev_inA 144 rfl rfl
theorem wf_F_12 : Cond.fieldLink RF 12 "FoldLaboratory" "paper" "LFoldLaboratory$Paper;" ∈ ev_WS := ev_inA 156 rfl rfl
theorem wf_F_21 : Cond.fieldLink RF 21 "FoldLaboratory" "reductions" "LFoldLaboratory$Reductions;" ∈ ev_WS := ev_inA 157 rfl rfl
theorem wf_F_28 : Cond.fieldLink RF 28 "FoldLaboratory" "layerOrders" "LFoldLaboratory$LayerOrders;" ∈ ev_WS := ev_inA 158 rfl rfl
theorem wf_F_32 : Cond.fieldLink RF 32 "FoldLaboratory" "signs" "[I" ∈ ev_WS := ev_inA 159 rfl rfl
theorem wf_F_36 : Cond.fieldLink RF 36 "FoldLaboratory" "typed" "I" ∈ ev_WS := ev_inA 160 rfl rfl
theorem wf_M_56 : Cond.fieldLink RM 56 "FoldLaboratoryModel" "thrown" "I" ∈ ev_WS := ev_inC 123 rfl rfl
theorem wf_M_7 : Cond.fieldLink RM 7 "FoldLaboratoryModel" "length" "I" ∈ ev_WS := ev_inC 124 rfl rfl
theorem wf_M_66 : Cond.fieldLink RM 66 "FoldLaboratoryModel" "turned" "Z" ∈ ev_WS := ev_inC 125 rfl rfl
theorem wf_M_13 : Cond.fieldLink RM 13 "FoldLaboratoryModel" "places" "[I" ∈ ev_WS := ev_inC 126 rfl rfl
theorem wf_M_17 : Cond.fieldLink RM 17 "FoldLaboratoryModel" "marks" "[I" ∈ ev_WS := ev_inC 127 rfl rfl
theorem wf_M_63 : Cond.fieldLink RM 63 "FoldLaboratoryModel" "creases" "I" ∈ ev_WS := ev_inC 128 rfl rfl
theorem wf_M_20 : Cond.fieldLink RM 20 "FoldLaboratoryModel" "text" "[I" ∈ ev_WS := ev_inC 129 rfl rfl
theorem wf_M_78 : Cond.fieldLink RM 78 "FoldLaboratoryModel" "typed" "I" ∈ ev_WS := ev_inC 130 rfl rfl
theorem wf_M_23 : Cond.fieldLink RM 23 "FoldLaboratoryModel" "order" "[I" ∈ ev_WS := ev_inC 131 rfl rfl
theorem wf_M_26 : Cond.fieldLink RM 26 "FoldLaboratoryModel" "pairA" "[I" ∈ ev_WS := ev_inC 132 rfl rfl
theorem wf_M_29 : Cond.fieldLink RM 29 "FoldLaboratoryModel" "pairB" "[I" ∈ ev_WS := ev_inC 133 rfl rfl
theorem wf_M_32 : Cond.fieldLink RM 32 "FoldLaboratoryModel" "lows" "[I" ∈ ev_WS := ev_inC 134 rfl rfl
theorem wf_M_35 : Cond.fieldLink RM 35 "FoldLaboratoryModel" "highs" "[I" ∈ ev_WS := ev_inC 135 rfl rfl
theorem wf_M_38 : Cond.fieldLink RM 38 "FoldLaboratoryModel" "meets" "[I" ∈ ev_WS := ev_inC 136 rfl rfl
theorem wf_M_155 : Cond.fieldLink RM 155 "FoldLaboratoryModel" "found" "I" ∈ ev_WS := ev_inC 137 rfl rfl
theorem wf_M_41 : Cond.fieldLink RM 41 "FoldLaboratoryModel" "row" "[I" ∈ ev_WS := ev_inC 138 rfl rfl
theorem wf_M_44 : Cond.fieldLink RM 44 "FoldLaboratoryModel" "rowMarks" "[I" ∈ ev_WS := ev_inC 139 rfl rfl
theorem wf_M_47 : Cond.fieldLink RM 47 "FoldLaboratoryModel" "rowPlaces" "[I" ∈ ev_WS := ev_inC 140 rfl rfl
theorem wf_M_104 : Cond.fieldLink RM 104 "FoldLaboratoryModel" "rowCount" "I" ∈ ev_WS := ev_inC 141 rfl rfl
theorem wf_M_50 : Cond.fieldLink RM 50 "FoldLaboratoryModel" "stepKinds" "[I" ∈ ev_WS := ev_inC 142 rfl rfl
theorem wf_M_53 : Cond.fieldLink RM 53 "FoldLaboratoryModel" "stepPlaces" "[I" ∈ ev_WS := ev_inC 143 rfl rfl
theorem wf_M_107 : Cond.fieldLink RM 107 "FoldLaboratoryModel" "stepCount" "I" ∈ ev_WS := ev_inC 144 rfl rfl
theorem wm_L_43 : Cond.methodLink RL 43 yF_init ∈ ev_WS := ev_inA 18 rfl rfl
theorem wm_F_3 : Cond.methodLink RF 3 Lib.objectInit ∈ ev_WS := ev_inA 21 rfl rfl
theorem wm_F_11 : Cond.methodLink RF 11 yP_init ∈ ev_WS := ev_inA 26 rfl rfl
theorem wm_P_3 : Cond.methodLink RP 3 Lib.objectInit ∈ ev_WS := ev_inA 29 rfl rfl
theorem wm_P_27 : Cond.methodLink RP 27 yP_renew ∈ ev_WS := ev_inA 30 rfl rfl
theorem wm_P_42 : Cond.methodLink RP 42 yP_fold ∈ ev_WS := ev_inA 34 rfl rfl
theorem wm_P_60 : Cond.methodLink RP 60 yP_direction ∈ ev_WS := ev_inA 38 rfl rfl
theorem wm_P_63 : Cond.methodLink RP 63 yP_segmentLength ∈ ev_WS := ev_inA 41 rfl rfl
theorem wm_P_75 : Cond.methodLink RP 75 yP_rightEnd ∈ ev_WS := ev_inA 45 rfl rfl
theorem wm_P_78 : Cond.methodLink RP 78 yP_leftEnd ∈ ev_WS := ev_inA 49 rfl rfl
theorem wm_F_18 : Cond.methodLink RF 18 yR_init ∈ ev_WS := ev_inA 98 rfl rfl
theorem wm_R_3 : Cond.methodLink RR 3 Lib.objectInit ∈ ev_WS := ev_inA 101 rfl rfl
theorem wm_F_27 : Cond.methodLink RF 27 yO_init ∈ ev_WS := ev_inA 133 rfl rfl
theorem wm_O_3 : Cond.methodLink RO 3 Lib.objectInit ∈ ev_WS := ev_inA 136 rfl rfl
theorem wm_L_61 : Cond.methodLink RL 61 yF_turn ∈ ev_WS := ev_inA 172 rfl rfl
theorem wm_F_65 : Cond.methodLink RF 65 yP_turnOver ∈ ev_WS := ev_inA 176 rfl rfl
theorem wm_F_68 : Cond.methodLink RF 68 yO_forget ∈ ev_WS := ev_inA 180 rfl rfl
theorem wm_L_66 : Cond.methodLink RL 66 yF_count ∈ ev_WS := ev_inA 184 rfl rfl
theorem wm_F_78 : Cond.methodLink RF 78 yP_freeCreases ∈ ev_WS := ev_inA 188 rfl rfl
theorem wm_L_77 : Cond.methodLink RL 77 yF_width ∈ ev_WS := ev_inA 192 rfl rfl
theorem wm_F_116 : Cond.methodLink RF 116 yP_reach ∈ ev_WS := ev_inA 196 rfl rfl
theorem wm_P_81 : Cond.methodLink RP 81 yP_segments ∈ ev_WS := ev_inA 200 rfl rfl
theorem wm_L_81 : Cond.methodLink RL 81 yF_thickness ∈ ev_WS := ev_inA 204 rfl rfl
theorem wm_F_119 : Cond.methodLink RF 119 yP_mostImages ∈ ev_WS := ev_inA 208 rfl rfl
theorem wm_P_85 : Cond.methodLink RP 85 yP_imagesOver ∈ ev_WS := ev_inA 212 rfl rfl
theorem wm_P_88 : Cond.methodLink RP 88 yP_liesOver ∈ ev_WS := ev_inA 216 rfl rfl
theorem wm_L_85 : Cond.methodLink RL 85 yF_foldable ∈ ev_WS := ev_inA 220 rfl rfl
theorem wm_F_122 : Cond.methodLink RF 122 yR_reduce ∈ ev_WS := ev_inA 224 rfl rfl
theorem wm_R_31 : Cond.methodLink RR 31 yR_copyPattern ∈ ev_WS := ev_inA 228 rfl rfl
theorem wm_R_45 : Cond.methodLink RR 45 yP_segments ∈ ev_WS := ev_inA 232 rfl rfl
theorem wm_R_51 : Cond.methodLink RR 51 yP_segmentLength ∈ ev_WS := ev_inA 233 rfl rfl
theorem wm_R_38 : Cond.methodLink RR 38 yR_reduceOnce ∈ ev_WS := ev_inA 234 rfl rfl
theorem wm_R_62 : Cond.methodLink RR 62 yR_note ∈ ev_WS := ev_inA 238 rfl rfl
theorem wm_R_66 : Cond.methodLink RR 66 yR_removeLengths ∈ ev_WS := ev_inB 2 rfl rfl
theorem wm_R_69 : Cond.methodLink RR 69 yR_removeCreases ∈ ev_WS := ev_inB 6 rfl rfl
theorem wm_R_72 : Cond.methodLink RR 72 yR_leftmostPleat ∈ ev_WS := ev_inB 10 rfl rfl
theorem wm_R_75 : Cond.methodLink RR 75 yR_flatten ∈ ev_WS := ev_inB 14 rfl rfl
theorem wm_L_89 : Cond.methodLink RL 89 yF_steps ∈ ev_WS := ev_inB 18 rfl rfl
theorem wm_L_96 : Cond.methodLink RL 96 yF_orders ∈ ev_WS := ev_inB 22 rfl rfl
theorem wm_F_144 : Cond.methodLink RF 144 yO_findAll ∈ ev_WS := ev_inB 26 rfl rfl
theorem wm_O_31 : Cond.methodLink RO 31 yO_decide ∈ ev_WS := ev_inB 30 rfl rfl
theorem wm_O_40 : Cond.methodLink RO 40 yO_keep ∈ ev_WS := ev_inB 34 rfl rfl
theorem wm_O_65 : Cond.methodLink RO 65 yJA_copyOf ∈ ev_WS := ev_inB 38 rfl rfl
theorem wm_O_71 : Cond.methodLink RO 71 yO_markingOf ∈ ev_WS := ev_inB 52 rfl rfl
theorem wm_O_75 : Cond.methodLink RO 75 yO_isAbove ∈ ev_WS := ev_inB 56 rfl rfl
theorem wm_O_48 : Cond.methodLink RO 48 yO_bit ∈ ev_WS := ev_inB 59 rfl rfl
theorem wm_O_44 : Cond.methodLink RO 44 yP_overlap ∈ ev_WS := ev_inB 62 rfl rfl
theorem wm_O_52 : Cond.methodLink RO 52 yO_keepsMark ∈ ev_WS := ev_inB 66 rfl rfl
theorem wm_O_81 : Cond.methodLink RO 81 yP_frontUp ∈ ev_WS := ev_inB 70 rfl rfl
theorem wm_O_56 : Cond.methodLink RO 56 yO_makesNoRound ∈ ev_WS := ev_inB 74 rfl rfl
theorem wm_O_59 : Cond.methodLink RO 59 yO_crossesNoCrease ∈ ev_WS := ev_inB 78 rfl rfl
theorem wm_O_85 : Cond.methodLink RO 85 yP_foldedCrease ∈ ev_WS := ev_inB 82 rfl rfl
theorem wm_O_88 : Cond.methodLink RO 88 yP_hasInside ∈ ev_WS := ev_inB 86 rfl rfl
theorem wm_O_91 : Cond.methodLink RO 91 yO_isBetween ∈ ev_WS := ev_inB 90 rfl rfl
theorem wm_O_62 : Cond.methodLink RO 62 yO_creasesNest ∈ ev_WS := ev_inB 93 rfl rfl
theorem wm_L_107 : Cond.methodLink RL 107 yF_marks ∈ ev_WS := ev_inB 97 rfl rfl
theorem wm_F_173 : Cond.methodLink RF 173 yJL_bitCount ∈ ev_WS := ev_inB 101 rfl rfl
theorem wm_L_114 : Cond.methodLink RL 114 yF_run ∈ ev_WS := ev_inB 107 rfl rfl
theorem wm_F_183 : Cond.methodLink RF 183 yF_takesNumber ∈ ev_WS := ev_inB 111 rfl rfl
theorem wm_F_192 : Cond.methodLink RF 192 yF_markOf ∈ ev_WS := ev_inB 114 rfl rfl
theorem wm_F_186 : Cond.methodLink RF 186 yF_digitsFrom ∈ ev_WS := ev_inB 117 rfl rfl
theorem wm_F_195 : Cond.methodLink RF 195 yF_isDigit ∈ ev_WS := ev_inB 121 rfl rfl
theorem wm_F_189 : Cond.methodLink RF 189 yF_operate ∈ ev_WS := ev_inB 124 rfl rfl
theorem wm_F_198 : Cond.methodLink RF 198 yF_turn ∈ ev_WS := ev_inB 128 rfl rfl
theorem wm_F_202 : Cond.methodLink RF 202 yF_numberAt ∈ ev_WS := ev_inB 129 rfl rfl
theorem wm_F_40 : Cond.methodLink RF 40 yF_tryStrip ∈ ev_WS := ev_inB 133 rfl rfl
theorem wm_F_205 : Cond.methodLink RF 205 yP_renew ∈ ev_WS := ev_inB 137 rfl rfl
theorem wm_F_51 : Cond.methodLink RF 51 yF_tryCrease ∈ ev_WS := ev_inB 138 rfl rfl
theorem wm_F_209 : Cond.methodLink RF 209 yP_judgeCrease ∈ ev_WS := ev_inB 142 rfl rfl
theorem wm_P_45 : Cond.methodLink RP 45 yP_hasCreaseAt ∈ ev_WS := ev_inB 146 rfl rfl
theorem wm_P_49 : Cond.methodLink RP 49 yP_creasesBefore ∈ ev_WS := ev_inB 150 rfl rfl
theorem wm_F_212 : Cond.methodLink RF 212 yP_setCrease ∈ ev_WS := ev_inB 154 rfl rfl
theorem wm_P_53 : Cond.methodLink RP 53 yP_removeCrease ∈ ev_WS := ev_inB 158 rfl rfl
theorem wm_P_56 : Cond.methodLink RP 56 yP_insertCrease ∈ ev_WS := ev_inB 162 rfl rfl
theorem wm_L_47 : Cond.methodLink RL 47 yL_strip ∈ ev_WS := ev_inB 166 rfl rfl
theorem wm_L_7 : Cond.methodLink RL 7 yF_strip ∈ ev_WS := ev_inB 170 rfl rfl
theorem wm_L_57 : Cond.methodLink RL 57 yL_crease ∈ ev_WS := ev_inC 2 rfl rfl
theorem wm_L_15 : Cond.methodLink RL 15 yF_crease ∈ ev_WS := ev_inC 6 rfl rfl
theorem wm_L_70 : Cond.methodLink RL 70 yL_segment ∈ ev_WS := ev_inC 27 rfl rfl
theorem wm_L_21 : Cond.methodLink RL 21 yF_segment ∈ ev_WS := ev_inC 31 rfl rfl
theorem wm_F_82 : Cond.methodLink RF 82 yP_hasSegment ∈ ev_WS := ev_inC 35 rfl rfl
theorem wm_F_91 : Cond.methodLink RF 91 yP_leftEnd ∈ ev_WS := ev_inC 55 rfl rfl
theorem wm_F_94 : Cond.methodLink RF 94 yP_rightEnd ∈ ev_WS := ev_inC 56 rfl rfl
theorem wm_F_103 : Cond.methodLink RF 103 yP_frontUp ∈ ev_WS := ev_inC 57 rfl rfl
theorem wm_L_73 : Cond.methodLink RL 73 yL_whereIs ∈ ev_WS := ev_inC 59 rfl rfl
theorem wm_L_26 : Cond.methodLink RL 26 yF_whereIs ∈ ev_WS := ev_inC 62 rfl rfl
theorem wm_F_113 : Cond.methodLink RF 113 yP_foldedPlace ∈ ev_WS := ev_inC 67 rfl rfl
theorem wm_L_93 : Cond.methodLink RL 93 yL_step ∈ ev_WS := ev_inC 71 rfl rfl
theorem wm_L_30 : Cond.methodLink RL 30 yF_step ∈ ev_WS := ev_inC 74 rfl rfl
theorem wm_F_131 : Cond.methodLink RF 131 yF_steps ∈ ev_WS := ev_inC 78 rfl rfl
theorem wm_L_100 : Cond.methodLink RL 100 yL_above ∈ ev_WS := ev_inC 81 rfl rfl
theorem wm_L_33 : Cond.methodLink RL 33 yF_above ∈ ev_WS := ev_inC 84 rfl rfl
theorem wm_F_152 : Cond.methodLink RF 152 yP_overlap ∈ ev_WS := ev_inC 89 rfl rfl
theorem wm_F_159 : Cond.methodLink RF 159 yO_isAbove ∈ ev_WS := ev_inC 90 rfl rfl
theorem wm_L_104 : Cond.methodLink RL 104 yL_layer ∈ ev_WS := ev_inC 91 rfl rfl
theorem wm_L_37 : Cond.methodLink RL 37 yF_layer ∈ ev_WS := ev_inC 94 rfl rfl
theorem wm_F_165 : Cond.methodLink RF 165 yO_segmentAt ∈ ev_WS := ev_inC 99 rfl rfl
theorem wm_O_95 : Cond.methodLink RO 95 yP_liesOver ∈ ev_WS := ev_inC 103 rfl rfl
theorem wm_O_98 : Cond.methodLink RO 98 yO_below ∈ ev_WS := ev_inC 104 rfl rfl
theorem wm_L_111 : Cond.methodLink RL 111 yL_type ∈ ev_WS := ev_inC 108 rfl rfl
theorem wm_L_40 : Cond.methodLink RL 40 yF_type ∈ ev_WS := ev_inC 111 rfl rfl
theorem wm_L_46 : Cond.methodLink RL 46 yM_init ∈ ev_WS := ev_inC 119 rfl rfl
theorem wm_M_1 : Cond.methodLink RM 1 Lib.objectInit ∈ ev_WS := ev_inC 122 rfl rfl
theorem wm_L_53 : Cond.methodLink RL 53 yM_thrown ∈ ev_WS := ev_inC 190 rfl rfl
theorem wm_L_52 : Cond.methodLink RL 52 yM_strip ∈ ev_WS := ev_inC 194 rfl rfl
theorem wm_M_59 : Cond.methodLink RM 59 yM_refuse ∈ ev_WS := ev_inC 198 rfl rfl
theorem wm_L_60 : Cond.methodLink RL 60 yM_crease ∈ ev_WS := ev_inC 202 rfl rfl
theorem wm_M_70 : Cond.methodLink RM 70 yM_before ∈ ev_WS := ev_inC 206 rfl rfl
theorem wm_L_65 : Cond.methodLink RL 65 yM_turn ∈ ev_WS := ev_inC 210 rfl rfl
theorem wm_L_69 : Cond.methodLink RL 69 yM_count ∈ ev_WS := ev_inC 214 rfl rfl
theorem wm_M_74 : Cond.methodLink RM 74 yM_free ∈ ev_WS := ev_inC 218 rfl rfl
theorem wm_L_72 : Cond.methodLink RL 72 yM_segment ∈ ev_WS := ev_inC 222 rfl rfl
theorem wm_M_81 : Cond.methodLink RM 81 yM_leftEnd ∈ ev_WS := ev_inC 226 rfl rfl
theorem wm_M_87 : Cond.methodLink RM 87 yM_rightEnd ∈ ev_WS := ev_inC 230 rfl rfl
theorem wm_M_90 : Cond.methodLink RM 90 yM_low ∈ ev_WS := ev_inC 234 rfl rfl
theorem wm_M_84 : Cond.methodLink RM 84 yM_fold ∈ ev_WS := ev_inC 238 rfl rfl
theorem wm_M_93 : Cond.methodLink RM 93 yM_high ∈ ev_WS := ev_inD 2 rfl rfl
theorem wm_M_96 : Cond.methodLink RM 96 yM_isUp ∈ ev_WS := ev_inD 6 rfl rfl
theorem wm_L_76 : Cond.methodLink RL 76 yM_whereIs ∈ ev_WS := ev_inD 10 rfl rfl
theorem wm_L_80 : Cond.methodLink RL 80 yM_width ∈ ev_WS := ev_inD 14 rfl rfl
theorem wm_L_84 : Cond.methodLink RL 84 yM_thickness ∈ ev_WS := ev_inD 18 rfl rfl
theorem wm_M_100 : Cond.methodLink RM 100 yM_covers ∈ ev_WS := ev_inD 22 rfl rfl
theorem wm_L_88 : Cond.methodLink RL 88 yM_foldable ∈ ev_WS := ev_inD 26 rfl rfl
theorem wm_M_121 : Cond.methodLink RM 121 yM_reduce ∈ ev_WS := ev_inD 30 rfl rfl
theorem wm_M_110 : Cond.methodLink RM 110 yM_middle ∈ ev_WS := ev_inD 34 rfl rfl
theorem wm_M_113 : Cond.methodLink RM 113 yM_note ∈ ev_WS := ev_inD 38 rfl rfl
theorem wm_M_117 : Cond.methodLink RM 117 yM_drop ∈ ev_WS := ev_inD 42 rfl rfl
theorem wm_L_92 : Cond.methodLink RL 92 yM_steps ∈ ev_WS := ev_inD 46 rfl rfl
theorem wm_L_95 : Cond.methodLink RL 95 yM_step ∈ ev_WS := ev_inD 50 rfl rfl
theorem wm_L_99 : Cond.methodLink RL 99 yM_orders ∈ ev_WS := ev_inD 54 rfl rfl
theorem wm_M_163 : Cond.methodLink RM 163 yM_look ∈ ev_WS := ev_inD 59 rfl rfl
theorem wm_M_152 : Cond.methodLink RM 152 yM_begin ∈ ev_WS := ev_inD 63 rfl rfl
theorem wm_M_132 : Cond.methodLink RM 132 yM_overlap ∈ ev_WS := ev_inD 67 rfl rfl
theorem wm_M_148 : Cond.methodLink RM 148 yM_set ∈ ev_WS := ev_inD 71 rfl rfl
theorem wm_M_124 : Cond.methodLink RM 124 yM_get ∈ ev_WS := ev_inD 75 rfl rfl
theorem wm_M_158 : Cond.methodLink RM 158 yM_holds ∈ ev_WS := ev_inD 79 rfl rfl
theorem wm_M_135 : Cond.methodLink RM 135 yM_turnsRound ∈ ev_WS := ev_inD 83 rfl rfl
theorem wm_M_139 : Cond.methodLink RM 139 yM_isMarked ∈ ev_WS := ev_inD 87 rfl rfl
theorem wm_M_142 : Cond.methodLink RM 142 yM_isClear ∈ ev_WS := ev_inD 91 rfl rfl
theorem wm_M_128 : Cond.methodLink RM 128 yM_between ∈ ev_WS := ev_inD 95 rfl rfl
theorem wm_M_145 : Cond.methodLink RM 145 yM_arePeaceful ∈ ev_WS := ev_inD 99 rfl rfl
theorem wm_L_103 : Cond.methodLink RL 103 yM_above ∈ ev_WS := ev_inD 103 rfl rfl
theorem wm_L_106 : Cond.methodLink RL 106 yM_layer ∈ ev_WS := ev_inD 107 rfl rfl
theorem wm_L_110 : Cond.methodLink RL 110 yM_marks ∈ ev_WS := ev_inD 111 rfl rfl
theorem wm_L_113 : Cond.methodLink RL 113 yM_type ∈ ev_WS := ev_inD 115 rfl rfl
theorem wm_L_117 : Cond.methodLink RL 117 yM_run ∈ ev_WS := ev_inD 119 rfl rfl
theorem wm_M_172 : Cond.methodLink RM 172 yM_sign ∈ ev_WS := ev_inD 123 rfl rfl
theorem wm_M_175 : Cond.methodLink RM 175 yM_isDigit ∈ ev_WS := ev_inD 127 rfl rfl
theorem wm_M_178 : Cond.methodLink RM 178 yM_does ∈ ev_WS := ev_inD 130 rfl rfl
theorem wm_M_166 : Cond.methodLink RM 166 yM_strip ∈ ev_WS := ev_inD 134 rfl rfl
theorem wm_M_169 : Cond.methodLink RM 169 yM_crease ∈ ev_WS := ev_inD 135 rfl rfl
theorem wo_i : Cond.instanceMethod Lib.objectInit ∈ ev_WS := ev_inA 22 rfl rfl
theorem wo_c : Cond.code Lib.objectInit ⟨#[0xb1]⟩ 1 none ∈ ev_WS := ev_inA 23 rfl rfl
theorem wc_F_init : Cond.code yF_init cF_init 1 none ∈ ev_WS := ev_inA 20 rfl rfl
theorem wv_F_init : Cond.instanceMethod yF_init ∈ ev_WS := ev_inA 19 rfl rfl
theorem wc_P_init : Cond.code yP_init cP_init 1 none ∈ ev_WS := ev_inA 28 rfl rfl
theorem wv_P_init : Cond.instanceMethod yP_init ∈ ev_WS := ev_inA 27 rfl rfl
theorem wc_P_renew : Cond.code yP_renew cP_renew 2 none ∈ ev_WS := ev_inA 33 rfl rfl
theorem wv_P_renew : Cond.instanceMethod yP_renew ∈ ev_WS := ev_inA 31 rfl rfl
theorem wx_P_renew : Cond.selects RP yP_renew yP_renew ∈ ev_WS := ev_inA 32 rfl rfl
theorem wc_P_fold : Cond.code yP_fold cP_fold 2 none ∈ ev_WS := ev_inA 37 rfl rfl
theorem wv_P_fold : Cond.instanceMethod yP_fold ∈ ev_WS := ev_inA 36 rfl rfl
theorem wx_P_fold : Cond.selects RP yP_fold yP_fold ∈ ev_WS := ev_inP 0 rfl rfl
theorem wc_P_direction : Cond.code yP_direction cP_direction 1 (some .int) ∈ ev_WS := ev_inA 40 rfl rfl
theorem ws_P_direction : Cond.static yP_direction ∈ ev_WS := ev_inA 39 rfl rfl
theorem wc_P_segmentLength : Cond.code yP_segmentLength cP_segmentLength 2 (some .int) ∈ ev_WS := ev_inA 44 rfl rfl
theorem wv_P_segmentLength : Cond.instanceMethod yP_segmentLength ∈ ev_WS := ev_inA 42 rfl rfl
theorem wx_P_segmentLength : Cond.selects RP yP_segmentLength yP_segmentLength ∈ ev_WS := ev_inA 43 rfl rfl
theorem wc_P_rightEnd : Cond.code yP_rightEnd cP_rightEnd 2 (some .int) ∈ ev_WS := ev_inA 48 rfl rfl
theorem wv_P_rightEnd : Cond.instanceMethod yP_rightEnd ∈ ev_WS := ev_inA 46 rfl rfl
theorem wx_P_rightEnd : Cond.selects RP yP_rightEnd yP_rightEnd ∈ ev_WS := ev_inA 47 rfl rfl
theorem wc_P_leftEnd : Cond.code yP_leftEnd cP_leftEnd 2 (some .int) ∈ ev_WS := ev_inA 52 rfl rfl
theorem wv_P_leftEnd : Cond.instanceMethod yP_leftEnd ∈ ev_WS := ev_inA 50 rfl rfl
theorem wx_P_leftEnd : Cond.selects RP yP_leftEnd yP_leftEnd ∈ ev_WS := ev_inA 51 rfl rfl
theorem wc_R_init : Cond.code yR_init cR_init 2 none ∈ ev_WS := ev_inA 100 rfl rfl
theorem wv_R_init : Cond.instanceMethod yR_init ∈ ev_WS := ev_inA 99 rfl rfl
theorem wc_O_init : Cond.code yO_init cO_init 2 none ∈ ev_WS := ev_inA 135 rfl rfl
theorem wv_O_init : Cond.instanceMethod yO_init ∈ ev_WS := ev_inA 134 rfl rfl
theorem wc_F_turn : Cond.code yF_turn cF_turn 1 (some .boolean) ∈ ev_WS := ev_inA 175 rfl rfl
theorem wv_F_turn : Cond.instanceMethod yF_turn ∈ ev_WS := ev_inA 173 rfl rfl
theorem wx_F_turn : Cond.selects RF yF_turn yF_turn ∈ ev_WS := ev_inA 174 rfl rfl
theorem wc_P_turnOver : Cond.code yP_turnOver cP_turnOver 1 none ∈ ev_WS := ev_inA 179 rfl rfl
theorem wv_P_turnOver : Cond.instanceMethod yP_turnOver ∈ ev_WS := ev_inA 177 rfl rfl
theorem wx_P_turnOver : Cond.selects RP yP_turnOver yP_turnOver ∈ ev_WS := ev_inA 178 rfl rfl
theorem wc_O_forget : Cond.code yO_forget cO_forget 1 none ∈ ev_WS := ev_inA 183 rfl rfl
theorem wv_O_forget : Cond.instanceMethod yO_forget ∈ ev_WS := ev_inA 181 rfl rfl
theorem wx_O_forget : Cond.selects RO yO_forget yO_forget ∈ ev_WS := ev_inA 182 rfl rfl
theorem wc_F_count : Cond.code yF_count cF_count 2 (some .int) ∈ ev_WS := ev_inA 187 rfl rfl
theorem wv_F_count : Cond.instanceMethod yF_count ∈ ev_WS := ev_inA 185 rfl rfl
theorem wx_F_count : Cond.selects RF yF_count yF_count ∈ ev_WS := ev_inA 186 rfl rfl
theorem wc_P_freeCreases : Cond.code yP_freeCreases cP_freeCreases 3 (some .int) ∈ ev_WS := ev_inA 191 rfl rfl
theorem wv_P_freeCreases : Cond.instanceMethod yP_freeCreases ∈ ev_WS := ev_inA 189 rfl rfl
theorem wx_P_freeCreases : Cond.selects RP yP_freeCreases yP_freeCreases ∈ ev_WS := ev_inA 190 rfl rfl
theorem wc_F_width : Cond.code yF_width cF_width 1 (some .int) ∈ ev_WS := ev_inA 195 rfl rfl
theorem wv_F_width : Cond.instanceMethod yF_width ∈ ev_WS := ev_inA 193 rfl rfl
theorem wx_F_width : Cond.selects RF yF_width yF_width ∈ ev_WS := ev_inA 194 rfl rfl
theorem wc_P_reach : Cond.code yP_reach cP_reach 4 (some .int) ∈ ev_WS := ev_inA 199 rfl rfl
theorem wv_P_reach : Cond.instanceMethod yP_reach ∈ ev_WS := ev_inA 197 rfl rfl
theorem wx_P_reach : Cond.selects RP yP_reach yP_reach ∈ ev_WS := ev_inA 198 rfl rfl
theorem wc_P_segments : Cond.code yP_segments cP_segments 1 (some .int) ∈ ev_WS := ev_inA 203 rfl rfl
theorem wv_P_segments : Cond.instanceMethod yP_segments ∈ ev_WS := ev_inA 201 rfl rfl
theorem wx_P_segments : Cond.selects RP yP_segments yP_segments ∈ ev_WS := ev_inA 202 rfl rfl
theorem wc_F_thickness : Cond.code yF_thickness cF_thickness 1 (some .int) ∈ ev_WS := ev_inA 207 rfl rfl
theorem wv_F_thickness : Cond.instanceMethod yF_thickness ∈ ev_WS := ev_inA 205 rfl rfl
theorem wx_F_thickness : Cond.selects RF yF_thickness yF_thickness ∈ ev_WS := ev_inA 206 rfl rfl
theorem wc_P_mostImages : Cond.code yP_mostImages cP_mostImages 3 (some .int) ∈ ev_WS := ev_inA 211 rfl rfl
theorem wv_P_mostImages : Cond.instanceMethod yP_mostImages ∈ ev_WS := ev_inA 209 rfl rfl
theorem wx_P_mostImages : Cond.selects RP yP_mostImages yP_mostImages ∈ ev_WS := ev_inA 210 rfl rfl
theorem wc_P_imagesOver : Cond.code yP_imagesOver cP_imagesOver 4 (some .int) ∈ ev_WS := ev_inA 215 rfl rfl
theorem wv_P_imagesOver : Cond.instanceMethod yP_imagesOver ∈ ev_WS := ev_inA 214 rfl rfl
theorem wx_P_imagesOver : Cond.selects RP yP_imagesOver yP_imagesOver ∈ ev_WS := ev_inP 1 rfl rfl
theorem wc_P_liesOver : Cond.code yP_liesOver cP_liesOver 3 (some .boolean) ∈ ev_WS := ev_inA 219 rfl rfl
theorem wv_P_liesOver : Cond.instanceMethod yP_liesOver ∈ ev_WS := ev_inA 217 rfl rfl
theorem wx_P_liesOver : Cond.selects RP yP_liesOver yP_liesOver ∈ ev_WS := ev_inA 218 rfl rfl
theorem wc_F_foldable : Cond.code yF_foldable cF_foldable 1 (some .int) ∈ ev_WS := ev_inA 223 rfl rfl
theorem wv_F_foldable : Cond.instanceMethod yF_foldable ∈ ev_WS := ev_inA 221 rfl rfl
theorem wx_F_foldable : Cond.selects RF yF_foldable yF_foldable ∈ ev_WS := ev_inA 222 rfl rfl
theorem wc_R_reduce : Cond.code yR_reduce cR_reduce 3 none ∈ ev_WS := ev_inA 227 rfl rfl
theorem wv_R_reduce : Cond.instanceMethod yR_reduce ∈ ev_WS := ev_inA 225 rfl rfl
theorem wx_R_reduce : Cond.selects RR yR_reduce yR_reduce ∈ ev_WS := ev_inA 226 rfl rfl
theorem wc_R_copyPattern : Cond.code yR_copyPattern cR_copyPattern 2 none ∈ ev_WS := ev_inA 231 rfl rfl
theorem wv_R_copyPattern : Cond.instanceMethod yR_copyPattern ∈ ev_WS := ev_inA 230 rfl rfl
theorem wx_R_copyPattern : Cond.selects RR yR_copyPattern yR_copyPattern ∈ ev_WS := ev_inP 2 rfl rfl
theorem wc_R_reduceOnce : Cond.code yR_reduceOnce cR_reduceOnce 2 (some .boolean) ∈ ev_WS := ev_inA 237 rfl rfl
theorem wv_R_reduceOnce : Cond.instanceMethod yR_reduceOnce ∈ ev_WS := ev_inA 236 rfl rfl
theorem wx_R_reduceOnce : Cond.selects RR yR_reduceOnce yR_reduceOnce ∈ ev_WS := ev_inP 3 rfl rfl
theorem wc_R_note : Cond.code yR_note cR_note 3 none ∈ ev_WS := ev_inB 1 rfl rfl
theorem wv_R_note : Cond.instanceMethod yR_note ∈ ev_WS := ev_inB 0 rfl rfl
theorem wx_R_note : Cond.selects RR yR_note yR_note ∈ ev_WS := ev_inP 4 rfl rfl
theorem wc_R_removeLengths : Cond.code yR_removeLengths cR_removeLengths 4 none ∈ ev_WS := ev_inB 5 rfl rfl
theorem wv_R_removeLengths : Cond.instanceMethod yR_removeLengths ∈ ev_WS := ev_inB 4 rfl rfl
theorem wx_R_removeLengths : Cond.selects RR yR_removeLengths yR_removeLengths ∈ ev_WS := ev_inP 5 rfl rfl
theorem wc_R_removeCreases : Cond.code yR_removeCreases cR_removeCreases 4 none ∈ ev_WS := ev_inB 9 rfl rfl
theorem wv_R_removeCreases : Cond.instanceMethod yR_removeCreases ∈ ev_WS := ev_inB 8 rfl rfl
theorem wx_R_removeCreases : Cond.selects RR yR_removeCreases yR_removeCreases ∈ ev_WS := ev_inP 6 rfl rfl
theorem wc_R_leftmostPleat : Cond.code yR_leftmostPleat cR_leftmostPleat 2 (some .int) ∈ ev_WS := ev_inB 13 rfl rfl
theorem wv_R_leftmostPleat : Cond.instanceMethod yR_leftmostPleat ∈ ev_WS := ev_inB 12 rfl rfl
theorem wx_R_leftmostPleat : Cond.selects RR yR_leftmostPleat yR_leftmostPleat ∈ ev_WS := ev_inP 7 rfl rfl
theorem wc_R_flatten : Cond.code yR_flatten cR_flatten 2 none ∈ ev_WS := ev_inB 17 rfl rfl
theorem wv_R_flatten : Cond.instanceMethod yR_flatten ∈ ev_WS := ev_inB 16 rfl rfl
theorem wx_R_flatten : Cond.selects RR yR_flatten yR_flatten ∈ ev_WS := ev_inP 8 rfl rfl
theorem wc_F_steps : Cond.code yF_steps cF_steps 1 (some .int) ∈ ev_WS := ev_inB 21 rfl rfl
theorem wv_F_steps : Cond.instanceMethod yF_steps ∈ ev_WS := ev_inB 19 rfl rfl
theorem wx_F_steps : Cond.selects RF yF_steps yF_steps ∈ ev_WS := ev_inB 20 rfl rfl
theorem wc_F_orders : Cond.code yF_orders cF_orders 1 (some .int) ∈ ev_WS := ev_inB 25 rfl rfl
theorem wv_F_orders : Cond.instanceMethod yF_orders ∈ ev_WS := ev_inB 23 rfl rfl
theorem wx_F_orders : Cond.selects RF yF_orders yF_orders ∈ ev_WS := ev_inB 24 rfl rfl
theorem wc_O_findAll : Cond.code yO_findAll cO_findAll 1 none ∈ ev_WS := ev_inB 29 rfl rfl
theorem wv_O_findAll : Cond.instanceMethod yO_findAll ∈ ev_WS := ev_inB 27 rfl rfl
theorem wx_O_findAll : Cond.selects RO yO_findAll yO_findAll ∈ ev_WS := ev_inB 28 rfl rfl
theorem wc_O_decide : Cond.code yO_decide cO_decide 9 none ∈ ev_WS := ev_inB 33 rfl rfl
theorem wv_O_decide : Cond.instanceMethod yO_decide ∈ ev_WS := ev_inB 32 rfl rfl
theorem wx_O_decide : Cond.selects RO yO_decide yO_decide ∈ ev_WS := ev_inP 9 rfl rfl
theorem wc_O_keep : Cond.code yO_keep cO_keep 2 none ∈ ev_WS := ev_inB 37 rfl rfl
theorem wv_O_keep : Cond.instanceMethod yO_keep ∈ ev_WS := ev_inB 36 rfl rfl
theorem wx_O_keep : Cond.selects RO yO_keep yO_keep ∈ ev_WS := ev_inP 10 rfl rfl
theorem wc_JA_copyOf : Cond.code yJA_copyOf cJA_copyOf 3 (some (.array .int)) ∈ ev_WS := ev_inB 40 rfl rfl
theorem ws_JA_copyOf : Cond.static yJA_copyOf ∈ ev_WS := ev_inB 39 rfl rfl
theorem wc_O_markingOf : Cond.code yO_markingOf cO_markingOf 4 (some .int) ∈ ev_WS := ev_inB 55 rfl rfl
theorem wv_O_markingOf : Cond.instanceMethod yO_markingOf ∈ ev_WS := ev_inB 54 rfl rfl
theorem wx_O_markingOf : Cond.selects RO yO_markingOf yO_markingOf ∈ ev_WS := ev_inP 11 rfl rfl
theorem wc_O_isAbove : Cond.code yO_isAbove cO_isAbove 3 (some .boolean) ∈ ev_WS := ev_inB 58 rfl rfl
theorem ws_O_isAbove : Cond.static yO_isAbove ∈ ev_WS := ev_inB 57 rfl rfl
theorem wc_O_bit : Cond.code yO_bit cO_bit 2 (some .int) ∈ ev_WS := ev_inB 61 rfl rfl
theorem ws_O_bit : Cond.static yO_bit ∈ ev_WS := ev_inB 60 rfl rfl
theorem wc_P_overlap : Cond.code yP_overlap cP_overlap 3 (some .boolean) ∈ ev_WS := ev_inB 65 rfl rfl
theorem wv_P_overlap : Cond.instanceMethod yP_overlap ∈ ev_WS := ev_inB 63 rfl rfl
theorem wx_P_overlap : Cond.selects RP yP_overlap yP_overlap ∈ ev_WS := ev_inB 64 rfl rfl
theorem wc_O_keepsMark : Cond.code yO_keepsMark cO_keepsMark 5 (some .boolean) ∈ ev_WS := ev_inB 69 rfl rfl
theorem wv_O_keepsMark : Cond.instanceMethod yO_keepsMark ∈ ev_WS := ev_inB 68 rfl rfl
theorem wx_O_keepsMark : Cond.selects RO yO_keepsMark yO_keepsMark ∈ ev_WS := ev_inP 12 rfl rfl
theorem wc_P_frontUp : Cond.code yP_frontUp cP_frontUp 2 (some .boolean) ∈ ev_WS := ev_inB 73 rfl rfl
theorem wv_P_frontUp : Cond.instanceMethod yP_frontUp ∈ ev_WS := ev_inB 71 rfl rfl
theorem wx_P_frontUp : Cond.selects RP yP_frontUp yP_frontUp ∈ ev_WS := ev_inB 72 rfl rfl
theorem wc_O_makesNoRound : Cond.code yO_makesNoRound cO_makesNoRound 5 (some .boolean) ∈ ev_WS := ev_inB 77 rfl rfl
theorem wv_O_makesNoRound : Cond.instanceMethod yO_makesNoRound ∈ ev_WS := ev_inB 76 rfl rfl
theorem wx_O_makesNoRound : Cond.selects RO yO_makesNoRound yO_makesNoRound ∈ ev_WS := ev_inP 13 rfl rfl
theorem wc_O_crossesNoCrease : Cond.code yO_crossesNoCrease cO_crossesNoCrease 4 (some .boolean) ∈ ev_WS := ev_inB 81 rfl rfl
theorem wv_O_crossesNoCrease : Cond.instanceMethod yO_crossesNoCrease ∈ ev_WS := ev_inB 80 rfl rfl
theorem wx_O_crossesNoCrease : Cond.selects RO yO_crossesNoCrease yO_crossesNoCrease ∈ ev_WS := ev_inP 14 rfl rfl
theorem wc_P_foldedCrease : Cond.code yP_foldedCrease cP_foldedCrease 2 (some .int) ∈ ev_WS := ev_inB 85 rfl rfl
theorem wv_P_foldedCrease : Cond.instanceMethod yP_foldedCrease ∈ ev_WS := ev_inB 83 rfl rfl
theorem wx_P_foldedCrease : Cond.selects RP yP_foldedCrease yP_foldedCrease ∈ ev_WS := ev_inB 84 rfl rfl
theorem wc_P_hasInside : Cond.code yP_hasInside cP_hasInside 3 (some .boolean) ∈ ev_WS := ev_inB 89 rfl rfl
theorem wv_P_hasInside : Cond.instanceMethod yP_hasInside ∈ ev_WS := ev_inB 87 rfl rfl
theorem wx_P_hasInside : Cond.selects RP yP_hasInside yP_hasInside ∈ ev_WS := ev_inB 88 rfl rfl
theorem wc_O_isBetween : Cond.code yO_isBetween cO_isBetween 4 (some .boolean) ∈ ev_WS := ev_inB 92 rfl rfl
theorem ws_O_isBetween : Cond.static yO_isBetween ∈ ev_WS := ev_inB 91 rfl rfl
theorem wc_O_creasesNest : Cond.code yO_creasesNest cO_creasesNest 4 (some .boolean) ∈ ev_WS := ev_inB 96 rfl rfl
theorem wv_O_creasesNest : Cond.instanceMethod yO_creasesNest ∈ ev_WS := ev_inB 95 rfl rfl
theorem wx_O_creasesNest : Cond.selects RO yO_creasesNest yO_creasesNest ∈ ev_WS := ev_inP 15 rfl rfl
theorem wc_F_marks : Cond.code yF_marks cF_marks 1 (some .int) ∈ ev_WS := ev_inB 100 rfl rfl
theorem wv_F_marks : Cond.instanceMethod yF_marks ∈ ev_WS := ev_inB 98 rfl rfl
theorem wx_F_marks : Cond.selects RF yF_marks yF_marks ∈ ev_WS := ev_inB 99 rfl rfl
theorem wc_JL_bitCount : Cond.code yJL_bitCount cJL_bitCount 2 (some .int) ∈ ev_WS := ev_inB 103 rfl rfl
theorem ws_JL_bitCount : Cond.static yJL_bitCount ∈ ev_WS := ev_inB 102 rfl rfl
theorem wc_F_run : Cond.code yF_run cF_run 5 (some .int) ∈ ev_WS := ev_inB 110 rfl rfl
theorem wv_F_run : Cond.instanceMethod yF_run ∈ ev_WS := ev_inB 108 rfl rfl
theorem wx_F_run : Cond.selects RF yF_run yF_run ∈ ev_WS := ev_inB 109 rfl rfl
theorem wc_F_takesNumber : Cond.code yF_takesNumber cF_takesNumber 1 (some .boolean) ∈ ev_WS := ev_inB 113 rfl rfl
theorem ws_F_takesNumber : Cond.static yF_takesNumber ∈ ev_WS := ev_inB 112 rfl rfl
theorem wc_F_markOf : Cond.code yF_markOf cF_markOf 1 (some .int) ∈ ev_WS := ev_inB 116 rfl rfl
theorem ws_F_markOf : Cond.static yF_markOf ∈ ev_WS := ev_inB 115 rfl rfl
theorem wc_F_digitsFrom : Cond.code yF_digitsFrom cF_digitsFrom 4 (some .int) ∈ ev_WS := ev_inB 120 rfl rfl
theorem wv_F_digitsFrom : Cond.instanceMethod yF_digitsFrom ∈ ev_WS := ev_inB 119 rfl rfl
theorem wx_F_digitsFrom : Cond.selects RF yF_digitsFrom yF_digitsFrom ∈ ev_WS := ev_inP 16 rfl rfl
theorem wc_F_isDigit : Cond.code yF_isDigit cF_isDigit 1 (some .boolean) ∈ ev_WS := ev_inB 123 rfl rfl
theorem ws_F_isDigit : Cond.static yF_isDigit ∈ ev_WS := ev_inB 122 rfl rfl
theorem wc_F_operate : Cond.code yF_operate cF_operate 5 (some .int) ∈ ev_WS := ev_inB 127 rfl rfl
theorem wv_F_operate : Cond.instanceMethod yF_operate ∈ ev_WS := ev_inB 126 rfl rfl
theorem wx_F_operate : Cond.selects RF yF_operate yF_operate ∈ ev_WS := ev_inP 17 rfl rfl
theorem wc_F_numberAt : Cond.code yF_numberAt cF_numberAt 5 (some .int) ∈ ev_WS := ev_inB 132 rfl rfl
theorem wv_F_numberAt : Cond.instanceMethod yF_numberAt ∈ ev_WS := ev_inB 131 rfl rfl
theorem wx_F_numberAt : Cond.selects RF yF_numberAt yF_numberAt ∈ ev_WS := ev_inP 18 rfl rfl
theorem wc_F_tryStrip : Cond.code yF_tryStrip cF_tryStrip 2 (some .int) ∈ ev_WS := ev_inB 136 rfl rfl
theorem wv_F_tryStrip : Cond.instanceMethod yF_tryStrip ∈ ev_WS := ev_inB 135 rfl rfl
theorem wx_F_tryStrip : Cond.selects RF yF_tryStrip yF_tryStrip ∈ ev_WS := ev_inP 19 rfl rfl
theorem wc_F_tryCrease : Cond.code yF_tryCrease cF_tryCrease 4 (some .int) ∈ ev_WS := ev_inB 141 rfl rfl
theorem wv_F_tryCrease : Cond.instanceMethod yF_tryCrease ∈ ev_WS := ev_inB 140 rfl rfl
theorem wx_F_tryCrease : Cond.selects RF yF_tryCrease yF_tryCrease ∈ ev_WS := ev_inP 20 rfl rfl
theorem wc_P_judgeCrease : Cond.code yP_judgeCrease cP_judgeCrease 3 (some .int) ∈ ev_WS := ev_inB 145 rfl rfl
theorem wv_P_judgeCrease : Cond.instanceMethod yP_judgeCrease ∈ ev_WS := ev_inB 143 rfl rfl
theorem wx_P_judgeCrease : Cond.selects RP yP_judgeCrease yP_judgeCrease ∈ ev_WS := ev_inB 144 rfl rfl
theorem wc_P_hasCreaseAt : Cond.code yP_hasCreaseAt cP_hasCreaseAt 3 (some .boolean) ∈ ev_WS := ev_inB 149 rfl rfl
theorem wv_P_hasCreaseAt : Cond.instanceMethod yP_hasCreaseAt ∈ ev_WS := ev_inB 148 rfl rfl
theorem wx_P_hasCreaseAt : Cond.selects RP yP_hasCreaseAt yP_hasCreaseAt ∈ ev_WS := ev_inP 21 rfl rfl
theorem wc_P_creasesBefore : Cond.code yP_creasesBefore cP_creasesBefore 3 (some .int) ∈ ev_WS := ev_inB 153 rfl rfl
theorem wv_P_creasesBefore : Cond.instanceMethod yP_creasesBefore ∈ ev_WS := ev_inB 152 rfl rfl
theorem wx_P_creasesBefore : Cond.selects RP yP_creasesBefore yP_creasesBefore ∈ ev_WS := ev_inP 22 rfl rfl
theorem wc_P_setCrease : Cond.code yP_setCrease cP_setCrease 4 none ∈ ev_WS := ev_inB 157 rfl rfl
theorem wv_P_setCrease : Cond.instanceMethod yP_setCrease ∈ ev_WS := ev_inB 155 rfl rfl
theorem wx_P_setCrease : Cond.selects RP yP_setCrease yP_setCrease ∈ ev_WS := ev_inB 156 rfl rfl
theorem wc_P_removeCrease : Cond.code yP_removeCrease cP_removeCrease 3 none ∈ ev_WS := ev_inB 161 rfl rfl
theorem wv_P_removeCrease : Cond.instanceMethod yP_removeCrease ∈ ev_WS := ev_inB 160 rfl rfl
theorem wx_P_removeCrease : Cond.selects RP yP_removeCrease yP_removeCrease ∈ ev_WS := ev_inP 23 rfl rfl
theorem wc_P_insertCrease : Cond.code yP_insertCrease cP_insertCrease 5 none ∈ ev_WS := ev_inB 165 rfl rfl
theorem wv_P_insertCrease : Cond.instanceMethod yP_insertCrease ∈ ev_WS := ev_inB 164 rfl rfl
theorem wx_P_insertCrease : Cond.selects RP yP_insertCrease yP_insertCrease ∈ ev_WS := ev_inP 24 rfl rfl
theorem wc_L_strip : Cond.codeWith yL_strip cL_strip 3 (some .int) [(0, 5, 8, 13)] ∈ ev_WS := ev_inB 168 rfl rfl
theorem ws_L_strip : Cond.static yL_strip ∈ ev_WS := ev_inB 167 rfl rfl
theorem wc_F_strip : Cond.code yF_strip cF_strip 2 none ∈ ev_WS := ev_inB 173 rfl rfl
theorem wv_F_strip : Cond.instanceMethod yF_strip ∈ ev_WS := ev_inB 171 rfl rfl
theorem wx_F_strip : Cond.selects RF yF_strip yF_strip ∈ ev_WS := ev_inB 172 rfl rfl
theorem wc_L_crease : Cond.codeWith yL_crease cL_crease 5 (some .int) [(0, 10, 13, 13), (0, 10, 17, 19)] ∈ ev_WS := ev_inC 4 rfl rfl
theorem ws_L_crease : Cond.static yL_crease ∈ ev_WS := ev_inC 3 rfl rfl
theorem wc_F_crease : Cond.code yF_crease cF_crease 4 (some .int) ∈ ev_WS := ev_inC 9 rfl rfl
theorem wv_F_crease : Cond.instanceMethod yF_crease ∈ ev_WS := ev_inC 7 rfl rfl
theorem wx_F_crease : Cond.selects RF yF_crease yF_crease ∈ ev_WS := ev_inC 8 rfl rfl
theorem wc_L_segment : Cond.codeWith yL_segment cL_segment 5 (some .int) [(0, 10, 13, 24), (0, 10, 17, 13)] ∈ ev_WS := ev_inC 29 rfl rfl
theorem ws_L_segment : Cond.static yL_segment ∈ ev_WS := ev_inC 28 rfl rfl
theorem wc_F_segment : Cond.code yF_segment cF_segment 3 (some .int) ∈ ev_WS := ev_inC 34 rfl rfl
theorem wv_F_segment : Cond.instanceMethod yF_segment ∈ ev_WS := ev_inC 32 rfl rfl
theorem wx_F_segment : Cond.selects RF yF_segment yF_segment ∈ ev_WS := ev_inC 33 rfl rfl
theorem wc_P_hasSegment : Cond.code yP_hasSegment cP_hasSegment 2 (some .boolean) ∈ ev_WS := ev_inC 38 rfl rfl
theorem wv_P_hasSegment : Cond.instanceMethod yP_hasSegment ∈ ev_WS := ev_inC 36 rfl rfl
theorem wx_P_hasSegment : Cond.selects RP yP_hasSegment yP_hasSegment ∈ ev_WS := ev_inC 37 rfl rfl
theorem wc_L_whereIs : Cond.codeWith yL_whereIs cL_whereIs 4 (some .int) [(0, 9, 12, 13)] ∈ ev_WS := ev_inC 61 rfl rfl
theorem ws_L_whereIs : Cond.static yL_whereIs ∈ ev_WS := ev_inC 60 rfl rfl
theorem wc_F_whereIs : Cond.code yF_whereIs cF_whereIs 2 (some .int) ∈ ev_WS := ev_inC 65 rfl rfl
theorem wv_F_whereIs : Cond.instanceMethod yF_whereIs ∈ ev_WS := ev_inC 63 rfl rfl
theorem wx_F_whereIs : Cond.selects RF yF_whereIs yF_whereIs ∈ ev_WS := ev_inC 64 rfl rfl
theorem wc_P_foldedPlace : Cond.code yP_foldedPlace cP_foldedPlace 3 (some .int) ∈ ev_WS := ev_inC 70 rfl rfl
theorem wv_P_foldedPlace : Cond.instanceMethod yP_foldedPlace ∈ ev_WS := ev_inC 68 rfl rfl
theorem wx_P_foldedPlace : Cond.selects RP yP_foldedPlace yP_foldedPlace ∈ ev_WS := ev_inC 69 rfl rfl
theorem wc_L_step : Cond.codeWith yL_step cL_step 5 (some .int) [(0, 10, 13, 24), (0, 10, 17, 13)] ∈ ev_WS := ev_inC 73 rfl rfl
theorem ws_L_step : Cond.static yL_step ∈ ev_WS := ev_inC 72 rfl rfl
theorem wc_F_step : Cond.code yF_step cF_step 3 (some .int) ∈ ev_WS := ev_inC 77 rfl rfl
theorem wv_F_step : Cond.instanceMethod yF_step ∈ ev_WS := ev_inC 75 rfl rfl
theorem wx_F_step : Cond.selects RF yF_step yF_step ∈ ev_WS := ev_inC 76 rfl rfl
theorem wc_L_above : Cond.codeWith yL_above cL_above 6 (some .int) [(0, 12, 15, 24)] ∈ ev_WS := ev_inC 83 rfl rfl
theorem ws_L_above : Cond.static yL_above ∈ ev_WS := ev_inC 82 rfl rfl
theorem wc_F_above : Cond.code yF_above cF_above 4 (some .int) ∈ ev_WS := ev_inC 87 rfl rfl
theorem wv_F_above : Cond.instanceMethod yF_above ∈ ev_WS := ev_inC 85 rfl rfl
theorem wx_F_above : Cond.selects RF yF_above yF_above ∈ ev_WS := ev_inC 86 rfl rfl
theorem wc_L_layer : Cond.codeWith yL_layer cL_layer 6 (some .int) [(0, 12, 15, 24)] ∈ ev_WS := ev_inC 93 rfl rfl
theorem ws_L_layer : Cond.static yL_layer ∈ ev_WS := ev_inC 92 rfl rfl
theorem wc_F_layer : Cond.code yF_layer cF_layer 4 (some .int) ∈ ev_WS := ev_inC 97 rfl rfl
theorem wv_F_layer : Cond.instanceMethod yF_layer ∈ ev_WS := ev_inC 95 rfl rfl
theorem wx_F_layer : Cond.selects RF yF_layer yF_layer ∈ ev_WS := ev_inC 96 rfl rfl
theorem wc_O_segmentAt : Cond.code yO_segmentAt cO_segmentAt 5 (some .int) ∈ ev_WS := ev_inC 102 rfl rfl
theorem wv_O_segmentAt : Cond.instanceMethod yO_segmentAt ∈ ev_WS := ev_inC 100 rfl rfl
theorem wx_O_segmentAt : Cond.selects RO yO_segmentAt yO_segmentAt ∈ ev_WS := ev_inC 101 rfl rfl
theorem wc_O_below : Cond.code yO_below cO_below 6 (some .int) ∈ ev_WS := ev_inC 107 rfl rfl
theorem wv_O_below : Cond.instanceMethod yO_below ∈ ev_WS := ev_inC 106 rfl rfl
theorem wx_O_below : Cond.selects RO yO_below yO_below ∈ ev_WS := ev_inP 26 rfl rfl
theorem wc_L_type : Cond.codeWith yL_type cL_type 4 (some .int) [(0, 9, 12, 13), (0, 9, 15, 19)] ∈ ev_WS := ev_inC 110 rfl rfl
theorem ws_L_type : Cond.static yL_type ∈ ev_WS := ev_inC 109 rfl rfl
theorem wc_F_type : Cond.code yF_type cF_type 2 (some .int) ∈ ev_WS := ev_inC 114 rfl rfl
theorem wv_F_type : Cond.instanceMethod yF_type ∈ ev_WS := ev_inC 112 rfl rfl
theorem wx_F_type : Cond.selects RF yF_type yF_type ∈ ev_WS := ev_inC 113 rfl rfl
theorem wc_M_init : Cond.code yM_init cM_init 1 none ∈ ev_WS := ev_inC 121 rfl rfl
theorem wv_M_init : Cond.instanceMethod yM_init ∈ ev_WS := ev_inC 120 rfl rfl
theorem wc_M_thrown : Cond.code yM_thrown cM_thrown 1 (some .int) ∈ ev_WS := ev_inC 193 rfl rfl
theorem wv_M_thrown : Cond.instanceMethod yM_thrown ∈ ev_WS := ev_inC 191 rfl rfl
theorem wx_M_thrown : Cond.selects RM yM_thrown yM_thrown ∈ ev_WS := ev_inC 192 rfl rfl
theorem wc_M_strip : Cond.code yM_strip cM_strip 2 none ∈ ev_WS := ev_inC 197 rfl rfl
theorem wv_M_strip : Cond.instanceMethod yM_strip ∈ ev_WS := ev_inC 195 rfl rfl
theorem wx_M_strip : Cond.selects RM yM_strip yM_strip ∈ ev_WS := ev_inC 196 rfl rfl
theorem wc_M_refuse : Cond.code yM_refuse cM_refuse 3 (some .boolean) ∈ ev_WS := ev_inC 201 rfl rfl
theorem wv_M_refuse : Cond.instanceMethod yM_refuse ∈ ev_WS := ev_inC 200 rfl rfl
theorem wx_M_refuse : Cond.selects RM yM_refuse yM_refuse ∈ ev_WS := ev_inP 27 rfl rfl
theorem wc_M_crease : Cond.code yM_crease cM_crease 7 (some .int) ∈ ev_WS := ev_inC 205 rfl rfl
theorem wv_M_crease : Cond.instanceMethod yM_crease ∈ ev_WS := ev_inC 203 rfl rfl
theorem wx_M_crease : Cond.selects RM yM_crease yM_crease ∈ ev_WS := ev_inC 204 rfl rfl
theorem wc_M_before : Cond.code yM_before cM_before 4 (some .int) ∈ ev_WS := ev_inC 209 rfl rfl
theorem wv_M_before : Cond.instanceMethod yM_before ∈ ev_WS := ev_inC 208 rfl rfl
theorem wx_M_before : Cond.selects RM yM_before yM_before ∈ ev_WS := ev_inP 28 rfl rfl
theorem wc_M_turn : Cond.code yM_turn cM_turn 1 (some .boolean) ∈ ev_WS := ev_inC 213 rfl rfl
theorem wv_M_turn : Cond.instanceMethod yM_turn ∈ ev_WS := ev_inC 211 rfl rfl
theorem wx_M_turn : Cond.selects RM yM_turn yM_turn ∈ ev_WS := ev_inC 212 rfl rfl
theorem wc_M_count : Cond.code yM_count cM_count 2 (some .int) ∈ ev_WS := ev_inC 217 rfl rfl
theorem wv_M_count : Cond.instanceMethod yM_count ∈ ev_WS := ev_inC 215 rfl rfl
theorem wx_M_count : Cond.selects RM yM_count yM_count ∈ ev_WS := ev_inC 216 rfl rfl
theorem wc_M_free : Cond.code yM_free cM_free 3 (some .int) ∈ ev_WS := ev_inC 221 rfl rfl
theorem wv_M_free : Cond.instanceMethod yM_free ∈ ev_WS := ev_inC 220 rfl rfl
theorem wx_M_free : Cond.selects RM yM_free yM_free ∈ ev_WS := ev_inP 29 rfl rfl
theorem wc_M_segment : Cond.code yM_segment cM_segment 3 (some .int) ∈ ev_WS := ev_inC 225 rfl rfl
theorem wv_M_segment : Cond.instanceMethod yM_segment ∈ ev_WS := ev_inC 223 rfl rfl
theorem wx_M_segment : Cond.selects RM yM_segment yM_segment ∈ ev_WS := ev_inC 224 rfl rfl
theorem wc_M_leftEnd : Cond.code yM_leftEnd cM_leftEnd 2 (some .int) ∈ ev_WS := ev_inC 229 rfl rfl
theorem wv_M_leftEnd : Cond.instanceMethod yM_leftEnd ∈ ev_WS := ev_inC 228 rfl rfl
theorem wx_M_leftEnd : Cond.selects RM yM_leftEnd yM_leftEnd ∈ ev_WS := ev_inP 30 rfl rfl
theorem wc_M_rightEnd : Cond.code yM_rightEnd cM_rightEnd 2 (some .int) ∈ ev_WS := ev_inC 233 rfl rfl
theorem wv_M_rightEnd : Cond.instanceMethod yM_rightEnd ∈ ev_WS := ev_inC 232 rfl rfl
theorem wx_M_rightEnd : Cond.selects RM yM_rightEnd yM_rightEnd ∈ ev_WS := ev_inP 31 rfl rfl
theorem wc_M_low : Cond.code yM_low cM_low 4 (some .int) ∈ ev_WS := ev_inC 237 rfl rfl
theorem wv_M_low : Cond.instanceMethod yM_low ∈ ev_WS := ev_inC 236 rfl rfl
theorem wx_M_low : Cond.selects RM yM_low yM_low ∈ ev_WS := ev_inP 32 rfl rfl
theorem wc_M_fold : Cond.code yM_fold cM_fold 6 (some .int) ∈ ev_WS := ev_inD 1 rfl rfl
theorem wv_M_fold : Cond.instanceMethod yM_fold ∈ ev_WS := ev_inD 0 rfl rfl
theorem wx_M_fold : Cond.selects RM yM_fold yM_fold ∈ ev_WS := ev_inP 33 rfl rfl
theorem wc_M_high : Cond.code yM_high cM_high 2 (some .int) ∈ ev_WS := ev_inD 5 rfl rfl
theorem wv_M_high : Cond.instanceMethod yM_high ∈ ev_WS := ev_inD 4 rfl rfl
theorem wx_M_high : Cond.selects RM yM_high yM_high ∈ ev_WS := ev_inP 34 rfl rfl
theorem wc_M_isUp : Cond.code yM_isUp cM_isUp 2 (some .boolean) ∈ ev_WS := ev_inD 9 rfl rfl
theorem wv_M_isUp : Cond.instanceMethod yM_isUp ∈ ev_WS := ev_inD 8 rfl rfl
theorem wx_M_isUp : Cond.selects RM yM_isUp yM_isUp ∈ ev_WS := ev_inP 35 rfl rfl
theorem wc_M_whereIs : Cond.code yM_whereIs cM_whereIs 2 (some .int) ∈ ev_WS := ev_inD 13 rfl rfl
theorem wv_M_whereIs : Cond.instanceMethod yM_whereIs ∈ ev_WS := ev_inD 11 rfl rfl
theorem wx_M_whereIs : Cond.selects RM yM_whereIs yM_whereIs ∈ ev_WS := ev_inD 12 rfl rfl
theorem wc_M_width : Cond.code yM_width cM_width 4 (some .int) ∈ ev_WS := ev_inD 17 rfl rfl
theorem wv_M_width : Cond.instanceMethod yM_width ∈ ev_WS := ev_inD 15 rfl rfl
theorem wx_M_width : Cond.selects RM yM_width yM_width ∈ ev_WS := ev_inD 16 rfl rfl
theorem wc_M_thickness : Cond.code yM_thickness cM_thickness 5 (some .int) ∈ ev_WS := ev_inD 21 rfl rfl
theorem wv_M_thickness : Cond.instanceMethod yM_thickness ∈ ev_WS := ev_inD 19 rfl rfl
theorem wx_M_thickness : Cond.selects RM yM_thickness yM_thickness ∈ ev_WS := ev_inD 20 rfl rfl
theorem wc_M_covers : Cond.code yM_covers cM_covers 3 (some .boolean) ∈ ev_WS := ev_inD 25 rfl rfl
theorem wv_M_covers : Cond.instanceMethod yM_covers ∈ ev_WS := ev_inD 24 rfl rfl
theorem wx_M_covers : Cond.selects RM yM_covers yM_covers ∈ ev_WS := ev_inP 36 rfl rfl
theorem wc_M_foldable : Cond.code yM_foldable cM_foldable 1 (some .int) ∈ ev_WS := ev_inD 29 rfl rfl
theorem wv_M_foldable : Cond.instanceMethod yM_foldable ∈ ev_WS := ev_inD 27 rfl rfl
theorem wx_M_foldable : Cond.selects RM yM_foldable yM_foldable ∈ ev_WS := ev_inD 28 rfl rfl
theorem wc_M_reduce : Cond.code yM_reduce cM_reduce 3 none ∈ ev_WS := ev_inD 33 rfl rfl
theorem wv_M_reduce : Cond.instanceMethod yM_reduce ∈ ev_WS := ev_inD 32 rfl rfl
theorem wx_M_reduce : Cond.selects RM yM_reduce yM_reduce ∈ ev_WS := ev_inP 37 rfl rfl
theorem wc_M_middle : Cond.code yM_middle cM_middle 2 (some .int) ∈ ev_WS := ev_inD 37 rfl rfl
theorem wv_M_middle : Cond.instanceMethod yM_middle ∈ ev_WS := ev_inD 36 rfl rfl
theorem wx_M_middle : Cond.selects RM yM_middle yM_middle ∈ ev_WS := ev_inP 38 rfl rfl
theorem wc_M_note : Cond.code yM_note cM_note 3 none ∈ ev_WS := ev_inD 41 rfl rfl
theorem wv_M_note : Cond.instanceMethod yM_note ∈ ev_WS := ev_inD 40 rfl rfl
theorem wx_M_note : Cond.selects RM yM_note yM_note ∈ ev_WS := ev_inP 39 rfl rfl
theorem wc_M_drop : Cond.code yM_drop cM_drop 3 none ∈ ev_WS := ev_inD 45 rfl rfl
theorem wv_M_drop : Cond.instanceMethod yM_drop ∈ ev_WS := ev_inD 44 rfl rfl
theorem wx_M_drop : Cond.selects RM yM_drop yM_drop ∈ ev_WS := ev_inP 40 rfl rfl
theorem wc_M_steps : Cond.code yM_steps cM_steps 1 (some .int) ∈ ev_WS := ev_inD 49 rfl rfl
theorem wv_M_steps : Cond.instanceMethod yM_steps ∈ ev_WS := ev_inD 47 rfl rfl
theorem wx_M_steps : Cond.selects RM yM_steps yM_steps ∈ ev_WS := ev_inD 48 rfl rfl
theorem wc_M_step : Cond.code yM_step cM_step 3 (some .int) ∈ ev_WS := ev_inD 53 rfl rfl
theorem wv_M_step : Cond.instanceMethod yM_step ∈ ev_WS := ev_inD 51 rfl rfl
theorem wx_M_step : Cond.selects RM yM_step yM_step ∈ ev_WS := ev_inD 52 rfl rfl
theorem wc_M_orders : Cond.code yM_orders cM_orders 2 (some .int) ∈ ev_WS := ev_inD 57 rfl rfl
theorem wv_M_orders : Cond.instanceMethod yM_orders ∈ ev_WS := ev_inD 55 rfl rfl
theorem wx_M_orders : Cond.selects RM yM_orders yM_orders ∈ ev_WS := ev_inD 56 rfl rfl
theorem wc_M_look : Cond.code yM_look cM_look 6 (some .boolean) ∈ ev_WS := ev_inD 62 rfl rfl
theorem wv_M_look : Cond.instanceMethod yM_look ∈ ev_WS := ev_inD 61 rfl rfl
theorem wx_M_look : Cond.selects RM yM_look yM_look ∈ ev_WS := ev_inP 41 rfl rfl
theorem wc_M_begin : Cond.code yM_begin cM_begin 4 (some .int) ∈ ev_WS := ev_inD 66 rfl rfl
theorem wv_M_begin : Cond.instanceMethod yM_begin ∈ ev_WS := ev_inD 65 rfl rfl
theorem wx_M_begin : Cond.selects RM yM_begin yM_begin ∈ ev_WS := ev_inP 42 rfl rfl
theorem wc_M_overlap : Cond.code yM_overlap cM_overlap 5 (some .boolean) ∈ ev_WS := ev_inD 70 rfl rfl
theorem wv_M_overlap : Cond.instanceMethod yM_overlap ∈ ev_WS := ev_inD 69 rfl rfl
theorem wx_M_overlap : Cond.selects RM yM_overlap yM_overlap ∈ ev_WS := ev_inP 43 rfl rfl
theorem wc_M_set : Cond.code yM_set cM_set 4 none ∈ ev_WS := ev_inD 74 rfl rfl
theorem wv_M_set : Cond.instanceMethod yM_set ∈ ev_WS := ev_inD 73 rfl rfl
theorem wx_M_set : Cond.selects RM yM_set yM_set ∈ ev_WS := ev_inP 44 rfl rfl
theorem wc_M_get : Cond.code yM_get cM_get 3 (some .int) ∈ ev_WS := ev_inD 78 rfl rfl
theorem wv_M_get : Cond.instanceMethod yM_get ∈ ev_WS := ev_inD 77 rfl rfl
theorem wx_M_get : Cond.selects RM yM_get yM_get ∈ ev_WS := ev_inP 45 rfl rfl
theorem wc_M_holds : Cond.code yM_holds cM_holds 6 (some .boolean) ∈ ev_WS := ev_inD 82 rfl rfl
theorem wv_M_holds : Cond.instanceMethod yM_holds ∈ ev_WS := ev_inD 81 rfl rfl
theorem wx_M_holds : Cond.selects RM yM_holds yM_holds ∈ ev_WS := ev_inP 46 rfl rfl
theorem wc_M_turnsRound : Cond.code yM_turnsRound cM_turnsRound 4 (some .boolean) ∈ ev_WS := ev_inD 86 rfl rfl
theorem wv_M_turnsRound : Cond.instanceMethod yM_turnsRound ∈ ev_WS := ev_inD 85 rfl rfl
theorem wx_M_turnsRound : Cond.selects RM yM_turnsRound yM_turnsRound ∈ ev_WS := ev_inP 47 rfl rfl
theorem wc_M_isMarked : Cond.code yM_isMarked cM_isMarked 4 (some .boolean) ∈ ev_WS := ev_inD 90 rfl rfl
theorem wv_M_isMarked : Cond.instanceMethod yM_isMarked ∈ ev_WS := ev_inD 89 rfl rfl
theorem wx_M_isMarked : Cond.selects RM yM_isMarked yM_isMarked ∈ ev_WS := ev_inP 48 rfl rfl
theorem wc_M_isClear : Cond.code yM_isClear cM_isClear 6 (some .boolean) ∈ ev_WS := ev_inD 94 rfl rfl
theorem wv_M_isClear : Cond.instanceMethod yM_isClear ∈ ev_WS := ev_inD 93 rfl rfl
theorem wx_M_isClear : Cond.selects RM yM_isClear yM_isClear ∈ ev_WS := ev_inP 49 rfl rfl
theorem wc_M_between : Cond.code yM_between cM_between 6 (some .int) ∈ ev_WS := ev_inD 98 rfl rfl
theorem wv_M_between : Cond.instanceMethod yM_between ∈ ev_WS := ev_inD 97 rfl rfl
theorem wx_M_between : Cond.selects RM yM_between yM_between ∈ ev_WS := ev_inP 50 rfl rfl
theorem wc_M_arePeaceful : Cond.code yM_arePeaceful cM_arePeaceful 6 (some .boolean) ∈ ev_WS := ev_inD 102 rfl rfl
theorem wv_M_arePeaceful : Cond.instanceMethod yM_arePeaceful ∈ ev_WS := ev_inD 101 rfl rfl
theorem wx_M_arePeaceful : Cond.selects RM yM_arePeaceful yM_arePeaceful ∈ ev_WS := ev_inP 51 rfl rfl
theorem wc_M_above : Cond.code yM_above cM_above 5 (some .int) ∈ ev_WS := ev_inD 106 rfl rfl
theorem wv_M_above : Cond.instanceMethod yM_above ∈ ev_WS := ev_inD 104 rfl rfl
theorem wx_M_above : Cond.selects RM yM_above yM_above ∈ ev_WS := ev_inD 105 rfl rfl
theorem wc_M_layer : Cond.code yM_layer cM_layer 7 (some .int) ∈ ev_WS := ev_inD 110 rfl rfl
theorem wv_M_layer : Cond.instanceMethod yM_layer ∈ ev_WS := ev_inD 108 rfl rfl
theorem wx_M_layer : Cond.selects RM yM_layer yM_layer ∈ ev_WS := ev_inD 109 rfl rfl
theorem wc_M_marks : Cond.code yM_marks cM_marks 7 (some .int) ∈ ev_WS := ev_inD 114 rfl rfl
theorem wv_M_marks : Cond.instanceMethod yM_marks ∈ ev_WS := ev_inD 112 rfl rfl
theorem wx_M_marks : Cond.selects RM yM_marks yM_marks ∈ ev_WS := ev_inD 113 rfl rfl
theorem wc_M_type : Cond.code yM_type cM_type 2 (some .int) ∈ ev_WS := ev_inD 118 rfl rfl
theorem wv_M_type : Cond.instanceMethod yM_type ∈ ev_WS := ev_inD 116 rfl rfl
theorem wx_M_type : Cond.selects RM yM_type yM_type ∈ ev_WS := ev_inD 117 rfl rfl
theorem wc_M_run : Cond.code yM_run cM_run 9 (some .int) ∈ ev_WS := ev_inD 122 rfl rfl
theorem wv_M_run : Cond.instanceMethod yM_run ∈ ev_WS := ev_inD 120 rfl rfl
theorem wx_M_run : Cond.selects RM yM_run yM_run ∈ ev_WS := ev_inD 121 rfl rfl
theorem wc_M_sign : Cond.code yM_sign cM_sign 3 (some .int) ∈ ev_WS := ev_inD 126 rfl rfl
theorem wv_M_sign : Cond.instanceMethod yM_sign ∈ ev_WS := ev_inD 125 rfl rfl
theorem wx_M_sign : Cond.selects RM yM_sign yM_sign ∈ ev_WS := ev_inP 52 rfl rfl
theorem wc_M_isDigit : Cond.code yM_isDigit cM_isDigit 1 (some .boolean) ∈ ev_WS := ev_inD 129 rfl rfl
theorem ws_M_isDigit : Cond.static yM_isDigit ∈ ev_WS := ev_inD 128 rfl rfl
theorem wc_M_does : Cond.code yM_does cM_does 3 (some .boolean) ∈ ev_WS := ev_inD 133 rfl rfl
theorem wv_M_does : Cond.instanceMethod yM_does ∈ ev_WS := ev_inD 132 rfl rfl
theorem wx_M_does : Cond.selects RM yM_does yM_does ∈ ev_WS := ev_inP 53 rfl rfl
end
section
/-! The machine in few words of mine: ONE abstract heap (a list of cells; cell i lies at the address z + i), the same for all methods; 'ev_E' is the walk, 'ev_C' a method's contract. -/
abbrev ev_AC : Type := vp_A ⊕ (Nat × List Value)
abbrev ev_G : Type := Launch × Nat × Nat × Nat × (Nat → Int32) × Heap × va_G × ClassId × ClassId
abbrev ev_l (g : ev_G) : Launch := g.1
abbrev ev_z (g : ev_G) : Nat := g.2.1
abbrev ev_sb (g : ev_G) : Nat := g.2.2.1
abbrev ev_sL (g : ev_G) : Nat := g.2.2.2.1
abbrev ev_sx (g : ev_G) : Nat → Int32 := g.2.2.2.2.1
abbrev ev_H0 (g : ev_G) : Heap := g.2.2.2.2.2.1
abbrev ev_Dg (g : ev_G) : va_G := g.2.2.2.2.2.2.1
abbrev ev_I (g : ev_G) : ClassId := g.2.2.2.2.2.2.2.1
abbrev ev_J (g : ev_G) : ClassId := g.2.2.2.2.2.2.2.2
/-- an int as an integer -/
def ev_i (z : Int) : Value := .int (Int32.ofInt z)
/-- a value of mine as the machine has it: a number of a cell is an address; '.float' stands for the script -/
def ev_rv (g : ev_G) : Value → Value
  | .ref i => .ref (ev_z g + i)
  | .float _ => .ref (ev_sb g)
  | v => v
theorem ev_rv_cat (g : ev_G) (v : Value) : (ev_rv g v).category = v.category := by cases v <;> rfl
theorem ev_rv_sum (g : ev_G) (st : List Value) : ((st.map (ev_rv g)).map fun v => v.category).sum = (st.map fun v => v.category).sum := by
  induction st with
  | nil => rfl
  | cons a l ih => simp only [List.map_cons, List.sum_cons, ev_rv_cat, ih]
def ev_rc (g : ev_G) : ev_AC → va_E
  | .inl (n, .inr (.inl f)) => .inl (ev_J g, n, .inr (.inl f))
  | .inl a => .inl (ev_I g, a)
  | .inr (ci, fs) => .inr (ci, fs.map (ev_rv g))
def ev_rl (g : ev_G) (h : List ev_AC) : va_W := h.mapIdx (fun i c => (ev_z g + i, ev_rc g c))
theorem ev_rl_at {g : ev_G} {h : List ev_AC} {k : Nat} {c : ev_AC} (e : h[k]? = some c) : (ev_rl g h)[k]? = some (ev_z g + k, ev_rc g c) := by
  simp [ev_rl, List.getElem?_mapIdx, e]
theorem ev_rl_inv {g : ev_G} {h : List ev_AC} {k : Nat} {q : Nat × va_E} (e : (ev_rl g h)[k]? = some q) : ∃ c, h[k]? = some c ∧ q = (ev_z g + k, ev_rc g c) := by
  rw [ev_rl, List.getElem?_mapIdx] at e
  cases hk : h[k]? with
  | none => rw [hk] at e; cases e
  | some c => rw [hk] at e; exact ⟨c, rfl, (Option.some.inj e).symm⟩
theorem ev_rl_set {g : ev_G} {h : List ev_AC} {k : Nat} {c : ev_AC} : (ev_rl g h).set k (ev_z g + k, ev_rc g c) = ev_rl g (h.set k c) := by
  apply List.ext_getElem?
  intro i
  simp only [ev_rl, List.getElem?_set, List.getElem?_mapIdx, List.length_mapIdx]
  by_cases hi : k = i
  · subst hi
    by_cases hl : k < h.length <;> simp [hl]
  · simp [hi]
theorem ev_rl_app {g : ev_G} {h : List ev_AC} {c : ev_AC} : ev_rl g (h ++ [c]) = ev_rl g h ++ [(ev_z g + h.length, ev_rc g c)] := by
  simp [ev_rl, List.mapIdx_concat]
theorem ev_rl_D (g : ev_G) (h : List ev_AC) : va_D (fun q => ev_z g ≤ q) (ev_rl g h) := by
  refine ⟨fun i j p q hi hj e => ?_, fun k q hk => ?_⟩
  · obtain ⟨_, -, rfl⟩ := ev_rl_inv hi
    obtain ⟨_, -, rfl⟩ := ev_rl_inv hj
    have e' : ev_z g + i = ev_z g + j := e
    omega
  · obtain ⟨_, -, rfl⟩ := ev_rl_inv hk
    exact Nat.le_add_right _ _
/-- the machine's heap is mine -/
def ev_HR (g : ev_G) (h : List ev_AC) (H : Heap) : Prop :=
  H.size = ev_z g + h.length ∧ (∀ q : Nat, q < ev_z g → H[q]? = (ev_H0 g)[q]?) ∧ va_P (ev_Dg g) ev_CL (ev_rl g h) H
theorem ev_HR.set {g : ev_G} {h : List ev_AC} {H H' : Heap} {k : Nat} {c0 c : ev_AC} (hH : ev_HR g h H) (hk : h[k]? = some c0)
    (hat : va_at (ev_Dg g) ev_CL (ev_z g + k, ev_rc g c) H') (hs : H'.size = H.size) (ho : ∀ q : Nat, q ≠ ev_z g + k → H'[q]? = H[q]?) : ev_HR g (h.set k c) H' := by
  refine ⟨by rw [hs, hH.1, List.length_set], fun q hq => by rw [ho q (by omega)]; exact hH.2.1 q hq, ?_⟩
  rw [← ev_rl_set]
  exact hH.2.2.set (ev_rl_D g h) (ev_rl_at hk) hat ho
theorem ev_HR.push {g : ev_G} {h : List ev_AC} {H H' : Heap} {c : ev_AC} (hH : ev_HR g h H) (hs : H'.size = H.size + 1) (ho : ∀ q : Nat, q < H.size → H'[q]? = H[q]?)
    (hat : va_at (ev_Dg g) ev_CL (H.size, ev_rc g c) H') : ev_HR g (h ++ [c]) H' := by
  refine ⟨by rw [hs, hH.1, List.length_append]; rfl, fun q hq => by rw [ho q (by rw [hH.1]; omega)]; exact hH.2.1 q hq, ?_⟩
  rw [ev_rl_app]
  refine (hH.2.2.kept (fun k q hk => ho q.1 (hH.2.2 k q hk).lt)).app (fun k q hk => ?_)
  have hz : k < 1 := (List.getElem?_eq_some_iff.mp hk).1
  rw [show k = 0 by omega] at hk
  cases hk
  rw [← hH.1]
  exact hat
/-- what a throw needs of the start (to be filled) -/
def ev_XS (_ : ev_G) (_ : State) : Prop := True
theorem ev_XS_same {g : ev_G} {u U : State} (_ : u.vm = U.vm) (_ : u.heap = U.heap) (h : ev_XS g u) : ev_XS g U := h
theorem ev_XS_warm {g : ev_G} {s U : State} {h : List ev_AC} {H : Heap} (_ : s.WarmedH U.vm) (_ : ev_HR g h H) (_ : U.heap = H) (_ : ∃ h0, ev_HR g h0 s.heap) (hX : ev_XS g s) : ev_XS g U := hX
/-- locals -/
def ev_lv (g : ev_G) (ls : List (Option Value)) : List (Nat × Value) := ls.zipIdx.filterMap (fun q => q.1.map (fun v => (q.2, ev_rv g v)))
theorem ev_lv_mem {g : ev_G} {ls : List (Option Value)} {q : Nat × Value} : q ∈ ev_lv g ls ↔ ∃ v, ls[q.1]? = some (some v) ∧ q.2 = ev_rv g v := by
  unfold ev_lv
  rw [List.mem_filterMap]
  constructor
  · rintro ⟨⟨o, i⟩, hm, he⟩
    rw [List.mem_zipIdx_iff_getElem?] at hm
    cases o with
    | none => cases he
    | some v =>
      cases he
      exact ⟨v, hm, rfl⟩
  · rintro ⟨v, h1, h2⟩
    refine ⟨(some v, q.1), List.mem_zipIdx_iff_getElem?.mpr h1, ?_⟩
    show some (q.1, ev_rv g v) = some q
    rw [← h2]
def ev_LH (g : ev_G) (rls : Array Slot) (n : Nat) (ls : List (Option Value)) : Prop :=
  ls.length = n ∧ lv_has rls n (ev_lv g ls) ∧ ∀ (i : Nat) (v : Value), ls[i]? = some (some v) → v.category = 1
theorem ev_LH.get {g : ev_G} {rls : Array Slot} {n : Nat} {ls : List (Option Value)} (h : ev_LH g rls n ls) {i : Nat} {v : Value} (e : ls[i]? = some (some v)) : rls[i]? = some (.val (ev_rv g v)) :=
  h.2.1.2.2 (i, ev_rv g v) (ev_lv_mem.mpr ⟨v, e, rfl⟩)
theorem ev_LH.put {g : ev_G} {rls rls' : Array Slot} {n : Nat} {ls : List (Option Value)} (h : ev_LH g rls n ls) {i : Nat} {v : Value} (hc : v.category = 1)
    (h' : lv_has rls' n ((i, ev_rv g v) :: (ev_lv g ls).filter (fun q => !(q.1 == i) && !(q.1 + 1 == i && q.2.category == 2)))) : ev_LH g rls' n (ls.set i (some v)) := by
  refine ⟨by rw [List.length_set]; exact h.1, ⟨h'.1, h'.2.1, fun q hq => ?_⟩, fun j w hj => ?_⟩
  · obtain ⟨w, h1, h2⟩ := ev_lv_mem.mp hq
    by_cases hi : q.1 = i
    · rw [hi] at h1
      have hl : i < (ls.set i (some v)).length := (List.getElem?_eq_some_iff.mp h1).1
      rw [List.length_set] at hl
      rw [List.getElem?_set_self hl] at h1
      cases h1
      have := h'.2.2 (i, ev_rv g v) List.mem_cons_self
      rw [hi, h2]
      exact this
    · rw [List.getElem?_set_ne (fun e => hi e.symm)] at h1
      refine h'.2.2 q (List.mem_cons_of_mem _ (List.mem_filter.mpr ⟨ev_lv_mem.mpr ⟨w, h1, h2⟩, ?_⟩))
      have hw := h.2.2 _ _ h1
      have hq2 : q.2.category = 1 := by rw [h2, ev_rv_cat]; exact hw
      simp [hi, hq2]
  · by_cases hi : j = i
    · subst hi
      have hl : j < (ls.set j (some v)).length := (List.getElem?_eq_some_iff.mp hj).1
      rw [List.length_set] at hl
      rw [List.getElem?_set_self hl] at hj
      cases hj
      exact hc
    · rw [List.getElem?_set_ne (fun e => hi e.symm)] at hj
      exact h.2.2 j w hj
theorem ev_lg_sl {vs : List Value} (h : ∀ v ∈ vs, v.category = 1) : lg_sl vs = vs.map Slot.val := by
  induction vs with
  | nil => rfl
  | cons a l ih =>
    have h1 : ¬ a.category = 2 := by rw [h a List.mem_cons_self]; decide
    show (if a.category = 2 then [Slot.val a, .second] else [.val a]) ++ lg_sl l = _
    rw [if_neg h1, ih (fun v hv => h v (List.mem_cons_of_mem _ hv))]
    rfl
theorem ev_lv_args {vs : List Value} (h : ∀ v ∈ vs, v.category = 1) : ∀ (k i : Nat) (v : Value), vs[i]? = some v → (k + i, v) ∈ lv_args k vs := by
  induction vs with
  | nil => intro k i v hi; simp at hi
  | cons a l ih =>
    intro k i v hi
    have h1 : ¬ a.category = 2 := by rw [h a List.mem_cons_self]; decide
    show (k + i, v) ∈ (k, a) :: lv_args (if a.category = 2 then k + 2 else k + 1) l
    rw [if_neg h1]
    cases i with
    | zero =>
      rw [List.getElem?_cons_zero] at hi
      cases hi
      exact List.mem_cons_self
    | succ i =>
      rw [List.getElem?_cons_succ] at hi
      have := ih (fun v hv => h v (List.mem_cons_of_mem _ hv)) (k + 1) i v hi
      rw [show k + (i + 1) = k + 1 + i by omega]
      exact List.mem_cons_of_mem _ this
theorem ev_LH.entry {g : ev_G} {as : List Value} {n : Nat} (hn : as.length ≤ n) (hc : ∀ v ∈ as, v.category = 1) :
    ev_LH g ((lg_sl (as.map (ev_rv g)) ++ List.replicate (n - (lg_sl (as.map (ev_rv g))).length) Slot.unset).toArray) n (as.map some ++ List.replicate (n - as.length) none) := by
  have hc' : ∀ v ∈ as.map (ev_rv g), v.category = 1 := by
    intro v hv
    obtain ⟨w, hw, rfl⟩ := List.mem_map.mp hv
    rw [ev_rv_cat]; exact hc w hw
  have hlen : (lg_sl (as.map (ev_rv g))).length = as.length := by rw [ev_lg_sl hc']; simp
  have he := lv_entry (as.map (ev_rv g)) (n := n) (by rw [hlen]; exact hn)
  have key : ∀ (i : Nat) (v : Value), (as.map some ++ List.replicate (n - as.length) none)[i]? = some (some v) → as[i]? = some v := by
    intro i v hi
    by_cases hl : i < as.length
    · rw [List.getElem?_append_left (by simpa using hl), List.getElem?_map] at hi
      cases ha : as[i]? with
      | none => rw [ha] at hi; cases hi
      | some w => rw [ha] at hi; cases hi; rfl
    · rw [List.getElem?_append_right (by simpa using Nat.not_lt.mp hl), List.getElem?_replicate] at hi
      split at hi <;> cases hi
  refine ⟨by simp; omega, ⟨he.1, he.2.1, fun q hq => ?_⟩, fun i v hi => hc v (List.mem_of_getElem? (key i v hi))⟩
  obtain ⟨v, h1, h2⟩ := ev_lv_mem.mp hq
  have h3 := ev_lv_args hc' 0 q.1 (ev_rv g v) (by rw [List.getElem?_map, key _ _ h1]; rfl)
  rw [Nat.zero_add, ← h2] at h3
  exact he.2.2 q h3
/-- what a frame of the method M knows -/
def ev_Fx (g : ev_G) (M : ev_M) (p : Program) (s : State) (m : MethodId) (args : Array Value) (meth : Method) (c : Code) : Prop :=
  p.tables.exec = Jvm.exec ∧ c.code = M.2.1 ∧ c.maxLocals = M.2.2.1 ∧ s.vm.findClass M.1.cls = some m.cls ∧
  (∀ w ∈ ev_WS, w.before args s = true) ∧ va_K (ev_Dg g) ev_CL [(ev_I g, .int), (ev_J g, .long)] s ∧ (∀ w ∈ ev_NW, va_Nw w s) ∧
  meth.sig.returnType = M.2.2.2.1 ∧ meth.locks = false ∧ meth.name = M.1.name ∧ c.exceptionTable.toList = tableOf M.2.2.2.2 ∧ (∃ h0, ev_HR g h0 s.heap) ∧ ev_XS g s
def ev_FE (X : Bool) (first : State) (o : Outcome) (t : State) (L : List Loc) (k n : Nat) : Prop :=
  (X = true ∨ ∃ v, o = .returned v) ∧ first.WarmedH t.vm ∧ first.sameButNew ({ t with vm := first.vm } : State) L k n
def ev_MQ (X : Bool) (below : List Frame) (Qc : Array Value → State → Outcome → State → Prop) (a : Array Value) (s : State) (mc ms : Nat) (free : Addr → Prop) : State → Prop := fun t =>
  ∃ o, t.status = .running ∧ Ended t below o ∧ Qc a s o t ∧ ∃ L, ev_FE X s o t L mc ms ∧ ∀ q ∈ L, free q.base
/-- an end: an answer, or the number of the cell that is thrown -/
abbrev ev_O : Type := Option Value ⊕ Nat
def ev_ro (g : ev_G) : ev_O → Outcome
  | .inl v => .returned (v.map (ev_rv g))
  | .inr i => .threw (ev_z g + i)
def ev_QX (g : ev_G) (Q : ev_O → List ev_AC → Prop) : Array Value → State → Outcome → State → Prop := fun _ _ o t =>
  ∃ (out : ev_O) (h' : List ev_AC), o = ev_ro g out ∧ Q out h' ∧ ev_HR g h' t.heap
def ev_Cx (g : ev_G) (M : ev_M) (d : Nat) (ls : List (Option Value)) (h : List ev_AC) (kc ks : Nat) (p : Program) (R : Room) (s : State) (m : MethodId) (args : Array Value) (meth : Method) (c : Code) (H : Heap) (locs : List Loc) (cells slots : Nat) (rls : Array Slot) : Prop :=
  ev_Fx g M p s m args meth c ∧ (d ≤ R.frames ∧ 40 * d ≤ R.locals) ∧ ev_HR g h H ∧ (∀ q ∈ locs, ev_z g ≤ q.base) ∧ (cells + kc ≤ R.cells ∧ slots + ks ≤ R.slots) ∧ ev_LH g rls M.2.2.1 ls
/-- the walk -/
def ev_E (g : ev_G) (X : Bool) (M : ev_M) (d pc : Nat) (ls : List (Option Value)) (st : List Value) (h : List ev_AC) (kc ks : Nat) (Q : ev_O → List ev_AC → Prop) : Prop :=
  ∀ (p : Program) (e : Env) (R : Room) (s : State) (m : MethodId) (args : Array Value) (below : List Frame) (meth : Method) (c : Code) (H : Heap) (locs : List Loc) (cells slots : Nat) (rls : Array Slot),
    ev_Cx g M d ls h kc ks p R s m args meth c H locs cells slots rls →
    W p (ev_l g) e R s m args below meth c H locs cells slots (ev_MQ X below (ev_QX g Q) args s R.cells R.slots (fun q => ev_z g ≤ q)) (F0 m pc rls (st.map (ev_rv g)))
def ev_Pc (g : ev_G) (as : List Value) (h : List ev_AC) : Array Value → State → Prop := fun v U =>
  v = (as.map (ev_rv g)).toArray ∧ ev_HR g h U.heap ∧ va_K (ev_Dg g) ev_CL [(ev_I g, .int), (ev_J g, .long)] U ∧ (∀ w ∈ ev_NW, va_Nw w U) ∧ ev_XS g U
def ev_ws (M : ev_M) : List Cond := Cond.code M.1 M.2.1 M.2.2.1 M.2.2.2.1 :: ev_WS
/-- a method's contract -/
def ev_C (g : ev_G) (M : ev_M) (d : Nat) (as : List Value) (h : List ev_AC) (kc ks : Nat) (Q : ev_O → List ev_AC → Prop) : Prop :=
  Met (ev_l g) M.1 (ev_ws M) { frames := d, cells := kc, slots := ks, locals := 40 * d } (ev_Pc g as h) (ev_QX g Q) kc ks (fun q => ev_z g ≤ q)
end
section
section EVR
variable {g : ev_G} {X : Bool} {M : ev_M} {d pc : Nat} {ls : List (Option Value)} {st : List Value} {h : List ev_AC} {kc ks : Nat} {Q : ev_O → List ev_AC → Prop}
theorem ev_mono {p : Program} {l : Launch} {e : Env} {R : Room} {s : State} {m : MethodId} {args : Array Value} {below : List Frame} {meth : Method} {c : Code} {H : Heap} {locs : List Loc} {cells slots mc ms : Nat} {Qc : Array Value → State → Outcome → State → Prop} {free : Addr → Prop} {fr : JFrame}
    (k : W p l e R s m args below meth c H locs cells slots (MQ below Qc args s mc ms free) fr) : W p l e R s m args below meth c H locs cells slots (ev_MQ X below Qc args s mc ms free) fr := by
  intro T hT S
  obtain ⟨t, a, o, b1, b2, b3, L, b4, b5⟩ := k T hT S
  exact ⟨t, a, o, b1, b2, b3, L, ⟨Or.inr b4.1, b4.2⟩, b5⟩
-- numbers
theorem ev_toInt {z : Int} (h1 : -2147483648 ≤ z) (h2 : z < 2147483648) : (Int32.ofInt z).toInt = z := Int32.toInt_ofInt_of_le (by simpa using h1) (by simpa using h2)
theorem ev_lt {a b : Int} (a1 : -2147483648 ≤ a) (a2 : a < 2147483648) (b1 : -2147483648 ≤ b) (b2 : b < 2147483648) : Int32.ofInt a < Int32.ofInt b ↔ a < b := by
  rw [Int32.lt_iff_toInt_lt, ev_toInt a1 a2, ev_toInt b1 b2]
theorem ev_le {a b : Int} (a1 : -2147483648 ≤ a) (a2 : a < 2147483648) (b1 : -2147483648 ≤ b) (b2 : b < 2147483648) : Int32.ofInt a ≤ Int32.ofInt b ↔ a ≤ b := by
  rw [Int32.le_iff_toInt_le, ev_toInt a1 a2, ev_toInt b1 b2]
theorem ev_eq {a b : Int} (a1 : -2147483648 ≤ a) (a2 : a < 2147483648) (b1 : -2147483648 ≤ b) (b2 : b < 2147483648) : Int32.ofInt a = Int32.ofInt b ↔ a = b := by
  rw [← Int32.toInt_inj, ev_toInt a1 a2, ev_toInt b1 b2]
theorem ev_zero : (0 : Int32) = Int32.ofInt 0 := rfl
theorem ev_ofi (x : Int32) : .int x = ev_i x.toInt := by simp [ev_i]
-- constants and locals
theorem ev_iconst {n : Int} (hd : decode M.2.1 pc = .ok (.iconst n, 1)) (k : ev_E g X M d (pc + 1) ls (ev_i n :: st) h kc ks Q) : ev_E g X M d pc ls st h kc ks Q :=
  fun p e R s m args below meth c H locs cells slots rls C => lv_iconst C.1.1 C.1.2.1 hd rfl (k p e R s m args below meth c H locs cells slots rls C)
theorem ev_bipush {n : Int} (hd : decode M.2.1 pc = .ok (.bipush n, 2)) (hn : (Int8.ofInt n).toInt32 = Int32.ofInt n) (k : ev_E g X M d (pc + 2) ls (ev_i n :: st) h kc ks Q) : ev_E g X M d pc ls st h kc ks Q :=
  fun p e R s m args below meth c H locs cells slots rls C => lv_bipush C.1.1 C.1.2.1 hd hn (k p e R s m args below meth c H locs cells slots rls C)
theorem ev_sipush {n : Int} (hd : decode M.2.1 pc = .ok (.sipush n, 3)) (hn : (Int16.ofInt n).toInt32 = Int32.ofInt n) (k : ev_E g X M d (pc + 3) ls (ev_i n :: st) h kc ks Q) : ev_E g X M d pc ls st h kc ks Q :=
  fun p e R s m args below meth c H locs cells slots rls C => lv_sipush C.1.1 C.1.2.1 hd hn (k p e R s m args below meth c H locs cells slots rls C)
theorem ev_lconst {n : Fin 2} (hd : decode M.2.1 pc = .ok (.lconst n, 1)) (k : ev_E g X M d (pc + 1) ls (.long (Int64.ofNat (n : Nat)) :: st) h kc ks Q) : ev_E g X M d pc ls st h kc ks Q :=
  fun p e R s m args below meth c H locs cells slots rls C => lv_lconst C.1.1 C.1.2.1 hd rfl (k p e R s m args below meth c H locs cells slots rls C)
theorem ev_iload {i : Nat} {z : Int} (hd : decode M.2.1 pc = .ok (.iload i, 2)) (hl : ls[i]? = some (some (ev_i z))) (k : ev_E g X M d (pc + 2) ls (ev_i z :: st) h kc ks Q) : ev_E g X M d pc ls st h kc ks Q :=
  fun p e R s m args below meth c H locs cells slots rls C => lv_iload C.1.1 C.1.2.1 hd (C.2.2.2.2.2.get hl) (k p e R s m args below meth c H locs cells slots rls C)
theorem ev_iload_n {i : Fin 4} {z : Int} (hd : decode M.2.1 pc = .ok (.iload_n i, 1)) (hl : ls[(i : Nat)]? = some (some (ev_i z))) (k : ev_E g X M d (pc + 1) ls (ev_i z :: st) h kc ks Q) : ev_E g X M d pc ls st h kc ks Q :=
  fun p e R s m args below meth c H locs cells slots rls C => lv_iload_n C.1.1 C.1.2.1 hd rfl (C.2.2.2.2.2.get hl) (k p e R s m args below meth c H locs cells slots rls C)
theorem ev_aload {i : Nat} {a : Nat} (hd : decode M.2.1 pc = .ok (.aload i, 2)) (hl : ls[i]? = some (some (.ref a))) (k : ev_E g X M d (pc + 2) ls (.ref a :: st) h kc ks Q) : ev_E g X M d pc ls st h kc ks Q :=
  fun p e R s m args below meth c H locs cells slots rls C => lv_aload C.1.1 C.1.2.1 hd (C.2.2.2.2.2.get hl) (k p e R s m args below meth c H locs cells slots rls C)
theorem ev_aload_n {i : Fin 4} {a : Nat} (hd : decode M.2.1 pc = .ok (.aload_n i, 1)) (hl : ls[(i : Nat)]? = some (some (.ref a))) (k : ev_E g X M d (pc + 1) ls (.ref a :: st) h kc ks Q) : ev_E g X M d pc ls st h kc ks Q :=
  fun p e R s m args below meth c H locs cells slots rls C => lv_aload_n C.1.1 C.1.2.1 hd rfl (C.2.2.2.2.2.get hl) (k p e R s m args below meth c H locs cells slots rls C)
/-- the script -/
theorem ev_sload_n {i : Fin 4} {u : UInt32} (hd : decode M.2.1 pc = .ok (.aload_n i, 1)) (hl : ls[(i : Nat)]? = some (some (.float u))) (k : ev_E g X M d (pc + 1) ls (.float u :: st) h kc ks Q) : ev_E g X M d pc ls st h kc ks Q :=
  fun p e R s m args below meth c H locs cells slots rls C => lv_aload_n C.1.1 C.1.2.1 hd rfl (C.2.2.2.2.2.get hl) (k p e R s m args below meth c H locs cells slots rls C)
theorem ev_Cx.locals {p : Program} {R : Room} {s : State} {m : MethodId} {args : Array Value} {meth : Method} {c : Code} {H : Heap} {locs : List Loc} {cells slots : Nat} {rls rls' : Array Slot} {ls' : List (Option Value)} (C : ev_Cx g M d ls h kc ks p R s m args meth c H locs cells slots rls) (hL : ev_LH g rls' M.2.2.1 ls') : ev_Cx g M d ls' h kc ks p R s m args meth c H locs cells slots rls' :=
  ⟨C.1, C.2.1, C.2.2.1, C.2.2.2.1, C.2.2.2.2.1, hL⟩
theorem ev_istore {i : Nat} {z : Int} (hd : decode M.2.1 pc = .ok (.istore i, 2)) (hi : i < ls.length) (k : ev_E g X M d (pc + 2) (ls.set i (some (ev_i z))) st h kc ks Q) : ev_E g X M d pc ls (ev_i z :: st) h kc ks Q :=
  fun p e R s m args below meth c H locs cells slots rls C => lv_istore C.1.1 C.1.2.1 hd C.2.2.2.2.2.2.1 (by rw [← C.2.2.2.2.2.1]; exact hi) rfl (fun rls' h' => k p e R s m args below meth c H locs cells slots rls' (C.locals (C.2.2.2.2.2.put rfl h')))
theorem ev_istore_n {i : Fin 4} {z : Int} (hd : decode M.2.1 pc = .ok (.istore_n i, 1)) (hi : (i : Nat) < ls.length) (k : ev_E g X M d (pc + 1) (ls.set (i : Nat) (some (ev_i z))) st h kc ks Q) : ev_E g X M d pc ls (ev_i z :: st) h kc ks Q :=
  fun p e R s m args below meth c H locs cells slots rls C => lv_istore_n C.1.1 C.1.2.1 hd rfl C.2.2.2.2.2.2.1 (by rw [← C.2.2.2.2.2.1]; exact hi) rfl (fun rls' h' => k p e R s m args below meth c H locs cells slots rls' (C.locals (C.2.2.2.2.2.put rfl h')))
theorem ev_astore {i : Nat} {a : Nat} (hd : decode M.2.1 pc = .ok (.astore i, 2)) (hi : i < ls.length) (k : ev_E g X M d (pc + 2) (ls.set i (some (.ref a))) st h kc ks Q) : ev_E g X M d pc ls (.ref a :: st) h kc ks Q :=
  fun p e R s m args below meth c H locs cells slots rls C => lv_astore C.1.1 C.1.2.1 hd C.2.2.2.2.2.2.1 (by rw [← C.2.2.2.2.2.1]; exact hi) rfl (fun rls' h' => k p e R s m args below meth c H locs cells slots rls' (C.locals (C.2.2.2.2.2.put (v := .ref a) rfl h')))
theorem ev_astore_n {i : Fin 4} {a : Nat} (hd : decode M.2.1 pc = .ok (.astore_n i, 1)) (hi : (i : Nat) < ls.length) (k : ev_E g X M d (pc + 1) (ls.set (i : Nat) (some (.ref a))) st h kc ks Q) : ev_E g X M d pc ls (.ref a :: st) h kc ks Q :=
  fun p e R s m args below meth c H locs cells slots rls C => lv_astore_n C.1.1 C.1.2.1 hd rfl C.2.2.2.2.2.2.1 (by rw [← C.2.2.2.2.2.1]; exact hi) rfl (fun rls' h' => k p e R s m args below meth c H locs cells slots rls' (C.locals (C.2.2.2.2.2.put (v := .ref a) rfl h')))
theorem ev_lv_idx {n : Nat} {rls : Array Slot} {i : Nat} {v : Value} (hL : ev_LH g rls n ls) (hl : ls[i]? = some (some v)) : ∃ k : Nat, (ev_lv g ls)[k]? = some (i, ev_rv g v) :=
  List.getElem?_of_mem (ev_lv_mem.mpr ⟨v, hl, rfl⟩)
theorem ev_iinc {i : Nat} {n z : Int} (hd : decode M.2.1 pc = .ok (.iinc i n, 3)) (hl : ls[i]? = some (some (ev_i z))) (k : ev_E g X M d (pc + 3) (ls.set i (some (ev_i (z + n)))) st h kc ks Q) : ev_E g X M d pc ls st h kc ks Q := by
  intro p e R s m args below meth c H locs cells slots rls C
  have hlen : i < ls.length := (List.getElem?_eq_some_iff.mp hl).1
  obtain ⟨j, hj⟩ := ev_lv_idx C.2.2.2.2.2 hl
  refine lv_iinc (x := Int32.ofInt z) (v := Int32.ofInt (z + n)) C.1.1 C.1.2.1 hd C.2.2.2.2.2.2.1 hj ?_ (by rw [← C.2.2.2.2.2.1]; exact hlen) rfl (fun rls' h' => k p e R s m args below meth c H locs cells slots rls' (C.locals (C.2.2.2.2.2.put rfl h')))
  rw [Int32.ofInt_add]
-- arithmetic
theorem ev_iadd {a b : Int} (hd : decode M.2.1 pc = .ok (.iadd, 1)) (k : ev_E g X M d (pc + 1) ls (ev_i (a + b) :: st) h kc ks Q) : ev_E g X M d pc ls (ev_i b :: ev_i a :: st) h kc ks Q := by
  intro p e R s m args below meth c H locs cells slots rls C
  have k := k p e R s m args below meth c H locs cells slots rls C
  refine lv_iadd (x := Int32.ofInt a) (y := Int32.ofInt b) C.1.1 C.1.2.1 hd ?_
  rw [← Int32.ofInt_add]; exact k
theorem ev_isub {a b : Int} (hd : decode M.2.1 pc = .ok (.isub, 1)) (k : ev_E g X M d (pc + 1) ls (ev_i (a - b) :: st) h kc ks Q) : ev_E g X M d pc ls (ev_i b :: ev_i a :: st) h kc ks Q := by
  intro p e R s m args below meth c H locs cells slots rls C
  have k := k p e R s m args below meth c H locs cells slots rls C
  refine lv_isub (x := Int32.ofInt a) (y := Int32.ofInt b) C.1.1 C.1.2.1 hd ?_
  rw [← Int32.ofInt_sub]; exact k
theorem ev_imul {a b : Int} (hd : decode M.2.1 pc = .ok (.imul, 1)) (k : ev_E g X M d (pc + 1) ls (ev_i (a * b) :: st) h kc ks Q) : ev_E g X M d pc ls (ev_i b :: ev_i a :: st) h kc ks Q := by
  intro p e R s m args below meth c H locs cells slots rls C
  have k := k p e R s m args below meth c H locs cells slots rls C
  refine lv_imul (x := Int32.ofInt a) (y := Int32.ofInt b) C.1.1 C.1.2.1 hd ?_
  rw [← Int32.ofInt_mul]; exact k
/-- any int that comes out: by its number -/
theorem ev_op2 {x y r : Int32} {i : Instr} {a b : Int} (hx : Int32.ofInt a = x) (hy : Int32.ofInt b = y) {z : Int} (hr : r = Int32.ofInt z)
    (row : ∀ (p : Program) (e : Env) (R : Room) (s : State) (m : MethodId) (args : Array Value) (below : List Frame) (meth : Method) (c : Code) (H : Heap) (locs : List Loc) (cells slots : Nat) (rls : Array Slot) (Q : State → Prop) (rest : List Value), p.tables.exec = Jvm.exec → c.code = M.2.1 → W p (ev_l g) e R s m args below meth c H locs cells slots Q (F0 m (pc + 1) rls (.int r :: rest)) → W p (ev_l g) e R s m args below meth c H locs cells slots Q (F0 m pc rls (.int y :: .int x :: rest)))
    (k : ev_E g X M d (pc + 1) ls (ev_i z :: st) h kc ks Q) : ev_E g X M d pc ls (ev_i b :: ev_i a :: st) h kc ks Q := by
  intro p e R s m args below meth c H locs cells slots rls C
  subst hx hy hr
  exact row _ _ _ _ _ _ _ _ _ _ _ _ _ _ _ _ C.1.1 C.1.2.1 (k p e R s m args below meth c H locs cells slots rls C)
theorem ev_idiv {a b z : Int} (hd : decode M.2.1 pc = .ok (.idiv, 1)) (hne : ¬ Int32.ofInt b = 0) (hz : Int32.ofInt a / Int32.ofInt b = Int32.ofInt z) (k : ev_E g X M d (pc + 1) ls (ev_i z :: st) h kc ks Q) : ev_E g X M d pc ls (ev_i b :: ev_i a :: st) h kc ks Q :=
  ev_op2 (i := .idiv) rfl rfl hz (fun _ _ _ _ _ _ _ _ _ _ _ _ _ _ _ _ h1 h2 k => lv_idiv h1 h2 hd hne k) k
theorem ev_irem {a b z : Int} (hd : decode M.2.1 pc = .ok (.irem, 1)) (hne : ¬ Int32.ofInt b = 0) (hz : Int32.ofInt a - Int32.ofInt a / Int32.ofInt b * Int32.ofInt b = Int32.ofInt z) (k : ev_E g X M d (pc + 1) ls (ev_i z :: st) h kc ks Q) : ev_E g X M d pc ls (ev_i b :: ev_i a :: st) h kc ks Q :=
  ev_op2 (i := .irem) rfl rfl hz (fun _ _ _ _ _ _ _ _ _ _ _ _ _ _ _ _ h1 h2 k => lv_irem h1 h2 hd hne k) k
theorem ev_ishl {a b z : Int} (hd : decode M.2.1 pc = .ok (.ishl, 1)) (hz : Int32.ofInt a <<< (Int32.ofInt b &&& 31) = Int32.ofInt z) (k : ev_E g X M d (pc + 1) ls (ev_i z :: st) h kc ks Q) : ev_E g X M d pc ls (ev_i b :: ev_i a :: st) h kc ks Q :=
  ev_op2 (i := .ishl) rfl rfl hz (fun _ _ _ _ _ _ _ _ _ _ _ _ _ _ _ _ h1 h2 k => lv_ishl h1 h2 hd k) k
theorem ev_ishr {a b z : Int} (hd : decode M.2.1 pc = .ok (.ishr, 1)) (hz : Int32.ofInt a >>> (Int32.ofInt b &&& 31) = Int32.ofInt z) (k : ev_E g X M d (pc + 1) ls (ev_i z :: st) h kc ks Q) : ev_E g X M d pc ls (ev_i b :: ev_i a :: st) h kc ks Q :=
  ev_op2 (i := .ishr) rfl rfl hz (fun _ _ _ _ _ _ _ _ _ _ _ _ _ _ _ _ h1 h2 k => lv_ishr h1 h2 hd k) k
theorem ev_iand {a b z : Int} (hd : decode M.2.1 pc = .ok (.iand, 1)) (hz : Int32.ofInt a &&& Int32.ofInt b = Int32.ofInt z) (k : ev_E g X M d (pc + 1) ls (ev_i z :: st) h kc ks Q) : ev_E g X M d pc ls (ev_i b :: ev_i a :: st) h kc ks Q :=
  ev_op2 (i := .iand) rfl rfl hz (fun _ _ _ _ _ _ _ _ _ _ _ _ _ _ _ _ h1 h2 k => lv_iand h1 h2 hd k) k
theorem ev_ior {a b z : Int} (hd : decode M.2.1 pc = .ok (.ior, 1)) (hz : Int32.ofInt a ||| Int32.ofInt b = Int32.ofInt z) (k : ev_E g X M d (pc + 1) ls (ev_i z :: st) h kc ks Q) : ev_E g X M d pc ls (ev_i b :: ev_i a :: st) h kc ks Q :=
  ev_op2 (i := .ior) rfl rfl hz (fun _ _ _ _ _ _ _ _ _ _ _ _ _ _ _ _ h1 h2 k => lv_ior h1 h2 hd k) k
theorem ev_i2l {a : Int} (hd : decode M.2.1 pc = .ok (.i2l, 1)) (k : ev_E g X M d (pc + 1) ls (.long (Int32.ofInt a).toInt64 :: st) h kc ks Q) : ev_E g X M d pc ls (ev_i a :: st) h kc ks Q :=
  fun p e R s m args below meth c H locs cells slots rls C => lv_i2l C.1.1 C.1.2.1 hd rfl (k p e R s m args below meth c H locs cells slots rls C)
theorem ev_lshl {x : Int64} {b : Int} (hd : decode M.2.1 pc = .ok (.lshl, 1)) (k : ev_E g X M d (pc + 1) ls (.long (x <<< ((Int32.ofInt b).toInt64 &&& 63)) :: st) h kc ks Q) : ev_E g X M d pc ls (ev_i b :: .long x :: st) h kc ks Q :=
  fun p e R s m args below meth c H locs cells slots rls C => lv_lshl C.1.1 C.1.2.1 hd rfl (k p e R s m args below meth c H locs cells slots rls C)
theorem ev_lor {x y : Int64} (hd : decode M.2.1 pc = .ok (.lor, 1)) (k : ev_E g X M d (pc + 1) ls (.long (x ||| y) :: st) h kc ks Q) : ev_E g X M d pc ls (.long y :: .long x :: st) h kc ks Q :=
  fun p e R s m args below meth c H locs cells slots rls C => lv_lor C.1.1 C.1.2.1 hd (k p e R s m args below meth c H locs cells slots rls C)
theorem ev_lcmp {x y : Int64} {z : Int} (hd : decode M.2.1 pc = .ok (.lcmp, 1)) (hz : lg_cmp x y = Int32.ofInt z) (k : ev_E g X M d (pc + 1) ls (ev_i z :: st) h kc ks Q) : ev_E g X M d pc ls (.long y :: .long x :: st) h kc ks Q := by
  intro p e R s m args below meth c H locs cells slots rls C
  refine W.lcmp C.1.1 C.1.2.1 hd ?_
  rw [hz]
  exact k p e R s m args below meth c H locs cells slots rls C
theorem ev_dup {v : Value} (hd : decode M.2.1 pc = .ok (.dup, 1)) (hv : v.category = 1) (k : ev_E g X M d (pc + 1) ls (v :: v :: st) h kc ks Q) : ev_E g X M d pc ls (v :: st) h kc ks Q :=
  fun p e R s m args below meth c H locs cells slots rls C => lv_dup C.1.1 C.1.2.1 hd ((ev_rv_cat g v).trans hv) (k p e R s m args below meth c H locs cells slots rls C)
theorem ev_pop {v : Value} (hd : decode M.2.1 pc = .ok (.pop, 1)) (hv : v.category = 1) (k : ev_E g X M d (pc + 1) ls st h kc ks Q) : ev_E g X M d pc ls (v :: st) h kc ks Q :=
  fun p e R s m args below meth c H locs cells slots rls C => lv_pop C.1.1 C.1.2.1 hd ((ev_rv_cat g v).trans hv) (k p e R s m args below meth c H locs cells slots rls C)
-- jumps
theorem ev_goto {off : Int} {tgt : Nat} (hd : decode M.2.1 pc = .ok (.goto off, 3)) (ht : (pc : Int) + off = (tgt : Int)) (k : ev_E g X M d tgt ls st h kc ks Q) : ev_E g X M d pc ls st h kc ks Q :=
  fun p e R s m args below meth c H locs cells slots rls C => lv_goto C.1.1 C.1.2.1 hd ht (k p e R s m args below meth c H locs cells slots rls C)
theorem ev_icmp_eq {a b off : Int} {tgt : Nat} (hd : decode M.2.1 pc = .ok (.if_icmp .eq off, 3)) (ht : (pc : Int) + off = (tgt : Int)) (a1 : -2147483648 ≤ a) (a2 : a < 2147483648) (b1 : -2147483648 ≤ b) (b2 : b < 2147483648) (kt : a = b → ev_E g X M d tgt ls st h kc ks Q) (kf : a ≠ b → ev_E g X M d (pc + 3) ls st h kc ks Q) : ev_E g X M d pc ls (ev_i b :: ev_i a :: st) h kc ks Q := by
  intro p e R s m args below meth c H locs cells slots rls C
  refine lv_icmp_eq (x := Int32.ofInt a) (y := Int32.ofInt b) C.1.1 C.1.2.1 hd ht (fun hh => kt ?_ p e R s m args below meth c H locs cells slots rls C) (fun hh => kf ?_ p e R s m args below meth c H locs cells slots rls C)
  · exact (ev_eq a1 a2 b1 b2).mp hh
  · exact fun q => hh ((ev_eq a1 a2 b1 b2).mpr q)
theorem ev_if_eq {a off : Int} {tgt : Nat} (hd : decode M.2.1 pc = .ok (.ifCond .eq off, 3)) (ht : (pc : Int) + off = (tgt : Int)) (a1 : -2147483648 ≤ a) (a2 : a < 2147483648) (kt : a = 0 → ev_E g X M d tgt ls st h kc ks Q) (kf : a ≠ 0 → ev_E g X M d (pc + 3) ls st h kc ks Q) : ev_E g X M d pc ls (ev_i a :: st) h kc ks Q := by
  intro p e R s m args below meth c H locs cells slots rls C
  have b1 : (-2147483648 : Int) ≤ 0 := by decide
  have b2 : (0 : Int) < 2147483648 := by decide
  refine lv_if_eq (x := Int32.ofInt a) C.1.1 C.1.2.1 hd ht (fun hh => kt ?_ p e R s m args below meth c H locs cells slots rls C) (fun hh => kf ?_ p e R s m args below meth c H locs cells slots rls C)
  · exact (ev_eq a1 a2 b1 b2).mp hh
  · exact fun q => hh ((ev_eq a1 a2 b1 b2).mpr q)
theorem ev_icmp_ne {a b off : Int} {tgt : Nat} (hd : decode M.2.1 pc = .ok (.if_icmp .ne off, 3)) (ht : (pc : Int) + off = (tgt : Int)) (a1 : -2147483648 ≤ a) (a2 : a < 2147483648) (b1 : -2147483648 ≤ b) (b2 : b < 2147483648) (kt : a ≠ b → ev_E g X M d tgt ls st h kc ks Q) (kf : a = b → ev_E g X M d (pc + 3) ls st h kc ks Q) : ev_E g X M d pc ls (ev_i b :: ev_i a :: st) h kc ks Q := by
  intro p e R s m args below meth c H locs cells slots rls C
  refine lv_icmp_ne (x := Int32.ofInt a) (y := Int32.ofInt b) C.1.1 C.1.2.1 hd ht (fun hh => kt ?_ p e R s m args below meth c H locs cells slots rls C) (fun hh => kf ?_ p e R s m args below meth c H locs cells slots rls C)
  · exact fun q => hh ((ev_eq a1 a2 b1 b2).mpr q)
  · exact (ev_eq a1 a2 b1 b2).mp hh
theorem ev_if_ne {a off : Int} {tgt : Nat} (hd : decode M.2.1 pc = .ok (.ifCond .ne off, 3)) (ht : (pc : Int) + off = (tgt : Int)) (a1 : -2147483648 ≤ a) (a2 : a < 2147483648) (kt : a ≠ 0 → ev_E g X M d tgt ls st h kc ks Q) (kf : a = 0 → ev_E g X M d (pc + 3) ls st h kc ks Q) : ev_E g X M d pc ls (ev_i a :: st) h kc ks Q := by
  intro p e R s m args below meth c H locs cells slots rls C
  have b1 : (-2147483648 : Int) ≤ 0 := by decide
  have b2 : (0 : Int) < 2147483648 := by decide
  refine lv_if_ne (x := Int32.ofInt a) C.1.1 C.1.2.1 hd ht (fun hh => kt ?_ p e R s m args below meth c H locs cells slots rls C) (fun hh => kf ?_ p e R s m args below meth c H locs cells slots rls C)
  · exact fun q => hh ((ev_eq a1 a2 b1 b2).mpr q)
  · exact (ev_eq a1 a2 b1 b2).mp hh
theorem ev_icmp_lt {a b off : Int} {tgt : Nat} (hd : decode M.2.1 pc = .ok (.if_icmp .lt off, 3)) (ht : (pc : Int) + off = (tgt : Int)) (a1 : -2147483648 ≤ a) (a2 : a < 2147483648) (b1 : -2147483648 ≤ b) (b2 : b < 2147483648) (kt : a < b → ev_E g X M d tgt ls st h kc ks Q) (kf : b ≤ a → ev_E g X M d (pc + 3) ls st h kc ks Q) : ev_E g X M d pc ls (ev_i b :: ev_i a :: st) h kc ks Q := by
  intro p e R s m args below meth c H locs cells slots rls C
  refine lv_icmp_lt (x := Int32.ofInt a) (y := Int32.ofInt b) C.1.1 C.1.2.1 hd ht (fun hh => kt ?_ p e R s m args below meth c H locs cells slots rls C) (fun hh => kf ?_ p e R s m args below meth c H locs cells slots rls C)
  · exact (ev_lt a1 a2 b1 b2).mp hh
  · exact Int.not_lt.mp (fun q => hh ((ev_lt a1 a2 b1 b2).mpr q))
theorem ev_if_lt {a off : Int} {tgt : Nat} (hd : decode M.2.1 pc = .ok (.ifCond .lt off, 3)) (ht : (pc : Int) + off = (tgt : Int)) (a1 : -2147483648 ≤ a) (a2 : a < 2147483648) (kt : a < 0 → ev_E g X M d tgt ls st h kc ks Q) (kf : 0 ≤ a → ev_E g X M d (pc + 3) ls st h kc ks Q) : ev_E g X M d pc ls (ev_i a :: st) h kc ks Q := by
  intro p e R s m args below meth c H locs cells slots rls C
  have b1 : (-2147483648 : Int) ≤ 0 := by decide
  have b2 : (0 : Int) < 2147483648 := by decide
  refine lv_if_lt (x := Int32.ofInt a) C.1.1 C.1.2.1 hd ht (fun hh => kt ?_ p e R s m args below meth c H locs cells slots rls C) (fun hh => kf ?_ p e R s m args below meth c H locs cells slots rls C)
  · exact (ev_lt a1 a2 b1 b2).mp hh
  · exact Int.not_lt.mp (fun q => hh ((ev_lt a1 a2 b1 b2).mpr q))
theorem ev_icmp_ge {a b off : Int} {tgt : Nat} (hd : decode M.2.1 pc = .ok (.if_icmp .ge off, 3)) (ht : (pc : Int) + off = (tgt : Int)) (a1 : -2147483648 ≤ a) (a2 : a < 2147483648) (b1 : -2147483648 ≤ b) (b2 : b < 2147483648) (kt : b ≤ a → ev_E g X M d tgt ls st h kc ks Q) (kf : a < b → ev_E g X M d (pc + 3) ls st h kc ks Q) : ev_E g X M d pc ls (ev_i b :: ev_i a :: st) h kc ks Q := by
  intro p e R s m args below meth c H locs cells slots rls C
  refine lv_icmp_ge (x := Int32.ofInt a) (y := Int32.ofInt b) C.1.1 C.1.2.1 hd ht (fun hh => kt ?_ p e R s m args below meth c H locs cells slots rls C) (fun hh => kf ?_ p e R s m args below meth c H locs cells slots rls C)
  · exact (ev_le b1 b2 a1 a2).mp hh
  · exact Int.not_le.mp (fun q => hh ((ev_le b1 b2 a1 a2).mpr q))
theorem ev_if_ge {a off : Int} {tgt : Nat} (hd : decode M.2.1 pc = .ok (.ifCond .ge off, 3)) (ht : (pc : Int) + off = (tgt : Int)) (a1 : -2147483648 ≤ a) (a2 : a < 2147483648) (kt : 0 ≤ a → ev_E g X M d tgt ls st h kc ks Q) (kf : a < 0 → ev_E g X M d (pc + 3) ls st h kc ks Q) : ev_E g X M d pc ls (ev_i a :: st) h kc ks Q := by
  intro p e R s m args below meth c H locs cells slots rls C
  have b1 : (-2147483648 : Int) ≤ 0 := by decide
  have b2 : (0 : Int) < 2147483648 := by decide
  refine lv_if_ge (x := Int32.ofInt a) C.1.1 C.1.2.1 hd ht (fun hh => kt ?_ p e R s m args below meth c H locs cells slots rls C) (fun hh => kf ?_ p e R s m args below meth c H locs cells slots rls C)
  · exact (ev_le b1 b2 a1 a2).mp hh
  · exact Int.not_le.mp (fun q => hh ((ev_le b1 b2 a1 a2).mpr q))
theorem ev_icmp_gt {a b off : Int} {tgt : Nat} (hd : decode M.2.1 pc = .ok (.if_icmp .gt off, 3)) (ht : (pc : Int) + off = (tgt : Int)) (a1 : -2147483648 ≤ a) (a2 : a < 2147483648) (b1 : -2147483648 ≤ b) (b2 : b < 2147483648) (kt : b < a → ev_E g X M d tgt ls st h kc ks Q) (kf : a ≤ b → ev_E g X M d (pc + 3) ls st h kc ks Q) : ev_E g X M d pc ls (ev_i b :: ev_i a :: st) h kc ks Q := by
  intro p e R s m args below meth c H locs cells slots rls C
  refine lv_icmp_gt (x := Int32.ofInt a) (y := Int32.ofInt b) C.1.1 C.1.2.1 hd ht (fun hh => kt ?_ p e R s m args below meth c H locs cells slots rls C) (fun hh => kf ?_ p e R s m args below meth c H locs cells slots rls C)
  · exact (ev_lt b1 b2 a1 a2).mp hh
  · exact Int.not_lt.mp (fun q => hh ((ev_lt b1 b2 a1 a2).mpr q))
theorem ev_if_gt {a off : Int} {tgt : Nat} (hd : decode M.2.1 pc = .ok (.ifCond .gt off, 3)) (ht : (pc : Int) + off = (tgt : Int)) (a1 : -2147483648 ≤ a) (a2 : a < 2147483648) (kt : 0 < a → ev_E g X M d tgt ls st h kc ks Q) (kf : a ≤ 0 → ev_E g X M d (pc + 3) ls st h kc ks Q) : ev_E g X M d pc ls (ev_i a :: st) h kc ks Q := by
  intro p e R s m args below meth c H locs cells slots rls C
  have b1 : (-2147483648 : Int) ≤ 0 := by decide
  have b2 : (0 : Int) < 2147483648 := by decide
  refine lv_if_gt (x := Int32.ofInt a) C.1.1 C.1.2.1 hd ht (fun hh => kt ?_ p e R s m args below meth c H locs cells slots rls C) (fun hh => kf ?_ p e R s m args below meth c H locs cells slots rls C)
  · exact (ev_lt b1 b2 a1 a2).mp hh
  · exact Int.not_lt.mp (fun q => hh ((ev_lt b1 b2 a1 a2).mpr q))
theorem ev_icmp_le {a b off : Int} {tgt : Nat} (hd : decode M.2.1 pc = .ok (.if_icmp .le off, 3)) (ht : (pc : Int) + off = (tgt : Int)) (a1 : -2147483648 ≤ a) (a2 : a < 2147483648) (b1 : -2147483648 ≤ b) (b2 : b < 2147483648) (kt : a ≤ b → ev_E g X M d tgt ls st h kc ks Q) (kf : b < a → ev_E g X M d (pc + 3) ls st h kc ks Q) : ev_E g X M d pc ls (ev_i b :: ev_i a :: st) h kc ks Q := by
  intro p e R s m args below meth c H locs cells slots rls C
  refine lv_icmp_le (x := Int32.ofInt a) (y := Int32.ofInt b) C.1.1 C.1.2.1 hd ht (fun hh => kt ?_ p e R s m args below meth c H locs cells slots rls C) (fun hh => kf ?_ p e R s m args below meth c H locs cells slots rls C)
  · exact (ev_le a1 a2 b1 b2).mp hh
  · exact Int.not_le.mp (fun q => hh ((ev_le a1 a2 b1 b2).mpr q))
theorem ev_if_le {a off : Int} {tgt : Nat} (hd : decode M.2.1 pc = .ok (.ifCond .le off, 3)) (ht : (pc : Int) + off = (tgt : Int)) (a1 : -2147483648 ≤ a) (a2 : a < 2147483648) (kt : a ≤ 0 → ev_E g X M d tgt ls st h kc ks Q) (kf : 0 < a → ev_E g X M d (pc + 3) ls st h kc ks Q) : ev_E g X M d pc ls (ev_i a :: st) h kc ks Q := by
  intro p e R s m args below meth c H locs cells slots rls C
  have b1 : (-2147483648 : Int) ≤ 0 := by decide
  have b2 : (0 : Int) < 2147483648 := by decide
  refine lv_if_le (x := Int32.ofInt a) C.1.1 C.1.2.1 hd ht (fun hh => kt ?_ p e R s m args below meth c H locs cells slots rls C) (fun hh => kf ?_ p e R s m args below meth c H locs cells slots rls C)
  · exact (ev_le a1 a2 b1 b2).mp hh
  · exact Int.not_le.mp (fun q => hh ((ev_le a1 a2 b1 b2).mpr q))
theorem ev_lookup {dflt : Int} {ps : Array (Int × Int)} {len : Nat} {x off : Int} {tgt : Nat} (hd : decode M.2.1 pc = .ok (.lookupswitch dflt ps, len)) (hp : (ps.toList.zip (ps.toList.drop 1)).all (fun (a, next) => a.1 < next.1) = true) (x1 : -2147483648 ≤ x) (x2 : x < 2147483648) (ho : Op.lookupswitch.offset ps.toList dflt x = off) (ht : (pc : Int) + off = (tgt : Int))
    (k : ev_E g X M d tgt ls st h kc ks Q) : ev_E g X M d pc ls (ev_i x :: st) h kc ks Q :=
  fun p e R s m args below meth c H locs cells slots rls C => lv_lookup C.1.1 C.1.2.1 hd hp (by rw [ev_toInt x1 x2]; exact ho) ht (k p e R s m args below meth c H locs cells slots rls C)
theorem ev_tableIn {dflt lo hi : Int} {offs : Array Int} {len : Nat} {x off : Int} {tgt : Nat} (hd : decode M.2.1 pc = .ok (.tableswitch dflt lo hi offs, len)) (x1 : -2147483648 ≤ x) (x2 : x < 2147483648) (h1 : lo ≤ x) (h2 : x ≤ hi) (ho : offs[(x - lo).toNat]? = some off) (ht : (pc : Int) + off = (tgt : Int))
    (k : ev_E g X M d tgt ls st h kc ks Q) : ev_E g X M d pc ls (ev_i x :: st) h kc ks Q :=
  fun p e R s m args below meth c H locs cells slots rls C => lv_tableIn C.1.1 C.1.2.1 hd (by rw [ev_toInt x1 x2]; omega) (by rw [ev_toInt x1 x2]; omega) (by rw [ev_toInt x1 x2]; exact ho) ht (k p e R s m args below meth c H locs cells slots rls C)
theorem ev_tableOut {dflt lo hi : Int} {offs : Array Int} {len : Nat} {x : Int} {tgt : Nat} (hd : decode M.2.1 pc = .ok (.tableswitch dflt lo hi offs, len)) (x1 : -2147483648 ≤ x) (x2 : x < 2147483648) (h1 : x < lo ∨ hi < x) (ht : (pc : Int) + dflt = (tgt : Int))
    (k : ev_E g X M d tgt ls st h kc ks Q) : ev_E g X M d pc ls (ev_i x :: st) h kc ks Q :=
  fun p e R s m args below meth c H locs cells slots rls C => lv_tableOut C.1.1 C.1.2.1 hd (by rw [ev_toInt x1 x2]; exact h1) ht (k p e R s m args below meth c H locs cells slots rls C)
-- ends
theorem ev_ireturn {z : Int} (hd : decode M.2.1 pc = .ok (.ireturn, 1)) (hr : M.2.2.2.1 = some .int) (hq : Q (.inl (some (ev_i z))) h) : ev_E g X M d pc ls [ev_i z] h kc ks Q := by
  intro p e R s m args below meth c H locs cells slots rls C
  refine W.widen (k := R.cells) (n := R.slots) (by have := C.2.2.2.2.1.1; omega) (by have := C.2.2.2.2.1.2; omega) ?_
  exact ev_mono (W.iret C.1.1 C.1.2.1 (C.1.2.2.2.2.2.2.2.1.trans hr) (fun t ht _ => ⟨.inl (some (ev_i z)), h, rfl, hq, by rw [ht]; exact C.2.2.1⟩) C.2.2.2.1 hd C.1.2.2.2.2.2.2.2.2.1)
theorem ev_zreturn {z : Int} (hd : decode M.2.1 pc = .ok (.ireturn, 1)) (hr : M.2.2.2.1 = some .boolean) (hz : z = 0 ∨ z = 1) (hq : Q (.inl (some (ev_i z))) h) : ev_E g X M d pc ls [ev_i z] h kc ks Q := by
  intro p e R s m args below meth c H locs cells slots rls C
  refine W.widen (k := R.cells) (n := R.slots) (by have := C.2.2.2.2.1.1; omega) (by have := C.2.2.2.2.1.2; omega) ?_
  have hn : narrow .boolean (.int (Int32.ofInt z)) = .int (Int32.ofInt z) := by rcases hz with rfl | rfl <;> decide
  exact ev_mono (W.zret C.1.1 C.1.2.1 (C.1.2.2.2.2.2.2.2.1.trans hr) hn (fun t ht _ => ⟨.inl (some (ev_i z)), h, rfl, hq, by rw [ht]; exact C.2.2.1⟩) C.2.2.2.1 hd C.1.2.2.2.2.2.2.2.2.1)
theorem ev_return (hd : decode M.2.1 pc = .ok (.return_, 1)) (hr : M.2.2.2.1 = none) (hq : Q (.inl none) h) : ev_E g X M d pc ls [] h kc ks Q := by
  intro p e R s m args below meth c H locs cells slots rls C
  refine W.widen (k := R.cells) (n := R.slots) (by have := C.2.2.2.2.1.1; omega) (by have := C.2.2.2.2.1.2; omega) ?_
  exact ev_mono (W.vret C.1.1 C.1.2.1 (C.1.2.2.2.2.2.2.2.1.trans hr) (fun t ht _ => ⟨.inl none, h, rfl, hq, by rw [ht]; exact C.2.2.1⟩) C.2.2.2.1 hd C.1.2.2.2.2.2.2.2.2.1)
theorem ev_areturn {a : Nat} {t0 : FieldType} (hd : decode M.2.1 pc = .ok (.areturn, 1)) (hr : M.2.2.2.1 = some (.array t0)) (hq : Q (.inl (some (.ref a))) h) : ev_E g X M d pc ls [.ref a] h kc ks Q := by
  intro p e R s m args below meth c H locs cells slots rls C
  refine W.widen (k := R.cells) (n := R.slots) (by have := C.2.2.2.2.1.1; omega) (by have := C.2.2.2.2.1.2; omega) ?_
  exact ev_mono (W.aret C.1.1 C.1.2.1 (C.1.2.2.2.2.2.2.2.1.trans hr) (Or.inr ⟨_, rfl⟩) (Or.inr ⟨_, rfl⟩) (fun t ht _ => ⟨.inl (some (.ref a)), h, rfl, hq, by rw [ht]; exact C.2.2.1⟩) C.2.2.2.1 hd C.1.2.2.2.2.2.2.2.2.1)
end EVR
end
section
/-! fields, arrays, new cells -/
/-- a class of the list: its words, its fields' types, its fields' names -/
def ev_CF (ci : Nat) (C : String) (T : u_T) (N : Nat) : Prop :=
  ev_CL[ci]? = some (C, T, N) ∧ (∀ w ∈ u_ws C T N, w ∈ ev_WS) ∧ (∃ ty0 : Nat → FieldType, ∀ k, k < N → parseFieldDescriptor (T k).2.2.1 = some (ty0 k)) ∧ (∀ a, a < N → ∀ b, b < N → a ≠ b → (T a).2.1 ≠ (T b).2.1)
/-- entry idx of the class own is field k of class ci -/
def ev_FL (own : String) (idx ci k : Nat) : Prop :=
  ∃ (C : String) (T : u_T) (N : Nat), ev_CF ci C T N ∧ k < N ∧ (Cond.fieldLink own idx (T k).1 (T k).2.1 (T k).2.2.1 ∈ ev_WS ∨ ∃ host, Cond.fieldLinkNest own idx (T k).1 (T k).2.1 (T k).2.2.1 host ∈ ev_NW)
/-- .. that may be written: its type; fin: a final one, in its own constructor -/
def ev_FP (own : String) (idx ci k : Nat) (ty : FieldType) (fin : Bool) : Prop :=
  ∃ (C : String) (T : u_T) (N : Nat), ev_CF ci C T N ∧ k < N ∧ Cond.fieldLink own idx (T k).1 (T k).2.1 (T k).2.2.1 ∈ ev_WS ∧ parseFieldDescriptor (T k).2.2.1 = some ty ∧ (T k).2.2.2 = fin ∧ (T k).1 = own
def ev_ia (n : Nat) (F : Int → Int) : ev_AC := .inl (n, .inl (fun i => Int32.ofInt (F (i : Int))))
def ev_la (n : Nat) (F : Nat → Int64) : ev_AC := .inl (n, .inr (.inl F))
def ev_up (F : Int → Int) (k : Int) (z : Int) : Int → Int := fun j => if j = k then z else F j
theorem ev_upd (F : Int → Int) (k : Nat) (z : Int) : upd (fun i => Int32.ofInt (F (i : Int))) k (Int32.ofInt z) = fun i : Nat => Int32.ofInt (ev_up F k z (i : Int)) := by
  funext j
  by_cases hj : j = k
  · simp [upd, ev_up, hj]
  · have : ¬ (j : Int) = (k : Int) := by omega
    simp [upd, ev_up, hj, this]
section EVH
variable {g : ev_G} {X : Bool} {M : ev_M} {d pc : Nat} {ls : List (Option Value)} {st : List Value} {h : List ev_AC} {kc ks : Nat} {Q : ev_O → List ev_AC → Prop}
theorem ev_get {idx a ci k : Nat} {fs : List Value} {v : Value} (hd : decode M.2.1 pc = .ok (.getfield idx, 3)) (F : ev_FL M.1.cls idx ci k) (hc : h[a]? = some (.inr (ci, fs))) (hv : fs[k]? = some v)
    (kk : ev_E g X M d (pc + 3) ls (v :: st) h kc ks Q) : ev_E g X M d pc ls (.ref a :: st) h kc ks Q := by
  intro p e R s m args below meth c H locs cells slots rls C
  have kk := kk p e R s m args below meth c H locs cells slots rls C
  obtain ⟨hx, hb, hml, hown, hts, hK, hN, -⟩ := C.1
  obtain ⟨Cn, T, N, ⟨hcl, hin, -, -⟩, hk, hl⟩ := F
  have hv' : (fs.map (ev_rv g))[k]? = some (ev_rv g v) := by rw [List.getElem?_map, hv]; rfl
  rcases hl with hl | ⟨host, hl⟩
  · exact va_get hx hb hts hin hown hK C.2.2.1.2.2 a (ev_rl_at hc) hcl k hk (hts _ hl) (fun x hx => hx) hv' hd kk
  · exact va_getN hx hb hts hin hown hK C.2.2.1.2.2 a (ev_rl_at hc) hcl k hk (va_Nw.use rfl (hN _ hl)) (fun x hx => hx) hv' hd kk
theorem ev_Cx.heap {p : Program} {R : Room} {s : State} {m : MethodId} {args : Array Value} {meth : Method} {c : Code} {H H' : Heap} {locs locs' : List Loc} {cells slots cells' slots' kc' ks' : Nat} {rls : Array Slot} {h' : List ev_AC} (C : ev_Cx g M d ls h kc ks p R s m args meth c H locs cells slots rls) (hH : ev_HR g h' H') (hl : ∀ q ∈ locs', ev_z g ≤ q.base) (hc : cells' + kc' ≤ R.cells ∧ slots' + ks' ≤ R.slots) : ev_Cx g M d ls h' kc' ks' p R s m args meth c H' locs' cells' slots' rls :=
  ⟨C.1, C.2.1, hH, hl, hc, C.2.2.2.2.2⟩
theorem ev_locs {locs : List Loc} {a i : Nat} (hl : ∀ q ∈ locs, ev_z g ≤ q.base) (ha : ev_z g ≤ a) : ∀ q ∈ locs ++ [(⟨a, i⟩ : Loc)], ev_z g ≤ q.base := by
  intro q hq
  rcases List.mem_append.mp hq with h1 | h1
  · exact hl q h1
  · rw [List.mem_singleton.mp h1]; exact ha
theorem ev_put {idx a ci k : Nat} {fs : List Value} {v : Value} {ty : FieldType} {fin : Bool} (hd : decode M.2.1 pc = .ok (.putfield idx, 3)) (F : ev_FP M.1.cls idx ci k ty fin) (hini : fin = true → M.1.name = "<init>") (hc : h[a]? = some (.inr (ci, fs))) (hk' : k < fs.length) (hn : narrow ty (ev_rv g v) = ev_rv g v) (hfit : fits ty (ev_rv g v) = true)
    (kk : ev_E g X M d (pc + 3) ls st (h.set a (.inr (ci, fs.set k v))) kc ks Q) : ev_E g X M d pc ls (v :: .ref a :: st) h kc ks Q := by
  intro p e R s m args below meth c H locs cells slots rls C
  obtain ⟨hx, hb, hml, hown, hts, hK, hN, hrt, hlk, hnm, -⟩ := C.1
  obtain ⟨Cn, T, N, ⟨hcl, hin, ⟨ty0, hty⟩, hnms⟩, hk, hl, hdt, hfin, hdecl⟩ := F
  have hap := va_apart (own := M.1.cls) hts hin ty0 hty hnms hK hcl
  obtain ⟨r, h1, cell, q1, q2, q3, q4⟩ := C.2.2.1.2.2 a _ (ev_rl_at hc)
  have hr : r = (Cn, T, N) := Option.some.inj (h1.symm.trans hcl)
  subst hr
  obtain ⟨hS, hfc, kC, hkC, hkind⟩ := hK.1 ci _ hcl
  obtain ⟨cf, kf, fi, f, hi, hsl⟩ := hS k hk
  have hst := (u_facts hfc hkC (u_lays hts hin hk) hi).1
  have hlay := hts _ (hin _ (u_in_lay hk))
  unfold u_lay at hlay
  have kk2 : ∀ H' : Heap, H'[ev_z g + a]? = some (cell.setSlot ((ev_Dg g).2 ci k) (ev_rv g v)) → H'.size = H.size → (∀ q, q ≠ ev_z g + a → H'[q]? = H[q]?) →
      W p (ev_l g) e R s m args below meth c H' (locs ++ [⟨ev_z g + a, (ev_Dg g).2 ci k⟩]) cells slots (ev_MQ X below (ev_QX g Q) args s R.cells R.slots (fun q => ev_z g ≤ q)) (F0 m (pc + 3) rls (st.map (ev_rv g))) := by
    intro H' e1 e2 e3
    refine kk p e R s m args below meth c H' _ cells slots rls (C.heap (C.2.2.1.set hc ⟨_, hcl, t_OB.to (V := updV (vp_V (fs.map (ev_rv g))) k (ev_rv g v)) ⟨_, e1, q2, q3, t_set q4 hap hk _⟩ (fun j _ => ?_)⟩ e2 e3) (ev_locs C.2.2.2.1 (Nat.le_add_right _ _)) C.2.2.2.2.1)
    rw [vp_updV_set (by simpa using hk'), ← List.map_set]
  cases fin with
  | false =>
    rw [if_neg (by rw [hfin]; decide)] at hlay
    have h6 := u_store hfc hkC hkind hlay hi hdt hn hfit
    refine W.putK hx hb (f := f) ⟨hown, hts _ hl, ⟨_, _, _, hi⟩, hst⟩ (by rw [q2]; exact h6) q1 q3 (by rw [hsl]; exact k2_hasslot (q4 k hk)) rfl rfl hd fun H' e1 e2 e3 => ?_
    rw [hsl] at e1 ⊢
    exact kk2 H' e1 e2 e3
  | true =>
    rw [if_pos hfin] at hlay
    have hcf : m.cls = cf := by
      obtain ⟨_, _, c', _, _, _, -, -, hf', -, -, -, hown2, -⟩ := Cond.laysFinal_spec hlay
      have e1 : c' = cf := by have := hi.symm.trans hf'; simp at this; exact this.1.symm
      rw [hdecl] at hown2
      rw [← e1]; exact Option.some.inj (hown.symm.trans hown2)
    have h6 := u_fits hfc hkC hkind (Or.inr hlay) hi hdt hn hfit
    refine W.putFinK hx hb hown (hts _ hl) hi hst hcf (hnm.trans (hini rfl)) (by rw [q2]; exact h6) q1 q3 (by rw [hsl]; exact k2_hasslot (q4 k hk)) rfl rfl hd fun H' e1 e2 e3 => ?_
    rw [hsl] at e1 ⊢
    exact kk2 H' e1 e2 e3
theorem ev_vpin {i : Int} {n : Nat} (h0 : 0 ≤ i) (h1 : i < n) (hn : n < 2147483648) : vp_in (Int32.ofInt i) n := by
  rw [vp_in_iff, ev_toInt (by omega) (by omega)]
  exact ⟨h0, h1⟩
theorem ev_clamp {i : Int} (h0 : 0 ≤ i) (h1 : i < 2147483648) : (Int32.ofInt i).toNatClampNeg = i.toNat := by
  show (Int32.ofInt i).toInt.toNat = i.toNat
  rw [ev_toInt (by omega) h1]
theorem ev_iald {a n : Nat} {F : Int → Int} {i : Int} (hd : decode M.2.1 pc = .ok (.iaload, 1)) (hc : h[a]? = some (ev_ia n F)) (h0 : 0 ≤ i) (h1 : i < n) (hn : n < 2147483648)
    (kk : ev_E g X M d (pc + 1) ls (ev_i (F i) :: st) h kc ks Q) : ev_E g X M d pc ls (ev_i i :: .ref a :: st) h kc ks Q := by
  intro p e R s m args below meth c H locs cells slots rls C
  have kk := kk p e R s m args below meth c H locs cells slots rls C
  refine va_iald C.1.1 C.1.2.1 C.1.2.2.2.2.2.1 C.2.2.1.2.2 a 0 (ev_rl_at hc) rfl (ev_vpin h0 h1 hn) hd ?_
  rw [ev_clamp h0 (by omega), Int.toNat_of_nonneg h0]
  exact kk
theorem ev_lald {a n : Nat} {F : Nat → Int64} {i : Int} (hd : decode M.2.1 pc = .ok (.laload, 1)) (hc : h[a]? = some (ev_la n F)) (h0 : 0 ≤ i) (h1 : i < n) (hn : n < 2147483648)
    (kk : ev_E g X M d (pc + 1) ls (.long (F i.toNat) :: st) h kc ks Q) : ev_E g X M d pc ls (ev_i i :: .ref a :: st) h kc ks Q := by
  intro p e R s m args below meth c H locs cells slots rls C
  have kk := kk p e R s m args below meth c H locs cells slots rls C
  refine va_lald C.1.1 C.1.2.1 C.1.2.2.2.2.2.1 C.2.2.1.2.2 a 1 (ev_rl_at hc) rfl (ev_vpin h0 h1 hn) hd ?_
  rw [ev_clamp h0 (by omega)]
  exact kk
theorem ev_iast {a n : Nat} {F : Int → Int} {i z : Int} (hd : decode M.2.1 pc = .ok (.iastore, 1)) (hc : h[a]? = some (ev_ia n F)) (h0 : 0 ≤ i) (h1 : i < n) (hn : n < 2147483648)
    (kk : ev_E g X M d (pc + 1) ls st (h.set a (ev_ia n (ev_up F i z))) kc ks Q) : ev_E g X M d pc ls (ev_i z :: ev_i i :: .ref a :: st) h kc ks Q := by
  intro p e R s m args below meth c H locs cells slots rls C
  have hat := C.2.2.1.2.2 a _ (ev_rl_at hc)
  have hA := (C.1.2.2.2.2.2.1.2 0 _ rfl).1 n (fun j => .int (Int32.ofInt (F (j : Int))))
  refine W.iast (j := Int32.ofInt i) (x := Int32.ofInt z) C.1.1 C.1.2.1 hat hA (fun q => by cases q) (by show ¬ (_ ∨ (arrV _ _ _).slots.size ≤ _); rw [arrV_size]; exact ev_vpin h0 h1 hn) rfl rfl hd fun H1 e1 z1 oq => ?_
  refine kk p e R s m args below meth c H1 _ cells slots rls (C.heap (C.2.2.1.set hc ?_ z1 oq) (ev_locs C.2.2.2.1 (Nat.le_add_right _ _)) C.2.2.2.2.1)
  show H1[ev_z g + a]? = some (vp_cell (ev_I g) (n, .inl (fun j => Int32.ofInt (ev_up F i z (j : Int)))))
  have hi : i = ((Int32.ofInt i).toNatClampNeg : Int) := by rw [ev_clamp h0 (by omega), Int.toNat_of_nonneg h0]
  have hu : (fun j : Nat => Int32.ofInt (ev_up F i z (j : Int))) = upd (fun i => Int32.ofInt (F (i : Int))) (Int32.ofInt i).toNatClampNeg (Int32.ofInt z) := by rw [ev_upd, ← hi]
  rw [e1, hu]
  show some ((vp_cell (ev_I g) (n, .inl (fun i => Int32.ofInt (F (i : Int))))).setSlot _ _) = _
  rw [vp_cell_i, vp_cell_i, arrV_store]
  congr 2
  funext q
  by_cases hq : q = (Int32.ofInt i).toNatClampNeg <;> simp [upd, updV, hq]
theorem ev_last {a n : Nat} {F : Nat → Int64} {i : Int} {x : Int64} (hd : decode M.2.1 pc = .ok (.lastore, 1)) (hc : h[a]? = some (ev_la n F)) (h0 : 0 ≤ i) (h1 : i < n) (hn : n < 2147483648)
    (kk : ev_E g X M d (pc + 1) ls st (h.set a (ev_la n (vp_updL F i.toNat x))) kc ks Q) : ev_E g X M d pc ls (.long x :: ev_i i :: .ref a :: st) h kc ks Q := by
  intro p e R s m args below meth c H locs cells slots rls C
  have hat := C.2.2.1.2.2 a _ (ev_rl_at hc)
  have hA := (C.1.2.2.2.2.2.1.2 1 _ rfl).1 n (fun j => .long (F j))
  refine W.last (j := Int32.ofInt i) (x := x) C.1.1 C.1.2.1 hat hA (fun q => by cases q) (by show ¬ (_ ∨ (arrV _ _ _).slots.size ≤ _); rw [arrV_size]; exact ev_vpin h0 h1 hn) rfl rfl hd fun H1 e1 z1 oq => ?_
  refine kk p e R s m args below meth c H1 _ cells slots rls (C.heap (C.2.2.1.set hc ?_ z1 oq) (ev_locs C.2.2.2.1 (Nat.le_add_right _ _)) C.2.2.2.2.1)
  show H1[ev_z g + a]? = some (vp_cell (ev_J g) (n, .inr (.inl (vp_updL F i.toNat x))))
  rw [e1, ← ev_clamp h0 (by omega)]
  show some ((vp_cell (ev_J g) (n, .inr (.inl F))).setSlot _ _) = _
  rw [vp_cell_l, vp_cell_l, arrV_store]
  congr 2
  funext q
  by_cases hq : q = (Int32.ofInt i).toNatClampNeg <;> simp [vp_updL, updV, hq]
theorem ev_alen {a n : Nat} {F : Int → Int} (hd : decode M.2.1 pc = .ok (.arraylength, 1)) (hc : h[a]? = some (ev_ia n F))
    (kk : ev_E g X M d (pc + 1) ls (ev_i n :: st) h kc ks Q) : ev_E g X M d pc ls (.ref a :: st) h kc ks Q := by
  intro p e R s m args below meth c H locs cells slots rls C
  have kk := kk p e R s m args below meth c H locs cells slots rls C
  exact va_alen C.1.1 C.1.2.1 C.1.2.2.2.2.2.1 C.2.2.1.2.2 a 0 (ev_rl_at hc) rfl (v := Int32.ofInt n) (by show Int32.ofNat n = Int32.ofInt n; first | exact Int32.ofInt_eq_ofNat.symm | rfl | simp [Int32.ofInt, Int32.ofNat]) hd kk
end EVH
end
section
/-! new cells, calls, a method's contract out of its walk -/
/-- class ci may be made at entry idx of own; its fields begin so -/
def ev_NC (own : String) (idx ci : Nat) (fs : List Value) (N : Nat) : Prop :=
  ∃ (C : String) (T : u_T) (ty0 : Nat → FieldType), ev_CF ci C T N ∧ (∀ k, k < N → parseFieldDescriptor (T k).2.2.1 = some (ty0 k)) ∧ Cond.classLink own idx C ∈ ev_WS ∧ Cond.instantiable C N ∈ ev_WS ∧ Cond.initialized C ∈ ev_WS ∧ (∀ k, k < N → defaultValue (ty0 k) = vp_V fs k) ∧ (∀ v ∈ fs, ∀ g : ev_G, ev_rv g v = v)
/-- a call of M' from own at entry idx -/
def ev_CB (own : String) (idx : Nat) (M' : ev_M) : Prop :=
  (Cond.methodLink own idx M'.1 ∈ ev_WS ∨ ∃ host, Cond.methodLinkNest own idx M'.1 host ∈ ev_NW) ∧ Cond.initialized M'.1.cls ∈ ev_WS ∧ Cond.code M'.1 M'.2.1 M'.2.2.1 M'.2.2.2.1 ∈ ev_WS ∧
  (M'.1.cls ≠ "java/lang/invoke/MethodHandle" ∧ M'.1.cls ≠ "java/lang/invoke/VarHandle") ∧ M'.2.2.1 ≤ 21
def ev_CI (own : String) (idx : Nat) (M' : ev_M) (n : Nat) : Prop :=
  ev_CB own idx M' ∧ Cond.instanceMethod M'.1 ∈ ev_WS ∧ (parseMethodDescriptor M'.1.desc).map (fun d => d.parameters.length) = some n
def ev_CV (own : String) (idx : Nat) (M' : ev_M) (n ci : Nat) : Prop :=
  ev_CI own idx M' n ∧ Cond.selects M'.1.cls M'.1 M'.1 ∈ ev_WS ∧ (ev_CL[ci]?).map (·.1) = some M'.1.cls
def ev_CS (own : String) (idx : Nat) (M' : ev_M) (n : Nat) : Prop :=
  ev_CB own idx M' ∧ Cond.static M'.1 ∈ ev_WS ∧ (parseMethodDescriptor M'.1.desc).map (fun d => d.parameters.length) = some n
section EVC
variable {g : ev_G} {X : Bool} {M : ev_M} {d pc : Nat} {ls : List (Option Value)} {st : List Value} {h : List ev_AC} {kc ks : Nat} {Q : ev_O → List ev_AC → Prop}
theorem ev_newI {n : Nat} (hd : decode M.2.1 pc = .ok (.newarray .int, 2)) (hw : Cond.arrayClass .int ∈ ev_WS) (hn : n < 65537)
    (kk : ev_E g X M d (pc + 2) ls (.ref h.length :: st) (h ++ [ev_ia n (fun _ => 0)]) kc ks Q) : ev_E g X M d pc ls (ev_i n :: st) h (kc + 1) (ks + n) Q := by
  intro p e R s m args below meth c H locs cells slots rls C
  obtain ⟨hx, hb, hml, hown, hts, hK, -⟩ := C.1
  obtain ⟨hc1, hc2⟩ := C.2.2.2.2.1
  refine va_newaK (atype := .int) (N := n) hx hb (hts _ hw) rfl hd rfl (by rw [ev_zero, ev_lt (by omega) (by omega) (by omega) (by omega)]; omega) (by rw [ev_clamp (by omega) (by omega)]; rfl) (by show n * 4 ≤ _; omega) (by omega) (by omega) rfl fun H1 cA e1 z1 o1 hAr hNm => ?_
  have hI : cA = ev_I g := by
    have h2 : s.vm.findClass ("[" ++ FieldType.int.toString) = some (ev_I g) := (hK.2 0 _ rfl).2
    exact Option.some.inj (hNm.symm.trans h2)
  subst hI
  have := kk p e R s m args below meth c H1 locs (cells + 1) (slots + n) rls (C.heap (C.2.2.1.push z1 o1 e1) C.2.2.2.1 ⟨by omega, by omega⟩)
  rw [C.2.2.1.1]
  exact this
theorem ev_newL {n : Nat} (hd : decode M.2.1 pc = .ok (.newarray .long, 2)) (hw : Cond.arrayClass .long ∈ ev_WS) (hn : n < 65537)
    (kk : ev_E g X M d (pc + 2) ls (.ref h.length :: st) (h ++ [ev_la n (fun _ => 0)]) kc ks Q) : ev_E g X M d pc ls (ev_i n :: st) h (kc + 1) (ks + n) Q := by
  intro p e R s m args below meth c H locs cells slots rls C
  obtain ⟨hx, hb, hml, hown, hts, hK, -⟩ := C.1
  obtain ⟨hc1, hc2⟩ := C.2.2.2.2.1
  refine va_newaK (atype := .long) (N := n) hx hb (hts _ hw) rfl hd rfl (by rw [ev_zero, ev_lt (by omega) (by omega) (by omega) (by omega)]; omega) (by rw [ev_clamp (by omega) (by omega)]; rfl) (by show n * 8 ≤ _; omega) (by omega) (by omega) rfl fun H1 cA e1 z1 o1 hAr hNm => ?_
  have hI : cA = ev_J g := by
    have h2 : s.vm.findClass ("[" ++ FieldType.long.toString) = some (ev_J g) := (hK.2 1 _ rfl).2
    exact Option.some.inj (hNm.symm.trans h2)
  subst hI
  have := kk p e R s m args below meth c H1 locs (cells + 1) (slots + n) rls (C.heap (C.2.2.1.push z1 o1 e1) C.2.2.2.1 ⟨by omega, by omega⟩)
  rw [C.2.2.1.1]
  exact this
theorem ev_new {idx ci N : Nat} {fs : List Value} (hd : decode M.2.1 pc = .ok (.new idx, 3)) (F : ev_NC M.1.cls idx ci fs N)
    (kk : ev_E g X M d (pc + 3) ls (.ref h.length :: st) (h ++ [.inr (ci, fs)]) kc ks Q) : ev_E g X M d pc ls st h (kc + 1) (ks + N) Q := by
  intro p e R s m args below meth c H locs cells slots rls C
  obtain ⟨hx, hb, hml, hown, hts, hK, -⟩ := C.1
  obtain ⟨hc1, hc2⟩ := C.2.2.2.2.1
  obtain ⟨Cn, T, ty0, ⟨hcl, hin, -, -⟩, hty, w1, w2, w3, hfs, hrv⟩ := F
  have hKn := hK.1 ci _ hcl
  have hfs' : fs.map (ev_rv g) = fs := by
    refine (List.map_congr_left (fun v hv => hrv v hv g)).trans ?_
    exact List.map_id _
  refine W.newcK hx hb hown (hts _ w1) (hts _ w2) (hts _ w3) rfl hd (by omega) (by omega) hKn.2.1 rfl fun H1 kC hkC e1 z1 o1 => ?_
  have hat : va_at (ev_Dg g) ev_CL (H.size, ev_rc g (.inr (ci, fs))) H1 := by
    refine ⟨_, hcl, ?_⟩
    show t_OB _ _ _ _ _ (vp_V (fs.map (ev_rv g)))
    rw [hfs']
    exact (u_born ty0 hts hin hKn hkC e1 hty).to hfs
  have := kk p e R s m args below meth c H1 locs (cells + 1) (slots + N) rls (C.heap (C.2.2.1.push z1 o1 hat) C.2.2.2.1 ⟨by omega, by omega⟩)
  rw [C.2.2.1.1]
  exact this
/-- Object.<init> -/
theorem ev_obj {idx a : Nat} (hd : decode M.2.1 pc = .ok (.invokespecial idx, 3)) (w1 : Cond.methodLink M.1.cls idx Lib.objectInit ∈ ev_WS) (w2 : Cond.instanceMethod Lib.objectInit ∈ ev_WS) (w3 : Cond.code Lib.objectInit ⟨#[0xb1]⟩ 1 none ∈ ev_WS) (hs : (st.map fun v => v.category).sum ≤ 8)
    (kk : ev_E g X M (d + 1) (pc + 3) ls st h kc ks Q) : ev_E g X M (d + 1) pc ls (.ref a :: st) h kc ks Q := by
  intro p e R s m args below meth c H locs cells slots rls C
  obtain ⟨hx, hb, hml, hown, hts, -⟩ := C.1
  have hs' := ev_rv_sum g st
  refine W.objInit hx hb hown (hts _ w1) (hts _ w2) (hts _ w3) rfl (by rw [hml]; exact C.2.2.2.2.2.2.1.1) rfl hd (by have := C.2.1.1; omega) (by show 2 * 0 + _ + 12 ≤ _; have := C.2.1.2; omega) (kk p e R s m args below meth c H locs cells slots rls C)
/-- a call comes back -/
theorem ev_back {p : Program} {e : Env} {R : Room} {s : State} {m : MethodId} {args a : Array Value} {below : List Frame} {meth : Method} {c : Code} {H : Heap} {locs : List Loc} {cells slots mc ms : Nat} {rls : Array Slot} {st0 : List Value} {rest : List Value} {Qc : ev_O → List ev_AC → Prop}
    (hr : va_Run p (ev_l g) e R s m args below meth c H locs cells slots mc ms (F0 m pc rls st0) (rest.map (ev_rv g)) (ev_QX g Qc a) (fun q => ev_z g ≤ q))
    (C : ev_Cx g M d ls h kc ks p R s m args meth c H locs cells slots rls) (hmc : mc ≤ kc) (hms : ms ≤ ks)
    (kk : ∀ v h', Qc (.inl v) h' → ev_E g X M d (pc + 3) ls (v.toList ++ rest) h' (kc - mc) (ks - ms) Q) :
    W p (ev_l g) e R s m args below meth c H locs cells slots (ev_MQ X below (ev_QX g Q) args s R.cells R.slots (fun q => ev_z g ≤ q)) (F0 m pc rls st0) := by
  intro T hT S
  obtain ⟨v, st₀, t, T', L, h0, S', hL, e1, e2, ⟨out, h', ho, hq, hH⟩, go⟩ := hr T hT S
  cases out with
  | inr i => cases ho
  | inl w =>
    cases ho
    have hc := C.2.2.2.2.1
    obtain ⟨t2, a1, b1⟩ := kk w h' hq p e R s m args below meth c T'.heap (locs ++ L) (cells + mc) (slots + ms) rls (C.heap (by rw [e1]; exact hH) (fun q hq => by
      rcases List.mem_append.mp hq with h1 | h1
      · exact C.2.2.2.1 q h1
      · exact hL q h1) ⟨by omega, by omega⟩) T' rfl S'
    refine ⟨t2, go t2 ?_, b1⟩
    have hst : (w.toList ++ rest).map (ev_rv g) = (w.map (ev_rv g)).toList ++ rest.map (ev_rv g) := by cases w <;> simp
    rw [hst] at a1
    exact a1
theorem ev_blind {as : List Value} : FrameBlind (ev_Pc g as h) := fun a U fr mk q =>
  ⟨q.1, q.2.1, va_K.moved (u := U) (U := U.calling fr mk a) (Vm.Alike.refl U.vm) q.2.2.1, fun w hw => va_Nw.same (ev_NW_tab w hw) (u := U) (U := U.calling fr mk a) rfl (q.2.2.2.1 w hw), ev_XS_same (u := U) (U := U.calling fr mk a) rfl rfl q.2.2.2.2⟩
theorem ev_Pc.of {p : Program} {R : Room} {s : State} {m : MethodId} {args : Array Value} {meth : Method} {c : Code} {H : Heap} {locs : List Loc} {cells slots : Nat} {rls : Array Slot} {as : List Value} (C : ev_Cx g M d ls h kc ks p R s m args meth c H locs cells slots rls) : ∀ U : State, U.heap = H → s.WarmedH U.vm → ev_Pc g as h ((as.map (ev_rv g)).toArray) U := by
  intro U hU hW
  obtain ⟨hx, hb, hml, hown, hts, hK, hN, -, -, -, -, h0, hX⟩ := C.1
  exact ⟨rfl, by rw [hU]; exact C.2.2.1, va_K.moved hW.alike hK, fun w hw => ev_NW_warm hw hW (hN w hw), ev_XS_warm hW C.2.2.1 hU h0 hX⟩
theorem ev_GoodIn {M' : ev_M} (hc : Cond.code M'.1 M'.2.1 M'.2.2.1 M'.2.2.2.1 ∈ ev_WS) : GoodIn ev_WS (ev_ws M') := by
  intro w hw
  rcases List.mem_cons.mp hw with h1 | h1
  · subst h1; exact ⟨hc, good_of_word (ev_good _ hc)⟩
  · exact ⟨h1, good_of_word (ev_good _ h1)⟩
theorem ev_callV {M' : ev_M} {idx n ci b mc ms : Nat} {as rest : List Value} {fs : List Value} {Qc : ev_O → List ev_AC → Prop} (hd : decode M.2.1 pc = .ok (.invokevirtual idx, 3)) (F : ev_CV M.1.cls idx M' n ci) (hn : as.length = n) (hc : h[b]? = some (.inr (ci, fs))) (hs : (rest.map fun v => v.category).sum ≤ 8)
    (hC : ev_C g M' d (.ref b :: as) h mc ms Qc) (hmc : mc ≤ kc) (hms : ms ≤ ks) (hst : as.reverse ++ .ref b :: rest = st)
    (kk : ∀ v h', Qc (.inl v) h' → ev_E g X M (d + 1) (pc + 3) ls (v.toList ++ rest) h' (kc - mc) (ks - ms) Q) : ev_E g X M (d + 1) pc ls st h kc ks Q := by
  intro p e R s m args below meth c H locs cells slots rls C
  subst hst
  obtain ⟨hx, hb, hml, hown, hts, hK, hN, -⟩ := C.1
  obtain ⟨⟨⟨hl, wi, wc, wd, wl⟩, win, wp⟩, wsel, wci⟩ := F
  obtain ⟨q, hq, hqc⟩ : ∃ q, ev_CL[ci]? = some q ∧ q.1 = M'.1.cls := by
    cases hz : ev_CL[ci]? with
    | none => rw [hz] at wci; cases wci
    | some q => rw [hz] at wci; exact ⟨q, rfl, Option.some.inj wci⟩
  obtain ⟨cell, g1, g2, g3⟩ := va_recv hK C.2.2.1.2.2 hq (ev_rl_at hc)
  rw [hqc] at g3
  have hR := C.2.1
  have hroom : d + 1 ≤ R.frames ∧ 8 + (M'.2.2.1 + 11) + 40 * d ≤ R.locals := ⟨hR.1, by omega⟩
  have hpre : PreV s H M'.1.cls (ev_z g + b) (ev_Pc g (.ref b :: as) h) (as.map (ev_rv g)) := ⟨ev_blind, ⟨cell, g1, g2, g3⟩, fun U h1 h2 => ev_Pc.of (as := .ref b :: as) C U h1 h2⟩
  have hstk : (as.reverse ++ .ref b :: rest).map (ev_rv g) = (as.map (ev_rv g)).reverse ++ .ref (ev_z g + b) :: rest.map (ev_rv g) := by simp [ev_rv]
  have hcc := C.2.2.2.2.1
  rcases hl with hl | ⟨host, hl⟩
  · refine ev_back (mc := mc) (ms := ms) (rest := rest) (Qc := Qc) (va_runV (n := n) ⟨hx, hb, hml, hown, hts⟩ hC ⟨callB_of n hts (ev_GoodIn wc) rfl rfl rfl (hts _ wi) (hts _ hl) ⟨wd.1, wd.2, wp⟩ hroom, hts _ win, hts _ wsel⟩ hpre rfl (by simpa using hn) C.2.2.2.2.2.2.1.1 hstk (by show 2 * 0 + _ ≤ 8; rw [ev_rv_sum]; omega) hd ⟨by omega, by omega⟩) C hmc hms kk
  · refine ev_back (mc := mc) (ms := ms) (rest := rest) (Qc := Qc) (va_runVN (n := n) ⟨hx, hb, hml, hown, hts⟩ hC ⟨va_cnB n hts (ev_GoodIn wc) rfl rfl rfl (hN _ hl) (hts _ wi) ⟨wd.1, wd.2, wp⟩ hroom, hts _ win, hts _ wsel⟩ hpre rfl (by simpa using hn) C.2.2.2.2.2.2.1.1 hstk (by show 2 * 0 + _ ≤ 8; rw [ev_rv_sum]; omega) hd ⟨by omega, by omega⟩) C hmc hms kk
theorem ev_callS {M' : ev_M} {idx n mc ms : Nat} {as rest : List Value} {Qc : ev_O → List ev_AC → Prop} (hd : decode M.2.1 pc = .ok (.invokestatic idx, 3)) (F : ev_CS M.1.cls idx M' n) (hn : as.length = n) (hs : (rest.map fun v => v.category).sum ≤ 8)
    (hC : ev_C g M' d as h mc ms Qc) (hmc : mc ≤ kc) (hms : ms ≤ ks) (hst : as.reverse ++ rest = st)
    (kk : ∀ v h', Qc (.inl v) h' → ev_E g X M (d + 1) (pc + 3) ls (v.toList ++ rest) h' (kc - mc) (ks - ms) Q) : ev_E g X M (d + 1) pc ls st h kc ks Q := by
  intro p e R s m args below meth c H locs cells slots rls C
  subst hst
  obtain ⟨hx, hb, hml, hown, hts, hK, hN, -⟩ := C.1
  obtain ⟨⟨hl, wi, wc, wd, wl⟩, wst, wp⟩ := F
  have hR := C.2.1
  have hroom : d + 1 ≤ R.frames ∧ 8 + (M'.2.2.1 + 11) + 40 * d ≤ R.locals := ⟨hR.1, by omega⟩
  have hpre : PreS s H (ev_Pc g as h) (as.map (ev_rv g)) := ⟨ev_blind, fun U h1 h2 => ev_Pc.of (as := as) C U h1 h2⟩
  have hstk : (as.reverse ++ rest).map (ev_rv g) = (as.map (ev_rv g)).reverse ++ rest.map (ev_rv g) := by simp
  have hcc := C.2.2.2.2.1
  rcases hl with hl | ⟨host, hl⟩
  · refine ev_back (mc := mc) (ms := ms) (rest := rest) (Qc := Qc) (va_runS (n := n) ⟨hx, hb, hml, hown, hts⟩ hC ⟨callB_of n hts (ev_GoodIn wc) rfl rfl rfl (hts _ wi) (hts _ hl) ⟨wd.1, wd.2, wp⟩ hroom, hts _ wst⟩ hpre rfl (by simpa using hn) C.2.2.2.2.2.2.1.1 hstk (by show 2 * 0 + _ ≤ 8; rw [ev_rv_sum]; omega) hd ⟨by omega, by omega⟩) C hmc hms kk
  · refine ev_back (mc := mc) (ms := ms) (rest := rest) (Qc := Qc) (va_runSN (n := n) ⟨hx, hb, hml, hown, hts⟩ hC ⟨va_cnB n hts (ev_GoodIn wc) rfl rfl rfl (hN _ hl) (hts _ wi) ⟨wd.1, wd.2, wp⟩ hroom, hts _ wst, trivial⟩ hpre rfl (by simpa using hn) C.2.2.2.2.2.2.1.1 hstk (by show 2 * 0 + _ ≤ 8; rw [ev_rv_sum]; omega) hd ⟨by omega, by omega⟩) C hmc hms kk
theorem ev_callI {M' : ev_M} {idx n b mc ms : Nat} {as rest : List Value} {Qc : ev_O → List ev_AC → Prop} (hd : decode M.2.1 pc = .ok (.invokespecial idx, 3)) (F : ev_CI M.1.cls idx M' n) (hini : M'.1.name = "<init>") (hret : M'.2.2.2.1 = none) (hn : as.length = n) (hs : (rest.map fun v => v.category).sum ≤ 8)
    (hC : ev_C g M' d (.ref b :: as) h mc ms Qc) (hmc : mc ≤ kc) (hms : ms ≤ ks) (hst : as.reverse ++ .ref b :: rest = st)
    (kk : ∀ v h', Qc (.inl v) h' → ev_E g X M (d + 1) (pc + 3) ls (v.toList ++ rest) h' (kc - mc) (ks - ms) Q) : ev_E g X M (d + 1) pc ls st h kc ks Q := by
  intro p e R s m args below meth c H locs cells slots rls C
  subst hst
  obtain ⟨hx, hb, hml, hown, hts, hK, hN, -⟩ := C.1
  obtain ⟨⟨hl, wi, wc, wd, wl⟩, win, wp⟩ := F
  have hR := C.2.1
  have hroom : d + 1 ≤ R.frames ∧ 8 + (M'.2.2.1 + 11) + 40 * d ≤ R.locals := ⟨hR.1, by omega⟩
  have hpre : PreS s H (ev_Pc g (.ref b :: as) h) (.ref (ev_z g + b) :: as.map (ev_rv g)) := ⟨ev_blind, fun U h1 h2 => ev_Pc.of (as := .ref b :: as) C U h1 h2⟩
  have hstk : (as.reverse ++ .ref b :: rest).map (ev_rv g) = (as.map (ev_rv g)).reverse ++ .ref (ev_z g + b) :: rest.map (ev_rv g) := by simp [ev_rv]
  have hcc := C.2.2.2.2.1
  rw [hret] at wc
  have hw : ev_ws M' = Cond.code M'.1 M'.2.1 M'.2.2.1 none :: ev_WS := by rw [ev_ws, hret]
  have hG : GoodIn ev_WS (ev_ws M') := ev_GoodIn (by rw [hret]; exact wc)
  rcases hl with hl | ⟨host, hl⟩
  · refine ev_back (mc := mc) (ms := ms) (rest := rest) (Qc := Qc) (va_runI (n := n) ⟨hx, hb, hml, hown, hts⟩ hC ⟨callB_of n hts hG hw rfl rfl (hts _ wi) (hts _ hl) ⟨wd.1, wd.2, wp⟩ hroom, hini, hts _ win⟩ hpre rfl (by simpa using hn) C.2.2.2.2.2.2.1.1 hstk (by show 2 * 0 + _ ≤ 8; rw [ev_rv_sum]; omega) hd ⟨by omega, by omega⟩) C hmc hms kk
  · refine ev_back (mc := mc) (ms := ms) (rest := rest) (Qc := Qc) (va_runIN (n := n) ⟨hx, hb, hml, hown, hts⟩ hC ⟨va_cnB n hts hG hw rfl rfl (hN _ hl) (hts _ wi) ⟨wd.1, wd.2, wp⟩ hroom, hini, hts _ win⟩ hpre rfl (by simpa using hn) C.2.2.2.2.2.2.1.1 hstk (by show 2 * 0 + _ ≤ 8; rw [ev_rv_sum]; omega) hd ⟨by omega, by omega⟩) C hmc hms kk
/-- a contract out of the walk -/
theorem ev_ofE {as : List Value} (hpl : plainName M.1.cls = true) (hhh : M.2.2.2.2 = []) (hn : as.length ≤ M.2.2.1) (hcat : as.all (fun v => v.category == 1) = true) (hls : as.map some ++ List.replicate (M.2.2.1 - as.length) none = ls)
    (k : ev_E g false M d 0 ls [] h kc ks Q) : ev_C g M d as h kc ks Q := by
  subst hls
  refine Met.ofW (cc := M.2.1) (maxL := M.2.2.1) (ret := M.2.2.2.1) hpl rfl ?_
  intro p e s m args below meth c s₁ B hml hv
  obtain ⟨rfl, hH, hK, hN, hX⟩ := hv
  have hts := atoms_spec (ws := ev_ws M) B.pre
  have hcat' : ∀ v ∈ as, v.category = 1 := fun v hv => by simpa using List.all_eq_true.mp hcat v hv
  rw [lg_entry_eq]
  have htab : c.exceptionTable.toList = tableOf M.2.2.2.2 := by
    have h1 := B.noHandlers (hts _ List.mem_cons_self)
    rw [hhh]
    have h2 : c.exceptionTable = #[] := by simpa using h1
    rw [h2]; rfl
  have := k p e { frames := d, cells := kc, slots := ks, locals := 40 * d } s m _ below meth c s.heap [] 0 0 _
    ⟨⟨B.exec, B.bytes, hml, findClass_of_methodNamed B.named, fun w hw => hts w (List.mem_cons_of_mem _ hw), hK, hN, B.returns, B.notSynchronized, (name_of_methodNamed B.named B.method).1, htab, ⟨h, hH⟩, hX⟩,
      ⟨Nat.le_refl _, Nat.le_refl _⟩, hH, (fun q hq => by cases hq), ⟨by simp, by simp⟩, ev_LH.entry hn hcat'⟩
  intro T hT S
  obtain ⟨t, a, o, b1, b2, b3, L, b4, b5⟩ := this T hT S
  exact ⟨t, a, o, b1, b2, b3, L, ⟨b4.1.resolve_left (by decide), b4.2⟩, b5⟩
end EVC
end
section
/-! facts of the tables: fields, calls, new objects -/
theorem cf_F : ev_CF 0 RF TF 5 := ⟨rfl, wl_F, ⟨tF, tF_ok⟩, nF⟩
theorem cf_P : ev_CF 1 RP TP 8 := ⟨rfl, wl_P, ⟨tP, tP_ok⟩, nP⟩
theorem cf_R : ev_CF 2 RR TR 8 := ⟨rfl, wl_R, ⟨tR, tR_ok⟩, nR⟩
theorem cf_O : ev_CF 3 RO TO 5 := ⟨rfl, wl_O, ⟨tO, tO_ok⟩, nO⟩
theorem cf_M : ev_CF 4 RM TM 22 := ⟨rfl, wl_M, ⟨tM, tM_ok⟩, nM⟩
theorem fl_F_12 : ev_FL RF 12 0 0 := ⟨RF, TF, 5, cf_F, by decide, Or.inl wf_F_12⟩
theorem fl_F_21 : ev_FL RF 21 0 1 := ⟨RF, TF, 5, cf_F, by decide, Or.inl wf_F_21⟩
theorem fl_F_28 : ev_FL RF 28 0 2 := ⟨RF, TF, 5, cf_F, by decide, Or.inl wf_F_28⟩
theorem fl_F_32 : ev_FL RF 32 0 3 := ⟨RF, TF, 5, cf_F, by decide, Or.inl wf_F_32⟩
theorem fl_F_36 : ev_FL RF 36 0 4 := ⟨RF, TF, 5, cf_F, by decide, Or.inl wf_F_36⟩
theorem fl_F_62 : ev_FL RF 62 1 1 := ⟨RP, TP, 8, cf_P, by decide, Or.inl wf_F_62⟩
theorem fl_F_71 : ev_FL RF 71 1 2 := ⟨RP, TP, 8, cf_P, by decide, Or.inl wf_F_71⟩
theorem fl_F_75 : ev_FL RF 75 1 0 := ⟨RP, TP, 8, cf_P, by decide, Or.inl wf_F_75⟩
theorem fl_F_97 : ev_FL RF 97 1 6 := ⟨RP, TP, 8, cf_P, by decide, Or.inl wf_F_97⟩
theorem fl_F_100 : ev_FL RF 100 1 7 := ⟨RP, TP, 8, cf_P, by decide, Or.inl wf_F_100⟩
theorem fl_F_106 : ev_FL RF 106 1 4 := ⟨RP, TP, 8, cf_P, by decide, Or.inl wf_F_106⟩
theorem fl_F_125 : ev_FL RF 125 2 4 := ⟨RR, TR, 8, cf_R, by decide, Or.inl wf_F_125⟩
theorem fl_F_128 : ev_FL RF 128 2 5 := ⟨RR, TR, 8, cf_R, by decide, Or.inl wf_F_128⟩
theorem fl_F_138 : ev_FL RF 138 2 6 := ⟨RR, TR, 8, cf_R, by decide, Or.inl wf_F_138⟩
theorem fl_F_141 : ev_FL RF 141 2 7 := ⟨RR, TR, 8, cf_R, by decide, Or.inl wf_F_141⟩
theorem fl_F_147 : ev_FL RF 147 3 2 := ⟨RO, TO, 5, cf_O, by decide, Or.inl wf_F_147⟩
theorem fl_F_156 : ev_FL RF 156 3 3 := ⟨RO, TO, 5, cf_O, by decide, Or.inl wf_F_156⟩
theorem fl_F_169 : ev_FL RF 169 3 4 := ⟨RO, TO, 5, cf_O, by decide, Or.inl wf_F_169⟩
theorem fl_O_9 : ev_FL RO 9 3 0 := ⟨RO, TO, 5, cf_O, by decide, Or.inl wf_O_9⟩
theorem fl_O_15 : ev_FL RO 15 3 3 := ⟨RO, TO, 5, cf_O, by decide, Or.inl wf_O_15⟩
theorem fl_O_19 : ev_FL RO 19 3 1 := ⟨RO, TO, 5, cf_O, by decide, Or.inl wf_O_19⟩
theorem fl_O_23 : ev_FL RO 23 3 2 := ⟨RO, TO, 5, cf_O, by decide, Or.inl wf_O_23⟩
theorem fl_O_27 : ev_FL RO 27 3 4 := ⟨RO, TO, 5, cf_O, by decide, Or.inl wf_O_27⟩
theorem fl_O_35 : ev_FL RO 35 1 1 := ⟨RP, TP, 8, cf_P, by decide, Or.inl wf_O_35⟩
theorem fl_O_78 : ev_FL RO 78 1 4 := ⟨RP, TP, 8, cf_P, by decide, Or.inl wf_O_78⟩
theorem fl_P_9 : ev_FL RP 9 1 3 := ⟨RP, TP, 8, cf_P, by decide, Or.inl wf_P_9⟩
theorem fl_P_15 : ev_FL RP 15 1 4 := ⟨RP, TP, 8, cf_P, by decide, Or.inl wf_P_15⟩
theorem fl_P_18 : ev_FL RP 18 1 5 := ⟨RP, TP, 8, cf_P, by decide, Or.inl wf_P_18⟩
theorem fl_P_21 : ev_FL RP 21 1 6 := ⟨RP, TP, 8, cf_P, by decide, Or.inl wf_P_21⟩
theorem fl_P_24 : ev_FL RP 24 1 7 := ⟨RP, TP, 8, cf_P, by decide, Or.inl wf_P_24⟩
theorem fl_P_31 : ev_FL RP 31 1 0 := ⟨RP, TP, 8, cf_P, by decide, Or.inl wf_P_31⟩
theorem fl_P_35 : ev_FL RP 35 1 1 := ⟨RP, TP, 8, cf_P, by decide, Or.inl wf_P_35⟩
theorem fl_P_38 : ev_FL RP 38 1 2 := ⟨RP, TP, 8, cf_P, by decide, Or.inl wf_P_38⟩
theorem fl_R_9 : ev_FL RR 9 2 0 := ⟨RR, TR, 8, cf_R, by decide, Or.inl wf_R_9⟩
theorem fl_R_15 : ev_FL RR 15 2 1 := ⟨RR, TR, 8, cf_R, by decide, Or.inl wf_R_15⟩
theorem fl_R_19 : ev_FL RR 19 2 2 := ⟨RR, TR, 8, cf_R, by decide, Or.inl wf_R_19⟩
theorem fl_R_22 : ev_FL RR 22 2 3 := ⟨RR, TR, 8, cf_R, by decide, Or.inl wf_R_22⟩
theorem fl_R_25 : ev_FL RR 25 2 6 := ⟨RR, TR, 8, cf_R, by decide, Or.inl wf_R_25⟩
theorem fl_R_28 : ev_FL RR 28 2 7 := ⟨RR, TR, 8, cf_R, by decide, Or.inl wf_R_28⟩
theorem fl_R_34 : ev_FL RR 34 2 4 := ⟨RR, TR, 8, cf_R, by decide, Or.inl wf_R_34⟩
theorem fl_R_42 : ev_FL RR 42 2 5 := ⟨RR, TR, 8, cf_R, by decide, Or.inl wf_R_42⟩
theorem fl_R_55 : ev_FL RR 55 1 1 := ⟨RP, TP, 8, cf_P, by decide, Or.inl wf_R_55⟩
theorem fl_R_58 : ev_FL RR 58 1 3 := ⟨RP, TP, 8, cf_P, by decide, Or.inl wf_R_58⟩
theorem fl_R_61 : ev_FL RR 61 1 4 := ⟨RP, TP, 8, cf_P, by decide, Or.inl wf_R_61⟩
theorem fl_M_7 : ev_FL RM 7 4 1 := ⟨RM, TM, 22, cf_M, by decide, Or.inl wf_M_7⟩
theorem fl_M_13 : ev_FL RM 13 4 3 := ⟨RM, TM, 22, cf_M, by decide, Or.inl wf_M_13⟩
theorem fl_M_17 : ev_FL RM 17 4 4 := ⟨RM, TM, 22, cf_M, by decide, Or.inl wf_M_17⟩
theorem fl_M_20 : ev_FL RM 20 4 6 := ⟨RM, TM, 22, cf_M, by decide, Or.inl wf_M_20⟩
theorem fl_M_23 : ev_FL RM 23 4 8 := ⟨RM, TM, 22, cf_M, by decide, Or.inl wf_M_23⟩
theorem fl_M_26 : ev_FL RM 26 4 9 := ⟨RM, TM, 22, cf_M, by decide, Or.inl wf_M_26⟩
theorem fl_M_29 : ev_FL RM 29 4 10 := ⟨RM, TM, 22, cf_M, by decide, Or.inl wf_M_29⟩
theorem fl_M_32 : ev_FL RM 32 4 11 := ⟨RM, TM, 22, cf_M, by decide, Or.inl wf_M_32⟩
theorem fl_M_35 : ev_FL RM 35 4 12 := ⟨RM, TM, 22, cf_M, by decide, Or.inl wf_M_35⟩
theorem fl_M_38 : ev_FL RM 38 4 13 := ⟨RM, TM, 22, cf_M, by decide, Or.inl wf_M_38⟩
theorem fl_M_41 : ev_FL RM 41 4 15 := ⟨RM, TM, 22, cf_M, by decide, Or.inl wf_M_41⟩
theorem fl_M_44 : ev_FL RM 44 4 16 := ⟨RM, TM, 22, cf_M, by decide, Or.inl wf_M_44⟩
theorem fl_M_47 : ev_FL RM 47 4 17 := ⟨RM, TM, 22, cf_M, by decide, Or.inl wf_M_47⟩
theorem fl_M_50 : ev_FL RM 50 4 19 := ⟨RM, TM, 22, cf_M, by decide, Or.inl wf_M_50⟩
theorem fl_M_53 : ev_FL RM 53 4 20 := ⟨RM, TM, 22, cf_M, by decide, Or.inl wf_M_53⟩
theorem fl_M_56 : ev_FL RM 56 4 0 := ⟨RM, TM, 22, cf_M, by decide, Or.inl wf_M_56⟩
theorem fl_M_63 : ev_FL RM 63 4 5 := ⟨RM, TM, 22, cf_M, by decide, Or.inl wf_M_63⟩
theorem fl_M_66 : ev_FL RM 66 4 2 := ⟨RM, TM, 22, cf_M, by decide, Or.inl wf_M_66⟩
theorem fl_M_78 : ev_FL RM 78 4 7 := ⟨RM, TM, 22, cf_M, by decide, Or.inl wf_M_78⟩
theorem fl_M_104 : ev_FL RM 104 4 18 := ⟨RM, TM, 22, cf_M, by decide, Or.inl wf_M_104⟩
theorem fl_M_107 : ev_FL RM 107 4 21 := ⟨RM, TM, 22, cf_M, by decide, Or.inl wf_M_107⟩
theorem fl_M_155 : ev_FL RM 155 4 14 := ⟨RM, TM, 22, cf_M, by decide, Or.inl wf_M_155⟩
theorem fp_F_12 : ev_FP RF 12 0 0 (.object "FoldLaboratory$Paper") true := ⟨RF, TF, 5, cf_F, by decide, wf_F_12, tF_ok 0 (by decide), rfl, rfl⟩
theorem fp_F_21 : ev_FP RF 21 0 1 (.object "FoldLaboratory$Reductions") true := ⟨RF, TF, 5, cf_F, by decide, wf_F_21, tF_ok 1 (by decide), rfl, rfl⟩
theorem fp_F_28 : ev_FP RF 28 0 2 (.object "FoldLaboratory$LayerOrders") true := ⟨RF, TF, 5, cf_F, by decide, wf_F_28, tF_ok 2 (by decide), rfl, rfl⟩
theorem fp_F_32 : ev_FP RF 32 0 3 (.array .int) true := ⟨RF, TF, 5, cf_F, by decide, wf_F_32, tF_ok 3 (by decide), rfl, rfl⟩
theorem fp_F_36 : ev_FP RF 36 0 4 (.int) false := ⟨RF, TF, 5, cf_F, by decide, wf_F_36, tF_ok 4 (by decide), rfl, rfl⟩
theorem fp_O_9 : ev_FP RO 9 3 0 (.object "FoldLaboratory$Paper") true := ⟨RO, TO, 5, cf_O, by decide, wf_O_9, tO_ok 0 (by decide), rfl, rfl⟩
theorem fp_O_15 : ev_FP RO 15 3 3 (.array .int) false := ⟨RO, TO, 5, cf_O, by decide, wf_O_15, tO_ok 3 (by decide), rfl, rfl⟩
theorem fp_O_19 : ev_FP RO 19 3 1 (.boolean) false := ⟨RO, TO, 5, cf_O, by decide, wf_O_19, tO_ok 1 (by decide), rfl, rfl⟩
theorem fp_O_23 : ev_FP RO 23 3 2 (.int) false := ⟨RO, TO, 5, cf_O, by decide, wf_O_23, tO_ok 2 (by decide), rfl, rfl⟩
theorem fp_O_27 : ev_FP RO 27 3 4 (.long) false := ⟨RO, TO, 5, cf_O, by decide, wf_O_27, tO_ok 4 (by decide), rfl, rfl⟩
theorem fp_P_9 : ev_FP RP 9 1 3 (.array .int) true := ⟨RP, TP, 8, cf_P, by decide, wf_P_9, tP_ok 3 (by decide), rfl, rfl⟩
theorem fp_P_15 : ev_FP RP 15 1 4 (.array .int) true := ⟨RP, TP, 8, cf_P, by decide, wf_P_15, tP_ok 4 (by decide), rfl, rfl⟩
theorem fp_P_18 : ev_FP RP 18 1 5 (.array .int) true := ⟨RP, TP, 8, cf_P, by decide, wf_P_18, tP_ok 5 (by decide), rfl, rfl⟩
theorem fp_P_21 : ev_FP RP 21 1 6 (.array .int) true := ⟨RP, TP, 8, cf_P, by decide, wf_P_21, tP_ok 6 (by decide), rfl, rfl⟩
theorem fp_P_24 : ev_FP RP 24 1 7 (.array .int) true := ⟨RP, TP, 8, cf_P, by decide, wf_P_24, tP_ok 7 (by decide), rfl, rfl⟩
theorem fp_P_31 : ev_FP RP 31 1 0 (.int) false := ⟨RP, TP, 8, cf_P, by decide, wf_P_31, tP_ok 0 (by decide), rfl, rfl⟩
theorem fp_P_35 : ev_FP RP 35 1 1 (.int) false := ⟨RP, TP, 8, cf_P, by decide, wf_P_35, tP_ok 1 (by decide), rfl, rfl⟩
theorem fp_P_38 : ev_FP RP 38 1 2 (.boolean) false := ⟨RP, TP, 8, cf_P, by decide, wf_P_38, tP_ok 2 (by decide), rfl, rfl⟩
theorem fp_R_9 : ev_FP RR 9 2 0 (.object "FoldLaboratory$Paper") true := ⟨RR, TR, 8, cf_R, by decide, wf_R_9, tR_ok 0 (by decide), rfl, rfl⟩
theorem fp_R_15 : ev_FP RR 15 2 1 (.array .int) true := ⟨RR, TR, 8, cf_R, by decide, wf_R_15, tR_ok 1 (by decide), rfl, rfl⟩
theorem fp_R_19 : ev_FP RR 19 2 2 (.array .int) true := ⟨RR, TR, 8, cf_R, by decide, wf_R_19, tR_ok 2 (by decide), rfl, rfl⟩
theorem fp_R_22 : ev_FP RR 22 2 3 (.array .int) true := ⟨RR, TR, 8, cf_R, by decide, wf_R_22, tR_ok 3 (by decide), rfl, rfl⟩
theorem fp_R_25 : ev_FP RR 25 2 6 (.array .int) true := ⟨RR, TR, 8, cf_R, by decide, wf_R_25, tR_ok 6 (by decide), rfl, rfl⟩
theorem fp_R_28 : ev_FP RR 28 2 7 (.array .int) true := ⟨RR, TR, 8, cf_R, by decide, wf_R_28, tR_ok 7 (by decide), rfl, rfl⟩
theorem fp_R_34 : ev_FP RR 34 2 4 (.int) false := ⟨RR, TR, 8, cf_R, by decide, wf_R_34, tR_ok 4 (by decide), rfl, rfl⟩
theorem fp_R_42 : ev_FP RR 42 2 5 (.int) false := ⟨RR, TR, 8, cf_R, by decide, wf_R_42, tR_ok 5 (by decide), rfl, rfl⟩
theorem fp_M_7 : ev_FP RM 7 4 1 (.int) false := ⟨RM, TM, 22, cf_M, by decide, wf_M_7, tM_ok 1 (by decide), rfl, rfl⟩
theorem fp_M_13 : ev_FP RM 13 4 3 (.array .int) true := ⟨RM, TM, 22, cf_M, by decide, wf_M_13, tM_ok 3 (by decide), rfl, rfl⟩
theorem fp_M_17 : ev_FP RM 17 4 4 (.array .int) true := ⟨RM, TM, 22, cf_M, by decide, wf_M_17, tM_ok 4 (by decide), rfl, rfl⟩
theorem fp_M_20 : ev_FP RM 20 4 6 (.array .int) true := ⟨RM, TM, 22, cf_M, by decide, wf_M_20, tM_ok 6 (by decide), rfl, rfl⟩
theorem fp_M_23 : ev_FP RM 23 4 8 (.array .int) true := ⟨RM, TM, 22, cf_M, by decide, wf_M_23, tM_ok 8 (by decide), rfl, rfl⟩
theorem fp_M_26 : ev_FP RM 26 4 9 (.array .int) true := ⟨RM, TM, 22, cf_M, by decide, wf_M_26, tM_ok 9 (by decide), rfl, rfl⟩
theorem fp_M_29 : ev_FP RM 29 4 10 (.array .int) true := ⟨RM, TM, 22, cf_M, by decide, wf_M_29, tM_ok 10 (by decide), rfl, rfl⟩
theorem fp_M_32 : ev_FP RM 32 4 11 (.array .int) true := ⟨RM, TM, 22, cf_M, by decide, wf_M_32, tM_ok 11 (by decide), rfl, rfl⟩
theorem fp_M_35 : ev_FP RM 35 4 12 (.array .int) true := ⟨RM, TM, 22, cf_M, by decide, wf_M_35, tM_ok 12 (by decide), rfl, rfl⟩
theorem fp_M_38 : ev_FP RM 38 4 13 (.array .int) true := ⟨RM, TM, 22, cf_M, by decide, wf_M_38, tM_ok 13 (by decide), rfl, rfl⟩
theorem fp_M_41 : ev_FP RM 41 4 15 (.array .int) true := ⟨RM, TM, 22, cf_M, by decide, wf_M_41, tM_ok 15 (by decide), rfl, rfl⟩
theorem fp_M_44 : ev_FP RM 44 4 16 (.array .int) true := ⟨RM, TM, 22, cf_M, by decide, wf_M_44, tM_ok 16 (by decide), rfl, rfl⟩
theorem fp_M_47 : ev_FP RM 47 4 17 (.array .int) true := ⟨RM, TM, 22, cf_M, by decide, wf_M_47, tM_ok 17 (by decide), rfl, rfl⟩
theorem fp_M_50 : ev_FP RM 50 4 19 (.array .int) true := ⟨RM, TM, 22, cf_M, by decide, wf_M_50, tM_ok 19 (by decide), rfl, rfl⟩
theorem fp_M_53 : ev_FP RM 53 4 20 (.array .int) true := ⟨RM, TM, 22, cf_M, by decide, wf_M_53, tM_ok 20 (by decide), rfl, rfl⟩
theorem fp_M_56 : ev_FP RM 56 4 0 (.int) false := ⟨RM, TM, 22, cf_M, by decide, wf_M_56, tM_ok 0 (by decide), rfl, rfl⟩
theorem fp_M_63 : ev_FP RM 63 4 5 (.int) false := ⟨RM, TM, 22, cf_M, by decide, wf_M_63, tM_ok 5 (by decide), rfl, rfl⟩
theorem fp_M_66 : ev_FP RM 66 4 2 (.boolean) false := ⟨RM, TM, 22, cf_M, by decide, wf_M_66, tM_ok 2 (by decide), rfl, rfl⟩
theorem fp_M_78 : ev_FP RM 78 4 7 (.int) false := ⟨RM, TM, 22, cf_M, by decide, wf_M_78, tM_ok 7 (by decide), rfl, rfl⟩
theorem fp_M_104 : ev_FP RM 104 4 18 (.int) false := ⟨RM, TM, 22, cf_M, by decide, wf_M_104, tM_ok 18 (by decide), rfl, rfl⟩
theorem fp_M_107 : ev_FP RM 107 4 21 (.int) false := ⟨RM, TM, 22, cf_M, by decide, wf_M_107, tM_ok 21 (by decide), rfl, rfl⟩
theorem fp_M_155 : ev_FP RM 155 4 14 (.int) false := ⟨RM, TM, 22, cf_M, by decide, wf_M_155, tM_ok 14 (by decide), rfl, rfl⟩
theorem ci_F_11 : ev_CI RF 11 mP_init 0 := ⟨⟨Or.inl wm_F_11, wi_P, wc_P_init, ⟨by decide +kernel, by decide +kernel⟩, by decide⟩, wv_P_init, by decide +kernel⟩
theorem ci_F_18 : ev_CI RF 18 mR_init 1 := ⟨⟨Or.inl wm_F_18, wi_R, wc_R_init, ⟨by decide +kernel, by decide +kernel⟩, by decide⟩, wv_R_init, by decide +kernel⟩
theorem ci_F_27 : ev_CI RF 27 mO_init 1 := ⟨⟨Or.inl wm_F_27, wi_O, wc_O_init, ⟨by decide +kernel, by decide +kernel⟩, by decide⟩, wv_O_init, by decide +kernel⟩
theorem ci_L_43 : ev_CI RL 43 mF_init 0 := ⟨⟨Or.inl wm_L_43, wi_F, wc_F_init, ⟨by decide +kernel, by decide +kernel⟩, by decide⟩, wv_F_init, by decide +kernel⟩
theorem ci_L_46 : ev_CI RL 46 mM_init 0 := ⟨⟨Or.inl wm_L_46, wi_M, wc_M_init, ⟨by decide +kernel, by decide +kernel⟩, by decide⟩, wv_M_init, by decide +kernel⟩
theorem cs_F_159 : ev_CS RF 159 mO_isAbove 3 := ⟨⟨Or.inl wm_F_159, wi_O, wc_O_isAbove, ⟨by decide +kernel, by decide +kernel⟩, by decide⟩, ws_O_isAbove, by decide +kernel⟩
theorem cs_F_173 : ev_CS RF 173 mJL_bitCount 1 := ⟨⟨Or.inl wm_F_173, wi_JL, wc_JL_bitCount, ⟨by decide +kernel, by decide +kernel⟩, by decide⟩, ws_JL_bitCount, by decide +kernel⟩
theorem cs_F_183 : ev_CS RF 183 mF_takesNumber 1 := ⟨⟨Or.inl wm_F_183, wi_F, wc_F_takesNumber, ⟨by decide +kernel, by decide +kernel⟩, by decide⟩, ws_F_takesNumber, by decide +kernel⟩
theorem cs_F_192 : ev_CS RF 192 mF_markOf 1 := ⟨⟨Or.inl wm_F_192, wi_F, wc_F_markOf, ⟨by decide +kernel, by decide +kernel⟩, by decide⟩, ws_F_markOf, by decide +kernel⟩
theorem cs_F_195 : ev_CS RF 195 mF_isDigit 1 := ⟨⟨Or.inl wm_F_195, wi_F, wc_F_isDigit, ⟨by decide +kernel, by decide +kernel⟩, by decide⟩, ws_F_isDigit, by decide +kernel⟩
theorem cs_O_48 : ev_CS RO 48 mO_bit 2 := ⟨⟨Or.inl wm_O_48, wi_O, wc_O_bit, ⟨by decide +kernel, by decide +kernel⟩, by decide⟩, ws_O_bit, by decide +kernel⟩
theorem cs_O_65 : ev_CS RO 65 mJA_copyOf 2 := ⟨⟨Or.inl wm_O_65, wi_JA, wc_JA_copyOf, ⟨by decide +kernel, by decide +kernel⟩, by decide⟩, ws_JA_copyOf, by decide +kernel⟩
theorem cs_O_75 : ev_CS RO 75 mO_isAbove 3 := ⟨⟨Or.inl wm_O_75, wi_O, wc_O_isAbove, ⟨by decide +kernel, by decide +kernel⟩, by decide⟩, ws_O_isAbove, by decide +kernel⟩
theorem cs_O_91 : ev_CS RO 91 mO_isBetween 4 := ⟨⟨Or.inl wm_O_91, wi_O, wc_O_isBetween, ⟨by decide +kernel, by decide +kernel⟩, by decide⟩, ws_O_isBetween, by decide +kernel⟩
theorem cs_P_60 : ev_CS RP 60 mP_direction 1 := ⟨⟨Or.inl wm_P_60, wi_P, wc_P_direction, ⟨by decide +kernel, by decide +kernel⟩, by decide⟩, ws_P_direction, by decide +kernel⟩
theorem cs_M_175 : ev_CS RM 175 mM_isDigit 1 := ⟨⟨Or.inl wm_M_175, wi_M, wc_M_isDigit, ⟨by decide +kernel, by decide +kernel⟩, by decide⟩, ws_M_isDigit, by decide +kernel⟩
theorem cv_F_40 : ev_CV RF 40 mF_tryStrip 1 0 := ⟨⟨⟨Or.inl wm_F_40, wi_F, wc_F_tryStrip, ⟨by decide +kernel, by decide +kernel⟩, by decide⟩, wv_F_tryStrip, by decide +kernel⟩, wx_F_tryStrip, rfl⟩
theorem cv_F_51 : ev_CV RF 51 mF_tryCrease 2 0 := ⟨⟨⟨Or.inl wm_F_51, wi_F, wc_F_tryCrease, ⟨by decide +kernel, by decide +kernel⟩, by decide⟩, wv_F_tryCrease, by decide +kernel⟩, wx_F_tryCrease, rfl⟩
theorem cv_F_65 : ev_CV RF 65 mP_turnOver 0 1 := ⟨⟨⟨Or.inl wm_F_65, wi_P, wc_P_turnOver, ⟨by decide +kernel, by decide +kernel⟩, by decide⟩, wv_P_turnOver, by decide +kernel⟩, wx_P_turnOver, rfl⟩
theorem cv_F_68 : ev_CV RF 68 mO_forget 0 3 := ⟨⟨⟨Or.inl wm_F_68, wi_O, wc_O_forget, ⟨by decide +kernel, by decide +kernel⟩, by decide⟩, wv_O_forget, by decide +kernel⟩, wx_O_forget, rfl⟩
theorem cv_F_78 : ev_CV RF 78 mP_freeCreases 0 1 := ⟨⟨⟨Or.inl wm_F_78, wi_P, wc_P_freeCreases, ⟨by decide +kernel, by decide +kernel⟩, by decide⟩, wv_P_freeCreases, by decide +kernel⟩, wx_P_freeCreases, rfl⟩
theorem cv_F_82 : ev_CV RF 82 mP_hasSegment 1 1 := ⟨⟨⟨Or.inl wm_F_82, wi_P, wc_P_hasSegment, ⟨by decide +kernel, by decide +kernel⟩, by decide⟩, wv_P_hasSegment, by decide +kernel⟩, wx_P_hasSegment, rfl⟩
theorem cv_F_91 : ev_CV RF 91 mP_leftEnd 1 1 := ⟨⟨⟨Or.inl wm_F_91, wi_P, wc_P_leftEnd, ⟨by decide +kernel, by decide +kernel⟩, by decide⟩, wv_P_leftEnd, by decide +kernel⟩, wx_P_leftEnd, rfl⟩
theorem cv_F_94 : ev_CV RF 94 mP_rightEnd 1 1 := ⟨⟨⟨Or.inl wm_F_94, wi_P, wc_P_rightEnd, ⟨by decide +kernel, by decide +kernel⟩, by decide⟩, wv_P_rightEnd, by decide +kernel⟩, wx_P_rightEnd, rfl⟩
theorem cv_F_103 : ev_CV RF 103 mP_frontUp 1 1 := ⟨⟨⟨Or.inl wm_F_103, wi_P, wc_P_frontUp, ⟨by decide +kernel, by decide +kernel⟩, by decide⟩, wv_P_frontUp, by decide +kernel⟩, wx_P_frontUp, rfl⟩
theorem cv_F_113 : ev_CV RF 113 mP_foldedPlace 1 1 := ⟨⟨⟨Or.inl wm_F_113, wi_P, wc_P_foldedPlace, ⟨by decide +kernel, by decide +kernel⟩, by decide⟩, wv_P_foldedPlace, by decide +kernel⟩, wx_P_foldedPlace, rfl⟩
theorem cv_F_116 : ev_CV RF 116 mP_reach 0 1 := ⟨⟨⟨Or.inl wm_F_116, wi_P, wc_P_reach, ⟨by decide +kernel, by decide +kernel⟩, by decide⟩, wv_P_reach, by decide +kernel⟩, wx_P_reach, rfl⟩
theorem cv_F_119 : ev_CV RF 119 mP_mostImages 0 1 := ⟨⟨⟨Or.inl wm_F_119, wi_P, wc_P_mostImages, ⟨by decide +kernel, by decide +kernel⟩, by decide⟩, wv_P_mostImages, by decide +kernel⟩, wx_P_mostImages, rfl⟩
theorem cv_F_122 : ev_CV RF 122 mR_reduce 0 2 := ⟨⟨⟨Or.inl wm_F_122, wi_R, wc_R_reduce, ⟨by decide +kernel, by decide +kernel⟩, by decide⟩, wv_R_reduce, by decide +kernel⟩, wx_R_reduce, rfl⟩
theorem cv_F_131 : ev_CV RF 131 mF_steps 0 0 := ⟨⟨⟨Or.inl wm_F_131, wi_F, wc_F_steps, ⟨by decide +kernel, by decide +kernel⟩, by decide⟩, wv_F_steps, by decide +kernel⟩, wx_F_steps, rfl⟩
theorem cv_F_144 : ev_CV RF 144 mO_findAll 0 3 := ⟨⟨⟨Or.inl wm_F_144, wi_O, wc_O_findAll, ⟨by decide +kernel, by decide +kernel⟩, by decide⟩, wv_O_findAll, by decide +kernel⟩, wx_O_findAll, rfl⟩
theorem cv_F_152 : ev_CV RF 152 mP_overlap 2 1 := ⟨⟨⟨Or.inl wm_F_152, wi_P, wc_P_overlap, ⟨by decide +kernel, by decide +kernel⟩, by decide⟩, wv_P_overlap, by decide +kernel⟩, wx_P_overlap, rfl⟩
theorem cv_F_165 : ev_CV RF 165 mO_segmentAt 3 3 := ⟨⟨⟨Or.inl wm_F_165, wi_O, wc_O_segmentAt, ⟨by decide +kernel, by decide +kernel⟩, by decide⟩, wv_O_segmentAt, by decide +kernel⟩, wx_O_segmentAt, rfl⟩
theorem cv_F_186 : ev_CV RF 186 mF_digitsFrom 2 0 := ⟨⟨⟨Or.inl wm_F_186, wi_F, wc_F_digitsFrom, ⟨by decide +kernel, by decide +kernel⟩, by decide⟩, wv_F_digitsFrom, by decide +kernel⟩, wx_F_digitsFrom, rfl⟩
theorem cv_F_189 : ev_CV RF 189 mF_operate 3 0 := ⟨⟨⟨Or.inl wm_F_189, wi_F, wc_F_operate, ⟨by decide +kernel, by decide +kernel⟩, by decide⟩, wv_F_operate, by decide +kernel⟩, wx_F_operate, rfl⟩
theorem cv_F_198 : ev_CV RF 198 mF_turn 0 0 := ⟨⟨⟨Or.inl wm_F_198, wi_F, wc_F_turn, ⟨by decide +kernel, by decide +kernel⟩, by decide⟩, wv_F_turn, by decide +kernel⟩, wx_F_turn, rfl⟩
theorem cv_F_202 : ev_CV RF 202 mF_numberAt 2 0 := ⟨⟨⟨Or.inl wm_F_202, wi_F, wc_F_numberAt, ⟨by decide +kernel, by decide +kernel⟩, by decide⟩, wv_F_numberAt, by decide +kernel⟩, wx_F_numberAt, rfl⟩
theorem cv_F_205 : ev_CV RF 205 mP_renew 1 1 := ⟨⟨⟨Or.inl wm_F_205, wi_P, wc_P_renew, ⟨by decide +kernel, by decide +kernel⟩, by decide⟩, wv_P_renew, by decide +kernel⟩, wx_P_renew, rfl⟩
theorem cv_F_209 : ev_CV RF 209 mP_judgeCrease 2 1 := ⟨⟨⟨Or.inl wm_F_209, wi_P, wc_P_judgeCrease, ⟨by decide +kernel, by decide +kernel⟩, by decide⟩, wv_P_judgeCrease, by decide +kernel⟩, wx_P_judgeCrease, rfl⟩
theorem cv_F_212 : ev_CV RF 212 mP_setCrease 2 1 := ⟨⟨⟨Or.inl wm_F_212, wi_P, wc_P_setCrease, ⟨by decide +kernel, by decide +kernel⟩, by decide⟩, wv_P_setCrease, by decide +kernel⟩, wx_P_setCrease, rfl⟩
theorem cv_O_31 : ev_CV RO 31 mO_decide 3 3 := ⟨⟨⟨Or.inl wm_O_31, wi_O, wc_O_decide, ⟨by decide +kernel, by decide +kernel⟩, by decide⟩, wv_O_decide, by decide +kernel⟩, wx_O_decide, rfl⟩
theorem cv_O_40 : ev_CV RO 40 mO_keep 1 3 := ⟨⟨⟨Or.inl wm_O_40, wi_O, wc_O_keep, ⟨by decide +kernel, by decide +kernel⟩, by decide⟩, wv_O_keep, by decide +kernel⟩, wx_O_keep, rfl⟩
theorem cv_O_44 : ev_CV RO 44 mP_overlap 2 1 := ⟨⟨⟨Or.inl wm_O_44, wi_P, wc_P_overlap, ⟨by decide +kernel, by decide +kernel⟩, by decide⟩, wv_P_overlap, by decide +kernel⟩, wx_P_overlap, rfl⟩
theorem cv_O_52 : ev_CV RO 52 mO_keepsMark 3 3 := ⟨⟨⟨Or.inl wm_O_52, wi_O, wc_O_keepsMark, ⟨by decide +kernel, by decide +kernel⟩, by decide⟩, wv_O_keepsMark, by decide +kernel⟩, wx_O_keepsMark, rfl⟩
theorem cv_O_56 : ev_CV RO 56 mO_makesNoRound 3 3 := ⟨⟨⟨Or.inl wm_O_56, wi_O, wc_O_makesNoRound, ⟨by decide +kernel, by decide +kernel⟩, by decide⟩, wv_O_makesNoRound, by decide +kernel⟩, wx_O_makesNoRound, rfl⟩
theorem cv_O_59 : ev_CV RO 59 mO_crossesNoCrease 3 3 := ⟨⟨⟨Or.inl wm_O_59, wi_O, wc_O_crossesNoCrease, ⟨by decide +kernel, by decide +kernel⟩, by decide⟩, wv_O_crossesNoCrease, by decide +kernel⟩, wx_O_crossesNoCrease, rfl⟩
theorem cv_O_62 : ev_CV RO 62 mO_creasesNest 3 3 := ⟨⟨⟨Or.inl wm_O_62, wi_O, wc_O_creasesNest, ⟨by decide +kernel, by decide +kernel⟩, by decide⟩, wv_O_creasesNest, by decide +kernel⟩, wx_O_creasesNest, rfl⟩
theorem cv_O_71 : ev_CV RO 71 mO_markingOf 1 3 := ⟨⟨⟨Or.inl wm_O_71, wi_O, wc_O_markingOf, ⟨by decide +kernel, by decide +kernel⟩, by decide⟩, wv_O_markingOf, by decide +kernel⟩, wx_O_markingOf, rfl⟩
theorem cv_O_81 : ev_CV RO 81 mP_frontUp 1 1 := ⟨⟨⟨Or.inl wm_O_81, wi_P, wc_P_frontUp, ⟨by decide +kernel, by decide +kernel⟩, by decide⟩, wv_P_frontUp, by decide +kernel⟩, wx_P_frontUp, rfl⟩
theorem cv_O_85 : ev_CV RO 85 mP_foldedCrease 1 1 := ⟨⟨⟨Or.inl wm_O_85, wi_P, wc_P_foldedCrease, ⟨by decide +kernel, by decide +kernel⟩, by decide⟩, wv_P_foldedCrease, by decide +kernel⟩, wx_P_foldedCrease, rfl⟩
theorem cv_O_88 : ev_CV RO 88 mP_hasInside 2 1 := ⟨⟨⟨Or.inl wm_O_88, wi_P, wc_P_hasInside, ⟨by decide +kernel, by decide +kernel⟩, by decide⟩, wv_P_hasInside, by decide +kernel⟩, wx_P_hasInside, rfl⟩
theorem cv_O_95 : ev_CV RO 95 mP_liesOver 2 1 := ⟨⟨⟨Or.inl wm_O_95, wi_P, wc_P_liesOver, ⟨by decide +kernel, by decide +kernel⟩, by decide⟩, wv_P_liesOver, by decide +kernel⟩, wx_P_liesOver, rfl⟩
theorem cv_O_98 : ev_CV RO 98 mO_below 3 3 := ⟨⟨⟨Or.inl wm_O_98, wi_O, wc_O_below, ⟨by decide +kernel, by decide +kernel⟩, by decide⟩, wv_O_below, by decide +kernel⟩, wx_O_below, rfl⟩
theorem cv_P_27 : ev_CV RP 27 mP_renew 1 1 := ⟨⟨⟨Or.inl wm_P_27, wi_P, wc_P_renew, ⟨by decide +kernel, by decide +kernel⟩, by decide⟩, wv_P_renew, by decide +kernel⟩, wx_P_renew, rfl⟩
theorem cv_P_42 : ev_CV RP 42 mP_fold 0 1 := ⟨⟨⟨Or.inl wm_P_42, wi_P, wc_P_fold, ⟨by decide +kernel, by decide +kernel⟩, by decide⟩, wv_P_fold, by decide +kernel⟩, wx_P_fold, rfl⟩
theorem cv_P_45 : ev_CV RP 45 mP_hasCreaseAt 1 1 := ⟨⟨⟨Or.inl wm_P_45, wi_P, wc_P_hasCreaseAt, ⟨by decide +kernel, by decide +kernel⟩, by decide⟩, wv_P_hasCreaseAt, by decide +kernel⟩, wx_P_hasCreaseAt, rfl⟩
theorem cv_P_49 : ev_CV RP 49 mP_creasesBefore 1 1 := ⟨⟨⟨Or.inl wm_P_49, wi_P, wc_P_creasesBefore, ⟨by decide +kernel, by decide +kernel⟩, by decide⟩, wv_P_creasesBefore, by decide +kernel⟩, wx_P_creasesBefore, rfl⟩
theorem cv_P_53 : ev_CV RP 53 mP_removeCrease 1 1 := ⟨⟨⟨Or.inl wm_P_53, wi_P, wc_P_removeCrease, ⟨by decide +kernel, by decide +kernel⟩, by decide⟩, wv_P_removeCrease, by decide +kernel⟩, wx_P_removeCrease, rfl⟩
theorem cv_P_56 : ev_CV RP 56 mP_insertCrease 3 1 := ⟨⟨⟨Or.inl wm_P_56, wi_P, wc_P_insertCrease, ⟨by decide +kernel, by decide +kernel⟩, by decide⟩, wv_P_insertCrease, by decide +kernel⟩, wx_P_insertCrease, rfl⟩
theorem cv_P_63 : ev_CV RP 63 mP_segmentLength 1 1 := ⟨⟨⟨Or.inl wm_P_63, wi_P, wc_P_segmentLength, ⟨by decide +kernel, by decide +kernel⟩, by decide⟩, wv_P_segmentLength, by decide +kernel⟩, wx_P_segmentLength, rfl⟩
theorem cv_P_75 : ev_CV RP 75 mP_rightEnd 1 1 := ⟨⟨⟨Or.inl wm_P_75, wi_P, wc_P_rightEnd, ⟨by decide +kernel, by decide +kernel⟩, by decide⟩, wv_P_rightEnd, by decide +kernel⟩, wx_P_rightEnd, rfl⟩
theorem cv_P_78 : ev_CV RP 78 mP_leftEnd 1 1 := ⟨⟨⟨Or.inl wm_P_78, wi_P, wc_P_leftEnd, ⟨by decide +kernel, by decide +kernel⟩, by decide⟩, wv_P_leftEnd, by decide +kernel⟩, wx_P_leftEnd, rfl⟩
theorem cv_P_81 : ev_CV RP 81 mP_segments 0 1 := ⟨⟨⟨Or.inl wm_P_81, wi_P, wc_P_segments, ⟨by decide +kernel, by decide +kernel⟩, by decide⟩, wv_P_segments, by decide +kernel⟩, wx_P_segments, rfl⟩
theorem cv_P_85 : ev_CV RP 85 mP_imagesOver 1 1 := ⟨⟨⟨Or.inl wm_P_85, wi_P, wc_P_imagesOver, ⟨by decide +kernel, by decide +kernel⟩, by decide⟩, wv_P_imagesOver, by decide +kernel⟩, wx_P_imagesOver, rfl⟩
theorem cv_P_88 : ev_CV RP 88 mP_liesOver 2 1 := ⟨⟨⟨Or.inl wm_P_88, wi_P, wc_P_liesOver, ⟨by decide +kernel, by decide +kernel⟩, by decide⟩, wv_P_liesOver, by decide +kernel⟩, wx_P_liesOver, rfl⟩
theorem cv_R_31 : ev_CV RR 31 mR_copyPattern 0 2 := ⟨⟨⟨Or.inl wm_R_31, wi_R, wc_R_copyPattern, ⟨by decide +kernel, by decide +kernel⟩, by decide⟩, wv_R_copyPattern, by decide +kernel⟩, wx_R_copyPattern, rfl⟩
theorem cv_R_38 : ev_CV RR 38 mR_reduceOnce 0 2 := ⟨⟨⟨Or.inl wm_R_38, wi_R, wc_R_reduceOnce, ⟨by decide +kernel, by decide +kernel⟩, by decide⟩, wv_R_reduceOnce, by decide +kernel⟩, wx_R_reduceOnce, rfl⟩
theorem cv_R_45 : ev_CV RR 45 mP_segments 0 1 := ⟨⟨⟨Or.inl wm_R_45, wi_P, wc_P_segments, ⟨by decide +kernel, by decide +kernel⟩, by decide⟩, wv_P_segments, by decide +kernel⟩, wx_P_segments, rfl⟩
theorem cv_R_51 : ev_CV RR 51 mP_segmentLength 1 1 := ⟨⟨⟨Or.inl wm_R_51, wi_P, wc_P_segmentLength, ⟨by decide +kernel, by decide +kernel⟩, by decide⟩, wv_P_segmentLength, by decide +kernel⟩, wx_P_segmentLength, rfl⟩
theorem cv_R_62 : ev_CV RR 62 mR_note 2 2 := ⟨⟨⟨Or.inl wm_R_62, wi_R, wc_R_note, ⟨by decide +kernel, by decide +kernel⟩, by decide⟩, wv_R_note, by decide +kernel⟩, wx_R_note, rfl⟩
theorem cv_R_66 : ev_CV RR 66 mR_removeLengths 2 2 := ⟨⟨⟨Or.inl wm_R_66, wi_R, wc_R_removeLengths, ⟨by decide +kernel, by decide +kernel⟩, by decide⟩, wv_R_removeLengths, by decide +kernel⟩, wx_R_removeLengths, rfl⟩
theorem cv_R_69 : ev_CV RR 69 mR_removeCreases 2 2 := ⟨⟨⟨Or.inl wm_R_69, wi_R, wc_R_removeCreases, ⟨by decide +kernel, by decide +kernel⟩, by decide⟩, wv_R_removeCreases, by decide +kernel⟩, wx_R_removeCreases, rfl⟩
theorem cv_R_72 : ev_CV RR 72 mR_leftmostPleat 0 2 := ⟨⟨⟨Or.inl wm_R_72, wi_R, wc_R_leftmostPleat, ⟨by decide +kernel, by decide +kernel⟩, by decide⟩, wv_R_leftmostPleat, by decide +kernel⟩, wx_R_leftmostPleat, rfl⟩
theorem cv_R_75 : ev_CV RR 75 mR_flatten 1 2 := ⟨⟨⟨Or.inl wm_R_75, wi_R, wc_R_flatten, ⟨by decide +kernel, by decide +kernel⟩, by decide⟩, wv_R_flatten, by decide +kernel⟩, wx_R_flatten, rfl⟩
theorem cv_L_7 : ev_CV RL 7 mF_strip 1 0 := ⟨⟨⟨Or.inl wm_L_7, wi_F, wc_F_strip, ⟨by decide +kernel, by decide +kernel⟩, by decide⟩, wv_F_strip, by decide +kernel⟩, wx_F_strip, rfl⟩
theorem cv_L_15 : ev_CV RL 15 mF_crease 2 0 := ⟨⟨⟨Or.inl wm_L_15, wi_F, wc_F_crease, ⟨by decide +kernel, by decide +kernel⟩, by decide⟩, wv_F_crease, by decide +kernel⟩, wx_F_crease, rfl⟩
theorem cv_L_21 : ev_CV RL 21 mF_segment 2 0 := ⟨⟨⟨Or.inl wm_L_21, wi_F, wc_F_segment, ⟨by decide +kernel, by decide +kernel⟩, by decide⟩, wv_F_segment, by decide +kernel⟩, wx_F_segment, rfl⟩
theorem cv_L_26 : ev_CV RL 26 mF_whereIs 1 0 := ⟨⟨⟨Or.inl wm_L_26, wi_F, wc_F_whereIs, ⟨by decide +kernel, by decide +kernel⟩, by decide⟩, wv_F_whereIs, by decide +kernel⟩, wx_F_whereIs, rfl⟩
theorem cv_L_30 : ev_CV RL 30 mF_step 2 0 := ⟨⟨⟨Or.inl wm_L_30, wi_F, wc_F_step, ⟨by decide +kernel, by decide +kernel⟩, by decide⟩, wv_F_step, by decide +kernel⟩, wx_F_step, rfl⟩
theorem cv_L_33 : ev_CV RL 33 mF_above 3 0 := ⟨⟨⟨Or.inl wm_L_33, wi_F, wc_F_above, ⟨by decide +kernel, by decide +kernel⟩, by decide⟩, wv_F_above, by decide +kernel⟩, wx_F_above, rfl⟩
theorem cv_L_37 : ev_CV RL 37 mF_layer 3 0 := ⟨⟨⟨Or.inl wm_L_37, wi_F, wc_F_layer, ⟨by decide +kernel, by decide +kernel⟩, by decide⟩, wv_F_layer, by decide +kernel⟩, wx_F_layer, rfl⟩
theorem cv_L_40 : ev_CV RL 40 mF_type 1 0 := ⟨⟨⟨Or.inl wm_L_40, wi_F, wc_F_type, ⟨by decide +kernel, by decide +kernel⟩, by decide⟩, wv_F_type, by decide +kernel⟩, wx_F_type, rfl⟩
theorem cv_L_52 : ev_CV RL 52 mM_strip 1 4 := ⟨⟨⟨Or.inl wm_L_52, wi_M, wc_M_strip, ⟨by decide +kernel, by decide +kernel⟩, by decide⟩, wv_M_strip, by decide +kernel⟩, wx_M_strip, rfl⟩
theorem cv_L_53 : ev_CV RL 53 mM_thrown 0 4 := ⟨⟨⟨Or.inl wm_L_53, wi_M, wc_M_thrown, ⟨by decide +kernel, by decide +kernel⟩, by decide⟩, wv_M_thrown, by decide +kernel⟩, wx_M_thrown, rfl⟩
theorem cv_L_60 : ev_CV RL 60 mM_crease 2 4 := ⟨⟨⟨Or.inl wm_L_60, wi_M, wc_M_crease, ⟨by decide +kernel, by decide +kernel⟩, by decide⟩, wv_M_crease, by decide +kernel⟩, wx_M_crease, rfl⟩
theorem cv_L_61 : ev_CV RL 61 mF_turn 0 0 := ⟨⟨⟨Or.inl wm_L_61, wi_F, wc_F_turn, ⟨by decide +kernel, by decide +kernel⟩, by decide⟩, wv_F_turn, by decide +kernel⟩, wx_F_turn, rfl⟩
theorem cv_L_65 : ev_CV RL 65 mM_turn 0 4 := ⟨⟨⟨Or.inl wm_L_65, wi_M, wc_M_turn, ⟨by decide +kernel, by decide +kernel⟩, by decide⟩, wv_M_turn, by decide +kernel⟩, wx_M_turn, rfl⟩
theorem cv_L_66 : ev_CV RL 66 mF_count 1 0 := ⟨⟨⟨Or.inl wm_L_66, wi_F, wc_F_count, ⟨by decide +kernel, by decide +kernel⟩, by decide⟩, wv_F_count, by decide +kernel⟩, wx_F_count, rfl⟩
theorem cv_L_69 : ev_CV RL 69 mM_count 1 4 := ⟨⟨⟨Or.inl wm_L_69, wi_M, wc_M_count, ⟨by decide +kernel, by decide +kernel⟩, by decide⟩, wv_M_count, by decide +kernel⟩, wx_M_count, rfl⟩
theorem cv_L_72 : ev_CV RL 72 mM_segment 2 4 := ⟨⟨⟨Or.inl wm_L_72, wi_M, wc_M_segment, ⟨by decide +kernel, by decide +kernel⟩, by decide⟩, wv_M_segment, by decide +kernel⟩, wx_M_segment, rfl⟩
theorem cv_L_76 : ev_CV RL 76 mM_whereIs 1 4 := ⟨⟨⟨Or.inl wm_L_76, wi_M, wc_M_whereIs, ⟨by decide +kernel, by decide +kernel⟩, by decide⟩, wv_M_whereIs, by decide +kernel⟩, wx_M_whereIs, rfl⟩
theorem cv_L_77 : ev_CV RL 77 mF_width 0 0 := ⟨⟨⟨Or.inl wm_L_77, wi_F, wc_F_width, ⟨by decide +kernel, by decide +kernel⟩, by decide⟩, wv_F_width, by decide +kernel⟩, wx_F_width, rfl⟩
theorem cv_L_80 : ev_CV RL 80 mM_width 0 4 := ⟨⟨⟨Or.inl wm_L_80, wi_M, wc_M_width, ⟨by decide +kernel, by decide +kernel⟩, by decide⟩, wv_M_width, by decide +kernel⟩, wx_M_width, rfl⟩
theorem cv_L_81 : ev_CV RL 81 mF_thickness 0 0 := ⟨⟨⟨Or.inl wm_L_81, wi_F, wc_F_thickness, ⟨by decide +kernel, by decide +kernel⟩, by decide⟩, wv_F_thickness, by decide +kernel⟩, wx_F_thickness, rfl⟩
theorem cv_L_84 : ev_CV RL 84 mM_thickness 0 4 := ⟨⟨⟨Or.inl wm_L_84, wi_M, wc_M_thickness, ⟨by decide +kernel, by decide +kernel⟩, by decide⟩, wv_M_thickness, by decide +kernel⟩, wx_M_thickness, rfl⟩
theorem cv_L_85 : ev_CV RL 85 mF_foldable 0 0 := ⟨⟨⟨Or.inl wm_L_85, wi_F, wc_F_foldable, ⟨by decide +kernel, by decide +kernel⟩, by decide⟩, wv_F_foldable, by decide +kernel⟩, wx_F_foldable, rfl⟩
theorem cv_L_88 : ev_CV RL 88 mM_foldable 0 4 := ⟨⟨⟨Or.inl wm_L_88, wi_M, wc_M_foldable, ⟨by decide +kernel, by decide +kernel⟩, by decide⟩, wv_M_foldable, by decide +kernel⟩, wx_M_foldable, rfl⟩
theorem cv_L_89 : ev_CV RL 89 mF_steps 0 0 := ⟨⟨⟨Or.inl wm_L_89, wi_F, wc_F_steps, ⟨by decide +kernel, by decide +kernel⟩, by decide⟩, wv_F_steps, by decide +kernel⟩, wx_F_steps, rfl⟩
theorem cv_L_92 : ev_CV RL 92 mM_steps 0 4 := ⟨⟨⟨Or.inl wm_L_92, wi_M, wc_M_steps, ⟨by decide +kernel, by decide +kernel⟩, by decide⟩, wv_M_steps, by decide +kernel⟩, wx_M_steps, rfl⟩
theorem cv_L_95 : ev_CV RL 95 mM_step 2 4 := ⟨⟨⟨Or.inl wm_L_95, wi_M, wc_M_step, ⟨by decide +kernel, by decide +kernel⟩, by decide⟩, wv_M_step, by decide +kernel⟩, wx_M_step, rfl⟩
theorem cv_L_96 : ev_CV RL 96 mF_orders 0 0 := ⟨⟨⟨Or.inl wm_L_96, wi_F, wc_F_orders, ⟨by decide +kernel, by decide +kernel⟩, by decide⟩, wv_F_orders, by decide +kernel⟩, wx_F_orders, rfl⟩
theorem cv_L_99 : ev_CV RL 99 mM_orders 0 4 := ⟨⟨⟨Or.inl wm_L_99, wi_M, wc_M_orders, ⟨by decide +kernel, by decide +kernel⟩, by decide⟩, wv_M_orders, by decide +kernel⟩, wx_M_orders, rfl⟩
theorem cv_L_103 : ev_CV RL 103 mM_above 3 4 := ⟨⟨⟨Or.inl wm_L_103, wi_M, wc_M_above, ⟨by decide +kernel, by decide +kernel⟩, by decide⟩, wv_M_above, by decide +kernel⟩, wx_M_above, rfl⟩
theorem cv_L_106 : ev_CV RL 106 mM_layer 3 4 := ⟨⟨⟨Or.inl wm_L_106, wi_M, wc_M_layer, ⟨by decide +kernel, by decide +kernel⟩, by decide⟩, wv_M_layer, by decide +kernel⟩, wx_M_layer, rfl⟩
theorem cv_L_107 : ev_CV RL 107 mF_marks 0 0 := ⟨⟨⟨Or.inl wm_L_107, wi_F, wc_F_marks, ⟨by decide +kernel, by decide +kernel⟩, by decide⟩, wv_F_marks, by decide +kernel⟩, wx_F_marks, rfl⟩
theorem cv_L_110 : ev_CV RL 110 mM_marks 0 4 := ⟨⟨⟨Or.inl wm_L_110, wi_M, wc_M_marks, ⟨by decide +kernel, by decide +kernel⟩, by decide⟩, wv_M_marks, by decide +kernel⟩, wx_M_marks, rfl⟩
theorem cv_L_113 : ev_CV RL 113 mM_type 1 4 := ⟨⟨⟨Or.inl wm_L_113, wi_M, wc_M_type, ⟨by decide +kernel, by decide +kernel⟩, by decide⟩, wv_M_type, by decide +kernel⟩, wx_M_type, rfl⟩
theorem cv_L_114 : ev_CV RL 114 mF_run 0 0 := ⟨⟨⟨Or.inl wm_L_114, wi_F, wc_F_run, ⟨by decide +kernel, by decide +kernel⟩, by decide⟩, wv_F_run, by decide +kernel⟩, wx_F_run, rfl⟩
theorem cv_L_117 : ev_CV RL 117 mM_run 0 4 := ⟨⟨⟨Or.inl wm_L_117, wi_M, wc_M_run, ⟨by decide +kernel, by decide +kernel⟩, by decide⟩, wv_M_run, by decide +kernel⟩, wx_M_run, rfl⟩
theorem cv_M_59 : ev_CV RM 59 mM_refuse 2 4 := ⟨⟨⟨Or.inl wm_M_59, wi_M, wc_M_refuse, ⟨by decide +kernel, by decide +kernel⟩, by decide⟩, wv_M_refuse, by decide +kernel⟩, wx_M_refuse, rfl⟩
theorem cv_M_70 : ev_CV RM 70 mM_before 1 4 := ⟨⟨⟨Or.inl wm_M_70, wi_M, wc_M_before, ⟨by decide +kernel, by decide +kernel⟩, by decide⟩, wv_M_before, by decide +kernel⟩, wx_M_before, rfl⟩
theorem cv_M_74 : ev_CV RM 74 mM_free 0 4 := ⟨⟨⟨Or.inl wm_M_74, wi_M, wc_M_free, ⟨by decide +kernel, by decide +kernel⟩, by decide⟩, wv_M_free, by decide +kernel⟩, wx_M_free, rfl⟩
theorem cv_M_81 : ev_CV RM 81 mM_leftEnd 1 4 := ⟨⟨⟨Or.inl wm_M_81, wi_M, wc_M_leftEnd, ⟨by decide +kernel, by decide +kernel⟩, by decide⟩, wv_M_leftEnd, by decide +kernel⟩, wx_M_leftEnd, rfl⟩
theorem cv_M_84 : ev_CV RM 84 mM_fold 1 4 := ⟨⟨⟨Or.inl wm_M_84, wi_M, wc_M_fold, ⟨by decide +kernel, by decide +kernel⟩, by decide⟩, wv_M_fold, by decide +kernel⟩, wx_M_fold, rfl⟩
theorem cv_M_87 : ev_CV RM 87 mM_rightEnd 1 4 := ⟨⟨⟨Or.inl wm_M_87, wi_M, wc_M_rightEnd, ⟨by decide +kernel, by decide +kernel⟩, by decide⟩, wv_M_rightEnd, by decide +kernel⟩, wx_M_rightEnd, rfl⟩
theorem cv_M_90 : ev_CV RM 90 mM_low 1 4 := ⟨⟨⟨Or.inl wm_M_90, wi_M, wc_M_low, ⟨by decide +kernel, by decide +kernel⟩, by decide⟩, wv_M_low, by decide +kernel⟩, wx_M_low, rfl⟩
theorem cv_M_93 : ev_CV RM 93 mM_high 1 4 := ⟨⟨⟨Or.inl wm_M_93, wi_M, wc_M_high, ⟨by decide +kernel, by decide +kernel⟩, by decide⟩, wv_M_high, by decide +kernel⟩, wx_M_high, rfl⟩
theorem cv_M_96 : ev_CV RM 96 mM_isUp 1 4 := ⟨⟨⟨Or.inl wm_M_96, wi_M, wc_M_isUp, ⟨by decide +kernel, by decide +kernel⟩, by decide⟩, wv_M_isUp, by decide +kernel⟩, wx_M_isUp, rfl⟩
theorem cv_M_100 : ev_CV RM 100 mM_covers 2 4 := ⟨⟨⟨Or.inl wm_M_100, wi_M, wc_M_covers, ⟨by decide +kernel, by decide +kernel⟩, by decide⟩, wv_M_covers, by decide +kernel⟩, wx_M_covers, rfl⟩
theorem cv_M_110 : ev_CV RM 110 mM_middle 0 4 := ⟨⟨⟨Or.inl wm_M_110, wi_M, wc_M_middle, ⟨by decide +kernel, by decide +kernel⟩, by decide⟩, wv_M_middle, by decide +kernel⟩, wx_M_middle, rfl⟩
theorem cv_M_113 : ev_CV RM 113 mM_note 2 4 := ⟨⟨⟨Or.inl wm_M_113, wi_M, wc_M_note, ⟨by decide +kernel, by decide +kernel⟩, by decide⟩, wv_M_note, by decide +kernel⟩, wx_M_note, rfl⟩
theorem cv_M_117 : ev_CV RM 117 mM_drop 1 4 := ⟨⟨⟨Or.inl wm_M_117, wi_M, wc_M_drop, ⟨by decide +kernel, by decide +kernel⟩, by decide⟩, wv_M_drop, by decide +kernel⟩, wx_M_drop, rfl⟩
theorem cv_M_121 : ev_CV RM 121 mM_reduce 0 4 := ⟨⟨⟨Or.inl wm_M_121, wi_M, wc_M_reduce, ⟨by decide +kernel, by decide +kernel⟩, by decide⟩, wv_M_reduce, by decide +kernel⟩, wx_M_reduce, rfl⟩
theorem cv_M_124 : ev_CV RM 124 mM_get 2 4 := ⟨⟨⟨Or.inl wm_M_124, wi_M, wc_M_get, ⟨by decide +kernel, by decide +kernel⟩, by decide⟩, wv_M_get, by decide +kernel⟩, wx_M_get, rfl⟩
theorem cv_M_128 : ev_CV RM 128 mM_between 3 4 := ⟨⟨⟨Or.inl wm_M_128, wi_M, wc_M_between, ⟨by decide +kernel, by decide +kernel⟩, by decide⟩, wv_M_between, by decide +kernel⟩, wx_M_between, rfl⟩
theorem cv_M_132 : ev_CV RM 132 mM_overlap 2 4 := ⟨⟨⟨Or.inl wm_M_132, wi_M, wc_M_overlap, ⟨by decide +kernel, by decide +kernel⟩, by decide⟩, wv_M_overlap, by decide +kernel⟩, wx_M_overlap, rfl⟩
theorem cv_M_135 : ev_CV RM 135 mM_turnsRound 3 4 := ⟨⟨⟨Or.inl wm_M_135, wi_M, wc_M_turnsRound, ⟨by decide +kernel, by decide +kernel⟩, by decide⟩, wv_M_turnsRound, by decide +kernel⟩, wx_M_turnsRound, rfl⟩
theorem cv_M_139 : ev_CV RM 139 mM_isMarked 1 4 := ⟨⟨⟨Or.inl wm_M_139, wi_M, wc_M_isMarked, ⟨by decide +kernel, by decide +kernel⟩, by decide⟩, wv_M_isMarked, by decide +kernel⟩, wx_M_isMarked, rfl⟩
theorem cv_M_142 : ev_CV RM 142 mM_isClear 1 4 := ⟨⟨⟨Or.inl wm_M_142, wi_M, wc_M_isClear, ⟨by decide +kernel, by decide +kernel⟩, by decide⟩, wv_M_isClear, by decide +kernel⟩, wx_M_isClear, rfl⟩
theorem cv_M_145 : ev_CV RM 145 mM_arePeaceful 2 4 := ⟨⟨⟨Or.inl wm_M_145, wi_M, wc_M_arePeaceful, ⟨by decide +kernel, by decide +kernel⟩, by decide⟩, wv_M_arePeaceful, by decide +kernel⟩, wx_M_arePeaceful, rfl⟩
theorem cv_M_148 : ev_CV RM 148 mM_set 3 4 := ⟨⟨⟨Or.inl wm_M_148, wi_M, wc_M_set, ⟨by decide +kernel, by decide +kernel⟩, by decide⟩, wv_M_set, by decide +kernel⟩, wx_M_set, rfl⟩
theorem cv_M_152 : ev_CV RM 152 mM_begin 0 4 := ⟨⟨⟨Or.inl wm_M_152, wi_M, wc_M_begin, ⟨by decide +kernel, by decide +kernel⟩, by decide⟩, wv_M_begin, by decide +kernel⟩, wx_M_begin, rfl⟩
theorem cv_M_158 : ev_CV RM 158 mM_holds 0 4 := ⟨⟨⟨Or.inl wm_M_158, wi_M, wc_M_holds, ⟨by decide +kernel, by decide +kernel⟩, by decide⟩, wv_M_holds, by decide +kernel⟩, wx_M_holds, rfl⟩
theorem cv_M_163 : ev_CV RM 163 mM_look 1 4 := ⟨⟨⟨Or.inl wm_M_163, wi_M, wc_M_look, ⟨by decide +kernel, by decide +kernel⟩, by decide⟩, wv_M_look, by decide +kernel⟩, wx_M_look, rfl⟩
theorem cv_M_166 : ev_CV RM 166 mM_strip 1 4 := ⟨⟨⟨Or.inl wm_M_166, wi_M, wc_M_strip, ⟨by decide +kernel, by decide +kernel⟩, by decide⟩, wv_M_strip, by decide +kernel⟩, wx_M_strip, rfl⟩
theorem cv_M_169 : ev_CV RM 169 mM_crease 2 4 := ⟨⟨⟨Or.inl wm_M_169, wi_M, wc_M_crease, ⟨by decide +kernel, by decide +kernel⟩, by decide⟩, wv_M_crease, by decide +kernel⟩, wx_M_crease, rfl⟩
theorem cv_M_172 : ev_CV RM 172 mM_sign 2 4 := ⟨⟨⟨Or.inl wm_M_172, wi_M, wc_M_sign, ⟨by decide +kernel, by decide +kernel⟩, by decide⟩, wv_M_sign, by decide +kernel⟩, wx_M_sign, rfl⟩
theorem cv_M_178 : ev_CV RM 178 mM_does 2 4 := ⟨⟨⟨Or.inl wm_M_178, wi_M, wc_M_does, ⟨by decide +kernel, by decide +kernel⟩, by decide⟩, wv_M_does, by decide +kernel⟩, wx_M_does, rfl⟩
theorem nc_L_8 : ev_NC RL 8 0 [.null, .null, .null, .null, ev_i 0] 5 := ⟨RF, TF, tF, cf_F, tF_ok, wk_L_8, wn_F, wi_F, by decide +kernel, (List.forall_mem_cons.mpr ⟨fun _ => rfl, (List.forall_mem_cons.mpr ⟨fun _ => rfl, (List.forall_mem_cons.mpr ⟨fun _ => rfl, (List.forall_mem_cons.mpr ⟨fun _ => rfl, (List.forall_mem_cons.mpr ⟨fun _ => rfl, (fun _ h => absurd h List.not_mem_nil)⟩)⟩)⟩)⟩)⟩)⟩
theorem nc_F_9 : ev_NC RF 9 1 [ev_i 0, ev_i 0, ev_i 0, .null, .null, .null, .null, .null] 8 := ⟨RP, TP, tP, cf_P, tP_ok, wk_F_9, wn_P, wi_P, by decide +kernel, (List.forall_mem_cons.mpr ⟨fun _ => rfl, (List.forall_mem_cons.mpr ⟨fun _ => rfl, (List.forall_mem_cons.mpr ⟨fun _ => rfl, (List.forall_mem_cons.mpr ⟨fun _ => rfl, (List.forall_mem_cons.mpr ⟨fun _ => rfl, (List.forall_mem_cons.mpr ⟨fun _ => rfl, (List.forall_mem_cons.mpr ⟨fun _ => rfl, (List.forall_mem_cons.mpr ⟨fun _ => rfl, (fun _ h => absurd h List.not_mem_nil)⟩)⟩)⟩)⟩)⟩)⟩)⟩)⟩)⟩
theorem nc_F_16 : ev_NC RF 16 2 [.null, .null, .null, .null, ev_i 0, ev_i 0, .null, .null] 8 := ⟨RR, TR, tR, cf_R, tR_ok, wk_F_16, wn_R, wi_R, by decide +kernel, (List.forall_mem_cons.mpr ⟨fun _ => rfl, (List.forall_mem_cons.mpr ⟨fun _ => rfl, (List.forall_mem_cons.mpr ⟨fun _ => rfl, (List.forall_mem_cons.mpr ⟨fun _ => rfl, (List.forall_mem_cons.mpr ⟨fun _ => rfl, (List.forall_mem_cons.mpr ⟨fun _ => rfl, (List.forall_mem_cons.mpr ⟨fun _ => rfl, (List.forall_mem_cons.mpr ⟨fun _ => rfl, (fun _ h => absurd h List.not_mem_nil)⟩)⟩)⟩)⟩)⟩)⟩)⟩)⟩)⟩
theorem nc_F_25 : ev_NC RF 25 3 [.null, ev_i 0, ev_i 0, .null, .long 0] 5 := ⟨RO, TO, tO, cf_O, tO_ok, wk_F_25, wn_O, wi_O, by decide +kernel, (List.forall_mem_cons.mpr ⟨fun _ => rfl, (List.forall_mem_cons.mpr ⟨fun _ => rfl, (List.forall_mem_cons.mpr ⟨fun _ => rfl, (List.forall_mem_cons.mpr ⟨fun _ => rfl, (List.forall_mem_cons.mpr ⟨fun _ => rfl, (fun _ h => absurd h List.not_mem_nil)⟩)⟩)⟩)⟩)⟩)⟩
theorem nc_L_44 : ev_NC RL 44 4 [ev_i 0, ev_i 0, ev_i 0, .null, .null, ev_i 0, .null, ev_i 0, .null, .null, .null, .null, .null, .null, ev_i 0, .null, .null, .null, ev_i 0, .null, .null, ev_i 0] 22 := ⟨RM, TM, tM, cf_M, tM_ok, wk_L_44, wn_M, wi_M, by decide +kernel, (List.forall_mem_cons.mpr ⟨fun _ => rfl, (List.forall_mem_cons.mpr ⟨fun _ => rfl, (List.forall_mem_cons.mpr ⟨fun _ => rfl, (List.forall_mem_cons.mpr ⟨fun _ => rfl, (List.forall_mem_cons.mpr ⟨fun _ => rfl, (List.forall_mem_cons.mpr ⟨fun _ => rfl, (List.forall_mem_cons.mpr ⟨fun _ => rfl, (List.forall_mem_cons.mpr ⟨fun _ => rfl, (List.forall_mem_cons.mpr ⟨fun _ => rfl, (List.forall_mem_cons.mpr ⟨fun _ => rfl, (List.forall_mem_cons.mpr ⟨fun _ => rfl, (List.forall_mem_cons.mpr ⟨fun _ => rfl, (List.forall_mem_cons.mpr ⟨fun _ => rfl, (List.forall_mem_cons.mpr ⟨fun _ => rfl, (List.forall_mem_cons.mpr ⟨fun _ => rfl, (List.forall_mem_cons.mpr ⟨fun _ => rfl, (List.forall_mem_cons.mpr ⟨fun _ => rfl, (List.forall_mem_cons.mpr ⟨fun _ => rfl, (List.forall_mem_cons.mpr ⟨fun _ => rfl, (List.forall_mem_cons.mpr ⟨fun _ => rfl, (List.forall_mem_cons.mpr ⟨fun _ => rfl, (List.forall_mem_cons.mpr ⟨fun _ => rfl, (fun _ h => absurd h List.not_mem_nil)⟩)⟩)⟩)⟩)⟩)⟩)⟩)⟩)⟩)⟩)⟩)⟩)⟩)⟩)⟩)⟩)⟩)⟩)⟩)⟩)⟩)⟩)⟩
end
section
/-! an end that is one: the answer w, the heap h1; calls of such methods; truth values -/
def ev_V (w : Option Value) (h1 : List ev_AC) : ev_O → List ev_AC → Prop := fun o h' => o = .inl w ∧ h' = h1
def ev_b (b : Bool) : Int := if b then 1 else 0
theorem ev_b01 (b : Bool) : ev_b b = 0 ∨ ev_b b = 1 := by cases b <;> simp [ev_b]
theorem ev_b_t : ev_b true = 1 := rfl
theorem ev_b_f : ev_b false = 0 := rfl
section EVP
variable {g : ev_G} {X : Bool} {M : ev_M} {d pc : Nat} {ls : List (Option Value)} {st : List Value} {h : List ev_AC} {kc ks : Nat} {Q : ev_O → List ev_AC → Prop}
theorem ev_cV {M' : ev_M} {idx n ci b mc ms : Nat} {as rest : List Value} {fs : List Value} {w : Value} {h1 : List ev_AC} (hd : decode M.2.1 pc = .ok (.invokevirtual idx, 3)) (F : ev_CV M.1.cls idx M' n ci) (hC : ev_C g M' d (.ref b :: as) h mc ms (ev_V (some w) h1)) (hn : as.length = n) (hc : h[b]? = some (.inr (ci, fs))) (hst : as.reverse ++ .ref b :: rest = st) (hs : (rest.map fun v => v.category).sum ≤ 8)
    (hmc : mc ≤ kc) (hms : ms ≤ ks) (kk : ev_E g X M (d + 1) (pc + 3) ls (w :: rest) h1 (kc - mc) (ks - ms) Q) : ev_E g X M (d + 1) pc ls st h kc ks Q :=
  ev_callV hd F hn hc hs hC hmc hms hst (fun v h' q => by obtain ⟨q1, q2⟩ := q; cases q1; subst q2; exact kk)
theorem ev_cVv {M' : ev_M} {idx n ci b mc ms : Nat} {as rest : List Value} {fs : List Value} {h1 : List ev_AC} (hd : decode M.2.1 pc = .ok (.invokevirtual idx, 3)) (F : ev_CV M.1.cls idx M' n ci) (hC : ev_C g M' d (.ref b :: as) h mc ms (ev_V none h1)) (hn : as.length = n) (hc : h[b]? = some (.inr (ci, fs))) (hst : as.reverse ++ .ref b :: rest = st) (hs : (rest.map fun v => v.category).sum ≤ 8)
    (hmc : mc ≤ kc) (hms : ms ≤ ks) (kk : ev_E g X M (d + 1) (pc + 3) ls rest h1 (kc - mc) (ks - ms) Q) : ev_E g X M (d + 1) pc ls st h kc ks Q :=
  ev_callV hd F hn hc hs hC hmc hms hst (fun v h' q => by obtain ⟨q1, q2⟩ := q; cases q1; subst q2; exact kk)
theorem ev_cS {M' : ev_M} {idx n mc ms : Nat} {as rest : List Value} {w : Value} {h1 : List ev_AC} (hd : decode M.2.1 pc = .ok (.invokestatic idx, 3)) (F : ev_CS M.1.cls idx M' n) (hC : ev_C g M' d as h mc ms (ev_V (some w) h1)) (hn : as.length = n) (hst : as.reverse ++ rest = st) (hs : (rest.map fun v => v.category).sum ≤ 8)
    (hmc : mc ≤ kc) (hms : ms ≤ ks) (kk : ev_E g X M (d + 1) (pc + 3) ls (w :: rest) h1 (kc - mc) (ks - ms) Q) : ev_E g X M (d + 1) pc ls st h kc ks Q :=
  ev_callS hd F hn hs hC hmc hms hst (fun v h' q => by obtain ⟨q1, q2⟩ := q; cases q1; subst q2; exact kk)
theorem ev_cI {M' : ev_M} {idx n b mc ms : Nat} {as rest : List Value} {h1 : List ev_AC} (hd : decode M.2.1 pc = .ok (.invokespecial idx, 3)) (F : ev_CI M.1.cls idx M' n) (hC : ev_C g M' d (.ref b :: as) h mc ms (ev_V none h1)) (hini : M'.1.name = "<init>") (hret : M'.2.2.2.1 = none) (hn : as.length = n) (hst : as.reverse ++ .ref b :: rest = st) (hs : (rest.map fun v => v.category).sum ≤ 8)
    (hmc : mc ≤ kc) (hms : ms ≤ ks) (kk : ev_E g X M (d + 1) (pc + 3) ls rest h1 (kc - mc) (ks - ms) Q) : ev_E g X M (d + 1) pc ls st h kc ks Q :=
  ev_callI hd F hini hret hn hs hC hmc hms hst (fun v h' q => by obtain ⟨q1, q2⟩ := q; cases q1; subst q2; exact kk)
/-- ifeq, ifne on a truth value -/
theorem ev_bz {b : Bool} {off : Int} {tgt : Nat} (hd : decode M.2.1 pc = .ok (.ifCond .eq off, 3)) (ht : (pc : Int) + off = (tgt : Int)) (kt : b = false → ev_E g X M d tgt ls st h kc ks Q) (kf : b = true → ev_E g X M d (pc + 3) ls st h kc ks Q) : ev_E g X M d pc ls (ev_i (ev_b b) :: st) h kc ks Q := by
  refine ev_if_eq hd ht (by rcases ev_b01 b with q | q <;> omega) (by rcases ev_b01 b with q | q <;> omega) (fun hz => kt ?_) (fun hz => kf ?_)
  · cases b
    · rfl
    · exact absurd hz (by decide)
  · cases b
    · exact absurd rfl hz
    · rfl
theorem ev_bn {b : Bool} {off : Int} {tgt : Nat} (hd : decode M.2.1 pc = .ok (.ifCond .ne off, 3)) (ht : (pc : Int) + off = (tgt : Int)) (kt : b = true → ev_E g X M d tgt ls st h kc ks Q) (kf : b = false → ev_E g X M d (pc + 3) ls st h kc ks Q) : ev_E g X M d pc ls (ev_i (ev_b b) :: st) h kc ks Q := by
  refine ev_if_ne hd ht (by rcases ev_b01 b with q | q <;> omega) (by rcases ev_b01 b with q | q <;> omega) (fun hz => kt ?_) (fun hz => kf ?_)
  · cases b
    · exact absurd rfl hz
    · rfl
  · cases b
    · rfl
    · exact absurd hz (by decide)
/-- the same, less room -/
theorem ev_room {kc' ks' : Nat} (h1 : kc' ≤ kc) (h2 : ks' ≤ ks) (k : ev_E g X M d pc ls st h kc' ks' Q) : ev_E g X M d pc ls st h kc ks Q := fun p e R s m args below meth c H locs cells slots rls C =>
  k p e R s m args below meth c H locs cells slots rls ⟨C.1, C.2.1, C.2.2.1, C.2.2.2.1, ⟨by have := C.2.2.2.2.1.1; omega, by have := C.2.2.2.2.1.2; omega⟩, C.2.2.2.2.2⟩
theorem ev_deep {d' : Nat} (h1 : d' ≤ d) (k : ev_E g X M d' pc ls st h kc ks Q) : ev_E g X M d pc ls st h kc ks Q := fun p e R s m args below meth c H locs cells slots rls C =>
  k p e R s m args below meth c H locs cells slots rls ⟨C.1, ⟨by have := C.2.1.1; omega, by have := C.2.1.2; omega⟩, C.2.2.1, C.2.2.2.1, C.2.2.2.2.1, C.2.2.2.2.2⟩
/-- Math.max, Math.min -/
theorem ev_max {idx : Nat} {a b : Int} (hd : decode M.2.1 pc = .ok (.invokestatic idx, 3)) (w1 : Cond.methodLink M.1.cls idx Lib.Math.max.name ∈ ev_WS) (w2 : Cond.static Lib.Math.max.name ∈ ev_WS) (w3 : Cond.code Lib.Math.max.name Lib.Math.max.code 2 (some .int) ∈ ev_WS) (hs : (st.map fun v => v.category).sum ≤ 8)
    (a1 : -2147483648 ≤ a) (a2 : a < 2147483648) (b1 : -2147483648 ≤ b) (b2 : b < 2147483648) (kk : ev_E g X M (d + 1) (pc + 3) ls (ev_i (if a < b then b else a) :: st) h kc ks Q) : ev_E g X M (d + 1) pc ls (ev_i b :: ev_i a :: st) h kc ks Q := by
  intro p e R s m args below meth c H locs cells slots rls C
  have kk := kk p e R s m args below meth c H locs cells slots rls C
  obtain ⟨hx, hb, hml, hown, hts, -⟩ := C.1
  have hs' := ev_rv_sum g st
  have hcc := C.2.2.2.2.1
  refine va_mmax (x := Int32.ofInt a) (y := Int32.ofInt b) hx hb (by rw [hml]; exact C.2.2.2.2.2.2.1.1.symm) hown (hts _ w1) (hts _ w2) (hts _ wi_Math) (hts _ w3) (by have := C.2.1.1; omega) (by have := C.2.1.2; omega) (by omega) (by omega) hd ?_
  have : (if Int32.ofInt a < Int32.ofInt b then Int32.ofInt b else Int32.ofInt a) = Int32.ofInt (if a < b then b else a) := by
    by_cases hab : a < b
    · rw [if_pos hab, if_pos ((ev_lt a1 a2 b1 b2).mpr hab)]
    · rw [if_neg hab, if_neg (fun q => hab ((ev_lt a1 a2 b1 b2).mp q))]
  rw [this]
  exact kk
theorem ev_min {idx : Nat} {a b : Int} (hd : decode M.2.1 pc = .ok (.invokestatic idx, 3)) (w1 : Cond.methodLink M.1.cls idx Lib.Math.min.name ∈ ev_WS) (w2 : Cond.static Lib.Math.min.name ∈ ev_WS) (w3 : Cond.code Lib.Math.min.name Lib.Math.min.code 2 (some .int) ∈ ev_WS) (hs : (st.map fun v => v.category).sum ≤ 8)
    (a1 : -2147483648 ≤ a) (a2 : a < 2147483648) (b1 : -2147483648 ≤ b) (b2 : b < 2147483648) (kk : ev_E g X M (d + 1) (pc + 3) ls (ev_i (if b < a then b else a) :: st) h kc ks Q) : ev_E g X M (d + 1) pc ls (ev_i b :: ev_i a :: st) h kc ks Q := by
  intro p e R s m args below meth c H locs cells slots rls C
  have kk := kk p e R s m args below meth c H locs cells slots rls C
  obtain ⟨hx, hb, hml, hown, hts, -⟩ := C.1
  have hs' := ev_rv_sum g st
  have hcc := C.2.2.2.2.1
  refine va_mmin (x := Int32.ofInt a) (y := Int32.ofInt b) hx hb (by rw [hml]; exact C.2.2.2.2.2.2.1.1.symm) hown (hts _ w1) (hts _ w2) (hts _ wi_Math) (hts _ w3) (by have := C.2.1.1; omega) (by have := C.2.1.2; omega) (by omega) (by omega) hd ?_
  have : (if Int32.ofInt b < Int32.ofInt a then Int32.ofInt b else Int32.ofInt a) = Int32.ofInt (if b < a then b else a) := by
    by_cases hab : b < a
    · rw [if_pos hab, if_pos ((ev_lt b1 b2 a1 a2).mpr hab)]
    · rw [if_neg hab, if_neg (fun q => hab ((ev_lt b1 b2 a1 a2).mp q))]
  rw [this]
  exact kk
end EVP
end
