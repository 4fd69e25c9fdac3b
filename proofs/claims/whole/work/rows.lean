section
-- ===== PART A: goes FIRST, ahead of the names: the tables' words, and 'selects' of the private methods out of them =====
/-- a private method of a class that the tables say can be made, by its rows of tables_1 -/
def lw_okq (q : MethodName × Nat) : Prop := (q.1.cls ≠ "java/lang/invoke/MethodHandle" ∧ q.1.cls ≠ "java/lang/invoke/VarHandle") ∧ Cond.instantiable q.1.cls q.2 ∈ tables_1 ∧ Cond.privateMethod q.1 ∈ tables_1 ∧ Cond.instanceMethod q.1 ∈ tables_1
theorem lw_p0 : lw_okq (⟨"FoldLaboratory$Paper", "fold", "()V"⟩, 8) := ⟨⟨by decide +kernel, by decide +kernel⟩, List.mem_of_getElem? (i := 25) (by decide +kernel), List.mem_of_getElem? (i := 35) (by decide +kernel), List.mem_of_getElem? (i := 36) (by decide +kernel)⟩
theorem lw_p1 : lw_okq (⟨"FoldLaboratory$Paper", "imagesOver", "(I)I"⟩, 8) := ⟨⟨by decide +kernel, by decide +kernel⟩, List.mem_of_getElem? (i := 25) (by decide +kernel), List.mem_of_getElem? (i := 213) (by decide +kernel), List.mem_of_getElem? (i := 214) (by decide +kernel)⟩
theorem lw_p2 : lw_okq (⟨"FoldLaboratory$Reductions", "copyPattern", "()V"⟩, 8) := ⟨⟨by decide +kernel, by decide +kernel⟩, List.mem_of_getElem? (i := 97) (by decide +kernel), List.mem_of_getElem? (i := 229) (by decide +kernel), List.mem_of_getElem? (i := 230) (by decide +kernel)⟩
theorem lw_p3 : lw_okq (⟨"FoldLaboratory$Reductions", "reduceOnce", "()Z"⟩, 8) := ⟨⟨by decide +kernel, by decide +kernel⟩, List.mem_of_getElem? (i := 97) (by decide +kernel), List.mem_of_getElem? (i := 235) (by decide +kernel), List.mem_of_getElem? (i := 236) (by decide +kernel)⟩
theorem lw_p4 : lw_okq (⟨"FoldLaboratory$Reductions", "note", "(II)V"⟩, 8) := ⟨⟨by decide +kernel, by decide +kernel⟩, List.mem_of_getElem? (i := 97) (by decide +kernel), List.mem_of_getElem? (i := 239) (by decide +kernel), List.mem_of_getElem? (i := 240) (by decide +kernel)⟩
theorem lw_p5 : lw_okq (⟨"FoldLaboratory$Reductions", "removeLengths", "(II)V"⟩, 8) := ⟨⟨by decide +kernel, by decide +kernel⟩, List.mem_of_getElem? (i := 97) (by decide +kernel), List.mem_of_getElem? (i := 243) (by decide +kernel), List.mem_of_getElem? (i := 244) (by decide +kernel)⟩
theorem lw_p6 : lw_okq (⟨"FoldLaboratory$Reductions", "removeCreases", "(II)V"⟩, 8) := ⟨⟨by decide +kernel, by decide +kernel⟩, List.mem_of_getElem? (i := 97) (by decide +kernel), List.mem_of_getElem? (i := 247) (by decide +kernel), List.mem_of_getElem? (i := 248) (by decide +kernel)⟩
theorem lw_p7 : lw_okq (⟨"FoldLaboratory$Reductions", "leftmostPleat", "()I"⟩, 8) := ⟨⟨by decide +kernel, by decide +kernel⟩, List.mem_of_getElem? (i := 97) (by decide +kernel), List.mem_of_getElem? (i := 251) (by decide +kernel), List.mem_of_getElem? (i := 252) (by decide +kernel)⟩
theorem lw_p8 : lw_okq (⟨"FoldLaboratory$Reductions", "flatten", "(I)V"⟩, 8) := ⟨⟨by decide +kernel, by decide +kernel⟩, List.mem_of_getElem? (i := 97) (by decide +kernel), List.mem_of_getElem? (i := 255) (by decide +kernel), List.mem_of_getElem? (i := 256) (by decide +kernel)⟩
theorem lw_p9 : lw_okq (⟨"FoldLaboratory$LayerOrders", "decide", "(III)V"⟩, 5) := ⟨⟨by decide +kernel, by decide +kernel⟩, List.mem_of_getElem? (i := 132) (by decide +kernel), List.mem_of_getElem? (i := 271) (by decide +kernel), List.mem_of_getElem? (i := 272) (by decide +kernel)⟩
theorem lw_p10 : lw_okq (⟨"FoldLaboratory$LayerOrders", "keep", "(I)V"⟩, 5) := ⟨⟨by decide +kernel, by decide +kernel⟩, List.mem_of_getElem? (i := 132) (by decide +kernel), List.mem_of_getElem? (i := 275) (by decide +kernel), List.mem_of_getElem? (i := 276) (by decide +kernel)⟩
theorem lw_p11 : lw_okq (⟨"FoldLaboratory$LayerOrders", "markingOf", "(I)I"⟩, 5) := ⟨⟨by decide +kernel, by decide +kernel⟩, List.mem_of_getElem? (i := 132) (by decide +kernel), List.mem_of_getElem? (i := 293) (by decide +kernel), List.mem_of_getElem? (i := 294) (by decide +kernel)⟩
theorem lw_p12 : lw_okq (⟨"FoldLaboratory$LayerOrders", "keepsMark", "(III)Z"⟩, 5) := ⟨⟨by decide +kernel, by decide +kernel⟩, List.mem_of_getElem? (i := 132) (by decide +kernel), List.mem_of_getElem? (i := 307) (by decide +kernel), List.mem_of_getElem? (i := 308) (by decide +kernel)⟩
theorem lw_p13 : lw_okq (⟨"FoldLaboratory$LayerOrders", "makesNoRound", "(III)Z"⟩, 5) := ⟨⟨by decide +kernel, by decide +kernel⟩, List.mem_of_getElem? (i := 132) (by decide +kernel), List.mem_of_getElem? (i := 315) (by decide +kernel), List.mem_of_getElem? (i := 316) (by decide +kernel)⟩
theorem lw_p14 : lw_okq (⟨"FoldLaboratory$LayerOrders", "crossesNoCrease", "(III)Z"⟩, 5) := ⟨⟨by decide +kernel, by decide +kernel⟩, List.mem_of_getElem? (i := 132) (by decide +kernel), List.mem_of_getElem? (i := 319) (by decide +kernel), List.mem_of_getElem? (i := 320) (by decide +kernel)⟩
theorem lw_p15 : lw_okq (⟨"FoldLaboratory$LayerOrders", "creasesNest", "(III)Z"⟩, 5) := ⟨⟨by decide +kernel, by decide +kernel⟩, List.mem_of_getElem? (i := 132) (by decide +kernel), List.mem_of_getElem? (i := 334) (by decide +kernel), List.mem_of_getElem? (i := 335) (by decide +kernel)⟩
def lw_privs_1 : List (MethodName × Nat) := [(⟨"FoldLaboratory$Paper", "fold", "()V"⟩, 8), (⟨"FoldLaboratory$Paper", "imagesOver", "(I)I"⟩, 8), (⟨"FoldLaboratory$Reductions", "copyPattern", "()V"⟩, 8), (⟨"FoldLaboratory$Reductions", "reduceOnce", "()Z"⟩, 8), (⟨"FoldLaboratory$Reductions", "note", "(II)V"⟩, 8), (⟨"FoldLaboratory$Reductions", "removeLengths", "(II)V"⟩, 8), (⟨"FoldLaboratory$Reductions", "removeCreases", "(II)V"⟩, 8), (⟨"FoldLaboratory$Reductions", "leftmostPleat", "()I"⟩, 8), (⟨"FoldLaboratory$Reductions", "flatten", "(I)V"⟩, 8), (⟨"FoldLaboratory$LayerOrders", "decide", "(III)V"⟩, 5), (⟨"FoldLaboratory$LayerOrders", "keep", "(I)V"⟩, 5), (⟨"FoldLaboratory$LayerOrders", "markingOf", "(I)I"⟩, 5), (⟨"FoldLaboratory$LayerOrders", "keepsMark", "(III)Z"⟩, 5), (⟨"FoldLaboratory$LayerOrders", "makesNoRound", "(III)Z"⟩, 5), (⟨"FoldLaboratory$LayerOrders", "crossesNoCrease", "(III)Z"⟩, 5), (⟨"FoldLaboratory$LayerOrders", "creasesNest", "(III)Z"⟩, 5)]
theorem lw_r1 : ∀ q ∈ lw_privs_1, lw_okq q := List.forall_mem_cons.mpr ⟨lw_p0, List.forall_mem_cons.mpr ⟨lw_p1, List.forall_mem_cons.mpr ⟨lw_p2, List.forall_mem_cons.mpr ⟨lw_p3, List.forall_mem_cons.mpr ⟨lw_p4, List.forall_mem_cons.mpr ⟨lw_p5, List.forall_mem_cons.mpr ⟨lw_p6, List.forall_mem_cons.mpr ⟨lw_p7, List.forall_mem_cons.mpr ⟨lw_p8, List.forall_mem_cons.mpr ⟨lw_p9, List.forall_mem_cons.mpr ⟨lw_p10, List.forall_mem_cons.mpr ⟨lw_p11, List.forall_mem_cons.mpr ⟨lw_p12, List.forall_mem_cons.mpr ⟨lw_p13, List.forall_mem_cons.mpr ⟨lw_p14, List.forall_mem_cons.mpr ⟨lw_p15, fun _ h => absurd h List.not_mem_nil⟩⟩⟩⟩⟩⟩⟩⟩⟩⟩⟩⟩⟩⟩⟩⟩
theorem lw_p16 : lw_okq (⟨"FoldLaboratory", "digitsFrom", "(II)I"⟩, 5) := ⟨⟨by decide +kernel, by decide +kernel⟩, List.mem_of_getElem? (i := 17) (by decide +kernel), List.mem_of_getElem? (i := 358) (by decide +kernel), List.mem_of_getElem? (i := 359) (by decide +kernel)⟩
theorem lw_p17 : lw_okq (⟨"FoldLaboratory", "operate", "(III)I"⟩, 5) := ⟨⟨by decide +kernel, by decide +kernel⟩, List.mem_of_getElem? (i := 17) (by decide +kernel), List.mem_of_getElem? (i := 365) (by decide +kernel), List.mem_of_getElem? (i := 366) (by decide +kernel)⟩
theorem lw_p18 : lw_okq (⟨"FoldLaboratory", "numberAt", "(II)I"⟩, 5) := ⟨⟨by decide +kernel, by decide +kernel⟩, List.mem_of_getElem? (i := 17) (by decide +kernel), List.mem_of_getElem? (i := 370) (by decide +kernel), List.mem_of_getElem? (i := 371) (by decide +kernel)⟩
theorem lw_p19 : lw_okq (⟨"FoldLaboratory", "tryStrip", "(I)I"⟩, 5) := ⟨⟨by decide +kernel, by decide +kernel⟩, List.mem_of_getElem? (i := 17) (by decide +kernel), List.mem_of_getElem? (i := 374) (by decide +kernel), List.mem_of_getElem? (i := 375) (by decide +kernel)⟩
theorem lw_p20 : lw_okq (⟨"FoldLaboratory", "tryCrease", "(II)I"⟩, 5) := ⟨⟨by decide +kernel, by decide +kernel⟩, List.mem_of_getElem? (i := 17) (by decide +kernel), List.mem_of_getElem? (i := 379) (by decide +kernel), List.mem_of_getElem? (i := 380) (by decide +kernel)⟩
theorem lw_p21 : lw_okq (⟨"FoldLaboratory$Paper", "hasCreaseAt", "(I)Z"⟩, 8) := ⟨⟨by decide +kernel, by decide +kernel⟩, List.mem_of_getElem? (i := 25) (by decide +kernel), List.mem_of_getElem? (i := 387) (by decide +kernel), List.mem_of_getElem? (i := 388) (by decide +kernel)⟩
theorem lw_p22 : lw_okq (⟨"FoldLaboratory$Paper", "creasesBefore", "(I)I"⟩, 8) := ⟨⟨by decide +kernel, by decide +kernel⟩, List.mem_of_getElem? (i := 25) (by decide +kernel), List.mem_of_getElem? (i := 391) (by decide +kernel), List.mem_of_getElem? (i := 392) (by decide +kernel)⟩
theorem lw_p23 : lw_okq (⟨"FoldLaboratory$Paper", "removeCrease", "(I)V"⟩, 8) := ⟨⟨by decide +kernel, by decide +kernel⟩, List.mem_of_getElem? (i := 25) (by decide +kernel), List.mem_of_getElem? (i := 399) (by decide +kernel), List.mem_of_getElem? (i := 400) (by decide +kernel)⟩
theorem lw_p24 : lw_okq (⟨"FoldLaboratory$Paper", "insertCrease", "(III)V"⟩, 8) := ⟨⟨by decide +kernel, by decide +kernel⟩, List.mem_of_getElem? (i := 25) (by decide +kernel), List.mem_of_getElem? (i := 403) (by decide +kernel), List.mem_of_getElem? (i := 404) (by decide +kernel)⟩
theorem lw_p25 : lw_okq (⟨"java/lang/Throwable", "fillInStackTrace", "(I)Ljava/lang/Throwable;"⟩, 6) := ⟨⟨by decide +kernel, by decide +kernel⟩, List.mem_of_getElem? (i := 453) (by decide +kernel), List.mem_of_getElem? (i := 451) (by decide +kernel), List.mem_of_getElem? (i := 452) (by decide +kernel)⟩
theorem lw_p26 : lw_okq (⟨"FoldLaboratory$LayerOrders", "below", "(III)I"⟩, 5) := ⟨⟨by decide +kernel, by decide +kernel⟩, List.mem_of_getElem? (i := 132) (by decide +kernel), List.mem_of_getElem? (i := 585) (by decide +kernel), List.mem_of_getElem? (i := 586) (by decide +kernel)⟩
theorem lw_p27 : lw_okq (⟨"FoldLaboratoryModel", "refuse", "(ZZ)Z"⟩, 22) := ⟨⟨by decide +kernel, by decide +kernel⟩, List.mem_of_getElem? (i := 598) (by decide +kernel), List.mem_of_getElem? (i := 679) (by decide +kernel), List.mem_of_getElem? (i := 680) (by decide +kernel)⟩
theorem lw_p28 : lw_okq (⟨"FoldLaboratoryModel", "before", "(I)I"⟩, 22) := ⟨⟨by decide +kernel, by decide +kernel⟩, List.mem_of_getElem? (i := 598) (by decide +kernel), List.mem_of_getElem? (i := 687) (by decide +kernel), List.mem_of_getElem? (i := 688) (by decide +kernel)⟩
theorem lw_p29 : lw_okq (⟨"FoldLaboratoryModel", "free", "()I"⟩, 22) := ⟨⟨by decide +kernel, by decide +kernel⟩, List.mem_of_getElem? (i := 598) (by decide +kernel), List.mem_of_getElem? (i := 699) (by decide +kernel), List.mem_of_getElem? (i := 700) (by decide +kernel)⟩
theorem lw_p30 : lw_okq (⟨"FoldLaboratoryModel", "leftEnd", "(I)I"⟩, 22) := ⟨⟨by decide +kernel, by decide +kernel⟩, List.mem_of_getElem? (i := 598) (by decide +kernel), List.mem_of_getElem? (i := 707) (by decide +kernel), List.mem_of_getElem? (i := 708) (by decide +kernel)⟩
theorem lw_p31 : lw_okq (⟨"FoldLaboratoryModel", "rightEnd", "(I)I"⟩, 22) := ⟨⟨by decide +kernel, by decide +kernel⟩, List.mem_of_getElem? (i := 598) (by decide +kernel), List.mem_of_getElem? (i := 711) (by decide +kernel), List.mem_of_getElem? (i := 712) (by decide +kernel)⟩
def lw_privs_2 : List (MethodName × Nat) := [(⟨"FoldLaboratory", "digitsFrom", "(II)I"⟩, 5), (⟨"FoldLaboratory", "operate", "(III)I"⟩, 5), (⟨"FoldLaboratory", "numberAt", "(II)I"⟩, 5), (⟨"FoldLaboratory", "tryStrip", "(I)I"⟩, 5), (⟨"FoldLaboratory", "tryCrease", "(II)I"⟩, 5), (⟨"FoldLaboratory$Paper", "hasCreaseAt", "(I)Z"⟩, 8), (⟨"FoldLaboratory$Paper", "creasesBefore", "(I)I"⟩, 8), (⟨"FoldLaboratory$Paper", "removeCrease", "(I)V"⟩, 8), (⟨"FoldLaboratory$Paper", "insertCrease", "(III)V"⟩, 8), (⟨"java/lang/Throwable", "fillInStackTrace", "(I)Ljava/lang/Throwable;"⟩, 6), (⟨"FoldLaboratory$LayerOrders", "below", "(III)I"⟩, 5), (⟨"FoldLaboratoryModel", "refuse", "(ZZ)Z"⟩, 22), (⟨"FoldLaboratoryModel", "before", "(I)I"⟩, 22), (⟨"FoldLaboratoryModel", "free", "()I"⟩, 22), (⟨"FoldLaboratoryModel", "leftEnd", "(I)I"⟩, 22), (⟨"FoldLaboratoryModel", "rightEnd", "(I)I"⟩, 22)]
theorem lw_r2 : ∀ q ∈ lw_privs_2, lw_okq q := List.forall_mem_cons.mpr ⟨lw_p16, List.forall_mem_cons.mpr ⟨lw_p17, List.forall_mem_cons.mpr ⟨lw_p18, List.forall_mem_cons.mpr ⟨lw_p19, List.forall_mem_cons.mpr ⟨lw_p20, List.forall_mem_cons.mpr ⟨lw_p21, List.forall_mem_cons.mpr ⟨lw_p22, List.forall_mem_cons.mpr ⟨lw_p23, List.forall_mem_cons.mpr ⟨lw_p24, List.forall_mem_cons.mpr ⟨lw_p25, List.forall_mem_cons.mpr ⟨lw_p26, List.forall_mem_cons.mpr ⟨lw_p27, List.forall_mem_cons.mpr ⟨lw_p28, List.forall_mem_cons.mpr ⟨lw_p29, List.forall_mem_cons.mpr ⟨lw_p30, List.forall_mem_cons.mpr ⟨lw_p31, fun _ h => absurd h List.not_mem_nil⟩⟩⟩⟩⟩⟩⟩⟩⟩⟩⟩⟩⟩⟩⟩⟩
theorem lw_p32 : lw_okq (⟨"FoldLaboratoryModel", "low", "(I)I"⟩, 22) := ⟨⟨by decide +kernel, by decide +kernel⟩, List.mem_of_getElem? (i := 598) (by decide +kernel), List.mem_of_getElem? (i := 715) (by decide +kernel), List.mem_of_getElem? (i := 716) (by decide +kernel)⟩
theorem lw_p33 : lw_okq (⟨"FoldLaboratoryModel", "fold", "(I)I"⟩, 22) := ⟨⟨by decide +kernel, by decide +kernel⟩, List.mem_of_getElem? (i := 598) (by decide +kernel), List.mem_of_getElem? (i := 719) (by decide +kernel), List.mem_of_getElem? (i := 720) (by decide +kernel)⟩
theorem lw_p34 : lw_okq (⟨"FoldLaboratoryModel", "high", "(I)I"⟩, 22) := ⟨⟨by decide +kernel, by decide +kernel⟩, List.mem_of_getElem? (i := 598) (by decide +kernel), List.mem_of_getElem? (i := 723) (by decide +kernel), List.mem_of_getElem? (i := 724) (by decide +kernel)⟩
theorem lw_p35 : lw_okq (⟨"FoldLaboratoryModel", "isUp", "(I)Z"⟩, 22) := ⟨⟨by decide +kernel, by decide +kernel⟩, List.mem_of_getElem? (i := 598) (by decide +kernel), List.mem_of_getElem? (i := 727) (by decide +kernel), List.mem_of_getElem? (i := 728) (by decide +kernel)⟩
theorem lw_p36 : lw_okq (⟨"FoldLaboratoryModel", "covers", "(II)Z"⟩, 22) := ⟨⟨by decide +kernel, by decide +kernel⟩, List.mem_of_getElem? (i := 598) (by decide +kernel), List.mem_of_getElem? (i := 743) (by decide +kernel), List.mem_of_getElem? (i := 744) (by decide +kernel)⟩
theorem lw_p37 : lw_okq (⟨"FoldLaboratoryModel", "reduce", "()V"⟩, 22) := ⟨⟨by decide +kernel, by decide +kernel⟩, List.mem_of_getElem? (i := 598) (by decide +kernel), List.mem_of_getElem? (i := 751) (by decide +kernel), List.mem_of_getElem? (i := 752) (by decide +kernel)⟩
theorem lw_p38 : lw_okq (⟨"FoldLaboratoryModel", "middle", "()I"⟩, 22) := ⟨⟨by decide +kernel, by decide +kernel⟩, List.mem_of_getElem? (i := 598) (by decide +kernel), List.mem_of_getElem? (i := 755) (by decide +kernel), List.mem_of_getElem? (i := 756) (by decide +kernel)⟩
theorem lw_p39 : lw_okq (⟨"FoldLaboratoryModel", "note", "(II)V"⟩, 22) := ⟨⟨by decide +kernel, by decide +kernel⟩, List.mem_of_getElem? (i := 598) (by decide +kernel), List.mem_of_getElem? (i := 759) (by decide +kernel), List.mem_of_getElem? (i := 760) (by decide +kernel)⟩
theorem lw_p40 : lw_okq (⟨"FoldLaboratoryModel", "drop", "(I)V"⟩, 22) := ⟨⟨by decide +kernel, by decide +kernel⟩, List.mem_of_getElem? (i := 598) (by decide +kernel), List.mem_of_getElem? (i := 763) (by decide +kernel), List.mem_of_getElem? (i := 764) (by decide +kernel)⟩
theorem lw_p41 : lw_okq (⟨"FoldLaboratoryModel", "look", "(I)Z"⟩, 22) := ⟨⟨by decide +kernel, by decide +kernel⟩, List.mem_of_getElem? (i := 598) (by decide +kernel), List.mem_of_getElem? (i := 780) (by decide +kernel), List.mem_of_getElem? (i := 781) (by decide +kernel)⟩
theorem lw_p42 : lw_okq (⟨"FoldLaboratoryModel", "begin", "()I"⟩, 22) := ⟨⟨by decide +kernel, by decide +kernel⟩, List.mem_of_getElem? (i := 598) (by decide +kernel), List.mem_of_getElem? (i := 784) (by decide +kernel), List.mem_of_getElem? (i := 785) (by decide +kernel)⟩
theorem lw_p43 : lw_okq (⟨"FoldLaboratoryModel", "overlap", "(II)Z"⟩, 22) := ⟨⟨by decide +kernel, by decide +kernel⟩, List.mem_of_getElem? (i := 598) (by decide +kernel), List.mem_of_getElem? (i := 788) (by decide +kernel), List.mem_of_getElem? (i := 789) (by decide +kernel)⟩
theorem lw_p44 : lw_okq (⟨"FoldLaboratoryModel", "set", "(III)V"⟩, 22) := ⟨⟨by decide +kernel, by decide +kernel⟩, List.mem_of_getElem? (i := 598) (by decide +kernel), List.mem_of_getElem? (i := 792) (by decide +kernel), List.mem_of_getElem? (i := 793) (by decide +kernel)⟩
theorem lw_p45 : lw_okq (⟨"FoldLaboratoryModel", "get", "(II)I"⟩, 22) := ⟨⟨by decide +kernel, by decide +kernel⟩, List.mem_of_getElem? (i := 598) (by decide +kernel), List.mem_of_getElem? (i := 796) (by decide +kernel), List.mem_of_getElem? (i := 797) (by decide +kernel)⟩
theorem lw_p46 : lw_okq (⟨"FoldLaboratoryModel", "holds", "()Z"⟩, 22) := ⟨⟨by decide +kernel, by decide +kernel⟩, List.mem_of_getElem? (i := 598) (by decide +kernel), List.mem_of_getElem? (i := 800) (by decide +kernel), List.mem_of_getElem? (i := 801) (by decide +kernel)⟩
theorem lw_p47 : lw_okq (⟨"FoldLaboratoryModel", "turnsRound", "(III)Z"⟩, 22) := ⟨⟨by decide +kernel, by decide +kernel⟩, List.mem_of_getElem? (i := 598) (by decide +kernel), List.mem_of_getElem? (i := 804) (by decide +kernel), List.mem_of_getElem? (i := 805) (by decide +kernel)⟩
def lw_privs_3 : List (MethodName × Nat) := [(⟨"FoldLaboratoryModel", "low", "(I)I"⟩, 22), (⟨"FoldLaboratoryModel", "fold", "(I)I"⟩, 22), (⟨"FoldLaboratoryModel", "high", "(I)I"⟩, 22), (⟨"FoldLaboratoryModel", "isUp", "(I)Z"⟩, 22), (⟨"FoldLaboratoryModel", "covers", "(II)Z"⟩, 22), (⟨"FoldLaboratoryModel", "reduce", "()V"⟩, 22), (⟨"FoldLaboratoryModel", "middle", "()I"⟩, 22), (⟨"FoldLaboratoryModel", "note", "(II)V"⟩, 22), (⟨"FoldLaboratoryModel", "drop", "(I)V"⟩, 22), (⟨"FoldLaboratoryModel", "look", "(I)Z"⟩, 22), (⟨"FoldLaboratoryModel", "begin", "()I"⟩, 22), (⟨"FoldLaboratoryModel", "overlap", "(II)Z"⟩, 22), (⟨"FoldLaboratoryModel", "set", "(III)V"⟩, 22), (⟨"FoldLaboratoryModel", "get", "(II)I"⟩, 22), (⟨"FoldLaboratoryModel", "holds", "()Z"⟩, 22), (⟨"FoldLaboratoryModel", "turnsRound", "(III)Z"⟩, 22)]
theorem lw_r3 : ∀ q ∈ lw_privs_3, lw_okq q := List.forall_mem_cons.mpr ⟨lw_p32, List.forall_mem_cons.mpr ⟨lw_p33, List.forall_mem_cons.mpr ⟨lw_p34, List.forall_mem_cons.mpr ⟨lw_p35, List.forall_mem_cons.mpr ⟨lw_p36, List.forall_mem_cons.mpr ⟨lw_p37, List.forall_mem_cons.mpr ⟨lw_p38, List.forall_mem_cons.mpr ⟨lw_p39, List.forall_mem_cons.mpr ⟨lw_p40, List.forall_mem_cons.mpr ⟨lw_p41, List.forall_mem_cons.mpr ⟨lw_p42, List.forall_mem_cons.mpr ⟨lw_p43, List.forall_mem_cons.mpr ⟨lw_p44, List.forall_mem_cons.mpr ⟨lw_p45, List.forall_mem_cons.mpr ⟨lw_p46, List.forall_mem_cons.mpr ⟨lw_p47, fun _ h => absurd h List.not_mem_nil⟩⟩⟩⟩⟩⟩⟩⟩⟩⟩⟩⟩⟩⟩⟩⟩
theorem lw_p48 : lw_okq (⟨"FoldLaboratoryModel", "isMarked", "(I)Z"⟩, 22) := ⟨⟨by decide +kernel, by decide +kernel⟩, List.mem_of_getElem? (i := 598) (by decide +kernel), List.mem_of_getElem? (i := 808) (by decide +kernel), List.mem_of_getElem? (i := 809) (by decide +kernel)⟩
theorem lw_p49 : lw_okq (⟨"FoldLaboratoryModel", "isClear", "(I)Z"⟩, 22) := ⟨⟨by decide +kernel, by decide +kernel⟩, List.mem_of_getElem? (i := 598) (by decide +kernel), List.mem_of_getElem? (i := 812) (by decide +kernel), List.mem_of_getElem? (i := 813) (by decide +kernel)⟩
theorem lw_p50 : lw_okq (⟨"FoldLaboratoryModel", "between", "(III)I"⟩, 22) := ⟨⟨by decide +kernel, by decide +kernel⟩, List.mem_of_getElem? (i := 598) (by decide +kernel), List.mem_of_getElem? (i := 816) (by decide +kernel), List.mem_of_getElem? (i := 817) (by decide +kernel)⟩
theorem lw_p51 : lw_okq (⟨"FoldLaboratoryModel", "arePeaceful", "(II)Z"⟩, 22) := ⟨⟨by decide +kernel, by decide +kernel⟩, List.mem_of_getElem? (i := 598) (by decide +kernel), List.mem_of_getElem? (i := 820) (by decide +kernel), List.mem_of_getElem? (i := 821) (by decide +kernel)⟩
theorem lw_p52 : lw_okq (⟨"FoldLaboratoryModel", "sign", "(II)I"⟩, 22) := ⟨⟨by decide +kernel, by decide +kernel⟩, List.mem_of_getElem? (i := 598) (by decide +kernel), List.mem_of_getElem? (i := 844) (by decide +kernel), List.mem_of_getElem? (i := 845) (by decide +kernel)⟩
theorem lw_p53 : lw_okq (⟨"FoldLaboratoryModel", "does", "(II)Z"⟩, 22) := ⟨⟨by decide +kernel, by decide +kernel⟩, List.mem_of_getElem? (i := 598) (by decide +kernel), List.mem_of_getElem? (i := 851) (by decide +kernel), List.mem_of_getElem? (i := 852) (by decide +kernel)⟩
def lw_privs_4 : List (MethodName × Nat) := [(⟨"FoldLaboratoryModel", "isMarked", "(I)Z"⟩, 22), (⟨"FoldLaboratoryModel", "isClear", "(I)Z"⟩, 22), (⟨"FoldLaboratoryModel", "between", "(III)I"⟩, 22), (⟨"FoldLaboratoryModel", "arePeaceful", "(II)Z"⟩, 22), (⟨"FoldLaboratoryModel", "sign", "(II)I"⟩, 22), (⟨"FoldLaboratoryModel", "does", "(II)Z"⟩, 22)]
theorem lw_r4 : ∀ q ∈ lw_privs_4, lw_okq q := List.forall_mem_cons.mpr ⟨lw_p48, List.forall_mem_cons.mpr ⟨lw_p49, List.forall_mem_cons.mpr ⟨lw_p50, List.forall_mem_cons.mpr ⟨lw_p51, List.forall_mem_cons.mpr ⟨lw_p52, List.forall_mem_cons.mpr ⟨lw_p53, fun _ h => absurd h List.not_mem_nil⟩⟩⟩⟩⟩⟩
def lw_privs : List (MethodName × Nat) := lw_privs_1 ++ (lw_privs_2 ++ (lw_privs_3 ++ (lw_privs_4)))
def lw_tbl : List Cond := k2_sels lw_privs ++ tables_1
theorem lw_privs_ok : ∀ q ∈ lw_privs, lw_okq q := by
  show ∀ q ∈ lw_privs_1 ++ (lw_privs_2 ++ (lw_privs_3 ++ (lw_privs_4))), lw_okq q
  exact List.forall_mem_append.mpr ⟨lw_r1, List.forall_mem_append.mpr ⟨lw_r2, List.forall_mem_append.mpr ⟨lw_r3, lw_r4⟩⟩⟩
end
section
/-! names: classes, fields, methods (laid by gen.py out of the claim) -/
def RF : String := "FoldLaboratory"
def RP : String := "FoldLaboratory$Paper"
def RR : String := "FoldLaboratory$Reductions"
def RO : String := "FoldLaboratory$LayerOrders"
def RM : String := "FoldLaboratoryModel"
def RL : String := "FoldLaboratoryLaw"
def RJA : String := "java/util/Arrays"
def RJL : String := "java/lang/Long"
def TF : u_T := fun k => match k with
  | 0 => ("FoldLaboratory", "paper", "LFoldLaboratory$Paper;", true)
  | 1 => ("FoldLaboratory", "reductions", "LFoldLaboratory$Reductions;", true)
  | 2 => ("FoldLaboratory", "layerOrders", "LFoldLaboratory$LayerOrders;", true)
  | 3 => ("FoldLaboratory", "signs", "[I", true)
  | _ => ("FoldLaboratory", "typed", "I", false)
def tF : Nat → FieldType := fun k => match k with
  | 0 => .object "FoldLaboratory$Paper"
  | 1 => .object "FoldLaboratory$Reductions"
  | 2 => .object "FoldLaboratory$LayerOrders"
  | 3 => .array .int
  | _ => .int
theorem nF : ∀ a, a < 5 → ∀ b, b < 5 → a ≠ b → (TF a).2.1 ≠ (TF b).2.1 := by decide +kernel
theorem tF_ok : ∀ k, k < 5 → parseFieldDescriptor (TF k).2.2.1 = some (tF k) := by decide +kernel
def TP : u_T := fun k => match k with
  | 0 => ("FoldLaboratory$Paper", "length", "I", false)
  | 1 => ("FoldLaboratory$Paper", "creases", "I", false)
  | 2 => ("FoldLaboratory$Paper", "turned", "Z", false)
  | 3 => ("FoldLaboratory$Paper", "creasePlaces", "[I", true)
  | 4 => ("FoldLaboratory$Paper", "creaseMarks", "[I", true)
  | 5 => ("FoldLaboratory$Paper", "bends", "[I", true)
  | 6 => ("FoldLaboratory$Paper", "imageLow", "[I", true)
  | _ => ("FoldLaboratory$Paper", "imageHigh", "[I", true)
def tP : Nat → FieldType := fun k => match k with
  | 0 => .int
  | 1 => .int
  | 2 => .boolean
  | 3 => .array .int
  | 4 => .array .int
  | 5 => .array .int
  | 6 => .array .int
  | _ => .array .int
theorem nP : ∀ a, a < 8 → ∀ b, b < 8 → a ≠ b → (TP a).2.1 ≠ (TP b).2.1 := by decide +kernel
theorem tP_ok : ∀ k, k < 8 → parseFieldDescriptor (TP k).2.2.1 = some (tP k) := by decide +kernel
def TR : u_T := fun k => match k with
  | 0 => ("FoldLaboratory$Reductions", "paper", "LFoldLaboratory$Paper;", true)
  | 1 => ("FoldLaboratory$Reductions", "lengths", "[I", true)
  | 2 => ("FoldLaboratory$Reductions", "places", "[I", true)
  | 3 => ("FoldLaboratory$Reductions", "creaseMarks", "[I", true)
  | 4 => ("FoldLaboratory$Reductions", "remaining", "I", false)
  | 5 => ("FoldLaboratory$Reductions", "done", "I", false)
  | 6 => ("FoldLaboratory$Reductions", "kinds", "[I", true)
  | _ => ("FoldLaboratory$Reductions", "wentAt", "[I", true)
def tR : Nat → FieldType := fun k => match k with
  | 0 => .object "FoldLaboratory$Paper"
  | 1 => .array .int
  | 2 => .array .int
  | 3 => .array .int
  | 4 => .int
  | 5 => .int
  | 6 => .array .int
  | _ => .array .int
theorem nR : ∀ a, a < 8 → ∀ b, b < 8 → a ≠ b → (TR a).2.1 ≠ (TR b).2.1 := by decide +kernel
theorem tR_ok : ∀ k, k < 8 → parseFieldDescriptor (TR k).2.2.1 = some (tR k) := by decide +kernel
def TO : u_T := fun k => match k with
  | 0 => ("FoldLaboratory$LayerOrders", "paper", "LFoldLaboratory$Paper;", true)
  | 1 => ("FoldLaboratory$LayerOrders", "known", "Z", false)
  | 2 => ("FoldLaboratory$LayerOrders", "found", "I", false)
  | 3 => ("FoldLaboratory$LayerOrders", "rows", "[I", false)
  | _ => ("FoldLaboratory$LayerOrders", "markings", "J", false)
def tO : Nat → FieldType := fun k => match k with
  | 0 => .object "FoldLaboratory$Paper"
  | 1 => .boolean
  | 2 => .int
  | 3 => .array .int
  | _ => .long
theorem nO : ∀ a, a < 5 → ∀ b, b < 5 → a ≠ b → (TO a).2.1 ≠ (TO b).2.1 := by decide +kernel
theorem tO_ok : ∀ k, k < 5 → parseFieldDescriptor (TO k).2.2.1 = some (tO k) := by decide +kernel
def TM : u_T := fun k => match k with
  | 0 => ("FoldLaboratoryModel", "thrown", "I", false)
  | 1 => ("FoldLaboratoryModel", "length", "I", false)
  | 2 => ("FoldLaboratoryModel", "turned", "Z", false)
  | 3 => ("FoldLaboratoryModel", "places", "[I", true)
  | 4 => ("FoldLaboratoryModel", "marks", "[I", true)
  | 5 => ("FoldLaboratoryModel", "creases", "I", false)
  | 6 => ("FoldLaboratoryModel", "text", "[I", true)
  | 7 => ("FoldLaboratoryModel", "typed", "I", false)
  | 8 => ("FoldLaboratoryModel", "order", "[I", true)
  | 9 => ("FoldLaboratoryModel", "pairA", "[I", true)
  | 10 => ("FoldLaboratoryModel", "pairB", "[I", true)
  | 11 => ("FoldLaboratoryModel", "lows", "[I", true)
  | 12 => ("FoldLaboratoryModel", "highs", "[I", true)
  | 13 => ("FoldLaboratoryModel", "meets", "[I", true)
  | 14 => ("FoldLaboratoryModel", "found", "I", false)
  | 15 => ("FoldLaboratoryModel", "row", "[I", true)
  | 16 => ("FoldLaboratoryModel", "rowMarks", "[I", true)
  | 17 => ("FoldLaboratoryModel", "rowPlaces", "[I", true)
  | 18 => ("FoldLaboratoryModel", "rowCount", "I", false)
  | 19 => ("FoldLaboratoryModel", "stepKinds", "[I", true)
  | 20 => ("FoldLaboratoryModel", "stepPlaces", "[I", true)
  | _ => ("FoldLaboratoryModel", "stepCount", "I", false)
def tM : Nat → FieldType := fun k => match k with
  | 0 => .int
  | 1 => .int
  | 2 => .boolean
  | 3 => .array .int
  | 4 => .array .int
  | 5 => .int
  | 6 => .array .int
  | 7 => .int
  | 8 => .array .int
  | 9 => .array .int
  | 10 => .array .int
  | 11 => .array .int
  | 12 => .array .int
  | 13 => .array .int
  | 14 => .int
  | 15 => .array .int
  | 16 => .array .int
  | 17 => .array .int
  | 18 => .int
  | 19 => .array .int
  | 20 => .array .int
  | _ => .int
theorem nM : ∀ a, a < 22 → ∀ b, b < 22 → a ≠ b → (TM a).2.1 ≠ (TM b).2.1 := by decide +kernel
theorem tM_ok : ∀ k, k < 22 → parseFieldDescriptor (TM k).2.2.1 = some (tM k) := by decide +kernel
def TX : u_T := fun _ => ("", "", "", false)
def ev_CL : List vw_C := [(RF, TF, 5), (RP, TP, 8), (RR, TR, 8), (RO, TO, 5), (RM, TM, 22), ("java/lang/IllegalArgumentException", TX, 0), ("java/lang/UnsupportedOperationException", TX, 0), ("java/lang/IndexOutOfBoundsException", TX, 0)]
abbrev ev_M : Type := MethodName × ByteArray × Nat × Option FieldType × List (Nat × Nat × Nat × Nat)
abbrev cF_init : ByteArray := prog_1_method_1_code
def yF_init : MethodName := ⟨RF, "<init>", "()V"⟩
abbrev mF_init : ev_M := (yF_init, cF_init, 1, none, [])
abbrev cP_init : ByteArray := prog_3_method_1_code
def yP_init : MethodName := ⟨RP, "<init>", "()V"⟩
abbrev mP_init : ev_M := (yP_init, cP_init, 1, none, [])
abbrev cP_renew : ByteArray := prog_3_method_2_code
def yP_renew : MethodName := ⟨RP, "renew", "(I)V"⟩
abbrev mP_renew : ev_M := (yP_renew, cP_renew, 2, none, [])
abbrev cP_fold : ByteArray := prog_3_method_10_code
def yP_fold : MethodName := ⟨RP, "fold", "()V"⟩
abbrev mP_fold : ev_M := (yP_fold, cP_fold, 2, none, [])
abbrev cP_direction : ByteArray := prog_3_method_11_code
def yP_direction : MethodName := ⟨RP, "direction", "(I)I"⟩
abbrev mP_direction : ev_M := (yP_direction, cP_direction, 1, (some .int), [])
abbrev cP_segmentLength : ByteArray := prog_3_method_17_code
def yP_segmentLength : MethodName := ⟨RP, "segmentLength", "(I)I"⟩
abbrev mP_segmentLength : ev_M := (yP_segmentLength, cP_segmentLength, 2, (some .int), [])
abbrev cP_rightEnd : ByteArray := prog_3_method_16_code
def yP_rightEnd : MethodName := ⟨RP, "rightEnd", "(I)I"⟩
abbrev mP_rightEnd : ev_M := (yP_rightEnd, cP_rightEnd, 2, (some .int), [])
abbrev cP_leftEnd : ByteArray := prog_3_method_15_code
def yP_leftEnd : MethodName := ⟨RP, "leftEnd", "(I)I"⟩
abbrev mP_leftEnd : ev_M := (yP_leftEnd, cP_leftEnd, 2, (some .int), [])
abbrev cR_init : ByteArray := prog_4_method_1_code
def yR_init : MethodName := ⟨RR, "<init>", "(LFoldLaboratory$Paper;)V"⟩
abbrev mR_init : ev_M := (yR_init, cR_init, 2, none, [])
abbrev cO_init : ByteArray := prog_2_method_1_code
def yO_init : MethodName := ⟨RO, "<init>", "(LFoldLaboratory$Paper;)V"⟩
abbrev mO_init : ev_M := (yO_init, cO_init, 2, none, [])
abbrev cF_turn : ByteArray := prog_1_method_4_code
def yF_turn : MethodName := ⟨RF, "turn", "()Z"⟩
abbrev mF_turn : ev_M := (yF_turn, cF_turn, 1, (some .boolean), [])
abbrev cP_turnOver : ByteArray := prog_3_method_3_code
def yP_turnOver : MethodName := ⟨RP, "turnOver", "()V"⟩
abbrev mP_turnOver : ev_M := (yP_turnOver, cP_turnOver, 1, none, [])
abbrev cO_forget : ByteArray := prog_2_method_2_code
def yO_forget : MethodName := ⟨RO, "forget", "()V"⟩
abbrev mO_forget : ev_M := (yO_forget, cO_forget, 1, none, [])
abbrev cF_count : ByteArray := prog_1_method_5_code
def yF_count : MethodName := ⟨RF, "count", "(I)I"⟩
abbrev mF_count : ev_M := (yF_count, cF_count, 2, (some .int), [])
abbrev cP_freeCreases : ByteArray := prog_3_method_12_code
def yP_freeCreases : MethodName := ⟨RP, "freeCreases", "()I"⟩
abbrev mP_freeCreases : ev_M := (yP_freeCreases, cP_freeCreases, 3, (some .int), [])
abbrev cF_width : ByteArray := prog_1_method_8_code
def yF_width : MethodName := ⟨RF, "width", "()I"⟩
abbrev mF_width : ev_M := (yF_width, cF_width, 1, (some .int), [])
abbrev cP_reach : ByteArray := prog_3_method_20_code
def yP_reach : MethodName := ⟨RP, "reach", "()I"⟩
abbrev mP_reach : ev_M := (yP_reach, cP_reach, 4, (some .int), [])
abbrev cP_segments : ByteArray := prog_3_method_13_code
def yP_segments : MethodName := ⟨RP, "segments", "()I"⟩
abbrev mP_segments : ev_M := (yP_segments, cP_segments, 1, (some .int), [])
abbrev cF_thickness : ByteArray := prog_1_method_9_code
def yF_thickness : MethodName := ⟨RF, "thickness", "()I"⟩
abbrev mF_thickness : ev_M := (yF_thickness, cF_thickness, 1, (some .int), [])
abbrev cP_mostImages : ByteArray := prog_3_method_21_code
def yP_mostImages : MethodName := ⟨RP, "mostImages", "()I"⟩
abbrev mP_mostImages : ev_M := (yP_mostImages, cP_mostImages, 3, (some .int), [])
abbrev cP_imagesOver : ByteArray := prog_3_method_22_code
def yP_imagesOver : MethodName := ⟨RP, "imagesOver", "(I)I"⟩
abbrev mP_imagesOver : ev_M := (yP_imagesOver, cP_imagesOver, 4, (some .int), [])
abbrev cP_liesOver : ByteArray := prog_3_method_23_code
def yP_liesOver : MethodName := ⟨RP, "liesOver", "(II)Z"⟩
abbrev mP_liesOver : ev_M := (yP_liesOver, cP_liesOver, 3, (some .boolean), [])
abbrev cF_foldable : ByteArray := prog_1_method_10_code
def yF_foldable : MethodName := ⟨RF, "foldable", "()I"⟩
abbrev mF_foldable : ev_M := (yF_foldable, cF_foldable, 1, (some .int), [])
abbrev cR_reduce : ByteArray := prog_4_method_2_code
def yR_reduce : MethodName := ⟨RR, "reduce", "()V"⟩
abbrev mR_reduce : ev_M := (yR_reduce, cR_reduce, 3, none, [])
abbrev cR_copyPattern : ByteArray := prog_4_method_3_code
def yR_copyPattern : MethodName := ⟨RR, "copyPattern", "()V"⟩
abbrev mR_copyPattern : ev_M := (yR_copyPattern, cR_copyPattern, 2, none, [])
abbrev cR_reduceOnce : ByteArray := prog_4_method_4_code
def yR_reduceOnce : MethodName := ⟨RR, "reduceOnce", "()Z"⟩
abbrev mR_reduceOnce : ev_M := (yR_reduceOnce, cR_reduceOnce, 2, (some .boolean), [])
abbrev cR_note : ByteArray := prog_4_method_5_code
def yR_note : MethodName := ⟨RR, "note", "(II)V"⟩
abbrev mR_note : ev_M := (yR_note, cR_note, 3, none, [])
abbrev cR_removeLengths : ByteArray := prog_4_method_8_code
def yR_removeLengths : MethodName := ⟨RR, "removeLengths", "(II)V"⟩
abbrev mR_removeLengths : ev_M := (yR_removeLengths, cR_removeLengths, 4, none, [])
abbrev cR_removeCreases : ByteArray := prog_4_method_9_code
def yR_removeCreases : MethodName := ⟨RR, "removeCreases", "(II)V"⟩
abbrev mR_removeCreases : ev_M := (yR_removeCreases, cR_removeCreases, 4, none, [])
abbrev cR_leftmostPleat : ByteArray := prog_4_method_6_code
def yR_leftmostPleat : MethodName := ⟨RR, "leftmostPleat", "()I"⟩
abbrev mR_leftmostPleat : ev_M := (yR_leftmostPleat, cR_leftmostPleat, 2, (some .int), [])
abbrev cR_flatten : ByteArray := prog_4_method_7_code
def yR_flatten : MethodName := ⟨RR, "flatten", "(I)V"⟩
abbrev mR_flatten : ev_M := (yR_flatten, cR_flatten, 2, none, [])
abbrev cF_steps : ByteArray := prog_1_method_11_code
def yF_steps : MethodName := ⟨RF, "steps", "()I"⟩
abbrev mF_steps : ev_M := (yF_steps, cF_steps, 1, (some .int), [])
abbrev cF_orders : ByteArray := prog_1_method_13_code
def yF_orders : MethodName := ⟨RF, "orders", "()I"⟩
abbrev mF_orders : ev_M := (yF_orders, cF_orders, 1, (some .int), [])
abbrev cO_findAll : ByteArray := prog_2_method_3_code
def yO_findAll : MethodName := ⟨RO, "findAll", "()V"⟩
abbrev mO_findAll : ev_M := (yO_findAll, cO_findAll, 1, none, [])
abbrev cO_decide : ByteArray := prog_2_method_4_code
def yO_decide : MethodName := ⟨RO, "decide", "(III)V"⟩
abbrev mO_decide : ev_M := (yO_decide, cO_decide, 9, none, [])
abbrev cO_keep : ByteArray := prog_2_method_5_code
def yO_keep : MethodName := ⟨RO, "keep", "(I)V"⟩
abbrev mO_keep : ev_M := (yO_keep, cO_keep, 2, none, [])
abbrev cJA_copyOf : ByteArray := prog_18_method_123_code
def yJA_copyOf : MethodName := ⟨RJA, "copyOf", "([II)[I"⟩
abbrev mJA_copyOf : ev_M := (yJA_copyOf, cJA_copyOf, 3, (some (.array .int)), [])
abbrev cO_markingOf : ByteArray := prog_2_method_6_code
def yO_markingOf : MethodName := ⟨RO, "markingOf", "(I)I"⟩
abbrev mO_markingOf : ev_M := (yO_markingOf, cO_markingOf, 4, (some .int), [])
abbrev cO_isAbove : ByteArray := prog_2_method_8_code
def yO_isAbove : MethodName := ⟨RO, "isAbove", "(III)Z"⟩
abbrev mO_isAbove : ev_M := (yO_isAbove, cO_isAbove, 3, (some .boolean), [])
abbrev cO_bit : ByteArray := prog_2_method_7_code
def yO_bit : MethodName := ⟨RO, "bit", "(II)I"⟩
abbrev mO_bit : ev_M := (yO_bit, cO_bit, 2, (some .int), [])
abbrev cP_overlap : ByteArray := prog_3_method_24_code
def yP_overlap : MethodName := ⟨RP, "overlap", "(II)Z"⟩
abbrev mP_overlap : ev_M := (yP_overlap, cP_overlap, 3, (some .boolean), [])
abbrev cO_keepsMark : ByteArray := prog_2_method_10_code
def yO_keepsMark : MethodName := ⟨RO, "keepsMark", "(III)Z"⟩
abbrev mO_keepsMark : ev_M := (yO_keepsMark, cO_keepsMark, 5, (some .boolean), [])
abbrev cP_frontUp : ByteArray := prog_3_method_18_code
def yP_frontUp : MethodName := ⟨RP, "frontUp", "(I)Z"⟩
abbrev mP_frontUp : ev_M := (yP_frontUp, cP_frontUp, 2, (some .boolean), [])
abbrev cO_makesNoRound : ByteArray := prog_2_method_11_code
def yO_makesNoRound : MethodName := ⟨RO, "makesNoRound", "(III)Z"⟩
abbrev mO_makesNoRound : ev_M := (yO_makesNoRound, cO_makesNoRound, 5, (some .boolean), [])
abbrev cO_crossesNoCrease : ByteArray := prog_2_method_12_code
def yO_crossesNoCrease : MethodName := ⟨RO, "crossesNoCrease", "(III)Z"⟩
abbrev mO_crossesNoCrease : ev_M := (yO_crossesNoCrease, cO_crossesNoCrease, 4, (some .boolean), [])
abbrev cP_foldedCrease : ByteArray := prog_3_method_25_code
def yP_foldedCrease : MethodName := ⟨RP, "foldedCrease", "(I)I"⟩
abbrev mP_foldedCrease : ev_M := (yP_foldedCrease, cP_foldedCrease, 2, (some .int), [])
abbrev cP_hasInside : ByteArray := prog_3_method_26_code
def yP_hasInside : MethodName := ⟨RP, "hasInside", "(II)Z"⟩
abbrev mP_hasInside : ev_M := (yP_hasInside, cP_hasInside, 3, (some .boolean), [])
abbrev cO_isBetween : ByteArray := prog_2_method_9_code
def yO_isBetween : MethodName := ⟨RO, "isBetween", "(IIII)Z"⟩
abbrev mO_isBetween : ev_M := (yO_isBetween, cO_isBetween, 4, (some .boolean), [])
abbrev cO_creasesNest : ByteArray := prog_2_method_13_code
def yO_creasesNest : MethodName := ⟨RO, "creasesNest", "(III)Z"⟩
abbrev mO_creasesNest : ev_M := (yO_creasesNest, cO_creasesNest, 4, (some .boolean), [])
abbrev cF_marks : ByteArray := prog_1_method_16_code
def yF_marks : MethodName := ⟨RF, "marks", "()I"⟩
abbrev mF_marks : ev_M := (yF_marks, cF_marks, 1, (some .int), [])
abbrev cJL_bitCount : ByteArray := prog_11_method_50_code
def yJL_bitCount : MethodName := ⟨RJL, "bitCount", "(J)I"⟩
abbrev mJL_bitCount : ev_M := (yJL_bitCount, cJL_bitCount, 2, (some .int), [])
abbrev cF_run : ByteArray := prog_1_method_18_code
def yF_run : MethodName := ⟨RF, "run", "()I"⟩
abbrev mF_run : ev_M := (yF_run, cF_run, 5, (some .int), [])
abbrev cF_takesNumber : ByteArray := prog_1_method_19_code
def yF_takesNumber : MethodName := ⟨RF, "takesNumber", "(I)Z"⟩
abbrev mF_takesNumber : ev_M := (yF_takesNumber, cF_takesNumber, 1, (some .boolean), [])
abbrev cF_markOf : ByteArray := prog_1_method_20_code
def yF_markOf : MethodName := ⟨RF, "markOf", "(I)I"⟩
abbrev mF_markOf : ev_M := (yF_markOf, cF_markOf, 1, (some .int), [])
abbrev cF_digitsFrom : ByteArray := prog_1_method_21_code
def yF_digitsFrom : MethodName := ⟨RF, "digitsFrom", "(II)I"⟩
abbrev mF_digitsFrom : ev_M := (yF_digitsFrom, cF_digitsFrom, 4, (some .int), [])
abbrev cF_isDigit : ByteArray := prog_1_method_22_code
def yF_isDigit : MethodName := ⟨RF, "isDigit", "(I)Z"⟩
abbrev mF_isDigit : ev_M := (yF_isDigit, cF_isDigit, 1, (some .boolean), [])
abbrev cF_operate : ByteArray := prog_1_method_24_code
def yF_operate : MethodName := ⟨RF, "operate", "(III)I"⟩
abbrev mF_operate : ev_M := (yF_operate, cF_operate, 5, (some .int), [])
abbrev cF_numberAt : ByteArray := prog_1_method_23_code
def yF_numberAt : MethodName := ⟨RF, "numberAt", "(II)I"⟩
abbrev mF_numberAt : ev_M := (yF_numberAt, cF_numberAt, 5, (some .int), [])
abbrev cF_tryStrip : ByteArray := prog_1_method_25_code
def yF_tryStrip : MethodName := ⟨RF, "tryStrip", "(I)I"⟩
abbrev mF_tryStrip : ev_M := (yF_tryStrip, cF_tryStrip, 2, (some .int), [])
abbrev cF_tryCrease : ByteArray := prog_1_method_26_code
def yF_tryCrease : MethodName := ⟨RF, "tryCrease", "(II)I"⟩
abbrev mF_tryCrease : ev_M := (yF_tryCrease, cF_tryCrease, 4, (some .int), [])
abbrev cP_judgeCrease : ByteArray := prog_3_method_4_code
def yP_judgeCrease : MethodName := ⟨RP, "judgeCrease", "(II)I"⟩
abbrev mP_judgeCrease : ev_M := (yP_judgeCrease, cP_judgeCrease, 3, (some .int), [])
abbrev cP_hasCreaseAt : ByteArray := prog_3_method_6_code
def yP_hasCreaseAt : MethodName := ⟨RP, "hasCreaseAt", "(I)Z"⟩
abbrev mP_hasCreaseAt : ev_M := (yP_hasCreaseAt, cP_hasCreaseAt, 3, (some .boolean), [])
abbrev cP_creasesBefore : ByteArray := prog_3_method_7_code
def yP_creasesBefore : MethodName := ⟨RP, "creasesBefore", "(I)I"⟩
abbrev mP_creasesBefore : ev_M := (yP_creasesBefore, cP_creasesBefore, 3, (some .int), [])
abbrev cP_setCrease : ByteArray := prog_3_method_5_code
def yP_setCrease : MethodName := ⟨RP, "setCrease", "(II)V"⟩
abbrev mP_setCrease : ev_M := (yP_setCrease, cP_setCrease, 4, none, [])
abbrev cP_removeCrease : ByteArray := prog_3_method_9_code
def yP_removeCrease : MethodName := ⟨RP, "removeCrease", "(I)V"⟩
abbrev mP_removeCrease : ev_M := (yP_removeCrease, cP_removeCrease, 3, none, [])
abbrev cP_insertCrease : ByteArray := prog_3_method_8_code
def yP_insertCrease : MethodName := ⟨RP, "insertCrease", "(III)V"⟩
abbrev mP_insertCrease : ev_M := (yP_insertCrease, cP_insertCrease, 5, none, [])
abbrev cL_strip : ByteArray := method_3_code
def yL_strip : MethodName := ⟨RL, "strip", "(LFoldLaboratory;I)I"⟩
abbrev mL_strip : ev_M := (yL_strip, cL_strip, 3, (some .int), [(0, 5, 8, 13)])
abbrev cF_strip : ByteArray := prog_1_method_2_code
def yF_strip : MethodName := ⟨RF, "strip", "(I)V"⟩
abbrev mF_strip : ev_M := (yF_strip, cF_strip, 2, none, [])
abbrev cL_crease : ByteArray := method_4_code
def yL_crease : MethodName := ⟨RL, "crease", "(LFoldLaboratory;II[J)I"⟩
abbrev mL_crease : ev_M := (yL_crease, cL_crease, 5, (some .int), [(0, 10, 13, 13), (0, 10, 17, 19)])
abbrev cF_crease : ByteArray := prog_1_method_3_code
def yF_crease : MethodName := ⟨RF, "crease", "(II)I"⟩
abbrev mF_crease : ev_M := (yF_crease, cF_crease, 4, (some .int), [])
abbrev cL_segment : ByteArray := method_5_code
def yL_segment : MethodName := ⟨RL, "segment", "(LFoldLaboratory;II[J)I"⟩
abbrev mL_segment : ev_M := (yL_segment, cL_segment, 5, (some .int), [(0, 10, 13, 24), (0, 10, 17, 13)])
abbrev cF_segment : ByteArray := prog_1_method_6_code
def yF_segment : MethodName := ⟨RF, "segment", "(II)I"⟩
abbrev mF_segment : ev_M := (yF_segment, cF_segment, 3, (some .int), [])
abbrev cP_hasSegment : ByteArray := prog_3_method_14_code
def yP_hasSegment : MethodName := ⟨RP, "hasSegment", "(I)Z"⟩
abbrev mP_hasSegment : ev_M := (yP_hasSegment, cP_hasSegment, 2, (some .boolean), [])
abbrev cL_whereIs : ByteArray := method_6_code
def yL_whereIs : MethodName := ⟨RL, "whereIs", "(LFoldLaboratory;I[J)I"⟩
abbrev mL_whereIs : ev_M := (yL_whereIs, cL_whereIs, 4, (some .int), [(0, 9, 12, 13)])
abbrev cF_whereIs : ByteArray := prog_1_method_7_code
def yF_whereIs : MethodName := ⟨RF, "whereIs", "(I)I"⟩
abbrev mF_whereIs : ev_M := (yF_whereIs, cF_whereIs, 2, (some .int), [])
abbrev cP_foldedPlace : ByteArray := prog_3_method_19_code
def yP_foldedPlace : MethodName := ⟨RP, "foldedPlace", "(I)I"⟩
abbrev mP_foldedPlace : ev_M := (yP_foldedPlace, cP_foldedPlace, 3, (some .int), [])
abbrev cL_step : ByteArray := method_7_code
def yL_step : MethodName := ⟨RL, "step", "(LFoldLaboratory;II[J)I"⟩
abbrev mL_step : ev_M := (yL_step, cL_step, 5, (some .int), [(0, 10, 13, 24), (0, 10, 17, 13)])
abbrev cF_step : ByteArray := prog_1_method_12_code
def yF_step : MethodName := ⟨RF, "step", "(II)I"⟩
abbrev mF_step : ev_M := (yF_step, cF_step, 3, (some .int), [])
abbrev cL_above : ByteArray := method_8_code
def yL_above : MethodName := ⟨RL, "above", "(LFoldLaboratory;III[J)I"⟩
abbrev mL_above : ev_M := (yL_above, cL_above, 6, (some .int), [(0, 12, 15, 24)])
abbrev cF_above : ByteArray := prog_1_method_14_code
def yF_above : MethodName := ⟨RF, "above", "(III)I"⟩
abbrev mF_above : ev_M := (yF_above, cF_above, 4, (some .int), [])
abbrev cL_layer : ByteArray := method_9_code
def yL_layer : MethodName := ⟨RL, "layer", "(LFoldLaboratory;III[J)I"⟩
abbrev mL_layer : ev_M := (yL_layer, cL_layer, 6, (some .int), [(0, 12, 15, 24)])
abbrev cF_layer : ByteArray := prog_1_method_15_code
def yF_layer : MethodName := ⟨RF, "layer", "(III)I"⟩
abbrev mF_layer : ev_M := (yF_layer, cF_layer, 4, (some .int), [])
abbrev cO_segmentAt : ByteArray := prog_2_method_14_code
def yO_segmentAt : MethodName := ⟨RO, "segmentAt", "(III)I"⟩
abbrev mO_segmentAt : ev_M := (yO_segmentAt, cO_segmentAt, 5, (some .int), [])
abbrev cO_below : ByteArray := prog_2_method_15_code
def yO_below : MethodName := ⟨RO, "below", "(III)I"⟩
abbrev mO_below : ev_M := (yO_below, cO_below, 6, (some .int), [])
abbrev cL_type : ByteArray := method_10_code
def yL_type : MethodName := ⟨RL, "type", "(LFoldLaboratory;I[J)I"⟩
abbrev mL_type : ev_M := (yL_type, cL_type, 4, (some .int), [(0, 9, 12, 13), (0, 9, 15, 19)])
abbrev cF_type : ByteArray := prog_1_method_17_code
def yF_type : MethodName := ⟨RF, "type", "(I)I"⟩
abbrev mF_type : ev_M := (yF_type, cF_type, 2, (some .int), [])
abbrev cM_init : ByteArray := prog_6_method_1_code
def yM_init : MethodName := ⟨RM, "<init>", "()V"⟩
abbrev mM_init : ev_M := (yM_init, cM_init, 1, none, [])
abbrev cM_thrown : ByteArray := prog_6_method_2_code
def yM_thrown : MethodName := ⟨RM, "thrown", "()I"⟩
abbrev mM_thrown : ev_M := (yM_thrown, cM_thrown, 1, (some .int), [])
abbrev cM_strip : ByteArray := prog_6_method_4_code
def yM_strip : MethodName := ⟨RM, "strip", "(I)V"⟩
abbrev mM_strip : ev_M := (yM_strip, cM_strip, 2, none, [])
abbrev cM_refuse : ByteArray := prog_6_method_3_code
def yM_refuse : MethodName := ⟨RM, "refuse", "(ZZ)Z"⟩
abbrev mM_refuse : ev_M := (yM_refuse, cM_refuse, 3, (some .boolean), [])
abbrev cM_crease : ByteArray := prog_6_method_6_code
def yM_crease : MethodName := ⟨RM, "crease", "(II)I"⟩
abbrev mM_crease : ev_M := (yM_crease, cM_crease, 7, (some .int), [])
abbrev cM_before : ByteArray := prog_6_method_5_code
def yM_before : MethodName := ⟨RM, "before", "(I)I"⟩
abbrev mM_before : ev_M := (yM_before, cM_before, 4, (some .int), [])
abbrev cM_turn : ByteArray := prog_6_method_7_code
def yM_turn : MethodName := ⟨RM, "turn", "()Z"⟩
abbrev mM_turn : ev_M := (yM_turn, cM_turn, 1, (some .boolean), [])
abbrev cM_count : ByteArray := prog_6_method_9_code
def yM_count : MethodName := ⟨RM, "count", "(I)I"⟩
abbrev mM_count : ev_M := (yM_count, cM_count, 2, (some .int), [])
abbrev cM_free : ByteArray := prog_6_method_8_code
def yM_free : MethodName := ⟨RM, "free", "()I"⟩
abbrev mM_free : ev_M := (yM_free, cM_free, 3, (some .int), [])
abbrev cM_segment : ByteArray := prog_6_method_16_code
def yM_segment : MethodName := ⟨RM, "segment", "(II)I"⟩
abbrev mM_segment : ev_M := (yM_segment, cM_segment, 3, (some .int), [])
abbrev cM_leftEnd : ByteArray := prog_6_method_10_code
def yM_leftEnd : MethodName := ⟨RM, "leftEnd", "(I)I"⟩
abbrev mM_leftEnd : ev_M := (yM_leftEnd, cM_leftEnd, 2, (some .int), [])
abbrev cM_rightEnd : ByteArray := prog_6_method_11_code
def yM_rightEnd : MethodName := ⟨RM, "rightEnd", "(I)I"⟩
abbrev mM_rightEnd : ev_M := (yM_rightEnd, cM_rightEnd, 2, (some .int), [])
abbrev cM_low : ByteArray := prog_6_method_13_code
def yM_low : MethodName := ⟨RM, "low", "(I)I"⟩
abbrev mM_low : ev_M := (yM_low, cM_low, 4, (some .int), [])
abbrev cM_fold : ByteArray := prog_6_method_12_code
def yM_fold : MethodName := ⟨RM, "fold", "(I)I"⟩
abbrev mM_fold : ev_M := (yM_fold, cM_fold, 6, (some .int), [])
abbrev cM_high : ByteArray := prog_6_method_14_code
def yM_high : MethodName := ⟨RM, "high", "(I)I"⟩
abbrev mM_high : ev_M := (yM_high, cM_high, 2, (some .int), [])
abbrev cM_isUp : ByteArray := prog_6_method_15_code
def yM_isUp : MethodName := ⟨RM, "isUp", "(I)Z"⟩
abbrev mM_isUp : ev_M := (yM_isUp, cM_isUp, 2, (some .boolean), [])
abbrev cM_whereIs : ByteArray := prog_6_method_17_code
def yM_whereIs : MethodName := ⟨RM, "whereIs", "(I)I"⟩
abbrev mM_whereIs : ev_M := (yM_whereIs, cM_whereIs, 2, (some .int), [])
abbrev cM_width : ByteArray := prog_6_method_18_code
def yM_width : MethodName := ⟨RM, "width", "()I"⟩
abbrev mM_width : ev_M := (yM_width, cM_width, 4, (some .int), [])
abbrev cM_thickness : ByteArray := prog_6_method_20_code
def yM_thickness : MethodName := ⟨RM, "thickness", "()I"⟩
abbrev mM_thickness : ev_M := (yM_thickness, cM_thickness, 5, (some .int), [])
abbrev cM_covers : ByteArray := prog_6_method_19_code
def yM_covers : MethodName := ⟨RM, "covers", "(II)Z"⟩
abbrev mM_covers : ev_M := (yM_covers, cM_covers, 3, (some .boolean), [])
abbrev cM_foldable : ByteArray := prog_6_method_25_code
def yM_foldable : MethodName := ⟨RM, "foldable", "()I"⟩
abbrev mM_foldable : ev_M := (yM_foldable, cM_foldable, 1, (some .int), [])
abbrev cM_reduce : ByteArray := prog_6_method_24_code
def yM_reduce : MethodName := ⟨RM, "reduce", "()V"⟩
abbrev mM_reduce : ev_M := (yM_reduce, cM_reduce, 3, none, [])
abbrev cM_middle : ByteArray := prog_6_method_22_code
def yM_middle : MethodName := ⟨RM, "middle", "()I"⟩
abbrev mM_middle : ev_M := (yM_middle, cM_middle, 2, (some .int), [])
abbrev cM_note : ByteArray := prog_6_method_23_code
def yM_note : MethodName := ⟨RM, "note", "(II)V"⟩
abbrev mM_note : ev_M := (yM_note, cM_note, 3, none, [])
abbrev cM_drop : ByteArray := prog_6_method_21_code
def yM_drop : MethodName := ⟨RM, "drop", "(I)V"⟩
abbrev mM_drop : ev_M := (yM_drop, cM_drop, 3, none, [])
abbrev cM_steps : ByteArray := prog_6_method_26_code
def yM_steps : MethodName := ⟨RM, "steps", "()I"⟩
abbrev mM_steps : ev_M := (yM_steps, cM_steps, 1, (some .int), [])
abbrev cM_step : ByteArray := prog_6_method_27_code
def yM_step : MethodName := ⟨RM, "step", "(II)I"⟩
abbrev mM_step : ev_M := (yM_step, cM_step, 3, (some .int), [])
abbrev cM_orders : ByteArray := prog_6_method_39_code
def yM_orders : MethodName := ⟨RM, "orders", "()I"⟩
abbrev mM_orders : ev_M := (yM_orders, cM_orders, 2, (some .int), [])
abbrev cM_look : ByteArray := prog_6_method_38_code
def yM_look : MethodName := ⟨RM, "look", "(I)Z"⟩
abbrev mM_look : ev_M := (yM_look, cM_look, 6, (some .boolean), [])
abbrev cM_begin : ByteArray := prog_6_method_37_code
def yM_begin : MethodName := ⟨RM, "begin", "()I"⟩
abbrev mM_begin : ev_M := (yM_begin, cM_begin, 4, (some .int), [])
abbrev cM_overlap : ByteArray := prog_6_method_30_code
def yM_overlap : MethodName := ⟨RM, "overlap", "(II)Z"⟩
abbrev mM_overlap : ev_M := (yM_overlap, cM_overlap, 5, (some .boolean), [])
abbrev cM_set : ByteArray := prog_6_method_29_code
def yM_set : MethodName := ⟨RM, "set", "(III)V"⟩
abbrev mM_set : ev_M := (yM_set, cM_set, 4, none, [])
abbrev cM_get : ByteArray := prog_6_method_28_code
def yM_get : MethodName := ⟨RM, "get", "(II)I"⟩
abbrev mM_get : ev_M := (yM_get, cM_get, 3, (some .int), [])
abbrev cM_holds : ByteArray := prog_6_method_36_code
def yM_holds : MethodName := ⟨RM, "holds", "()Z"⟩
abbrev mM_holds : ev_M := (yM_holds, cM_holds, 6, (some .boolean), [])
abbrev cM_turnsRound : ByteArray := prog_6_method_32_code
def yM_turnsRound : MethodName := ⟨RM, "turnsRound", "(III)Z"⟩
abbrev mM_turnsRound : ev_M := (yM_turnsRound, cM_turnsRound, 4, (some .boolean), [])
abbrev cM_isMarked : ByteArray := prog_6_method_33_code
def yM_isMarked : MethodName := ⟨RM, "isMarked", "(I)Z"⟩
abbrev mM_isMarked : ev_M := (yM_isMarked, cM_isMarked, 4, (some .boolean), [])
abbrev cM_isClear : ByteArray := prog_6_method_34_code
def yM_isClear : MethodName := ⟨RM, "isClear", "(I)Z"⟩
abbrev mM_isClear : ev_M := (yM_isClear, cM_isClear, 6, (some .boolean), [])
abbrev cM_between : ByteArray := prog_6_method_31_code
def yM_between : MethodName := ⟨RM, "between", "(III)I"⟩
abbrev mM_between : ev_M := (yM_between, cM_between, 6, (some .int), [])
abbrev cM_arePeaceful : ByteArray := prog_6_method_35_code
def yM_arePeaceful : MethodName := ⟨RM, "arePeaceful", "(II)Z"⟩
abbrev mM_arePeaceful : ev_M := (yM_arePeaceful, cM_arePeaceful, 6, (some .boolean), [])
abbrev cM_above : ByteArray := prog_6_method_40_code
def yM_above : MethodName := ⟨RM, "above", "(III)I"⟩
abbrev mM_above : ev_M := (yM_above, cM_above, 5, (some .int), [])
abbrev cM_layer : ByteArray := prog_6_method_41_code
def yM_layer : MethodName := ⟨RM, "layer", "(III)I"⟩
abbrev mM_layer : ev_M := (yM_layer, cM_layer, 7, (some .int), [])
abbrev cM_marks : ByteArray := prog_6_method_42_code
def yM_marks : MethodName := ⟨RM, "marks", "()I"⟩
abbrev mM_marks : ev_M := (yM_marks, cM_marks, 7, (some .int), [])
abbrev cM_type : ByteArray := prog_6_method_43_code
def yM_type : MethodName := ⟨RM, "type", "(I)I"⟩
abbrev mM_type : ev_M := (yM_type, cM_type, 2, (some .int), [])
abbrev cM_run : ByteArray := prog_6_method_47_code
def yM_run : MethodName := ⟨RM, "run", "()I"⟩
abbrev mM_run : ev_M := (yM_run, cM_run, 9, (some .int), [])
abbrev cM_sign : ByteArray := prog_6_method_44_code
def yM_sign : MethodName := ⟨RM, "sign", "(II)I"⟩
abbrev mM_sign : ev_M := (yM_sign, cM_sign, 3, (some .int), [])
abbrev cM_isDigit : ByteArray := prog_6_method_45_code
def yM_isDigit : MethodName := ⟨RM, "isDigit", "(I)Z"⟩
abbrev mM_isDigit : ev_M := (yM_isDigit, cM_isDigit, 1, (some .boolean), [])
abbrev cM_does : ByteArray := prog_6_method_46_code
def yM_does : MethodName := ⟨RM, "does", "(II)Z"⟩
abbrev mM_does : ev_M := (yM_does, cM_does, 3, (some .boolean), [])
abbrev cL_law : ByteArray := code
def yL_law : MethodName := ⟨RL, "law", "([I)Z"⟩
abbrev mL_law : ev_M := (yL_law, cL_law, 7, (some .boolean), [])
end
section
/-! words: all good words of the tables, for every method the same list -/
def ev_WS : List Cond := lw_tbl.filter goodWord
theorem ev_good : ∀ w ∈ ev_WS, goodWord w = true := fun w h => (List.mem_filter.mp h).2
theorem ev_inA {w : Cond} (i : Nat) (h : tables_1_1[i]? = some w) (hg : goodWord w = true) : w ∈ ev_WS := List.mem_filter.mpr ⟨List.mem_append_right _ (List.mem_append_left _ (List.mem_of_getElem? h)), hg⟩
theorem ev_inB {w : Cond} (i : Nat) (h : tables_1_2[i]? = some w) (hg : goodWord w = true) : w ∈ ev_WS := List.mem_filter.mpr ⟨List.mem_append_right _ (List.mem_append_right _ (List.mem_append_left _ (List.mem_of_getElem? h))), hg⟩
theorem ev_inC {w : Cond} (i : Nat) (h : tables_1_3[i]? = some w) (hg : goodWord w = true) : w ∈ ev_WS := List.mem_filter.mpr ⟨List.mem_append_right _ (List.mem_append_right _ (List.mem_append_right _ (List.mem_append_left _ (List.mem_of_getElem? h)))), hg⟩
theorem ev_inD {w : Cond} (i : Nat) (h : tables_1_4[i]? = some w) (hg : goodWord w = true) : w ∈ ev_WS := List.mem_filter.mpr ⟨List.mem_append_right _ (List.mem_append_right _ (List.mem_append_right _ (List.mem_append_right _ (List.mem_of_getElem? h)))), hg⟩
theorem ev_inP {w : Cond} (i : Nat) (h : (k2_sels lw_privs)[i]? = some w) (hg : goodWord w = true) : w ∈ ev_WS := List.mem_filter.mpr ⟨List.mem_append_left _ (List.mem_of_getElem? h), hg⟩
def ev_NW : List Cond := []
theorem ev_NW_tab (w : Cond) (h : w ∈ ev_NW) : w.onTables = true := absurd h List.not_mem_nil
theorem ev_NW_warm {w : Cond} (h : w ∈ ev_NW) {s U : State} (_ : s.WarmedH U.vm) (_ : va_Nw w s) : va_Nw w U := absurd h List.not_mem_nil
theorem wi_F : Cond.initialized RF ∈ ev_WS := ev_inA 1 rfl rfl
theorem wi_P : Cond.initialized RP ∈ ev_WS := ev_inA 2 rfl rfl
theorem wi_R : Cond.initialized RR ∈ ev_WS := ev_inA 4 rfl rfl
theorem wi_O : Cond.initialized RO ∈ ev_WS := ev_inA 5 rfl rfl
theorem wi_M : Cond.initialized RM ∈ ev_WS := ev_inA 6 rfl rfl
theorem wi_L : Cond.initialized RL ∈ ev_WS := ev_inA 0 rfl rfl
theorem wi_JA : Cond.initialized RJA ∈ ev_WS := ev_inA 13 rfl rfl
theorem wi_JL : Cond.initialized RJL ∈ ev_WS := ev_inA 15 rfl rfl
theorem wi_Math : Cond.initialized "java/lang/Math" ∈ ev_WS := ev_inA 3 rfl rfl
theorem wi_System : Cond.initialized "java/lang/System" ∈ ev_WS := ev_inA 14 rfl rfl
theorem wa_int : Cond.arrayClass .int ∈ ev_WS := ev_inA 95 rfl rfl
theorem wa_long : Cond.arrayClass .long ∈ ev_WS := ev_inD 136 rfl rfl
theorem wl_F_0 : u_lay RF TF 0 ∈ ev_WS := ev_inA 161 rfl rfl
theorem wl_F_1 : u_lay RF TF 1 ∈ ev_WS := ev_inA 163 rfl rfl
theorem wl_F_2 : u_lay RF TF 2 ∈ ev_WS := ev_inA 165 rfl rfl
theorem wl_F_3 : u_lay RF TF 3 ∈ ev_WS := ev_inA 167 rfl rfl
theorem wl_F_4 : u_lay RF TF 4 ∈ ev_WS := ev_inA 169 rfl rfl
theorem wl_F : ∀ w ∈ u_ws RF TF 5, w ∈ ev_WS := (List.forall_mem_cons.mpr ⟨wl_F_0, (List.forall_mem_cons.mpr ⟨wl_F_1, (List.forall_mem_cons.mpr ⟨wl_F_2, (List.forall_mem_cons.mpr ⟨wl_F_3, (List.forall_mem_cons.mpr ⟨wl_F_4, (fun _ h => absurd h List.not_mem_nil)⟩)⟩)⟩)⟩)⟩)
theorem wn_F : Cond.instantiable RF 5 ∈ ev_WS := ev_inA 17 rfl rfl
theorem wl_P_0 : u_lay RP TP 0 ∈ ev_WS := ev_inA 78 rfl rfl
theorem wl_P_1 : u_lay RP TP 1 ∈ ev_WS := ev_inA 80 rfl rfl
theorem wl_P_2 : u_lay RP TP 2 ∈ ev_WS := ev_inA 82 rfl rfl
theorem wl_P_3 : u_lay RP TP 3 ∈ ev_WS := ev_inA 84 rfl rfl
theorem wl_P_4 : u_lay RP TP 4 ∈ ev_WS := ev_inA 86 rfl rfl
theorem wl_P_5 : u_lay RP TP 5 ∈ ev_WS := ev_inA 88 rfl rfl
theorem wl_P_6 : u_lay RP TP 6 ∈ ev_WS := ev_inA 90 rfl rfl
theorem wl_P_7 : u_lay RP TP 7 ∈ ev_WS := ev_inA 92 rfl rfl
theorem wl_P : ∀ w ∈ u_ws RP TP 8, w ∈ ev_WS := (List.forall_mem_cons.mpr ⟨wl_P_0, (List.forall_mem_cons.mpr ⟨wl_P_1, (List.forall_mem_cons.mpr ⟨wl_P_2, (List.forall_mem_cons.mpr ⟨wl_P_3, (List.forall_mem_cons.mpr ⟨wl_P_4, (List.forall_mem_cons.mpr ⟨wl_P_5, (List.forall_mem_cons.mpr ⟨wl_P_6, (List.forall_mem_cons.mpr ⟨wl_P_7, (fun _ h => absurd h List.not_mem_nil)⟩)⟩)⟩)⟩)⟩)⟩)⟩)⟩)
theorem wn_P : Cond.instantiable RP 8 ∈ ev_WS := ev_inA 25 rfl rfl
theorem wl_R_0 : u_lay RR TR 0 ∈ ev_WS := ev_inA 114 rfl rfl
theorem wl_R_1 : u_lay RR TR 1 ∈ ev_WS := ev_inA 116 rfl rfl
theorem wl_R_2 : u_lay RR TR 2 ∈ ev_WS := ev_inA 118 rfl rfl
theorem wl_R_3 : u_lay RR TR 3 ∈ ev_WS := ev_inA 120 rfl rfl
theorem wl_R_4 : u_lay RR TR 4 ∈ ev_WS := ev_inA 122 rfl rfl
theorem wl_R_5 : u_lay RR TR 5 ∈ ev_WS := ev_inA 124 rfl rfl
theorem wl_R_6 : u_lay RR TR 6 ∈ ev_WS := ev_inA 126 rfl rfl
theorem wl_R_7 : u_lay RR TR 7 ∈ ev_WS := ev_inA 128 rfl rfl
theorem wl_R : ∀ w ∈ u_ws RR TR 8, w ∈ ev_WS := (List.forall_mem_cons.mpr ⟨wl_R_0, (List.forall_mem_cons.mpr ⟨wl_R_1, (List.forall_mem_cons.mpr ⟨wl_R_2, (List.forall_mem_cons.mpr ⟨wl_R_3, (List.forall_mem_cons.mpr ⟨wl_R_4, (List.forall_mem_cons.mpr ⟨wl_R_5, (List.forall_mem_cons.mpr ⟨wl_R_6, (List.forall_mem_cons.mpr ⟨wl_R_7, (fun _ h => absurd h List.not_mem_nil)⟩)⟩)⟩)⟩)⟩)⟩)⟩)⟩)
theorem wn_R : Cond.instantiable RR 8 ∈ ev_WS := ev_inA 97 rfl rfl
theorem wl_O_0 : u_lay RO TO 0 ∈ ev_WS := ev_inA 145 rfl rfl
theorem wl_O_1 : u_lay RO TO 1 ∈ ev_WS := ev_inA 147 rfl rfl
theorem wl_O_2 : u_lay RO TO 2 ∈ ev_WS := ev_inA 149 rfl rfl
theorem wl_O_3 : u_lay RO TO 3 ∈ ev_WS := ev_inA 151 rfl rfl
theorem wl_O_4 : u_lay RO TO 4 ∈ ev_WS := ev_inA 153 rfl rfl
theorem wl_O : ∀ w ∈ u_ws RO TO 5, w ∈ ev_WS := (List.forall_mem_cons.mpr ⟨wl_O_0, (List.forall_mem_cons.mpr ⟨wl_O_1, (List.forall_mem_cons.mpr ⟨wl_O_2, (List.forall_mem_cons.mpr ⟨wl_O_3, (List.forall_mem_cons.mpr ⟨wl_O_4, (fun _ h => absurd h List.not_mem_nil)⟩)⟩)⟩)⟩)⟩)
theorem wn_O : Cond.instantiable RO 5 ∈ ev_WS := ev_inA 132 rfl rfl
theorem wl_M_0 : u_lay RM TM 0 ∈ ev_WS := ev_inC 145 rfl rfl
theorem wl_M_1 : u_lay RM TM 1 ∈ ev_WS := ev_inC 147 rfl rfl
theorem wl_M_2 : u_lay RM TM 2 ∈ ev_WS := ev_inC 149 rfl rfl
theorem wl_M_3 : u_lay RM TM 3 ∈ ev_WS := ev_inC 151 rfl rfl
theorem wl_M_4 : u_lay RM TM 4 ∈ ev_WS := ev_inC 153 rfl rfl
theorem wl_M_5 : u_lay RM TM 5 ∈ ev_WS := ev_inC 155 rfl rfl
theorem wl_M_6 : u_lay RM TM 6 ∈ ev_WS := ev_inC 157 rfl rfl
theorem wl_M_7 : u_lay RM TM 7 ∈ ev_WS := ev_inC 159 rfl rfl
theorem wl_M_8 : u_lay RM TM 8 ∈ ev_WS := ev_inC 161 rfl rfl
theorem wl_M_9 : u_lay RM TM 9 ∈ ev_WS := ev_inC 163 rfl rfl
theorem wl_M_10 : u_lay RM TM 10 ∈ ev_WS := ev_inC 165 rfl rfl
theorem wl_M_11 : u_lay RM TM 11 ∈ ev_WS := ev_inC 167 rfl rfl
theorem wl_M_12 : u_lay RM TM 12 ∈ ev_WS := ev_inC 169 rfl rfl
theorem wl_M_13 : u_lay RM TM 13 ∈ ev_WS := ev_inC 171 rfl rfl
theorem wl_M_14 : u_lay RM TM 14 ∈ ev_WS := ev_inC 173 rfl rfl
theorem wl_M_15 : u_lay RM TM 15 ∈ ev_WS := ev_inC 175 rfl rfl
theorem wl_M_16 : u_lay RM TM 16 ∈ ev_WS := ev_inC 177 rfl rfl
theorem wl_M_17 : u_lay RM TM 17 ∈ ev_WS := ev_inC 179 rfl rfl
theorem wl_M_18 : u_lay RM TM 18 ∈ ev_WS := ev_inC 181 rfl rfl
theorem wl_M_19 : u_lay RM TM 19 ∈ ev_WS := ev_inC 183 rfl rfl
theorem wl_M_20 : u_lay RM TM 20 ∈ ev_WS := ev_inC 185 rfl rfl
theorem wl_M_21 : u_lay RM TM 21 ∈ ev_WS := ev_inC 187 rfl rfl
theorem wl_M : ∀ w ∈ u_ws RM TM 22, w ∈ ev_WS := (List.forall_mem_cons.mpr ⟨wl_M_0, (List.forall_mem_cons.mpr ⟨wl_M_1, (List.forall_mem_cons.mpr ⟨wl_M_2, (List.forall_mem_cons.mpr ⟨wl_M_3, (List.forall_mem_cons.mpr ⟨wl_M_4, (List.forall_mem_cons.mpr ⟨wl_M_5, (List.forall_mem_cons.mpr ⟨wl_M_6, (List.forall_mem_cons.mpr ⟨wl_M_7, (List.forall_mem_cons.mpr ⟨wl_M_8, (List.forall_mem_cons.mpr ⟨wl_M_9, (List.forall_mem_cons.mpr ⟨wl_M_10, (List.forall_mem_cons.mpr ⟨wl_M_11, (List.forall_mem_cons.mpr ⟨wl_M_12, (List.forall_mem_cons.mpr ⟨wl_M_13, (List.forall_mem_cons.mpr ⟨wl_M_14, (List.forall_mem_cons.mpr ⟨wl_M_15, (List.forall_mem_cons.mpr ⟨wl_M_16, (List.forall_mem_cons.mpr ⟨wl_M_17, (List.forall_mem_cons.mpr ⟨wl_M_18, (List.forall_mem_cons.mpr ⟨wl_M_19, (List.forall_mem_cons.mpr ⟨wl_M_20, (List.forall_mem_cons.mpr ⟨wl_M_21, (fun _ h => absurd h List.not_mem_nil)⟩)⟩)⟩)⟩)⟩)⟩)⟩)⟩)⟩)⟩)⟩)⟩)⟩)⟩)⟩)⟩)⟩)⟩)⟩)⟩)⟩)⟩)
theorem wn_M : Cond.instantiable RM 22 ∈ ev_WS := ev_inC 118 rfl rfl
theorem wk_L_8 : Cond.classLink RL 8 RF ∈ ev_WS := ev_inA 16 rfl rfl
theorem wk_F_9 : Cond.classLink RF 9 RP ∈ ev_WS := ev_inA 24 rfl rfl
theorem wk_F_16 : Cond.classLink RF 16 RR ∈ ev_WS := ev_inA 96 rfl rfl
theorem wk_F_25 : Cond.classLink RF 25 RO ∈ ev_WS := ev_inA 131 rfl rfl
theorem wk_L_44 : Cond.classLink RL 44 RM ∈ ev_WS := ev_inC 117 rfl rfl
theorem wf_P_31 : Cond.fieldLink RP 31 "FoldLaboratory$Paper" "length" "I" ∈ ev_WS := ev_inA 59 rfl rfl
theorem wf_F_75 : Cond.fieldLink RF 75 "FoldLaboratory$Paper" "length" "I" ∈ ev_WS := ev_inA 60 rfl rfl
theorem wf_P_35 : Cond.fieldLink RP 35 "FoldLaboratory$Paper" "creases" "I" ∈ ev_WS := ev_inA 61 rfl rfl
theorem wf_F_62 : Cond.fieldLink RF 62 "FoldLaboratory$Paper" "creases" "I" ∈ ev_WS := ev_inA 62 rfl rfl
theorem wf_R_55 : Cond.fieldLink RR 55 "FoldLaboratory$Paper" "creases" "I" ∈ ev_WS := ev_inA 63 rfl rfl
theorem wf_O_35 : Cond.fieldLink RO 35 "FoldLaboratory$Paper" "creases" "I" ∈ ev_WS := ev_inA 64 rfl rfl
theorem wf_P_38 : Cond.fieldLink RP 38 "FoldLaboratory$Paper" "turned" "Z" ∈ ev_WS := ev_inA 65 rfl rfl
theorem wf_F_71 : Cond.fieldLink RF 71 "FoldLaboratory$Paper" "turned" "Z" ∈ ev_WS := ev_inA 66 rfl rfl
theorem wf_P_9 : Cond.fieldLink RP 9 "FoldLaboratory$Paper" "creasePlaces" "[I" ∈ ev_WS := ev_inA 67 rfl rfl
theorem wf_R_58 : Cond.fieldLink RR 58 "FoldLaboratory$Paper" "creasePlaces" "[I" ∈ ev_WS := ev_inA 68 rfl rfl
theorem wf_P_15 : Cond.fieldLink RP 15 "FoldLaboratory$Paper" "creaseMarks" "[I" ∈ ev_WS := ev_inA 69 rfl rfl
theorem wf_R_61 : Cond.fieldLink RR 61 "FoldLaboratory$Paper" "creaseMarks" "[I" ∈ ev_WS := ev_inA 70 rfl rfl
theorem wf_F_106 : Cond.fieldLink RF 106 "FoldLaboratory$Paper" "creaseMarks" "[I" ∈ ev_WS := ev_inA 71 rfl rfl
theorem wf_O_78 : Cond.fieldLink RO 78 "FoldLaboratory$Paper" "creaseMarks" "[I" ∈ ev_WS := ev_inA 72 rfl rfl
theorem wf_P_18 : Cond.fieldLink RP 18 "FoldLaboratory$Paper" "bends" "[I" ∈ ev_WS := ev_inA 73 rfl rfl
theorem wf_P_21 : Cond.fieldLink RP 21 "FoldLaboratory$Paper" "imageLow" "[I" ∈ ev_WS := ev_inA 74 rfl rfl
theorem wf_F_97 : Cond.fieldLink RF 97 "FoldLaboratory$Paper" "imageLow" "[I" ∈ ev_WS := ev_inA 75 rfl rfl
theorem wf_P_24 : Cond.fieldLink RP 24 "FoldLaboratory$Paper" "imageHigh" "[I" ∈ ev_WS := ev_inA 76 rfl rfl
theorem wf_F_100 : Cond.fieldLink RF 100 "FoldLaboratory$Paper" "imageHigh" "[I" ∈ ev_WS := ev_inA 77 rfl rfl
theorem wf_R_9 : Cond.fieldLink RR 9 "FoldLaboratory$Reductions" "paper" "LFoldLaboratory$Paper;" ∈ ev_WS := ev_inA 102 rfl rfl
theorem wf_R_15 : Cond.fieldLink RR 15 "FoldLaboratory$Reductions" "lengths" "[I" ∈ ev_WS := ev_inA 103 rfl rfl
theorem wf_R_19 : Cond.fieldLink RR 19 "FoldLaboratory$Reductions" "places" "[I" ∈ ev_WS := ev_inA 104 rfl rfl
theorem wf_R_22 : Cond.fieldLink RR 22 "FoldLaboratory$Reductions" "creaseMarks" "[I" ∈ ev_WS := ev_inA 105 rfl rfl
theorem wf_R_34 : Cond.fieldLink RR 34 "FoldLaboratory$Reductions" "remaining" "I" ∈ ev_WS := ev_inA 106 rfl rfl
theorem wf_F_125 : Cond.fieldLink RF 125 "FoldLaboratory$Reductions" "remaining" "I" ∈ ev_WS := ev_inA 107 rfl rfl
theorem wf_R_42 : Cond.fieldLink RR 42 "FoldLaboratory$Reductions" "done" "I" ∈ ev_WS := ev_inA 108 rfl rfl
theorem wf_F_128 : Cond.fieldLink RF 128 "FoldLaboratory$Reductions" "done" "I" ∈ ev_WS := ev_inA 109 rfl rfl
theorem wf_R_25 : Cond.fieldLink RR 25 "FoldLaboratory$Reductions" "kinds" "[I" ∈ ev_WS := ev_inA 110 rfl rfl
theorem wf_F_138 : Cond.fieldLink RF 138 "FoldLaboratory$Reductions" "kinds" "[I" ∈ ev_WS := ev_inA 111 rfl rfl
theorem wf_R_28 : Cond.fieldLink RR 28 "FoldLaboratory$Reductions" "wentAt" "[I" ∈ ev_WS := ev_inA 112 rfl rfl
theorem wf_F_141 : Cond.fieldLink RF 141 "FoldLaboratory$Reductions" "wentAt" "[I" ∈ ev_WS := ev_inA 113 rfl rfl
theorem wf_O_9 : Cond.fieldLink RO 9 "FoldLaboratory$LayerOrders" "paper" "LFoldLaboratory$Paper;" ∈ ev_WS := ev_inA 137 rfl rfl
theorem wf_O_19 : Cond.fieldLink RO 19 "FoldLaboratory$LayerOrders" "known" "Z" ∈ ev_WS := ev_inA 138 rfl rfl
theorem wf_O_23 : Cond.fieldLink RO 23 "FoldLaboratory$LayerOrders" "found" "I" ∈ ev_WS := ev_inA 139 rfl rfl
theorem wf_F_147 : Cond.fieldLink RF 147 "FoldLaboratory$LayerOrders" "found" "I" ∈ ev_WS := ev_inA 140 rfl rfl
theorem wf_O_15 : Cond.fieldLink RO 15 "FoldLaboratory$LayerOrders" "rows" "[I" ∈ ev_WS := ev_inA 141 rfl rfl
theorem wf_F_156 : Cond.fieldLink RF 156 "FoldLaboratory$LayerOrders" "rows" "[I" ∈ ev_WS := ev_inA 142 rfl rfl
theorem wf_O_27 : Cond.fieldLink RO 27 "FoldLaboratory$LayerOrders" "markings" "J" ∈ ev_WS := ev_inA 143 rfl rfl
theorem wf_F_169 : Cond.fieldLink RF 169 "FoldLaboratory$LayerOrders" "markings" "J" ∈ ev_WS := ev_inA 144 rfl rfl
theorem wf_F_12 : Cond.fieldLink RF 12 "FoldLaboratory" "paper" "LFoldLaboratory$Paper;" ∈ ev_WS := ev_inA 156 rfl rfl
theorem wf_F_21 : Cond.fieldLink RF 21 "FoldLaboratory" "reductions" "LFoldLaboratory$Reductions;" ∈ ev_WS := ev_inA 157 rfl rfl
theorem wf_F_28 : Cond.fieldLink RF 28 "FoldLaboratory" "layerOrders" "LFoldLaboratory$LayerOrders;" ∈ ev_WS := ev_inA 158 rfl rfl
theorem wf_F_32 : Cond.fieldLink RF 32 "FoldLaboratory" "signs" "[I" ∈ ev_WS := ev_inA 159 rfl rfl
theorem wf_F_36 : Cond.fieldLink RF 36 "FoldLaboratory" "typed" "I" ∈ ev_WS := ev_inA 160 rfl rfl
theorem wf_M_56 : Cond.fieldLink RM 56 "FoldLaboratoryModel" "thrown" "I" ∈ ev_WS := ev_inC 123 rfl rfl
theorem wf_M_7 : Cond.fieldLink RM 7 "FoldLaboratoryModel" "length" "I" ∈ ev_WS := ev_inC 124 rfl rfl
theorem wf_M_66 : Cond.fieldLink RM 66 "FoldLaboratoryModel" "turned" "Z" ∈ ev_WS := ev_inC 125 rfl rfl
theorem wf_M_13 : Cond.fieldLink RM 13 "FoldLaboratoryModel" "places" "[I" ∈ ev_WS := ev_inC 126 rfl rfl
theorem wf_M_17 : Cond.fieldLink RM 17 "FoldLaboratoryModel" "marks" "[I" ∈ ev_WS := ev_inC 127 rfl rfl
theorem wf_M_63 : Cond.fieldLink RM 63 "FoldLaboratoryModel" "creases" "I" ∈ ev_WS := ev_inC 128 rfl rfl
theorem wf_M_20 : Cond.fieldLink RM 20 "FoldLaboratoryModel" "text" "[I" ∈ ev_WS := ev_inC 129 rfl rfl
theorem wf_M_78 : Cond.fieldLink RM 78 "FoldLaboratoryModel" "typed" "I" ∈ ev_WS := ev_inC 130 rfl rfl
theorem wf_M_23 : Cond.fieldLink RM 23 "FoldLaboratoryModel" "order" "[I" ∈ ev_WS := ev_inC 131 rfl rfl
theorem wf_M_26 : Cond.fieldLink RM 26 "FoldLaboratoryModel" "pairA" "[I" ∈ ev_WS := ev_inC 132 rfl rfl
theorem wf_M_29 : Cond.fieldLink RM 29 "FoldLaboratoryModel" "pairB" "[I" ∈ ev_WS := ev_inC 133 rfl rfl
theorem wf_M_32 : Cond.fieldLink RM 32 "FoldLaboratoryModel" "lows" "[I" ∈ ev_WS := ev_inC 134 rfl rfl
theorem wf_M_35 : Cond.fieldLink RM 35 "FoldLaboratoryModel" "highs" "[I" ∈ ev_WS := ev_inC 135 rfl rfl
theorem wf_M_38 : Cond.fieldLink RM 38 "FoldLaboratoryModel" "meets" "[I" ∈ ev_WS := ev_inC 136 rfl rfl
theorem wf_M_155 : Cond.fieldLink RM 155 "FoldLaboratoryModel" "found" "I" ∈ ev_WS := ev_inC 137 rfl rfl
theorem wf_M_41 : Cond.fieldLink RM 41 "FoldLaboratoryModel" "row" "[I" ∈ ev_WS := ev_inC 138 rfl rfl
theorem wf_M_44 : Cond.fieldLink RM 44 "FoldLaboratoryModel" "rowMarks" "[I" ∈ ev_WS := ev_inC 139 rfl rfl
theorem wf_M_47 : Cond.fieldLink RM 47 "FoldLaboratoryModel" "rowPlaces" "[I" ∈ ev_WS := ev_inC 140 rfl rfl
theorem wf_M_104 : Cond.fieldLink RM 104 "FoldLaboratoryModel" "rowCount" "I" ∈ ev_WS := ev_inC 141 rfl rfl
theorem wf_M_50 : Cond.fieldLink RM 50 "FoldLaboratoryModel" "stepKinds" "[I" ∈ ev_WS := ev_inC 142 rfl rfl
theorem wf_M_53 : Cond.fieldLink RM 53 "FoldLaboratoryModel" "stepPlaces" "[I" ∈ ev_WS := ev_inC 143 rfl rfl
theorem wf_M_107 : Cond.fieldLink RM 107 "FoldLaboratoryModel" "stepCount" "I" ∈ ev_WS := ev_inC 144 rfl rfl
theorem wm_L_43 : Cond.methodLink RL 43 yF_init ∈ ev_WS := ev_inA 18 rfl rfl
theorem wm_F_3 : Cond.methodLink RF 3 Lib.objectInit ∈ ev_WS := ev_inA 21 rfl rfl
theorem wm_F_11 : Cond.methodLink RF 11 yP_init ∈ ev_WS := ev_inA 26 rfl rfl
theorem wm_P_3 : Cond.methodLink RP 3 Lib.objectInit ∈ ev_WS := ev_inA 29 rfl rfl
theorem wm_P_27 : Cond.methodLink RP 27 yP_renew ∈ ev_WS := ev_inA 30 rfl rfl
theorem wm_P_42 : Cond.methodLink RP 42 yP_fold ∈ ev_WS := ev_inA 34 rfl rfl
theorem wm_P_60 : Cond.methodLink RP 60 yP_direction ∈ ev_WS := ev_inA 38 rfl rfl
theorem wm_P_63 : Cond.methodLink RP 63 yP_segmentLength ∈ ev_WS := ev_inA 41 rfl rfl
theorem wm_P_75 : Cond.methodLink RP 75 yP_rightEnd ∈ ev_WS := ev_inA 45 rfl rfl
theorem wm_P_78 : Cond.methodLink RP 78 yP_leftEnd ∈ ev_WS := ev_inA 49 rfl rfl
theorem wm_F_18 : Cond.methodLink RF 18 yR_init ∈ ev_WS := ev_inA 98 rfl rfl
theorem wm_R_3 : Cond.methodLink RR 3 Lib.objectInit ∈ ev_WS := ev_inA 101 rfl rfl
theorem wm_F_27 : Cond.methodLink RF 27 yO_init ∈ ev_WS := ev_inA 133 rfl rfl
theorem wm_O_3 : Cond.methodLink RO 3 Lib.objectInit ∈ ev_WS := ev_inA 136 rfl rfl
theorem wm_L_61 : Cond.methodLink RL 61 yF_turn ∈ ev_WS := ev_inA 172 rfl rfl
theorem wm_F_65 : Cond.methodLink RF 65 yP_turnOver ∈ ev_WS := ev_inA 176 rfl rfl
theorem wm_F_68 : Cond.methodLink RF 68 yO_forget ∈ ev_WS := ev_inA 180 rfl rfl
theorem wm_L_66 : Cond.methodLink RL 66 yF_count ∈ ev_WS := ev_inA 184 rfl rfl
theorem wm_F_78 : Cond.methodLink RF 78 yP_freeCreases ∈ ev_WS := ev_inA 188 rfl rfl
theorem wm_L_77 : Cond.methodLink RL 77 yF_width ∈ ev_WS := ev_inA 192 rfl rfl
theorem wm_F_116 : Cond.methodLink RF 116 yP_reach ∈ ev_WS := ev_inA 196 rfl rfl
theorem wm_P_81 : Cond.methodLink RP 81 yP_segments ∈ ev_WS := ev_inA 200 rfl rfl
theorem wm_L_81 : Cond.methodLink RL 81 yF_thickness ∈ ev_WS := ev_inA 204 rfl rfl
theorem wm_F_119 : Cond.methodLink RF 119 yP_mostImages ∈ ev_WS := ev_inA 208 rfl rfl
theorem wm_P_85 : Cond.methodLink RP 85 yP_imagesOver ∈ ev_WS := ev_inA 212 rfl rfl
theorem wm_P_88 : Cond.methodLink RP 88 yP_liesOver ∈ ev_WS := ev_inA 216 rfl rfl
theorem wm_L_85 : Cond.methodLink RL 85 yF_foldable ∈ ev_WS := ev_inA 220 rfl rfl
theorem wm_F_122 : Cond.methodLink RF 122 yR_reduce ∈ ev_WS := ev_inA 224 rfl rfl
theorem wm_R_31 : Cond.methodLink RR 31 yR_copyPattern ∈ ev_WS := ev_inA 228 rfl rfl
theorem wm_R_45 : Cond.methodLink RR 45 yP_segments ∈ ev_WS := ev_inA 232 rfl rfl
theorem wm_R_51 : Cond.methodLink RR 51 yP_segmentLength ∈ ev_WS := ev_inA 233 rfl rfl
theorem wm_R_38 : Cond.methodLink RR 38 yR_reduceOnce ∈ ev_WS := ev_inA 234 rfl rfl
theorem wm_R_62 : Cond.methodLink RR 62 yR_note ∈ ev_WS := ev_inA 238 rfl rfl
theorem wm_R_66 : Cond.methodLink RR 66 yR_removeLengths ∈ ev_WS := ev_inB 2 rfl rfl
theorem wm_R_69 : Cond.methodLink RR 69 yR_removeCreases ∈ ev_WS := ev_inB 6 rfl rfl
theorem wm_R_72 : Cond.methodLink RR 72 yR_leftmostPleat ∈ ev_WS := ev_inB 10 rfl rfl
theorem wm_R_75 : Cond.methodLink RR 75 yR_flatten ∈ ev_WS := ev_inB 14 rfl rfl
theorem wm_L_89 : Cond.methodLink RL 89 yF_steps ∈ ev_WS := ev_inB 18 rfl rfl
theorem wm_L_96 : Cond.methodLink RL 96 yF_orders ∈ ev_WS := ev_inB 22 rfl rfl
theorem wm_F_144 : Cond.methodLink RF 144 yO_findAll ∈ ev_WS := ev_inB 26 rfl rfl
theorem wm_O_31 : Cond.methodLink RO 31 yO_decide ∈ ev_WS := ev_inB 30 rfl rfl
theorem wm_O_40 : Cond.methodLink RO 40 yO_keep ∈ ev_WS := ev_inB 34 rfl rfl
theorem wm_O_65 : Cond.methodLink RO 65 yJA_copyOf ∈ ev_WS := ev_inB 38 rfl rfl
theorem wm_O_71 : Cond.methodLink RO 71 yO_markingOf ∈ ev_WS := ev_inB 52 rfl rfl
theorem wm_O_75 : Cond.methodLink RO 75 yO_isAbove ∈ ev_WS := ev_inB 56 rfl rfl
theorem wm_O_48 : Cond.methodLink RO 48 yO_bit ∈ ev_WS := ev_inB 59 rfl rfl
theorem wm_O_44 : Cond.methodLink RO 44 yP_overlap ∈ ev_WS := ev_inB 62 rfl rfl
theorem wm_O_52 : Cond.methodLink RO 52 yO_keepsMark ∈ ev_WS := ev_inB 66 rfl rfl
theorem wm_O_81 : Cond.methodLink RO 81 yP_frontUp ∈ ev_WS := ev_inB 70 rfl rfl
theorem wm_O_56 : Cond.methodLink RO 56 yO_makesNoRound ∈ ev_WS := ev_inB 74 rfl rfl
theorem wm_O_59 : Cond.methodLink RO 59 yO_crossesNoCrease ∈ ev_WS := ev_inB 78 rfl rfl
theorem wm_O_85 : Cond.methodLink RO 85 yP_foldedCrease ∈ ev_WS := ev_inB 82 rfl rfl
theorem wm_O_88 : Cond.methodLink RO 88 yP_hasInside ∈ ev_WS := ev_inB 86 rfl rfl
theorem wm_O_91 : Cond.methodLink RO 91 yO_isBetween ∈ ev_WS := ev_inB 90 rfl rfl
theorem wm_O_62 : Cond.methodLink RO 62 yO_creasesNest ∈ ev_WS := ev_inB 93 rfl rfl
theorem wm_L_107 : Cond.methodLink RL 107 yF_marks ∈ ev_WS := ev_inB 97 rfl rfl
theorem wm_F_173 : Cond.methodLink RF 173 yJL_bitCount ∈ ev_WS := ev_inB 101 rfl rfl
theorem wm_L_114 : Cond.methodLink RL 114 yF_run ∈ ev_WS := ev_inB 107 rfl rfl
theorem wm_F_183 : Cond.methodLink RF 183 yF_takesNumber ∈ ev_WS := ev_inB 111 rfl rfl
theorem wm_F_192 : Cond.methodLink RF 192 yF_markOf ∈ ev_WS := ev_inB 114 rfl rfl
theorem wm_F_186 : Cond.methodLink RF 186 yF_digitsFrom ∈ ev_WS := ev_inB 117 rfl rfl
theorem wm_F_195 : Cond.methodLink RF 195 yF_isDigit ∈ ev_WS := ev_inB 121 rfl rfl
theorem wm_F_189 : Cond.methodLink RF 189 yF_operate ∈ ev_WS := ev_inB 124 rfl rfl
theorem wm_F_198 : Cond.methodLink RF 198 yF_turn ∈ ev_WS := ev_inB 128 rfl rfl
theorem wm_F_202 : Cond.methodLink RF 202 yF_numberAt ∈ ev_WS := ev_inB 129 rfl rfl
theorem wm_F_40 : Cond.methodLink RF 40 yF_tryStrip ∈ ev_WS := ev_inB 133 rfl rfl
theorem wm_F_205 : Cond.methodLink RF 205 yP_renew ∈ ev_WS := ev_inB 137 rfl rfl
theorem wm_F_51 : Cond.methodLink RF 51 yF_tryCrease ∈ ev_WS := ev_inB 138 rfl rfl
theorem wm_F_209 : Cond.methodLink RF 209 yP_judgeCrease ∈ ev_WS := ev_inB 142 rfl rfl
theorem wm_P_45 : Cond.methodLink RP 45 yP_hasCreaseAt ∈ ev_WS := ev_inB 146 rfl rfl
theorem wm_P_49 : Cond.methodLink RP 49 yP_creasesBefore ∈ ev_WS := ev_inB 150 rfl rfl
theorem wm_F_212 : Cond.methodLink RF 212 yP_setCrease ∈ ev_WS := ev_inB 154 rfl rfl
theorem wm_P_53 : Cond.methodLink RP 53 yP_removeCrease ∈ ev_WS := ev_inB 158 rfl rfl
theorem wm_P_56 : Cond.methodLink RP 56 yP_insertCrease ∈ ev_WS := ev_inB 162 rfl rfl
theorem wm_L_47 : Cond.methodLink RL 47 yL_strip ∈ ev_WS := ev_inB 166 rfl rfl
theorem wm_L_7 : Cond.methodLink RL 7 yF_strip ∈ ev_WS := ev_inB 170 rfl rfl
theorem wm_L_57 : Cond.methodLink RL 57 yL_crease ∈ ev_WS := ev_inC 2 rfl rfl
theorem wm_L_15 : Cond.methodLink RL 15 yF_crease ∈ ev_WS := ev_inC 6 rfl rfl
theorem wm_L_70 : Cond.methodLink RL 70 yL_segment ∈ ev_WS := ev_inC 27 rfl rfl
theorem wm_L_21 : Cond.methodLink RL 21 yF_segment ∈ ev_WS := ev_inC 31 rfl rfl
theorem wm_F_82 : Cond.methodLink RF 82 yP_hasSegment ∈ ev_WS := ev_inC 35 rfl rfl
theorem wm_F_91 : Cond.methodLink RF 91 yP_leftEnd ∈ ev_WS := ev_inC 55 rfl rfl
theorem wm_F_94 : Cond.methodLink RF 94 yP_rightEnd ∈ ev_WS := ev_inC 56 rfl rfl
theorem wm_F_103 : Cond.methodLink RF 103 yP_frontUp ∈ ev_WS := ev_inC 57 rfl rfl
theorem wm_L_73 : Cond.methodLink RL 73 yL_whereIs ∈ ev_WS := ev_inC 59 rfl rfl
theorem wm_L_26 : Cond.methodLink RL 26 yF_whereIs ∈ ev_WS := ev_inC 62 rfl rfl
theorem wm_F_113 : Cond.methodLink RF 113 yP_foldedPlace ∈ ev_WS := ev_inC 67 rfl rfl
theorem wm_L_93 : Cond.methodLink RL 93 yL_step ∈ ev_WS := ev_inC 71 rfl rfl
theorem wm_L_30 : Cond.methodLink RL 30 yF_step ∈ ev_WS := ev_inC 74 rfl rfl
theorem wm_F_131 : Cond.methodLink RF 131 yF_steps ∈ ev_WS := ev_inC 78 rfl rfl
theorem wm_L_100 : Cond.methodLink RL 100 yL_above ∈ ev_WS := ev_inC 81 rfl rfl
theorem wm_L_33 : Cond.methodLink RL 33 yF_above ∈ ev_WS := ev_inC 84 rfl rfl
theorem wm_F_152 : Cond.methodLink RF 152 yP_overlap ∈ ev_WS := ev_inC 89 rfl rfl
theorem wm_F_159 : Cond.methodLink RF 159 yO_isAbove ∈ ev_WS := ev_inC 90 rfl rfl
theorem wm_L_104 : Cond.methodLink RL 104 yL_layer ∈ ev_WS := ev_inC 91 rfl rfl
theorem wm_L_37 : Cond.methodLink RL 37 yF_layer ∈ ev_WS := ev_inC 94 rfl rfl
theorem wm_F_165 : Cond.methodLink RF 165 yO_segmentAt ∈ ev_WS := ev_inC 99 rfl rfl
theorem wm_O_95 : Cond.methodLink RO 95 yP_liesOver ∈ ev_WS := ev_inC 103 rfl rfl
theorem wm_O_98 : Cond.methodLink RO 98 yO_below ∈ ev_WS := ev_inC 104 rfl rfl
theorem wm_L_111 : Cond.methodLink RL 111 yL_type ∈ ev_WS := ev_inC 108 rfl rfl
theorem wm_L_40 : Cond.methodLink RL 40 yF_type ∈ ev_WS := ev_inC 111 rfl rfl
theorem wm_L_46 : Cond.methodLink RL 46 yM_init ∈ ev_WS := ev_inC 119 rfl rfl
theorem wm_M_1 : Cond.methodLink RM 1 Lib.objectInit ∈ ev_WS := ev_inC 122 rfl rfl
theorem wm_L_53 : Cond.methodLink RL 53 yM_thrown ∈ ev_WS := ev_inC 190 rfl rfl
theorem wm_L_52 : Cond.methodLink RL 52 yM_strip ∈ ev_WS := ev_inC 194 rfl rfl
theorem wm_M_59 : Cond.methodLink RM 59 yM_refuse ∈ ev_WS := ev_inC 198 rfl rfl
theorem wm_L_60 : Cond.methodLink RL 60 yM_crease ∈ ev_WS := ev_inC 202 rfl rfl
theorem wm_M_70 : Cond.methodLink RM 70 yM_before ∈ ev_WS := ev_inC 206 rfl rfl
theorem wm_L_65 : Cond.methodLink RL 65 yM_turn ∈ ev_WS := ev_inC 210 rfl rfl
theorem wm_L_69 : Cond.methodLink RL 69 yM_count ∈ ev_WS := ev_inC 214 rfl rfl
theorem wm_M_74 : Cond.methodLink RM 74 yM_free ∈ ev_WS := ev_inC 218 rfl rfl
theorem wm_L_72 : Cond.methodLink RL 72 yM_segment ∈ ev_WS := ev_inC 222 rfl rfl
theorem wm_M_81 : Cond.methodLink RM 81 yM_leftEnd ∈ ev_WS := ev_inC 226 rfl rfl
theorem wm_M_87 : Cond.methodLink RM 87 yM_rightEnd ∈ ev_WS := ev_inC 230 rfl rfl
theorem wm_M_90 : Cond.methodLink RM 90 yM_low ∈ ev_WS := ev_inC 234 rfl rfl
theorem wm_M_84 : Cond.methodLink RM 84 yM_fold ∈ ev_WS := ev_inC 238 rfl rfl
theorem wm_M_93 : Cond.methodLink RM 93 yM_high ∈ ev_WS := ev_inD 2 rfl rfl
theorem wm_M_96 : Cond.methodLink RM 96 yM_isUp ∈ ev_WS := ev_inD 6 rfl rfl
theorem wm_L_76 : Cond.methodLink RL 76 yM_whereIs ∈ ev_WS := ev_inD 10 rfl rfl
theorem wm_L_80 : Cond.methodLink RL 80 yM_width ∈ ev_WS := ev_inD 14 rfl rfl
theorem wm_L_84 : Cond.methodLink RL 84 yM_thickness ∈ ev_WS := ev_inD 18 rfl rfl
theorem wm_M_100 : Cond.methodLink RM 100 yM_covers ∈ ev_WS := ev_inD 22 rfl rfl
theorem wm_L_88 : Cond.methodLink RL 88 yM_foldable ∈ ev_WS := ev_inD 26 rfl rfl
theorem wm_M_121 : Cond.methodLink RM 121 yM_reduce ∈ ev_WS := ev_inD 30 rfl rfl
theorem wm_M_110 : Cond.methodLink RM 110 yM_middle ∈ ev_WS := ev_inD 34 rfl rfl
theorem wm_M_113 : Cond.methodLink RM 113 yM_note ∈ ev_WS := ev_inD 38 rfl rfl
theorem wm_M_117 : Cond.methodLink RM 117 yM_drop ∈ ev_WS := ev_inD 42 rfl rfl
theorem wm_L_92 : Cond.methodLink RL 92 yM_steps ∈ ev_WS := ev_inD 46 rfl rfl
theorem wm_L_95 : Cond.methodLink RL 95 yM_step ∈ ev_WS := ev_inD 50 rfl rfl
theorem wm_L_99 : Cond.methodLink RL 99 yM_orders ∈ ev_WS := ev_inD 54 rfl rfl
theorem wm_M_163 : Cond.methodLink RM 163 yM_look ∈ ev_WS := ev_inD 59 rfl rfl
theorem wm_M_152 : Cond.methodLink RM 152 yM_begin ∈ ev_WS := ev_inD 63 rfl rfl
theorem wm_M_132 : Cond.methodLink RM 132 yM_overlap ∈ ev_WS := ev_inD 67 rfl rfl
theorem wm_M_148 : Cond.methodLink RM 148 yM_set ∈ ev_WS := ev_inD 71 rfl rfl
theorem wm_M_124 : Cond.methodLink RM 124 yM_get ∈ ev_WS := ev_inD 75 rfl rfl
theorem wm_M_158 : Cond.methodLink RM 158 yM_holds ∈ ev_WS := ev_inD 79 rfl rfl
theorem wm_M_135 : Cond.methodLink RM 135 yM_turnsRound ∈ ev_WS := ev_inD 83 rfl rfl
theorem wm_M_139 : Cond.methodLink RM 139 yM_isMarked ∈ ev_WS := ev_inD 87 rfl rfl
theorem wm_M_142 : Cond.methodLink RM 142 yM_isClear ∈ ev_WS := ev_inD 91 rfl rfl
theorem wm_M_128 : Cond.methodLink RM 128 yM_between ∈ ev_WS := ev_inD 95 rfl rfl
theorem wm_M_145 : Cond.methodLink RM 145 yM_arePeaceful ∈ ev_WS := ev_inD 99 rfl rfl
theorem wm_L_103 : Cond.methodLink RL 103 yM_above ∈ ev_WS := ev_inD 103 rfl rfl
theorem wm_L_106 : Cond.methodLink RL 106 yM_layer ∈ ev_WS := ev_inD 107 rfl rfl
theorem wm_L_110 : Cond.methodLink RL 110 yM_marks ∈ ev_WS := ev_inD 111 rfl rfl
theorem wm_L_113 : Cond.methodLink RL 113 yM_type ∈ ev_WS := ev_inD 115 rfl rfl
theorem wm_L_117 : Cond.methodLink RL 117 yM_run ∈ ev_WS := ev_inD 119 rfl rfl
theorem wm_M_172 : Cond.methodLink RM 172 yM_sign ∈ ev_WS := ev_inD 123 rfl rfl
theorem wm_M_175 : Cond.methodLink RM 175 yM_isDigit ∈ ev_WS := ev_inD 127 rfl rfl
theorem wm_M_178 : Cond.methodLink RM 178 yM_does ∈ ev_WS := ev_inD 130 rfl rfl
theorem wm_M_166 : Cond.methodLink RM 166 yM_strip ∈ ev_WS := ev_inD 134 rfl rfl
theorem wm_M_169 : Cond.methodLink RM 169 yM_crease ∈ ev_WS := ev_inD 135 rfl rfl
theorem wm_P_66 : Cond.methodLink RP 66 Lib.Math.min.name ∈ ev_WS := ev_inA 53 rfl rfl
theorem wm_P_72 : Cond.methodLink RP 72 Lib.Math.max.name ∈ ev_WS := ev_inA 56 rfl rfl
theorem wm_JA_304 : Cond.methodLink RJA 304 Lib.Math.min.name ∈ ev_WS := ev_inB 48 rfl rfl
theorem wm_JA_150 : Cond.methodLink RJA 150 arraycopyName ∈ ev_WS := ev_inB 49 rfl rfl
theorem wcopy_n : Cond.native arraycopyName ∈ ev_WS := ev_inB 51 rfl rfl
theorem wcopy_s : Cond.static arraycopyName ∈ ev_WS := ev_inB 50 rfl rfl
theorem ws_max : Cond.static Lib.Math.max.name ∈ ev_WS := ev_inA 57 rfl rfl
theorem wc_max : Cond.code Lib.Math.max.name Lib.Math.max.code 2 (some .int) ∈ ev_WS := ev_inA 58 rfl rfl
theorem ws_min : Cond.static Lib.Math.min.name ∈ ev_WS := ev_inA 54 rfl rfl
theorem wc_min : Cond.code Lib.Math.min.name Lib.Math.min.code 2 (some .int) ∈ ev_WS := ev_inA 55 rfl rfl
theorem wo_i : Cond.instanceMethod Lib.objectInit ∈ ev_WS := ev_inA 22 rfl rfl
theorem wo_c : Cond.code Lib.objectInit ⟨#[0xb1]⟩ 1 none ∈ ev_WS := ev_inA 23 rfl rfl
theorem wc_F_init : Cond.code yF_init cF_init 1 none ∈ ev_WS := ev_inA 20 rfl rfl
theorem wv_F_init : Cond.instanceMethod yF_init ∈ ev_WS := ev_inA 19 rfl rfl
theorem wc_P_init : Cond.code yP_init cP_init 1 none ∈ ev_WS := ev_inA 28 rfl rfl
theorem wv_P_init : Cond.instanceMethod yP_init ∈ ev_WS := ev_inA 27 rfl rfl
theorem wc_P_renew : Cond.code yP_renew cP_renew 2 none ∈ ev_WS := ev_inA 33 rfl rfl
theorem wv_P_renew : Cond.instanceMethod yP_renew ∈ ev_WS := ev_inA 31 rfl rfl
theorem wx_P_renew : Cond.selects RP yP_renew yP_renew ∈ ev_WS := ev_inA 32 rfl rfl
theorem wc_P_fold : Cond.code yP_fold cP_fold 2 none ∈ ev_WS := ev_inA 37 rfl rfl
theorem wv_P_fold : Cond.instanceMethod yP_fold ∈ ev_WS := ev_inA 36 rfl rfl
theorem wx_P_fold : Cond.selects RP yP_fold yP_fold ∈ ev_WS := ev_inP 0 rfl rfl
theorem wc_P_direction : Cond.code yP_direction cP_direction 1 (some .int) ∈ ev_WS := ev_inA 40 rfl rfl
theorem ws_P_direction : Cond.static yP_direction ∈ ev_WS := ev_inA 39 rfl rfl
theorem wc_P_segmentLength : Cond.code yP_segmentLength cP_segmentLength 2 (some .int) ∈ ev_WS := ev_inA 44 rfl rfl
theorem wv_P_segmentLength : Cond.instanceMethod yP_segmentLength ∈ ev_WS := ev_inA 42 rfl rfl
theorem wx_P_segmentLength : Cond.selects RP yP_segmentLength yP_segmentLength ∈ ev_WS := ev_inA 43 rfl rfl
theorem wc_P_rightEnd : Cond.code yP_rightEnd cP_rightEnd 2 (some .int) ∈ ev_WS := ev_inA 48 rfl rfl
theorem wv_P_rightEnd : Cond.instanceMethod yP_rightEnd ∈ ev_WS := ev_inA 46 rfl rfl
theorem wx_P_rightEnd : Cond.selects RP yP_rightEnd yP_rightEnd ∈ ev_WS := ev_inA 47 rfl rfl
theorem wc_P_leftEnd : Cond.code yP_leftEnd cP_leftEnd 2 (some .int) ∈ ev_WS := ev_inA 52 rfl rfl
theorem wv_P_leftEnd : Cond.instanceMethod yP_leftEnd ∈ ev_WS := ev_inA 50 rfl rfl
theorem wx_P_leftEnd : Cond.selects RP yP_leftEnd yP_leftEnd ∈ ev_WS := ev_inA 51 rfl rfl
theorem wc_R_init : Cond.code yR_init cR_init 2 none ∈ ev_WS := ev_inA 100 rfl rfl
theorem wv_R_init : Cond.instanceMethod yR_init ∈ ev_WS := ev_inA 99 rfl rfl
theorem wc_O_init : Cond.code yO_init cO_init 2 none ∈ ev_WS := ev_inA 135 rfl rfl
theorem wv_O_init : Cond.instanceMethod yO_init ∈ ev_WS := ev_inA 134 rfl rfl
theorem wc_F_turn : Cond.code yF_turn cF_turn 1 (some .boolean) ∈ ev_WS := ev_inA 175 rfl rfl
theorem wv_F_turn : Cond.instanceMethod yF_turn ∈ ev_WS := ev_inA 173 rfl rfl
theorem wx_F_turn : Cond.selects RF yF_turn yF_turn ∈ ev_WS := ev_inA 174 rfl rfl
theorem wc_P_turnOver : Cond.code yP_turnOver cP_turnOver 1 none ∈ ev_WS := ev_inA 179 rfl rfl
theorem wv_P_turnOver : Cond.instanceMethod yP_turnOver ∈ ev_WS := ev_inA 177 rfl rfl
theorem wx_P_turnOver : Cond.selects RP yP_turnOver yP_turnOver ∈ ev_WS := ev_inA 178 rfl rfl
theorem wc_O_forget : Cond.code yO_forget cO_forget 1 none ∈ ev_WS := ev_inA 183 rfl rfl
theorem wv_O_forget : Cond.instanceMethod yO_forget ∈ ev_WS := ev_inA 181 rfl rfl
theorem wx_O_forget : Cond.selects RO yO_forget yO_forget ∈ ev_WS := ev_inA 182 rfl rfl
theorem wc_F_count : Cond.code yF_count cF_count 2 (some .int) ∈ ev_WS := ev_inA 187 rfl rfl
theorem wv_F_count : Cond.instanceMethod yF_count ∈ ev_WS := ev_inA 185 rfl rfl
theorem wx_F_count : Cond.selects RF yF_count yF_count ∈ ev_WS := ev_inA 186 rfl rfl
theorem wc_P_freeCreases : Cond.code yP_freeCreases cP_freeCreases 3 (some .int) ∈ ev_WS := ev_inA 191 rfl rfl
theorem wv_P_freeCreases : Cond.instanceMethod yP_freeCreases ∈ ev_WS := ev_inA 189 rfl rfl
theorem wx_P_freeCreases : Cond.selects RP yP_freeCreases yP_freeCreases ∈ ev_WS := ev_inA 190 rfl rfl
theorem wc_F_width : Cond.code yF_width cF_width 1 (some .int) ∈ ev_WS := ev_inA 195 rfl rfl
theorem wv_F_width : Cond.instanceMethod yF_width ∈ ev_WS := ev_inA 193 rfl rfl
theorem wx_F_width : Cond.selects RF yF_width yF_width ∈ ev_WS := ev_inA 194 rfl rfl
theorem wc_P_reach : Cond.code yP_reach cP_reach 4 (some .int) ∈ ev_WS := ev_inA 199 rfl rfl
theorem wv_P_reach : Cond.instanceMethod yP_reach ∈ ev_WS := ev_inA 197 rfl rfl
theorem wx_P_reach : Cond.selects RP yP_reach yP_reach ∈ ev_WS := ev_inA 198 rfl rfl
theorem wc_P_segments : Cond.code yP_segments cP_segments 1 (some .int) ∈ ev_WS := ev_inA 203 rfl rfl
theorem wv_P_segments : Cond.instanceMethod yP_segments ∈ ev_WS := ev_inA 201 rfl rfl
theorem wx_P_segments : Cond.selects RP yP_segments yP_segments ∈ ev_WS := ev_inA 202 rfl rfl
theorem wc_F_thickness : Cond.code yF_thickness cF_thickness 1 (some .int) ∈ ev_WS := ev_inA 207 rfl rfl
theorem wv_F_thickness : Cond.instanceMethod yF_thickness ∈ ev_WS := ev_inA 205 rfl rfl
theorem wx_F_thickness : Cond.selects RF yF_thickness yF_thickness ∈ ev_WS := ev_inA 206 rfl rfl
theorem wc_P_mostImages : Cond.code yP_mostImages cP_mostImages 3 (some .int) ∈ ev_WS := ev_inA 211 rfl rfl
theorem wv_P_mostImages : Cond.instanceMethod yP_mostImages ∈ ev_WS := ev_inA 209 rfl rfl
theorem wx_P_mostImages : Cond.selects RP yP_mostImages yP_mostImages ∈ ev_WS := ev_inA 210 rfl rfl
theorem wc_P_imagesOver : Cond.code yP_imagesOver cP_imagesOver 4 (some .int) ∈ ev_WS := ev_inA 215 rfl rfl
theorem wv_P_imagesOver : Cond.instanceMethod yP_imagesOver ∈ ev_WS := ev_inA 214 rfl rfl
theorem wx_P_imagesOver : Cond.selects RP yP_imagesOver yP_imagesOver ∈ ev_WS := ev_inP 1 rfl rfl
theorem wc_P_liesOver : Cond.code yP_liesOver cP_liesOver 3 (some .boolean) ∈ ev_WS := ev_inA 219 rfl rfl
theorem wv_P_liesOver : Cond.instanceMethod yP_liesOver ∈ ev_WS := ev_inA 217 rfl rfl
theorem wx_P_liesOver : Cond.selects RP yP_liesOver yP_liesOver ∈ ev_WS := ev_inA 218 rfl rfl
theorem wc_F_foldable : Cond.code yF_foldable cF_foldable 1 (some .int) ∈ ev_WS := ev_inA 223 rfl rfl
theorem wv_F_foldable : Cond.instanceMethod yF_foldable ∈ ev_WS := ev_inA 221 rfl rfl
theorem wx_F_foldable : Cond.selects RF yF_foldable yF_foldable ∈ ev_WS := ev_inA 222 rfl rfl
theorem wc_R_reduce : Cond.code yR_reduce cR_reduce 3 none ∈ ev_WS := ev_inA 227 rfl rfl
theorem wv_R_reduce : Cond.instanceMethod yR_reduce ∈ ev_WS := ev_inA 225 rfl rfl
theorem wx_R_reduce : Cond.selects RR yR_reduce yR_reduce ∈ ev_WS := ev_inA 226 rfl rfl
theorem wc_R_copyPattern : Cond.code yR_copyPattern cR_copyPattern 2 none ∈ ev_WS := ev_inA 231 rfl rfl
theorem wv_R_copyPattern : Cond.instanceMethod yR_copyPattern ∈ ev_WS := ev_inA 230 rfl rfl
theorem wx_R_copyPattern : Cond.selects RR yR_copyPattern yR_copyPattern ∈ ev_WS := ev_inP 2 rfl rfl
theorem wc_R_reduceOnce : Cond.code yR_reduceOnce cR_reduceOnce 2 (some .boolean) ∈ ev_WS := ev_inA 237 rfl rfl
theorem wv_R_reduceOnce : Cond.instanceMethod yR_reduceOnce ∈ ev_WS := ev_inA 236 rfl rfl
theorem wx_R_reduceOnce : Cond.selects RR yR_reduceOnce yR_reduceOnce ∈ ev_WS := ev_inP 3 rfl rfl
theorem wc_R_note : Cond.code yR_note cR_note 3 none ∈ ev_WS := ev_inB 1 rfl rfl
theorem wv_R_note : Cond.instanceMethod yR_note ∈ ev_WS := ev_inB 0 rfl rfl
theorem wx_R_note : Cond.selects RR yR_note yR_note ∈ ev_WS := ev_inP 4 rfl rfl
theorem wc_R_removeLengths : Cond.code yR_removeLengths cR_removeLengths 4 none ∈ ev_WS := ev_inB 5 rfl rfl
theorem wv_R_removeLengths : Cond.instanceMethod yR_removeLengths ∈ ev_WS := ev_inB 4 rfl rfl
theorem wx_R_removeLengths : Cond.selects RR yR_removeLengths yR_removeLengths ∈ ev_WS := ev_inP 5 rfl rfl
theorem wc_R_removeCreases : Cond.code yR_removeCreases cR_removeCreases 4 none ∈ ev_WS := ev_inB 9 rfl rfl
theorem wv_R_removeCreases : Cond.instanceMethod yR_removeCreases ∈ ev_WS := ev_inB 8 rfl rfl
theorem wx_R_removeCreases : Cond.selects RR yR_removeCreases yR_removeCreases ∈ ev_WS := ev_inP 6 rfl rfl
theorem wc_R_leftmostPleat : Cond.code yR_leftmostPleat cR_leftmostPleat 2 (some .int) ∈ ev_WS := ev_inB 13 rfl rfl
theorem wv_R_leftmostPleat : Cond.instanceMethod yR_leftmostPleat ∈ ev_WS := ev_inB 12 rfl rfl
theorem wx_R_leftmostPleat : Cond.selects RR yR_leftmostPleat yR_leftmostPleat ∈ ev_WS := ev_inP 7 rfl rfl
theorem wc_R_flatten : Cond.code yR_flatten cR_flatten 2 none ∈ ev_WS := ev_inB 17 rfl rfl
theorem wv_R_flatten : Cond.instanceMethod yR_flatten ∈ ev_WS := ev_inB 16 rfl rfl
theorem wx_R_flatten : Cond.selects RR yR_flatten yR_flatten ∈ ev_WS := ev_inP 8 rfl rfl
theorem wc_F_steps : Cond.code yF_steps cF_steps 1 (some .int) ∈ ev_WS := ev_inB 21 rfl rfl
theorem wv_F_steps : Cond.instanceMethod yF_steps ∈ ev_WS := ev_inB 19 rfl rfl
theorem wx_F_steps : Cond.selects RF yF_steps yF_steps ∈ ev_WS := ev_inB 20 rfl rfl
theorem wc_F_orders : Cond.code yF_orders cF_orders 1 (some .int) ∈ ev_WS := ev_inB 25 rfl rfl
theorem wv_F_orders : Cond.instanceMethod yF_orders ∈ ev_WS := ev_inB 23 rfl rfl
theorem wx_F_orders : Cond.selects RF yF_orders yF_orders ∈ ev_WS := ev_inB 24 rfl rfl
theorem wc_O_findAll : Cond.code yO_findAll cO_findAll 1 none ∈ ev_WS := ev_inB 29 rfl rfl
theorem wv_O_findAll : Cond.instanceMethod yO_findAll ∈ ev_WS := ev_inB 27 rfl rfl
theorem wx_O_findAll : Cond.selects RO yO_findAll yO_findAll ∈ ev_WS := ev_inB 28 rfl rfl
theorem wc_O_decide : Cond.code yO_decide cO_decide 9 none ∈ ev_WS := ev_inB 33 rfl rfl
theorem wv_O_decide : Cond.instanceMethod yO_decide ∈ ev_WS := ev_inB 32 rfl rfl
theorem wx_O_decide : Cond.selects RO yO_decide yO_decide ∈ ev_WS := ev_inP 9 rfl rfl
theorem wc_O_keep : Cond.code yO_keep cO_keep 2 none ∈ ev_WS := ev_inB 37 rfl rfl
theorem wv_O_keep : Cond.instanceMethod yO_keep ∈ ev_WS := ev_inB 36 rfl rfl
theorem wx_O_keep : Cond.selects RO yO_keep yO_keep ∈ ev_WS := ev_inP 10 rfl rfl
theorem wc_JA_copyOf : Cond.code yJA_copyOf cJA_copyOf 3 (some (.array .int)) ∈ ev_WS := ev_inB 40 rfl rfl
theorem ws_JA_copyOf : Cond.static yJA_copyOf ∈ ev_WS := ev_inB 39 rfl rfl
theorem wc_O_markingOf : Cond.code yO_markingOf cO_markingOf 4 (some .int) ∈ ev_WS := ev_inB 55 rfl rfl
theorem wv_O_markingOf : Cond.instanceMethod yO_markingOf ∈ ev_WS := ev_inB 54 rfl rfl
theorem wx_O_markingOf : Cond.selects RO yO_markingOf yO_markingOf ∈ ev_WS := ev_inP 11 rfl rfl
theorem wc_O_isAbove : Cond.code yO_isAbove cO_isAbove 3 (some .boolean) ∈ ev_WS := ev_inB 58 rfl rfl
theorem ws_O_isAbove : Cond.static yO_isAbove ∈ ev_WS := ev_inB 57 rfl rfl
theorem wc_O_bit : Cond.code yO_bit cO_bit 2 (some .int) ∈ ev_WS := ev_inB 61 rfl rfl
theorem ws_O_bit : Cond.static yO_bit ∈ ev_WS := ev_inB 60 rfl rfl
theorem wc_P_overlap : Cond.code yP_overlap cP_overlap 3 (some .boolean) ∈ ev_WS := ev_inB 65 rfl rfl
theorem wv_P_overlap : Cond.instanceMethod yP_overlap ∈ ev_WS := ev_inB 63 rfl rfl
theorem wx_P_overlap : Cond.selects RP yP_overlap yP_overlap ∈ ev_WS := ev_inB 64 rfl rfl
theorem wc_O_keepsMark : Cond.code yO_keepsMark cO_keepsMark 5 (some .boolean) ∈ ev_WS := ev_inB 69 rfl rfl
theorem wv_O_keepsMark : Cond.instanceMethod yO_keepsMark ∈ ev_WS := ev_inB 68 rfl rfl
theorem wx_O_keepsMark : Cond.selects RO yO_keepsMark yO_keepsMark ∈ ev_WS := ev_inP 12 rfl rfl
theorem wc_P_frontUp : Cond.code yP_frontUp cP_frontUp 2 (some .boolean) ∈ ev_WS := ev_inB 73 rfl rfl
theorem wv_P_frontUp : Cond.instanceMethod yP_frontUp ∈ ev_WS := ev_inB 71 rfl rfl
theorem wx_P_frontUp : Cond.selects RP yP_frontUp yP_frontUp ∈ ev_WS := ev_inB 72 rfl rfl
theorem wc_O_makesNoRound : Cond.code yO_makesNoRound cO_makesNoRound 5 (some .boolean) ∈ ev_WS := ev_inB 77 rfl rfl
theorem wv_O_makesNoRound : Cond.instanceMethod yO_makesNoRound ∈ ev_WS := ev_inB 76 rfl rfl
theorem wx_O_makesNoRound : Cond.selects RO yO_makesNoRound yO_makesNoRound ∈ ev_WS := ev_inP 13 rfl rfl
theorem wc_O_crossesNoCrease : Cond.code yO_crossesNoCrease cO_crossesNoCrease 4 (some .boolean) ∈ ev_WS := ev_inB 81 rfl rfl
theorem wv_O_crossesNoCrease : Cond.instanceMethod yO_crossesNoCrease ∈ ev_WS := ev_inB 80 rfl rfl
theorem wx_O_crossesNoCrease : Cond.selects RO yO_crossesNoCrease yO_crossesNoCrease ∈ ev_WS := ev_inP 14 rfl rfl
theorem wc_P_foldedCrease : Cond.code yP_foldedCrease cP_foldedCrease 2 (some .int) ∈ ev_WS := ev_inB 85 rfl rfl
theorem wv_P_foldedCrease : Cond.instanceMethod yP_foldedCrease ∈ ev_WS := ev_inB 83 rfl rfl
theorem wx_P_foldedCrease : Cond.selects RP yP_foldedCrease yP_foldedCrease ∈ ev_WS := ev_inB 84 rfl rfl
theorem wc_P_hasInside : Cond.code yP_hasInside cP_hasInside 3 (some .boolean) ∈ ev_WS := ev_inB 89 rfl rfl
theorem wv_P_hasInside : Cond.instanceMethod yP_hasInside ∈ ev_WS := ev_inB 87 rfl rfl
theorem wx_P_hasInside : Cond.selects RP yP_hasInside yP_hasInside ∈ ev_WS := ev_inB 88 rfl rfl
theorem wc_O_isBetween : Cond.code yO_isBetween cO_isBetween 4 (some .boolean) ∈ ev_WS := ev_inB 92 rfl rfl
theorem ws_O_isBetween : Cond.static yO_isBetween ∈ ev_WS := ev_inB 91 rfl rfl
theorem wc_O_creasesNest : Cond.code yO_creasesNest cO_creasesNest 4 (some .boolean) ∈ ev_WS := ev_inB 96 rfl rfl
theorem wv_O_creasesNest : Cond.instanceMethod yO_creasesNest ∈ ev_WS := ev_inB 95 rfl rfl
theorem wx_O_creasesNest : Cond.selects RO yO_creasesNest yO_creasesNest ∈ ev_WS := ev_inP 15 rfl rfl
theorem wc_F_marks : Cond.code yF_marks cF_marks 1 (some .int) ∈ ev_WS := ev_inB 100 rfl rfl
theorem wv_F_marks : Cond.instanceMethod yF_marks ∈ ev_WS := ev_inB 98 rfl rfl
theorem wx_F_marks : Cond.selects RF yF_marks yF_marks ∈ ev_WS := ev_inB 99 rfl rfl
theorem wc_JL_bitCount : Cond.code yJL_bitCount cJL_bitCount 2 (some .int) ∈ ev_WS := ev_inB 103 rfl rfl
theorem ws_JL_bitCount : Cond.static yJL_bitCount ∈ ev_WS := ev_inB 102 rfl rfl
theorem wc_F_run : Cond.code yF_run cF_run 5 (some .int) ∈ ev_WS := ev_inB 110 rfl rfl
theorem wv_F_run : Cond.instanceMethod yF_run ∈ ev_WS := ev_inB 108 rfl rfl
theorem wx_F_run : Cond.selects RF yF_run yF_run ∈ ev_WS := ev_inB 109 rfl rfl
theorem wc_F_takesNumber : Cond.code yF_takesNumber cF_takesNumber 1 (some .boolean) ∈ ev_WS := ev_inB 113 rfl rfl
theorem ws_F_takesNumber : Cond.static yF_takesNumber ∈ ev_WS := ev_inB 112 rfl rfl
theorem wc_F_markOf : Cond.code yF_markOf cF_markOf 1 (some .int) ∈ ev_WS := ev_inB 116 rfl rfl
theorem ws_F_markOf : Cond.static yF_markOf ∈ ev_WS := ev_inB 115 rfl rfl
theorem wc_F_digitsFrom : Cond.code yF_digitsFrom cF_digitsFrom 4 (some .int) ∈ ev_WS := ev_inB 120 rfl rfl
theorem wv_F_digitsFrom : Cond.instanceMethod yF_digitsFrom ∈ ev_WS := ev_inB 119 rfl rfl
theorem wx_F_digitsFrom : Cond.selects RF yF_digitsFrom yF_digitsFrom ∈ ev_WS := ev_inP 16 rfl rfl
theorem wc_F_isDigit : Cond.code yF_isDigit cF_isDigit 1 (some .boolean) ∈ ev_WS := ev_inB 123 rfl rfl
theorem ws_F_isDigit : Cond.static yF_isDigit ∈ ev_WS := ev_inB 122 rfl rfl
theorem wc_F_operate : Cond.code yF_operate cF_operate 5 (some .int) ∈ ev_WS := ev_inB 127 rfl rfl
theorem wv_F_operate : Cond.instanceMethod yF_operate ∈ ev_WS := ev_inB 126 rfl rfl
theorem wx_F_operate : Cond.selects RF yF_operate yF_operate ∈ ev_WS := ev_inP 17 rfl rfl
theorem wc_F_numberAt : Cond.code yF_numberAt cF_numberAt 5 (some .int) ∈ ev_WS := ev_inB 132 rfl rfl
theorem wv_F_numberAt : Cond.instanceMethod yF_numberAt ∈ ev_WS := ev_inB 131 rfl rfl
theorem wx_F_numberAt : Cond.selects RF yF_numberAt yF_numberAt ∈ ev_WS := ev_inP 18 rfl rfl
theorem wc_F_tryStrip : Cond.code yF_tryStrip cF_tryStrip 2 (some .int) ∈ ev_WS := ev_inB 136 rfl rfl
theorem wv_F_tryStrip : Cond.instanceMethod yF_tryStrip ∈ ev_WS := ev_inB 135 rfl rfl
theorem wx_F_tryStrip : Cond.selects RF yF_tryStrip yF_tryStrip ∈ ev_WS := ev_inP 19 rfl rfl
theorem wc_F_tryCrease : Cond.code yF_tryCrease cF_tryCrease 4 (some .int) ∈ ev_WS := ev_inB 141 rfl rfl
theorem wv_F_tryCrease : Cond.instanceMethod yF_tryCrease ∈ ev_WS := ev_inB 140 rfl rfl
theorem wx_F_tryCrease : Cond.selects RF yF_tryCrease yF_tryCrease ∈ ev_WS := ev_inP 20 rfl rfl
theorem wc_P_judgeCrease : Cond.code yP_judgeCrease cP_judgeCrease 3 (some .int) ∈ ev_WS := ev_inB 145 rfl rfl
theorem wv_P_judgeCrease : Cond.instanceMethod yP_judgeCrease ∈ ev_WS := ev_inB 143 rfl rfl
theorem wx_P_judgeCrease : Cond.selects RP yP_judgeCrease yP_judgeCrease ∈ ev_WS := ev_inB 144 rfl rfl
theorem wc_P_hasCreaseAt : Cond.code yP_hasCreaseAt cP_hasCreaseAt 3 (some .boolean) ∈ ev_WS := ev_inB 149 rfl rfl
theorem wv_P_hasCreaseAt : Cond.instanceMethod yP_hasCreaseAt ∈ ev_WS := ev_inB 148 rfl rfl
theorem wx_P_hasCreaseAt : Cond.selects RP yP_hasCreaseAt yP_hasCreaseAt ∈ ev_WS := ev_inP 21 rfl rfl
theorem wc_P_creasesBefore : Cond.code yP_creasesBefore cP_creasesBefore 3 (some .int) ∈ ev_WS := ev_inB 153 rfl rfl
theorem wv_P_creasesBefore : Cond.instanceMethod yP_creasesBefore ∈ ev_WS := ev_inB 152 rfl rfl
theorem wx_P_creasesBefore : Cond.selects RP yP_creasesBefore yP_creasesBefore ∈ ev_WS := ev_inP 22 rfl rfl
theorem wc_P_setCrease : Cond.code yP_setCrease cP_setCrease 4 none ∈ ev_WS := ev_inB 157 rfl rfl
theorem wv_P_setCrease : Cond.instanceMethod yP_setCrease ∈ ev_WS := ev_inB 155 rfl rfl
theorem wx_P_setCrease : Cond.selects RP yP_setCrease yP_setCrease ∈ ev_WS := ev_inB 156 rfl rfl
theorem wc_P_removeCrease : Cond.code yP_removeCrease cP_removeCrease 3 none ∈ ev_WS := ev_inB 161 rfl rfl
theorem wv_P_removeCrease : Cond.instanceMethod yP_removeCrease ∈ ev_WS := ev_inB 160 rfl rfl
theorem wx_P_removeCrease : Cond.selects RP yP_removeCrease yP_removeCrease ∈ ev_WS := ev_inP 23 rfl rfl
theorem wc_P_insertCrease : Cond.code yP_insertCrease cP_insertCrease 5 none ∈ ev_WS := ev_inB 165 rfl rfl
theorem wv_P_insertCrease : Cond.instanceMethod yP_insertCrease ∈ ev_WS := ev_inB 164 rfl rfl
theorem wx_P_insertCrease : Cond.selects RP yP_insertCrease yP_insertCrease ∈ ev_WS := ev_inP 24 rfl rfl
theorem wc_L_strip : Cond.codeWith yL_strip cL_strip 3 (some .int) [(0, 5, 8, 13)] ∈ ev_WS := ev_inB 168 rfl rfl
theorem ws_L_strip : Cond.static yL_strip ∈ ev_WS := ev_inB 167 rfl rfl
theorem wc_F_strip : Cond.code yF_strip cF_strip 2 none ∈ ev_WS := ev_inB 173 rfl rfl
theorem wv_F_strip : Cond.instanceMethod yF_strip ∈ ev_WS := ev_inB 171 rfl rfl
theorem wx_F_strip : Cond.selects RF yF_strip yF_strip ∈ ev_WS := ev_inB 172 rfl rfl
theorem wc_L_crease : Cond.codeWith yL_crease cL_crease 5 (some .int) [(0, 10, 13, 13), (0, 10, 17, 19)] ∈ ev_WS := ev_inC 4 rfl rfl
theorem ws_L_crease : Cond.static yL_crease ∈ ev_WS := ev_inC 3 rfl rfl
theorem wc_F_crease : Cond.code yF_crease cF_crease 4 (some .int) ∈ ev_WS := ev_inC 9 rfl rfl
theorem wv_F_crease : Cond.instanceMethod yF_crease ∈ ev_WS := ev_inC 7 rfl rfl
theorem wx_F_crease : Cond.selects RF yF_crease yF_crease ∈ ev_WS := ev_inC 8 rfl rfl
theorem wc_L_segment : Cond.codeWith yL_segment cL_segment 5 (some .int) [(0, 10, 13, 24), (0, 10, 17, 13)] ∈ ev_WS := ev_inC 29 rfl rfl
theorem ws_L_segment : Cond.static yL_segment ∈ ev_WS := ev_inC 28 rfl rfl
theorem wc_F_segment : Cond.code yF_segment cF_segment 3 (some .int) ∈ ev_WS := ev_inC 34 rfl rfl
theorem wv_F_segment : Cond.instanceMethod yF_segment ∈ ev_WS := ev_inC 32 rfl rfl
theorem wx_F_segment : Cond.selects RF yF_segment yF_segment ∈ ev_WS := ev_inC 33 rfl rfl
theorem wc_P_hasSegment : Cond.code yP_hasSegment cP_hasSegment 2 (some .boolean) ∈ ev_WS := ev_inC 38 rfl rfl
theorem wv_P_hasSegment : Cond.instanceMethod yP_hasSegment ∈ ev_WS := ev_inC 36 rfl rfl
theorem wx_P_hasSegment : Cond.selects RP yP_hasSegment yP_hasSegment ∈ ev_WS := ev_inC 37 rfl rfl
theorem wc_L_whereIs : Cond.codeWith yL_whereIs cL_whereIs 4 (some .int) [(0, 9, 12, 13)] ∈ ev_WS := ev_inC 61 rfl rfl
theorem ws_L_whereIs : Cond.static yL_whereIs ∈ ev_WS := ev_inC 60 rfl rfl
theorem wc_F_whereIs : Cond.code yF_whereIs cF_whereIs 2 (some .int) ∈ ev_WS := ev_inC 65 rfl rfl
theorem wv_F_whereIs : Cond.instanceMethod yF_whereIs ∈ ev_WS := ev_inC 63 rfl rfl
theorem wx_F_whereIs : Cond.selects RF yF_whereIs yF_whereIs ∈ ev_WS := ev_inC 64 rfl rfl
theorem wc_P_foldedPlace : Cond.code yP_foldedPlace cP_foldedPlace 3 (some .int) ∈ ev_WS := ev_inC 70 rfl rfl
theorem wv_P_foldedPlace : Cond.instanceMethod yP_foldedPlace ∈ ev_WS := ev_inC 68 rfl rfl
theorem wx_P_foldedPlace : Cond.selects RP yP_foldedPlace yP_foldedPlace ∈ ev_WS := ev_inC 69 rfl rfl
theorem wc_L_step : Cond.codeWith yL_step cL_step 5 (some .int) [(0, 10, 13, 24), (0, 10, 17, 13)] ∈ ev_WS := ev_inC 73 rfl rfl
theorem ws_L_step : Cond.static yL_step ∈ ev_WS := ev_inC 72 rfl rfl
theorem wc_F_step : Cond.code yF_step cF_step 3 (some .int) ∈ ev_WS := ev_inC 77 rfl rfl
theorem wv_F_step : Cond.instanceMethod yF_step ∈ ev_WS := ev_inC 75 rfl rfl
theorem wx_F_step : Cond.selects RF yF_step yF_step ∈ ev_WS := ev_inC 76 rfl rfl
theorem wc_L_above : Cond.codeWith yL_above cL_above 6 (some .int) [(0, 12, 15, 24)] ∈ ev_WS := ev_inC 83 rfl rfl
theorem ws_L_above : Cond.static yL_above ∈ ev_WS := ev_inC 82 rfl rfl
theorem wc_F_above : Cond.code yF_above cF_above 4 (some .int) ∈ ev_WS := ev_inC 87 rfl rfl
theorem wv_F_above : Cond.instanceMethod yF_above ∈ ev_WS := ev_inC 85 rfl rfl
theorem wx_F_above : Cond.selects RF yF_above yF_above ∈ ev_WS := ev_inC 86 rfl rfl
theorem wc_L_layer : Cond.codeWith yL_layer cL_layer 6 (some .int) [(0, 12, 15, 24)] ∈ ev_WS := ev_inC 93 rfl rfl
theorem ws_L_layer : Cond.static yL_layer ∈ ev_WS := ev_inC 92 rfl rfl
theorem wc_F_layer : Cond.code yF_layer cF_layer 4 (some .int) ∈ ev_WS := ev_inC 97 rfl rfl
theorem wv_F_layer : Cond.instanceMethod yF_layer ∈ ev_WS := ev_inC 95 rfl rfl
theorem wx_F_layer : Cond.selects RF yF_layer yF_layer ∈ ev_WS := ev_inC 96 rfl rfl
theorem wc_O_segmentAt : Cond.code yO_segmentAt cO_segmentAt 5 (some .int) ∈ ev_WS := ev_inC 102 rfl rfl
theorem wv_O_segmentAt : Cond.instanceMethod yO_segmentAt ∈ ev_WS := ev_inC 100 rfl rfl
theorem wx_O_segmentAt : Cond.selects RO yO_segmentAt yO_segmentAt ∈ ev_WS := ev_inC 101 rfl rfl
theorem wc_O_below : Cond.code yO_below cO_below 6 (some .int) ∈ ev_WS := ev_inC 107 rfl rfl
theorem wv_O_below : Cond.instanceMethod yO_below ∈ ev_WS := ev_inC 106 rfl rfl
theorem wx_O_below : Cond.selects RO yO_below yO_below ∈ ev_WS := ev_inP 26 rfl rfl
theorem wc_L_type : Cond.codeWith yL_type cL_type 4 (some .int) [(0, 9, 12, 13), (0, 9, 15, 19)] ∈ ev_WS := ev_inC 110 rfl rfl
theorem ws_L_type : Cond.static yL_type ∈ ev_WS := ev_inC 109 rfl rfl
theorem wc_F_type : Cond.code yF_type cF_type 2 (some .int) ∈ ev_WS := ev_inC 114 rfl rfl
theorem wv_F_type : Cond.instanceMethod yF_type ∈ ev_WS := ev_inC 112 rfl rfl
theorem wx_F_type : Cond.selects RF yF_type yF_type ∈ ev_WS := ev_inC 113 rfl rfl
theorem wc_M_init : Cond.code yM_init cM_init 1 none ∈ ev_WS := ev_inC 121 rfl rfl
theorem wv_M_init : Cond.instanceMethod yM_init ∈ ev_WS := ev_inC 120 rfl rfl
theorem wc_M_thrown : Cond.code yM_thrown cM_thrown 1 (some .int) ∈ ev_WS := ev_inC 193 rfl rfl
theorem wv_M_thrown : Cond.instanceMethod yM_thrown ∈ ev_WS := ev_inC 191 rfl rfl
theorem wx_M_thrown : Cond.selects RM yM_thrown yM_thrown ∈ ev_WS := ev_inC 192 rfl rfl
theorem wc_M_strip : Cond.code yM_strip cM_strip 2 none ∈ ev_WS := ev_inC 197 rfl rfl
theorem wv_M_strip : Cond.instanceMethod yM_strip ∈ ev_WS := ev_inC 195 rfl rfl
theorem wx_M_strip : Cond.selects RM yM_strip yM_strip ∈ ev_WS := ev_inC 196 rfl rfl
theorem wc_M_refuse : Cond.code yM_refuse cM_refuse 3 (some .boolean) ∈ ev_WS := ev_inC 201 rfl rfl
theorem wv_M_refuse : Cond.instanceMethod yM_refuse ∈ ev_WS := ev_inC 200 rfl rfl
theorem wx_M_refuse : Cond.selects RM yM_refuse yM_refuse ∈ ev_WS := ev_inP 27 rfl rfl
theorem wc_M_crease : Cond.code yM_crease cM_crease 7 (some .int) ∈ ev_WS := ev_inC 205 rfl rfl
theorem wv_M_crease : Cond.instanceMethod yM_crease ∈ ev_WS := ev_inC 203 rfl rfl
theorem wx_M_crease : Cond.selects RM yM_crease yM_crease ∈ ev_WS := ev_inC 204 rfl rfl
theorem wc_M_before : Cond.code yM_before cM_before 4 (some .int) ∈ ev_WS := ev_inC 209 rfl rfl
theorem wv_M_before : Cond.instanceMethod yM_before ∈ ev_WS := ev_inC 208 rfl rfl
theorem wx_M_before : Cond.selects RM yM_before yM_before ∈ ev_WS := ev_inP 28 rfl rfl
theorem wc_M_turn : Cond.code yM_turn cM_turn 1 (some .boolean) ∈ ev_WS := ev_inC 213 rfl rfl
theorem wv_M_turn : Cond.instanceMethod yM_turn ∈ ev_WS := ev_inC 211 rfl rfl
theorem wx_M_turn : Cond.selects RM yM_turn yM_turn ∈ ev_WS := ev_inC 212 rfl rfl
theorem wc_M_count : Cond.code yM_count cM_count 2 (some .int) ∈ ev_WS := ev_inC 217 rfl rfl
theorem wv_M_count : Cond.instanceMethod yM_count ∈ ev_WS := ev_inC 215 rfl rfl
theorem wx_M_count : Cond.selects RM yM_count yM_count ∈ ev_WS := ev_inC 216 rfl rfl
theorem wc_M_free : Cond.code yM_free cM_free 3 (some .int) ∈ ev_WS := ev_inC 221 rfl rfl
theorem wv_M_free : Cond.instanceMethod yM_free ∈ ev_WS := ev_inC 220 rfl rfl
theorem wx_M_free : Cond.selects RM yM_free yM_free ∈ ev_WS := ev_inP 29 rfl rfl
theorem wc_M_segment : Cond.code yM_segment cM_segment 3 (some .int) ∈ ev_WS := ev_inC 225 rfl rfl
theorem wv_M_segment : Cond.instanceMethod yM_segment ∈ ev_WS := ev_inC 223 rfl rfl
theorem wx_M_segment : Cond.selects RM yM_segment yM_segment ∈ ev_WS := ev_inC 224 rfl rfl
theorem wc_M_leftEnd : Cond.code yM_leftEnd cM_leftEnd 2 (some .int) ∈ ev_WS := ev_inC 229 rfl rfl
theorem wv_M_leftEnd : Cond.instanceMethod yM_leftEnd ∈ ev_WS := ev_inC 228 rfl rfl
theorem wx_M_leftEnd : Cond.selects RM yM_leftEnd yM_leftEnd ∈ ev_WS := ev_inP 30 rfl rfl
theorem wc_M_rightEnd : Cond.code yM_rightEnd cM_rightEnd 2 (some .int) ∈ ev_WS := ev_inC 233 rfl rfl
theorem wv_M_rightEnd : Cond.instanceMethod yM_rightEnd ∈ ev_WS := ev_inC 232 rfl rfl
theorem wx_M_rightEnd : Cond.selects RM yM_rightEnd yM_rightEnd ∈ ev_WS := ev_inP 31 rfl rfl
theorem wc_M_low : Cond.code yM_low cM_low 4 (some .int) ∈ ev_WS := ev_inC 237 rfl rfl
theorem wv_M_low : Cond.instanceMethod yM_low ∈ ev_WS := ev_inC 236 rfl rfl
theorem wx_M_low : Cond.selects RM yM_low yM_low ∈ ev_WS := ev_inP 32 rfl rfl
theorem wc_M_fold : Cond.code yM_fold cM_fold 6 (some .int) ∈ ev_WS := ev_inD 1 rfl rfl
theorem wv_M_fold : Cond.instanceMethod yM_fold ∈ ev_WS := ev_inD 0 rfl rfl
theorem wx_M_fold : Cond.selects RM yM_fold yM_fold ∈ ev_WS := ev_inP 33 rfl rfl
theorem wc_M_high : Cond.code yM_high cM_high 2 (some .int) ∈ ev_WS := ev_inD 5 rfl rfl
theorem wv_M_high : Cond.instanceMethod yM_high ∈ ev_WS := ev_inD 4 rfl rfl
theorem wx_M_high : Cond.selects RM yM_high yM_high ∈ ev_WS := ev_inP 34 rfl rfl
theorem wc_M_isUp : Cond.code yM_isUp cM_isUp 2 (some .boolean) ∈ ev_WS := ev_inD 9 rfl rfl
theorem wv_M_isUp : Cond.instanceMethod yM_isUp ∈ ev_WS := ev_inD 8 rfl rfl
theorem wx_M_isUp : Cond.selects RM yM_isUp yM_isUp ∈ ev_WS := ev_inP 35 rfl rfl
theorem wc_M_whereIs : Cond.code yM_whereIs cM_whereIs 2 (some .int) ∈ ev_WS := ev_inD 13 rfl rfl
theorem wv_M_whereIs : Cond.instanceMethod yM_whereIs ∈ ev_WS := ev_inD 11 rfl rfl
theorem wx_M_whereIs : Cond.selects RM yM_whereIs yM_whereIs ∈ ev_WS := ev_inD 12 rfl rfl
theorem wc_M_width : Cond.code yM_width cM_width 4 (some .int) ∈ ev_WS := ev_inD 17 rfl rfl
theorem wv_M_width : Cond.instanceMethod yM_width ∈ ev_WS := ev_inD 15 rfl rfl
theorem wx_M_width : Cond.selects RM yM_width yM_width ∈ ev_WS := ev_inD 16 rfl rfl
theorem wc_M_thickness : Cond.code yM_thickness cM_thickness 5 (some .int) ∈ ev_WS := ev_inD 21 rfl rfl
theorem wv_M_thickness : Cond.instanceMethod yM_thickness ∈ ev_WS := ev_inD 19 rfl rfl
theorem wx_M_thickness : Cond.selects RM yM_thickness yM_thickness ∈ ev_WS := ev_inD 20 rfl rfl
theorem wc_M_covers : Cond.code yM_covers cM_covers 3 (some .boolean) ∈ ev_WS := ev_inD 25 rfl rfl
theorem wv_M_covers : Cond.instanceMethod yM_covers ∈ ev_WS := ev_inD 24 rfl rfl
theorem wx_M_covers : Cond.selects RM yM_covers yM_covers ∈ ev_WS := ev_inP 36 rfl rfl
theorem wc_M_foldable : Cond.code yM_foldable cM_foldable 1 (some .int) ∈ ev_WS := ev_inD 29 rfl rfl
theorem wv_M_foldable : Cond.instanceMethod yM_foldable ∈ ev_WS := ev_inD 27 rfl rfl
theorem wx_M_foldable : Cond.selects RM yM_foldable yM_foldable ∈ ev_WS := ev_inD 28 rfl rfl
theorem wc_M_reduce : Cond.code yM_reduce cM_reduce 3 none ∈ ev_WS := ev_inD 33 rfl rfl
theorem wv_M_reduce : Cond.instanceMethod yM_reduce ∈ ev_WS := ev_inD 32 rfl rfl
theorem wx_M_reduce : Cond.selects RM yM_reduce yM_reduce ∈ ev_WS := ev_inP 37 rfl rfl
theorem wc_M_middle : Cond.code yM_middle cM_middle 2 (some .int) ∈ ev_WS := ev_inD 37 rfl rfl
theorem wv_M_middle : Cond.instanceMethod yM_middle ∈ ev_WS := ev_inD 36 rfl rfl
theorem wx_M_middle : Cond.selects RM yM_middle yM_middle ∈ ev_WS := ev_inP 38 rfl rfl
theorem wc_M_note : Cond.code yM_note cM_note 3 none ∈ ev_WS := ev_inD 41 rfl rfl
theorem wv_M_note : Cond.instanceMethod yM_note ∈ ev_WS := ev_inD 40 rfl rfl
theorem wx_M_note : Cond.selects RM yM_note yM_note ∈ ev_WS := ev_inP 39 rfl rfl
theorem wc_M_drop : Cond.code yM_drop cM_drop 3 none ∈ ev_WS := ev_inD 45 rfl rfl
theorem wv_M_drop : Cond.instanceMethod yM_drop ∈ ev_WS := ev_inD 44 rfl rfl
theorem wx_M_drop : Cond.selects RM yM_drop yM_drop ∈ ev_WS := ev_inP 40 rfl rfl
theorem wc_M_steps : Cond.code yM_steps cM_steps 1 (some .int) ∈ ev_WS := ev_inD 49 rfl rfl
theorem wv_M_steps : Cond.instanceMethod yM_steps ∈ ev_WS := ev_inD 47 rfl rfl
theorem wx_M_steps : Cond.selects RM yM_steps yM_steps ∈ ev_WS := ev_inD 48 rfl rfl
theorem wc_M_step : Cond.code yM_step cM_step 3 (some .int) ∈ ev_WS := ev_inD 53 rfl rfl
theorem wv_M_step : Cond.instanceMethod yM_step ∈ ev_WS := ev_inD 51 rfl rfl
theorem wx_M_step : Cond.selects RM yM_step yM_step ∈ ev_WS := ev_inD 52 rfl rfl
theorem wc_M_orders : Cond.code yM_orders cM_orders 2 (some .int) ∈ ev_WS := ev_inD 57 rfl rfl
theorem wv_M_orders : Cond.instanceMethod yM_orders ∈ ev_WS := ev_inD 55 rfl rfl
theorem wx_M_orders : Cond.selects RM yM_orders yM_orders ∈ ev_WS := ev_inD 56 rfl rfl
theorem wc_M_look : Cond.code yM_look cM_look 6 (some .boolean) ∈ ev_WS := ev_inD 62 rfl rfl
theorem wv_M_look : Cond.instanceMethod yM_look ∈ ev_WS := ev_inD 61 rfl rfl
theorem wx_M_look : Cond.selects RM yM_look yM_look ∈ ev_WS := ev_inP 41 rfl rfl
theorem wc_M_begin : Cond.code yM_begin cM_begin 4 (some .int) ∈ ev_WS := ev_inD 66 rfl rfl
theorem wv_M_begin : Cond.instanceMethod yM_begin ∈ ev_WS := ev_inD 65 rfl rfl
theorem wx_M_begin : Cond.selects RM yM_begin yM_begin ∈ ev_WS := ev_inP 42 rfl rfl
theorem wc_M_overlap : Cond.code yM_overlap cM_overlap 5 (some .boolean) ∈ ev_WS := ev_inD 70 rfl rfl
theorem wv_M_overlap : Cond.instanceMethod yM_overlap ∈ ev_WS := ev_inD 69 rfl rfl
theorem wx_M_overlap : Cond.selects RM yM_overlap yM_overlap ∈ ev_WS := ev_inP 43 rfl rfl
theorem wc_M_set : Cond.code yM_set cM_set 4 none ∈ ev_WS := ev_inD 74 rfl rfl
theorem wv_M_set : Cond.instanceMethod yM_set ∈ ev_WS := ev_inD 73 rfl rfl
theorem wx_M_set : Cond.selects RM yM_set yM_set ∈ ev_WS := ev_inP 44 rfl rfl
theorem wc_M_get : Cond.code yM_get cM_get 3 (some .int) ∈ ev_WS := ev_inD 78 rfl rfl
theorem wv_M_get : Cond.instanceMethod yM_get ∈ ev_WS := ev_inD 77 rfl rfl
theorem wx_M_get : Cond.selects RM yM_get yM_get ∈ ev_WS := ev_inP 45 rfl rfl
theorem wc_M_holds : Cond.code yM_holds cM_holds 6 (some .boolean) ∈ ev_WS := ev_inD 82 rfl rfl
theorem wv_M_holds : Cond.instanceMethod yM_holds ∈ ev_WS := ev_inD 81 rfl rfl
theorem wx_M_holds : Cond.selects RM yM_holds yM_holds ∈ ev_WS := ev_inP 46 rfl rfl
theorem wc_M_turnsRound : Cond.code yM_turnsRound cM_turnsRound 4 (some .boolean) ∈ ev_WS := ev_inD 86 rfl rfl
theorem wv_M_turnsRound : Cond.instanceMethod yM_turnsRound ∈ ev_WS := ev_inD 85 rfl rfl
theorem wx_M_turnsRound : Cond.selects RM yM_turnsRound yM_turnsRound ∈ ev_WS := ev_inP 47 rfl rfl
theorem wc_M_isMarked : Cond.code yM_isMarked cM_isMarked 4 (some .boolean) ∈ ev_WS := ev_inD 90 rfl rfl
theorem wv_M_isMarked : Cond.instanceMethod yM_isMarked ∈ ev_WS := ev_inD 89 rfl rfl
theorem wx_M_isMarked : Cond.selects RM yM_isMarked yM_isMarked ∈ ev_WS := ev_inP 48 rfl rfl
theorem wc_M_isClear : Cond.code yM_isClear cM_isClear 6 (some .boolean) ∈ ev_WS := ev_inD 94 rfl rfl
theorem wv_M_isClear : Cond.instanceMethod yM_isClear ∈ ev_WS := ev_inD 93 rfl rfl
theorem wx_M_isClear : Cond.selects RM yM_isClear yM_isClear ∈ ev_WS := ev_inP 49 rfl rfl
theorem wc_M_between : Cond.code yM_between cM_between 6 (some .int) ∈ ev_WS := ev_inD 98 rfl rfl
theorem wv_M_between : Cond.instanceMethod yM_between ∈ ev_WS := ev_inD 97 rfl rfl
theorem wx_M_between : Cond.selects RM yM_between yM_between ∈ ev_WS := ev_inP 50 rfl rfl
theorem wc_M_arePeaceful : Cond.code yM_arePeaceful cM_arePeaceful 6 (some .boolean) ∈ ev_WS := ev_inD 102 rfl rfl
theorem wv_M_arePeaceful : Cond.instanceMethod yM_arePeaceful ∈ ev_WS := ev_inD 101 rfl rfl
theorem wx_M_arePeaceful : Cond.selects RM yM_arePeaceful yM_arePeaceful ∈ ev_WS := ev_inP 51 rfl rfl
theorem wc_M_above : Cond.code yM_above cM_above 5 (some .int) ∈ ev_WS := ev_inD 106 rfl rfl
theorem wv_M_above : Cond.instanceMethod yM_above ∈ ev_WS := ev_inD 104 rfl rfl
theorem wx_M_above : Cond.selects RM yM_above yM_above ∈ ev_WS := ev_inD 105 rfl rfl
theorem wc_M_layer : Cond.code yM_layer cM_layer 7 (some .int) ∈ ev_WS := ev_inD 110 rfl rfl
theorem wv_M_layer : Cond.instanceMethod yM_layer ∈ ev_WS := ev_inD 108 rfl rfl
theorem wx_M_layer : Cond.selects RM yM_layer yM_layer ∈ ev_WS := ev_inD 109 rfl rfl
theorem wc_M_marks : Cond.code yM_marks cM_marks 7 (some .int) ∈ ev_WS := ev_inD 114 rfl rfl
theorem wv_M_marks : Cond.instanceMethod yM_marks ∈ ev_WS := ev_inD 112 rfl rfl
theorem wx_M_marks : Cond.selects RM yM_marks yM_marks ∈ ev_WS := ev_inD 113 rfl rfl
theorem wc_M_type : Cond.code yM_type cM_type 2 (some .int) ∈ ev_WS := ev_inD 118 rfl rfl
theorem wv_M_type : Cond.instanceMethod yM_type ∈ ev_WS := ev_inD 116 rfl rfl
theorem wx_M_type : Cond.selects RM yM_type yM_type ∈ ev_WS := ev_inD 117 rfl rfl
theorem wc_M_run : Cond.code yM_run cM_run 9 (some .int) ∈ ev_WS := ev_inD 122 rfl rfl
theorem wv_M_run : Cond.instanceMethod yM_run ∈ ev_WS := ev_inD 120 rfl rfl
theorem wx_M_run : Cond.selects RM yM_run yM_run ∈ ev_WS := ev_inD 121 rfl rfl
theorem wc_M_sign : Cond.code yM_sign cM_sign 3 (some .int) ∈ ev_WS := ev_inD 126 rfl rfl
theorem wv_M_sign : Cond.instanceMethod yM_sign ∈ ev_WS := ev_inD 125 rfl rfl
theorem wx_M_sign : Cond.selects RM yM_sign yM_sign ∈ ev_WS := ev_inP 52 rfl rfl
theorem wc_M_isDigit : Cond.code yM_isDigit cM_isDigit 1 (some .boolean) ∈ ev_WS := ev_inD 129 rfl rfl
theorem ws_M_isDigit : Cond.static yM_isDigit ∈ ev_WS := ev_inD 128 rfl rfl
theorem wc_M_does : Cond.code yM_does cM_does 3 (some .boolean) ∈ ev_WS := ev_inD 133 rfl rfl
theorem wv_M_does : Cond.instanceMethod yM_does ∈ ev_WS := ev_inD 132 rfl rfl
theorem wx_M_does : Cond.selects RM yM_does yM_does ∈ ev_WS := ev_inP 53 rfl rfl
end
section
theorem dF_init_0 : decode cF_init 0 = .ok ((.aload_n 0), 1) := by decide +kernel
theorem dF_init_1 : decode cF_init 1 = .ok ((.invokespecial 3), 3) := by decide +kernel
theorem dF_init_4 : decode cF_init 4 = .ok ((.aload_n 0), 1) := by decide +kernel
theorem dF_init_5 : decode cF_init 5 = .ok ((.new 9), 3) := by decide +kernel
theorem dF_init_8 : decode cF_init 8 = .ok (.dup, 1) := by decide +kernel
theorem dF_init_9 : decode cF_init 9 = .ok ((.invokespecial 11), 3) := by decide +kernel
theorem dF_init_12 : decode cF_init 12 = .ok ((.putfield 12), 3) := by decide +kernel
theorem dF_init_15 : decode cF_init 15 = .ok ((.aload_n 0), 1) := by decide +kernel
theorem dF_init_16 : decode cF_init 16 = .ok ((.new 16), 3) := by decide +kernel
theorem dF_init_19 : decode cF_init 19 = .ok (.dup, 1) := by decide +kernel
theorem dF_init_20 : decode cF_init 20 = .ok ((.aload_n 0), 1) := by decide +kernel
theorem dF_init_21 : decode cF_init 21 = .ok ((.getfield 12), 3) := by decide +kernel
theorem dF_init_24 : decode cF_init 24 = .ok ((.invokespecial 18), 3) := by decide +kernel
theorem dF_init_27 : decode cF_init 27 = .ok ((.putfield 21), 3) := by decide +kernel
theorem dF_init_30 : decode cF_init 30 = .ok ((.aload_n 0), 1) := by decide +kernel
theorem dF_init_31 : decode cF_init 31 = .ok ((.new 25), 3) := by decide +kernel
theorem dF_init_34 : decode cF_init 34 = .ok (.dup, 1) := by decide +kernel
theorem dF_init_35 : decode cF_init 35 = .ok ((.aload_n 0), 1) := by decide +kernel
theorem dF_init_36 : decode cF_init 36 = .ok ((.getfield 12), 3) := by decide +kernel
theorem dF_init_39 : decode cF_init 39 = .ok ((.invokespecial 27), 3) := by decide +kernel
theorem dF_init_42 : decode cF_init 42 = .ok ((.putfield 28), 3) := by decide +kernel
theorem dF_init_45 : decode cF_init 45 = .ok ((.aload_n 0), 1) := by decide +kernel
theorem dF_init_46 : decode cF_init 46 = .ok ((.bipush 60), 2) := by decide +kernel
theorem dF_init_48 : decode cF_init 48 = .ok ((.newarray .int), 2) := by decide +kernel
theorem dF_init_50 : decode cF_init 50 = .ok ((.putfield 32), 3) := by decide +kernel
theorem dF_init_53 : decode cF_init 53 = .ok ((.aload_n 0), 1) := by decide +kernel
theorem dF_init_54 : decode cF_init 54 = .ok ((.iconst 0), 1) := by decide +kernel
theorem dF_init_55 : decode cF_init 55 = .ok ((.putfield 36), 3) := by decide +kernel
theorem dF_init_58 : decode cF_init 58 = .ok (.return_, 1) := by decide +kernel
theorem dF_turn_0 : decode cF_turn 0 = .ok ((.aload_n 0), 1) := by decide +kernel
theorem dF_turn_1 : decode cF_turn 1 = .ok ((.getfield 12), 3) := by decide +kernel
theorem dF_turn_4 : decode cF_turn 4 = .ok ((.invokevirtual 65), 3) := by decide +kernel
theorem dF_turn_7 : decode cF_turn 7 = .ok ((.aload_n 0), 1) := by decide +kernel
theorem dF_turn_8 : decode cF_turn 8 = .ok ((.getfield 28), 3) := by decide +kernel
theorem dF_turn_11 : decode cF_turn 11 = .ok ((.invokevirtual 68), 3) := by decide +kernel
theorem dF_turn_14 : decode cF_turn 14 = .ok ((.aload_n 0), 1) := by decide +kernel
theorem dF_turn_15 : decode cF_turn 15 = .ok ((.getfield 12), 3) := by decide +kernel
theorem dF_turn_18 : decode cF_turn 18 = .ok ((.getfield 71), 3) := by decide +kernel
theorem dF_turn_21 : decode cF_turn 21 = .ok (.ireturn, 1) := by decide +kernel
theorem dF_count_0 : decode cF_count 0 = .ok ((.iload_n 1), 1) := by decide +kernel
theorem dF_count_1 : decode cF_count 1 = .ok ((.tableswitch 60 0 3 #[31, 39, 47, 55]), 31) := by decide +kernel
theorem dF_count_32 : decode cF_count 32 = .ok ((.aload_n 0), 1) := by decide +kernel
theorem dF_count_33 : decode cF_count 33 = .ok ((.getfield 12), 3) := by decide +kernel
theorem dF_count_36 : decode cF_count 36 = .ok ((.getfield 75), 3) := by decide +kernel
theorem dF_count_39 : decode cF_count 39 = .ok (.ireturn, 1) := by decide +kernel
theorem dF_count_40 : decode cF_count 40 = .ok ((.aload_n 0), 1) := by decide +kernel
theorem dF_count_41 : decode cF_count 41 = .ok ((.getfield 12), 3) := by decide +kernel
theorem dF_count_44 : decode cF_count 44 = .ok ((.getfield 62), 3) := by decide +kernel
theorem dF_count_47 : decode cF_count 47 = .ok (.ireturn, 1) := by decide +kernel
theorem dF_count_48 : decode cF_count 48 = .ok ((.aload_n 0), 1) := by decide +kernel
theorem dF_count_49 : decode cF_count 49 = .ok ((.getfield 12), 3) := by decide +kernel
theorem dF_count_52 : decode cF_count 52 = .ok ((.invokevirtual 78), 3) := by decide +kernel
theorem dF_count_55 : decode cF_count 55 = .ok (.ireturn, 1) := by decide +kernel
theorem dF_count_56 : decode cF_count 56 = .ok ((.aload_n 0), 1) := by decide +kernel
theorem dF_count_57 : decode cF_count 57 = .ok ((.getfield 36), 3) := by decide +kernel
theorem dF_count_60 : decode cF_count 60 = .ok (.ireturn, 1) := by decide +kernel
theorem dF_count_61 : decode cF_count 61 = .ok ((.iconst (-1)), 1) := by decide +kernel
theorem dF_count_62 : decode cF_count 62 = .ok (.ireturn, 1) := by decide +kernel
theorem dF_width_0 : decode cF_width 0 = .ok ((.aload_n 0), 1) := by decide +kernel
theorem dF_width_1 : decode cF_width 1 = .ok ((.getfield 12), 3) := by decide +kernel
theorem dF_width_4 : decode cF_width 4 = .ok ((.invokevirtual 116), 3) := by decide +kernel
theorem dF_width_7 : decode cF_width 7 = .ok (.ireturn, 1) := by decide +kernel
theorem dF_thickness_0 : decode cF_thickness 0 = .ok ((.aload_n 0), 1) := by decide +kernel
theorem dF_thickness_1 : decode cF_thickness 1 = .ok ((.getfield 12), 3) := by decide +kernel
theorem dF_thickness_4 : decode cF_thickness 4 = .ok ((.invokevirtual 119), 3) := by decide +kernel
theorem dF_thickness_7 : decode cF_thickness 7 = .ok (.ireturn, 1) := by decide +kernel
theorem dF_foldable_0 : decode cF_foldable 0 = .ok ((.aload_n 0), 1) := by decide +kernel
theorem dF_foldable_1 : decode cF_foldable 1 = .ok ((.getfield 12), 3) := by decide +kernel
theorem dF_foldable_4 : decode cF_foldable 4 = .ok ((.invokevirtual 78), 3) := by decide +kernel
theorem dF_foldable_7 : decode cF_foldable 7 = .ok ((.ifCond .le 5), 3) := by decide +kernel
theorem dF_foldable_10 : decode cF_foldable 10 = .ok ((.iconst (-1)), 1) := by decide +kernel
theorem dF_foldable_11 : decode cF_foldable 11 = .ok (.ireturn, 1) := by decide +kernel
theorem dF_foldable_12 : decode cF_foldable 12 = .ok ((.aload_n 0), 1) := by decide +kernel
theorem dF_foldable_13 : decode cF_foldable 13 = .ok ((.getfield 21), 3) := by decide +kernel
theorem dF_foldable_16 : decode cF_foldable 16 = .ok ((.invokevirtual 122), 3) := by decide +kernel
theorem dF_foldable_19 : decode cF_foldable 19 = .ok ((.aload_n 0), 1) := by decide +kernel
theorem dF_foldable_20 : decode cF_foldable 20 = .ok ((.getfield 21), 3) := by decide +kernel
theorem dF_foldable_23 : decode cF_foldable 23 = .ok ((.getfield 125), 3) := by decide +kernel
theorem dF_foldable_26 : decode cF_foldable 26 = .ok ((.iconst 1), 1) := by decide +kernel
theorem dF_foldable_27 : decode cF_foldable 27 = .ok ((.if_icmp .ne 7), 3) := by decide +kernel
theorem dF_foldable_30 : decode cF_foldable 30 = .ok ((.iconst 1), 1) := by decide +kernel
theorem dF_foldable_31 : decode cF_foldable 31 = .ok ((.goto 4), 3) := by decide +kernel
theorem dF_foldable_34 : decode cF_foldable 34 = .ok ((.iconst 0), 1) := by decide +kernel
theorem dF_foldable_35 : decode cF_foldable 35 = .ok (.ireturn, 1) := by decide +kernel
theorem dF_steps_0 : decode cF_steps 0 = .ok ((.aload_n 0), 1) := by decide +kernel
theorem dF_steps_1 : decode cF_steps 1 = .ok ((.getfield 12), 3) := by decide +kernel
theorem dF_steps_4 : decode cF_steps 4 = .ok ((.invokevirtual 78), 3) := by decide +kernel
theorem dF_steps_7 : decode cF_steps 7 = .ok ((.ifCond .le 5), 3) := by decide +kernel
theorem dF_steps_10 : decode cF_steps 10 = .ok ((.iconst (-1)), 1) := by decide +kernel
theorem dF_steps_11 : decode cF_steps 11 = .ok (.ireturn, 1) := by decide +kernel
theorem dF_steps_12 : decode cF_steps 12 = .ok ((.aload_n 0), 1) := by decide +kernel
theorem dF_steps_13 : decode cF_steps 13 = .ok ((.getfield 21), 3) := by decide +kernel
theorem dF_steps_16 : decode cF_steps 16 = .ok ((.invokevirtual 122), 3) := by decide +kernel
theorem dF_steps_19 : decode cF_steps 19 = .ok ((.aload_n 0), 1) := by decide +kernel
theorem dF_steps_20 : decode cF_steps 20 = .ok ((.getfield 21), 3) := by decide +kernel
theorem dF_steps_23 : decode cF_steps 23 = .ok ((.getfield 128), 3) := by decide +kernel
theorem dF_steps_26 : decode cF_steps 26 = .ok (.ireturn, 1) := by decide +kernel
theorem dF_orders_0 : decode cF_orders 0 = .ok ((.aload_n 0), 1) := by decide +kernel
theorem dF_orders_1 : decode cF_orders 1 = .ok ((.getfield 28), 3) := by decide +kernel
theorem dF_orders_4 : decode cF_orders 4 = .ok ((.invokevirtual 144), 3) := by decide +kernel
theorem dF_orders_7 : decode cF_orders 7 = .ok ((.aload_n 0), 1) := by decide +kernel
theorem dF_orders_8 : decode cF_orders 8 = .ok ((.getfield 28), 3) := by decide +kernel
theorem dF_orders_11 : decode cF_orders 11 = .ok ((.getfield 147), 3) := by decide +kernel
theorem dF_orders_14 : decode cF_orders 14 = .ok (.ireturn, 1) := by decide +kernel
theorem dF_marks_0 : decode cF_marks 0 = .ok ((.aload_n 0), 1) := by decide +kernel
theorem dF_marks_1 : decode cF_marks 1 = .ok ((.getfield 28), 3) := by decide +kernel
theorem dF_marks_4 : decode cF_marks 4 = .ok ((.invokevirtual 144), 3) := by decide +kernel
theorem dF_marks_7 : decode cF_marks 7 = .ok ((.aload_n 0), 1) := by decide +kernel
theorem dF_marks_8 : decode cF_marks 8 = .ok ((.getfield 28), 3) := by decide +kernel
theorem dF_marks_11 : decode cF_marks 11 = .ok ((.getfield 169), 3) := by decide +kernel
theorem dF_marks_14 : decode cF_marks 14 = .ok ((.invokestatic 173), 3) := by decide +kernel
theorem dF_marks_17 : decode cF_marks 17 = .ok (.ireturn, 1) := by decide +kernel
theorem dF_run_0 : decode cF_run 0 = .ok ((.aload_n 0), 1) := by decide +kernel
theorem dF_run_1 : decode cF_run 1 = .ok ((.getfield 36), 3) := by decide +kernel
theorem dF_run_4 : decode cF_run 4 = .ok ((.istore_n 1), 1) := by decide +kernel
theorem dF_run_5 : decode cF_run 5 = .ok ((.aload_n 0), 1) := by decide +kernel
theorem dF_run_6 : decode cF_run 6 = .ok ((.iconst 0), 1) := by decide +kernel
theorem dF_run_7 : decode cF_run 7 = .ok ((.putfield 36), 3) := by decide +kernel
theorem dF_run_10 : decode cF_run 10 = .ok ((.iconst 0), 1) := by decide +kernel
theorem dF_run_11 : decode cF_run 11 = .ok ((.istore_n 2), 1) := by decide +kernel
theorem dF_run_12 : decode cF_run 12 = .ok ((.iconst 0), 1) := by decide +kernel
theorem dF_run_13 : decode cF_run 13 = .ok ((.istore_n 3), 1) := by decide +kernel
theorem dF_run_14 : decode cF_run 14 = .ok ((.iload_n 3), 1) := by decide +kernel
theorem dF_run_15 : decode cF_run 15 = .ok ((.iload_n 1), 1) := by decide +kernel
theorem dF_run_16 : decode cF_run 16 = .ok ((.if_icmp .ge 81), 3) := by decide +kernel
theorem dF_run_19 : decode cF_run 19 = .ok ((.aload_n 0), 1) := by decide +kernel
theorem dF_run_20 : decode cF_run 20 = .ok ((.getfield 32), 3) := by decide +kernel
theorem dF_run_23 : decode cF_run 23 = .ok ((.iload_n 3), 1) := by decide +kernel
theorem dF_run_24 : decode cF_run 24 = .ok (.iaload, 1) := by decide +kernel
theorem dF_run_25 : decode cF_run 25 = .ok ((.bipush 32), 2) := by decide +kernel
theorem dF_run_27 : decode cF_run 27 = .ok ((.if_icmp .ne 9), 3) := by decide +kernel
theorem dF_run_30 : decode cF_run 30 = .ok ((.iinc 3 1), 3) := by decide +kernel
theorem dF_run_33 : decode cF_run 33 = .ok ((.goto (-19)), 3) := by decide +kernel
theorem dF_run_36 : decode cF_run 36 = .ok ((.aload_n 0), 1) := by decide +kernel
theorem dF_run_37 : decode cF_run 37 = .ok ((.getfield 32), 3) := by decide +kernel
theorem dF_run_40 : decode cF_run 40 = .ok ((.iload_n 3), 1) := by decide +kernel
theorem dF_run_41 : decode cF_run 41 = .ok (.iaload, 1) := by decide +kernel
theorem dF_run_42 : decode cF_run 42 = .ok ((.invokestatic 183), 3) := by decide +kernel
theorem dF_run_45 : decode cF_run 45 = .ok ((.ifCond .eq 14), 3) := by decide +kernel
theorem dF_run_48 : decode cF_run 48 = .ok ((.aload_n 0), 1) := by decide +kernel
theorem dF_run_49 : decode cF_run 49 = .ok ((.iload_n 3), 1) := by decide +kernel
theorem dF_run_50 : decode cF_run 50 = .ok ((.iconst 1), 1) := by decide +kernel
theorem dF_run_51 : decode cF_run 51 = .ok (.iadd, 1) := by decide +kernel
theorem dF_run_52 : decode cF_run 52 = .ok ((.iload_n 1), 1) := by decide +kernel
theorem dF_run_53 : decode cF_run 53 = .ok ((.invokevirtual 186), 3) := by decide +kernel
theorem dF_run_56 : decode cF_run 56 = .ok ((.goto 4), 3) := by decide +kernel
theorem dF_run_59 : decode cF_run 59 = .ok ((.iconst 0), 1) := by decide +kernel
theorem dF_run_60 : decode cF_run 60 = .ok ((.istore 4), 2) := by decide +kernel
theorem dF_run_62 : decode cF_run 62 = .ok ((.aload_n 0), 1) := by decide +kernel
theorem dF_run_63 : decode cF_run 63 = .ok ((.aload_n 0), 1) := by decide +kernel
theorem dF_run_64 : decode cF_run 64 = .ok ((.getfield 32), 3) := by decide +kernel
theorem dF_run_67 : decode cF_run 67 = .ok ((.iload_n 3), 1) := by decide +kernel
theorem dF_run_68 : decode cF_run 68 = .ok (.iaload, 1) := by decide +kernel
theorem dF_run_69 : decode cF_run 69 = .ok ((.iload_n 3), 1) := by decide +kernel
theorem dF_run_70 : decode cF_run 70 = .ok ((.iconst 1), 1) := by decide +kernel
theorem dF_run_71 : decode cF_run 71 = .ok (.iadd, 1) := by decide +kernel
theorem dF_run_72 : decode cF_run 72 = .ok ((.iload 4), 2) := by decide +kernel
theorem dF_run_74 : decode cF_run 74 = .ok ((.invokevirtual 189), 3) := by decide +kernel
theorem dF_run_77 : decode cF_run 77 = .ok ((.ifCond .eq 7), 3) := by decide +kernel
theorem dF_run_80 : decode cF_run 80 = .ok ((.iconst (-1)), 1) := by decide +kernel
theorem dF_run_81 : decode cF_run 81 = .ok ((.iload_n 3), 1) := by decide +kernel
theorem dF_run_82 : decode cF_run 82 = .ok (.isub, 1) := by decide +kernel
theorem dF_run_83 : decode cF_run 83 = .ok (.ireturn, 1) := by decide +kernel
theorem dF_run_84 : decode cF_run 84 = .ok ((.iinc 2 1), 3) := by decide +kernel
theorem dF_run_87 : decode cF_run 87 = .ok ((.iload_n 3), 1) := by decide +kernel
theorem dF_run_88 : decode cF_run 88 = .ok ((.iconst 1), 1) := by decide +kernel
theorem dF_run_89 : decode cF_run 89 = .ok ((.iload 4), 2) := by decide +kernel
theorem dF_run_91 : decode cF_run 91 = .ok (.iadd, 1) := by decide +kernel
theorem dF_run_92 : decode cF_run 92 = .ok (.iadd, 1) := by decide +kernel
theorem dF_run_93 : decode cF_run 93 = .ok ((.istore_n 3), 1) := by decide +kernel
theorem dF_run_94 : decode cF_run 94 = .ok ((.goto (-80)), 3) := by decide +kernel
theorem dF_run_97 : decode cF_run 97 = .ok ((.iload_n 2), 1) := by decide +kernel
theorem dF_run_98 : decode cF_run 98 = .ok (.ireturn, 1) := by decide +kernel
theorem dF_takesNumber_0 : decode cF_takesNumber 0 = .ok ((.iload_n 0), 1) := by decide +kernel
theorem dF_takesNumber_1 : decode cF_takesNumber 1 = .ok ((.bipush 115), 2) := by decide +kernel
theorem dF_takesNumber_3 : decode cF_takesNumber 3 = .ok ((.if_icmp .eq 11), 3) := by decide +kernel
theorem dF_takesNumber_6 : decode cF_takesNumber 6 = .ok ((.iload_n 0), 1) := by decide +kernel
theorem dF_takesNumber_7 : decode cF_takesNumber 7 = .ok ((.invokestatic 192), 3) := by decide +kernel
theorem dF_takesNumber_10 : decode cF_takesNumber 10 = .ok ((.iconst (-1)), 1) := by decide +kernel
theorem dF_takesNumber_11 : decode cF_takesNumber 11 = .ok ((.if_icmp .eq 7), 3) := by decide +kernel
theorem dF_takesNumber_14 : decode cF_takesNumber 14 = .ok ((.iconst 1), 1) := by decide +kernel
theorem dF_takesNumber_15 : decode cF_takesNumber 15 = .ok ((.goto 4), 3) := by decide +kernel
theorem dF_takesNumber_18 : decode cF_takesNumber 18 = .ok ((.iconst 0), 1) := by decide +kernel
theorem dF_takesNumber_19 : decode cF_takesNumber 19 = .ok (.ireturn, 1) := by decide +kernel
theorem dF_markOf_0 : decode cF_markOf 0 = .ok ((.iload_n 0), 1) := by decide +kernel
theorem dF_markOf_1 : decode cF_markOf 1 = .ok ((.lookupswitch 51 #[(102, 43), (109, 45), (118, 47), (120, 49)]), 43) := by decide +kernel
theorem dF_markOf_44 : decode cF_markOf 44 = .ok ((.iconst 0), 1) := by decide +kernel
theorem dF_markOf_45 : decode cF_markOf 45 = .ok (.ireturn, 1) := by decide +kernel
theorem dF_markOf_46 : decode cF_markOf 46 = .ok ((.iconst 1), 1) := by decide +kernel
theorem dF_markOf_47 : decode cF_markOf 47 = .ok (.ireturn, 1) := by decide +kernel
theorem dF_markOf_48 : decode cF_markOf 48 = .ok ((.iconst 2), 1) := by decide +kernel
theorem dF_markOf_49 : decode cF_markOf 49 = .ok (.ireturn, 1) := by decide +kernel
theorem dF_markOf_50 : decode cF_markOf 50 = .ok ((.iconst 3), 1) := by decide +kernel
theorem dF_markOf_51 : decode cF_markOf 51 = .ok (.ireturn, 1) := by decide +kernel
theorem dF_markOf_52 : decode cF_markOf 52 = .ok ((.iconst (-1)), 1) := by decide +kernel
theorem dF_markOf_53 : decode cF_markOf 53 = .ok (.ireturn, 1) := by decide +kernel
theorem dF_digitsFrom_0 : decode cF_digitsFrom 0 = .ok ((.iconst 0), 1) := by decide +kernel
theorem dF_digitsFrom_1 : decode cF_digitsFrom 1 = .ok ((.istore_n 3), 1) := by decide +kernel
theorem dF_digitsFrom_2 : decode cF_digitsFrom 2 = .ok ((.iload_n 3), 1) := by decide +kernel
theorem dF_digitsFrom_3 : decode cF_digitsFrom 3 = .ok ((.iconst 4), 1) := by decide +kernel
theorem dF_digitsFrom_4 : decode cF_digitsFrom 4 = .ok ((.if_icmp .ge 30), 3) := by decide +kernel
theorem dF_digitsFrom_7 : decode cF_digitsFrom 7 = .ok ((.iload_n 1), 1) := by decide +kernel
theorem dF_digitsFrom_8 : decode cF_digitsFrom 8 = .ok ((.iload_n 3), 1) := by decide +kernel
theorem dF_digitsFrom_9 : decode cF_digitsFrom 9 = .ok (.iadd, 1) := by decide +kernel
theorem dF_digitsFrom_10 : decode cF_digitsFrom 10 = .ok ((.iload_n 2), 1) := by decide +kernel
theorem dF_digitsFrom_11 : decode cF_digitsFrom 11 = .ok ((.if_icmp .ge 23), 3) := by decide +kernel
theorem dF_digitsFrom_14 : decode cF_digitsFrom 14 = .ok ((.aload_n 0), 1) := by decide +kernel
theorem dF_digitsFrom_15 : decode cF_digitsFrom 15 = .ok ((.getfield 32), 3) := by decide +kernel
theorem dF_digitsFrom_18 : decode cF_digitsFrom 18 = .ok ((.iload_n 1), 1) := by decide +kernel
theorem dF_digitsFrom_19 : decode cF_digitsFrom 19 = .ok ((.iload_n 3), 1) := by decide +kernel
theorem dF_digitsFrom_20 : decode cF_digitsFrom 20 = .ok (.iadd, 1) := by decide +kernel
theorem dF_digitsFrom_21 : decode cF_digitsFrom 21 = .ok (.iaload, 1) := by decide +kernel
theorem dF_digitsFrom_22 : decode cF_digitsFrom 22 = .ok ((.invokestatic 195), 3) := by decide +kernel
theorem dF_digitsFrom_25 : decode cF_digitsFrom 25 = .ok ((.ifCond .eq 9), 3) := by decide +kernel
theorem dF_digitsFrom_28 : decode cF_digitsFrom 28 = .ok ((.iinc 3 1), 3) := by decide +kernel
theorem dF_digitsFrom_31 : decode cF_digitsFrom 31 = .ok ((.goto (-29)), 3) := by decide +kernel
theorem dF_digitsFrom_34 : decode cF_digitsFrom 34 = .ok ((.iload_n 3), 1) := by decide +kernel
theorem dF_digitsFrom_35 : decode cF_digitsFrom 35 = .ok (.ireturn, 1) := by decide +kernel
theorem dF_isDigit_0 : decode cF_isDigit 0 = .ok ((.iload_n 0), 1) := by decide +kernel
theorem dF_isDigit_1 : decode cF_isDigit 1 = .ok ((.bipush 48), 2) := by decide +kernel
theorem dF_isDigit_3 : decode cF_isDigit 3 = .ok ((.if_icmp .lt 13), 3) := by decide +kernel
theorem dF_isDigit_6 : decode cF_isDigit 6 = .ok ((.iload_n 0), 1) := by decide +kernel
theorem dF_isDigit_7 : decode cF_isDigit 7 = .ok ((.bipush 57), 2) := by decide +kernel
theorem dF_isDigit_9 : decode cF_isDigit 9 = .ok ((.if_icmp .gt 7), 3) := by decide +kernel
theorem dF_isDigit_12 : decode cF_isDigit 12 = .ok ((.iconst 1), 1) := by decide +kernel
theorem dF_isDigit_13 : decode cF_isDigit 13 = .ok ((.goto 4), 3) := by decide +kernel
theorem dF_isDigit_16 : decode cF_isDigit 16 = .ok ((.iconst 0), 1) := by decide +kernel
theorem dF_isDigit_17 : decode cF_isDigit 17 = .ok (.ireturn, 1) := by decide +kernel
theorem dF_operate_0 : decode cF_operate 0 = .ok ((.iload_n 1), 1) := by decide +kernel
theorem dF_operate_1 : decode cF_operate 1 = .ok ((.bipush 116), 2) := by decide +kernel
theorem dF_operate_3 : decode cF_operate 3 = .ok ((.if_icmp .ne 10), 3) := by decide +kernel
theorem dF_operate_6 : decode cF_operate 6 = .ok ((.aload_n 0), 1) := by decide +kernel
theorem dF_operate_7 : decode cF_operate 7 = .ok ((.invokevirtual 198), 3) := by decide +kernel
theorem dF_operate_10 : decode cF_operate 10 = .ok (.pop, 1) := by decide +kernel
theorem dF_operate_11 : decode cF_operate 11 = .ok ((.iconst 0), 1) := by decide +kernel
theorem dF_operate_12 : decode cF_operate 12 = .ok (.ireturn, 1) := by decide +kernel
theorem dF_operate_13 : decode cF_operate 13 = .ok ((.iload_n 3), 1) := by decide +kernel
theorem dF_operate_14 : decode cF_operate 14 = .ok ((.ifCond .ne 5), 3) := by decide +kernel
theorem dF_operate_17 : decode cF_operate 17 = .ok ((.iconst 1), 1) := by decide +kernel
theorem dF_operate_18 : decode cF_operate 18 = .ok (.ireturn, 1) := by decide +kernel
theorem dF_operate_19 : decode cF_operate 19 = .ok ((.aload_n 0), 1) := by decide +kernel
theorem dF_operate_20 : decode cF_operate 20 = .ok ((.iload_n 2), 1) := by decide +kernel
theorem dF_operate_21 : decode cF_operate 21 = .ok ((.iload_n 3), 1) := by decide +kernel
theorem dF_operate_22 : decode cF_operate 22 = .ok ((.invokevirtual 202), 3) := by decide +kernel
theorem dF_operate_25 : decode cF_operate 25 = .ok ((.istore 4), 2) := by decide +kernel
theorem dF_operate_27 : decode cF_operate 27 = .ok ((.iload_n 1), 1) := by decide +kernel
theorem dF_operate_28 : decode cF_operate 28 = .ok ((.bipush 115), 2) := by decide +kernel
theorem dF_operate_30 : decode cF_operate 30 = .ok ((.if_icmp .ne 12), 3) := by decide +kernel
theorem dF_operate_33 : decode cF_operate 33 = .ok ((.aload_n 0), 1) := by decide +kernel
theorem dF_operate_34 : decode cF_operate 34 = .ok ((.iload 4), 2) := by decide +kernel
theorem dF_operate_36 : decode cF_operate 36 = .ok ((.invokevirtual 40), 3) := by decide +kernel
theorem dF_operate_39 : decode cF_operate 39 = .ok ((.goto 13), 3) := by decide +kernel
theorem dF_operate_42 : decode cF_operate 42 = .ok ((.aload_n 0), 1) := by decide +kernel
theorem dF_operate_43 : decode cF_operate 43 = .ok ((.iload 4), 2) := by decide +kernel
theorem dF_operate_45 : decode cF_operate 45 = .ok ((.iload_n 1), 1) := by decide +kernel
theorem dF_operate_46 : decode cF_operate 46 = .ok ((.invokestatic 192), 3) := by decide +kernel
theorem dF_operate_49 : decode cF_operate 49 = .ok ((.invokevirtual 51), 3) := by decide +kernel
theorem dF_operate_52 : decode cF_operate 52 = .ok (.ireturn, 1) := by decide +kernel
theorem dF_numberAt_0 : decode cF_numberAt 0 = .ok ((.iconst 0), 1) := by decide +kernel
theorem dF_numberAt_1 : decode cF_numberAt 1 = .ok ((.istore_n 3), 1) := by decide +kernel
theorem dF_numberAt_2 : decode cF_numberAt 2 = .ok ((.iload_n 1), 1) := by decide +kernel
theorem dF_numberAt_3 : decode cF_numberAt 3 = .ok ((.istore 4), 2) := by decide +kernel
theorem dF_numberAt_5 : decode cF_numberAt 5 = .ok ((.iload 4), 2) := by decide +kernel
theorem dF_numberAt_7 : decode cF_numberAt 7 = .ok ((.iload_n 1), 1) := by decide +kernel
theorem dF_numberAt_8 : decode cF_numberAt 8 = .ok ((.iload_n 2), 1) := by decide +kernel
theorem dF_numberAt_9 : decode cF_numberAt 9 = .ok (.iadd, 1) := by decide +kernel
theorem dF_numberAt_10 : decode cF_numberAt 10 = .ok ((.if_icmp .ge 25), 3) := by decide +kernel
theorem dF_numberAt_13 : decode cF_numberAt 13 = .ok ((.iload_n 3), 1) := by decide +kernel
theorem dF_numberAt_14 : decode cF_numberAt 14 = .ok ((.bipush 10), 2) := by decide +kernel
theorem dF_numberAt_16 : decode cF_numberAt 16 = .ok (.imul, 1) := by decide +kernel
theorem dF_numberAt_17 : decode cF_numberAt 17 = .ok ((.aload_n 0), 1) := by decide +kernel
theorem dF_numberAt_18 : decode cF_numberAt 18 = .ok ((.getfield 32), 3) := by decide +kernel
theorem dF_numberAt_21 : decode cF_numberAt 21 = .ok ((.iload 4), 2) := by decide +kernel
theorem dF_numberAt_23 : decode cF_numberAt 23 = .ok (.iaload, 1) := by decide +kernel
theorem dF_numberAt_24 : decode cF_numberAt 24 = .ok ((.bipush 48), 2) := by decide +kernel
theorem dF_numberAt_26 : decode cF_numberAt 26 = .ok (.isub, 1) := by decide +kernel
theorem dF_numberAt_27 : decode cF_numberAt 27 = .ok (.iadd, 1) := by decide +kernel
theorem dF_numberAt_28 : decode cF_numberAt 28 = .ok ((.istore_n 3), 1) := by decide +kernel
theorem dF_numberAt_29 : decode cF_numberAt 29 = .ok ((.iinc 4 1), 3) := by decide +kernel
theorem dF_numberAt_32 : decode cF_numberAt 32 = .ok ((.goto (-27)), 3) := by decide +kernel
theorem dF_numberAt_35 : decode cF_numberAt 35 = .ok ((.iload_n 3), 1) := by decide +kernel
theorem dF_numberAt_36 : decode cF_numberAt 36 = .ok (.ireturn, 1) := by decide +kernel
theorem dF_tryStrip_0 : decode cF_tryStrip 0 = .ok ((.iload_n 1), 1) := by decide +kernel
theorem dF_tryStrip_1 : decode cF_tryStrip 1 = .ok ((.iconst 1), 1) := by decide +kernel
theorem dF_tryStrip_2 : decode cF_tryStrip 2 = .ok ((.if_icmp .lt 9), 3) := by decide +kernel
theorem dF_tryStrip_5 : decode cF_tryStrip 5 = .ok ((.iload_n 1), 1) := by decide +kernel
theorem dF_tryStrip_6 : decode cF_tryStrip 6 = .ok ((.bipush 60), 2) := by decide +kernel
theorem dF_tryStrip_8 : decode cF_tryStrip 8 = .ok ((.if_icmp .le 5), 3) := by decide +kernel
theorem dF_tryStrip_11 : decode cF_tryStrip 11 = .ok ((.iconst 1), 1) := by decide +kernel
theorem dF_tryStrip_12 : decode cF_tryStrip 12 = .ok (.ireturn, 1) := by decide +kernel
theorem dF_tryStrip_13 : decode cF_tryStrip 13 = .ok ((.aload_n 0), 1) := by decide +kernel
theorem dF_tryStrip_14 : decode cF_tryStrip 14 = .ok ((.getfield 12), 3) := by decide +kernel
theorem dF_tryStrip_17 : decode cF_tryStrip 17 = .ok ((.iload_n 1), 1) := by decide +kernel
theorem dF_tryStrip_18 : decode cF_tryStrip 18 = .ok ((.invokevirtual 205), 3) := by decide +kernel
theorem dF_tryStrip_21 : decode cF_tryStrip 21 = .ok ((.aload_n 0), 1) := by decide +kernel
theorem dF_tryStrip_22 : decode cF_tryStrip 22 = .ok ((.getfield 28), 3) := by decide +kernel
theorem dF_tryStrip_25 : decode cF_tryStrip 25 = .ok ((.invokevirtual 68), 3) := by decide +kernel
theorem dF_tryStrip_28 : decode cF_tryStrip 28 = .ok ((.iconst 0), 1) := by decide +kernel
theorem dF_tryStrip_29 : decode cF_tryStrip 29 = .ok (.ireturn, 1) := by decide +kernel
theorem dF_tryCrease_0 : decode cF_tryCrease 0 = .ok ((.aload_n 0), 1) := by decide +kernel
theorem dF_tryCrease_1 : decode cF_tryCrease 1 = .ok ((.getfield 12), 3) := by decide +kernel
theorem dF_tryCrease_4 : decode cF_tryCrease 4 = .ok ((.iload_n 1), 1) := by decide +kernel
theorem dF_tryCrease_5 : decode cF_tryCrease 5 = .ok ((.iload_n 2), 1) := by decide +kernel
theorem dF_tryCrease_6 : decode cF_tryCrease 6 = .ok ((.invokevirtual 209), 3) := by decide +kernel
theorem dF_tryCrease_9 : decode cF_tryCrease 9 = .ok ((.istore_n 3), 1) := by decide +kernel
theorem dF_tryCrease_10 : decode cF_tryCrease 10 = .ok ((.iload_n 3), 1) := by decide +kernel
theorem dF_tryCrease_11 : decode cF_tryCrease 11 = .ok ((.ifCond .ne 19), 3) := by decide +kernel
theorem dF_tryCrease_14 : decode cF_tryCrease 14 = .ok ((.aload_n 0), 1) := by decide +kernel
theorem dF_tryCrease_15 : decode cF_tryCrease 15 = .ok ((.getfield 12), 3) := by decide +kernel
theorem dF_tryCrease_18 : decode cF_tryCrease 18 = .ok ((.iload_n 1), 1) := by decide +kernel
theorem dF_tryCrease_19 : decode cF_tryCrease 19 = .ok ((.iload_n 2), 1) := by decide +kernel
theorem dF_tryCrease_20 : decode cF_tryCrease 20 = .ok ((.invokevirtual 212), 3) := by decide +kernel
theorem dF_tryCrease_23 : decode cF_tryCrease 23 = .ok ((.aload_n 0), 1) := by decide +kernel
theorem dF_tryCrease_24 : decode cF_tryCrease 24 = .ok ((.getfield 28), 3) := by decide +kernel
theorem dF_tryCrease_27 : decode cF_tryCrease 27 = .ok ((.invokevirtual 68), 3) := by decide +kernel
theorem dF_tryCrease_30 : decode cF_tryCrease 30 = .ok ((.iload_n 3), 1) := by decide +kernel
theorem dF_tryCrease_31 : decode cF_tryCrease 31 = .ok (.ireturn, 1) := by decide +kernel
theorem dF_strip_0 : decode cF_strip 0 = .ok ((.aload_n 0), 1) := by decide +kernel
theorem dF_strip_1 : decode cF_strip 1 = .ok ((.iload_n 1), 1) := by decide +kernel
theorem dF_strip_2 : decode cF_strip 2 = .ok ((.invokevirtual 40), 3) := by decide +kernel
theorem dF_strip_5 : decode cF_strip 5 = .ok ((.ifCond .eq 13), 3) := by decide +kernel
theorem dF_strip_8 : decode cF_strip 8 = .ok ((.new 44), 3) := by decide +kernel
theorem dF_strip_11 : decode cF_strip 11 = .ok (.dup, 1) := by decide +kernel
theorem dF_strip_12 : decode cF_strip 12 = .ok ((.ldc 46), 2) := by decide +kernel
theorem dF_strip_14 : decode cF_strip 14 = .ok ((.invokespecial 48), 3) := by decide +kernel
theorem dF_strip_17 : decode cF_strip 17 = .ok (.athrow, 1) := by decide +kernel
theorem dF_strip_18 : decode cF_strip 18 = .ok (.return_, 1) := by decide +kernel
theorem dF_crease_0 : decode cF_crease 0 = .ok ((.aload_n 0), 1) := by decide +kernel
theorem dF_crease_1 : decode cF_crease 1 = .ok ((.iload_n 1), 1) := by decide +kernel
theorem dF_crease_2 : decode cF_crease 2 = .ok ((.iload_n 2), 1) := by decide +kernel
theorem dF_crease_3 : decode cF_crease 3 = .ok ((.invokevirtual 51), 3) := by decide +kernel
theorem dF_crease_6 : decode cF_crease 6 = .ok ((.istore_n 3), 1) := by decide +kernel
theorem dF_crease_7 : decode cF_crease 7 = .ok ((.iload_n 3), 1) := by decide +kernel
theorem dF_crease_8 : decode cF_crease 8 = .ok ((.iconst 1), 1) := by decide +kernel
theorem dF_crease_9 : decode cF_crease 9 = .ok ((.if_icmp .ne 13), 3) := by decide +kernel
theorem dF_crease_12 : decode cF_crease 12 = .ok ((.new 44), 3) := by decide +kernel
theorem dF_crease_15 : decode cF_crease 15 = .ok (.dup, 1) := by decide +kernel
theorem dF_crease_16 : decode cF_crease 16 = .ok ((.ldc 55), 2) := by decide +kernel
theorem dF_crease_18 : decode cF_crease 18 = .ok ((.invokespecial 48), 3) := by decide +kernel
theorem dF_crease_21 : decode cF_crease 21 = .ok (.athrow, 1) := by decide +kernel
theorem dF_crease_22 : decode cF_crease 22 = .ok ((.iload_n 3), 1) := by decide +kernel
theorem dF_crease_23 : decode cF_crease 23 = .ok ((.iconst 2), 1) := by decide +kernel
theorem dF_crease_24 : decode cF_crease 24 = .ok ((.if_icmp .ne 13), 3) := by decide +kernel
theorem dF_crease_27 : decode cF_crease 27 = .ok ((.new 57), 3) := by decide +kernel
theorem dF_crease_30 : decode cF_crease 30 = .ok (.dup, 1) := by decide +kernel
theorem dF_crease_31 : decode cF_crease 31 = .ok ((.ldc 59), 2) := by decide +kernel
theorem dF_crease_33 : decode cF_crease 33 = .ok ((.invokespecial 61), 3) := by decide +kernel
theorem dF_crease_36 : decode cF_crease 36 = .ok (.athrow, 1) := by decide +kernel
theorem dF_crease_37 : decode cF_crease 37 = .ok ((.aload_n 0), 1) := by decide +kernel
theorem dF_crease_38 : decode cF_crease 38 = .ok ((.getfield 12), 3) := by decide +kernel
theorem dF_crease_41 : decode cF_crease 41 = .ok ((.getfield 62), 3) := by decide +kernel
theorem dF_crease_44 : decode cF_crease 44 = .ok (.ireturn, 1) := by decide +kernel
theorem dF_segment_0 : decode cF_segment 0 = .ok ((.aload_n 0), 1) := by decide +kernel
theorem dF_segment_1 : decode cF_segment 1 = .ok ((.getfield 12), 3) := by decide +kernel
theorem dF_segment_4 : decode cF_segment 4 = .ok ((.iload_n 1), 1) := by decide +kernel
theorem dF_segment_5 : decode cF_segment 5 = .ok ((.invokevirtual 82), 3) := by decide +kernel
theorem dF_segment_8 : decode cF_segment 8 = .ok ((.ifCond .ne 13), 3) := by decide +kernel
theorem dF_segment_11 : decode cF_segment 11 = .ok ((.new 86), 3) := by decide +kernel
theorem dF_segment_14 : decode cF_segment 14 = .ok (.dup, 1) := by decide +kernel
theorem dF_segment_15 : decode cF_segment 15 = .ok ((.ldc 88), 2) := by decide +kernel
theorem dF_segment_17 : decode cF_segment 17 = .ok ((.invokespecial 90), 3) := by decide +kernel
theorem dF_segment_20 : decode cF_segment 20 = .ok (.athrow, 1) := by decide +kernel
theorem dF_segment_21 : decode cF_segment 21 = .ok ((.iload_n 2), 1) := by decide +kernel
theorem dF_segment_22 : decode cF_segment 22 = .ok ((.tableswitch 118 0 5 #[38, 47, 56, 66, 76, 93]), 38) := by decide +kernel
theorem dF_segment_60 : decode cF_segment 60 = .ok ((.aload_n 0), 1) := by decide +kernel
theorem dF_segment_61 : decode cF_segment 61 = .ok ((.getfield 12), 3) := by decide +kernel
theorem dF_segment_64 : decode cF_segment 64 = .ok ((.iload_n 1), 1) := by decide +kernel
theorem dF_segment_65 : decode cF_segment 65 = .ok ((.invokevirtual 91), 3) := by decide +kernel
theorem dF_segment_68 : decode cF_segment 68 = .ok (.ireturn, 1) := by decide +kernel
theorem dF_segment_69 : decode cF_segment 69 = .ok ((.aload_n 0), 1) := by decide +kernel
theorem dF_segment_70 : decode cF_segment 70 = .ok ((.getfield 12), 3) := by decide +kernel
theorem dF_segment_73 : decode cF_segment 73 = .ok ((.iload_n 1), 1) := by decide +kernel
theorem dF_segment_74 : decode cF_segment 74 = .ok ((.invokevirtual 94), 3) := by decide +kernel
theorem dF_segment_77 : decode cF_segment 77 = .ok (.ireturn, 1) := by decide +kernel
theorem dF_segment_78 : decode cF_segment 78 = .ok ((.aload_n 0), 1) := by decide +kernel
theorem dF_segment_79 : decode cF_segment 79 = .ok ((.getfield 12), 3) := by decide +kernel
theorem dF_segment_82 : decode cF_segment 82 = .ok ((.getfield 97), 3) := by decide +kernel
theorem dF_segment_85 : decode cF_segment 85 = .ok ((.iload_n 1), 1) := by decide +kernel
theorem dF_segment_86 : decode cF_segment 86 = .ok (.iaload, 1) := by decide +kernel
theorem dF_segment_87 : decode cF_segment 87 = .ok (.ireturn, 1) := by decide +kernel
theorem dF_segment_88 : decode cF_segment 88 = .ok ((.aload_n 0), 1) := by decide +kernel
theorem dF_segment_89 : decode cF_segment 89 = .ok ((.getfield 12), 3) := by decide +kernel
theorem dF_segment_92 : decode cF_segment 92 = .ok ((.getfield 100), 3) := by decide +kernel
theorem dF_segment_95 : decode cF_segment 95 = .ok ((.iload_n 1), 1) := by decide +kernel
theorem dF_segment_96 : decode cF_segment 96 = .ok (.iaload, 1) := by decide +kernel
theorem dF_segment_97 : decode cF_segment 97 = .ok (.ireturn, 1) := by decide +kernel
theorem dF_segment_98 : decode cF_segment 98 = .ok ((.aload_n 0), 1) := by decide +kernel
theorem dF_segment_99 : decode cF_segment 99 = .ok ((.getfield 12), 3) := by decide +kernel
theorem dF_segment_102 : decode cF_segment 102 = .ok ((.iload_n 1), 1) := by decide +kernel
theorem dF_segment_103 : decode cF_segment 103 = .ok ((.invokevirtual 103), 3) := by decide +kernel
theorem dF_segment_106 : decode cF_segment 106 = .ok ((.ifCond .eq 7), 3) := by decide +kernel
theorem dF_segment_109 : decode cF_segment 109 = .ok ((.iconst 1), 1) := by decide +kernel
theorem dF_segment_110 : decode cF_segment 110 = .ok ((.goto 4), 3) := by decide +kernel
theorem dF_segment_113 : decode cF_segment 113 = .ok ((.iconst 0), 1) := by decide +kernel
theorem dF_segment_114 : decode cF_segment 114 = .ok (.ireturn, 1) := by decide +kernel
theorem dF_segment_115 : decode cF_segment 115 = .ok ((.iload_n 1), 1) := by decide +kernel
theorem dF_segment_116 : decode cF_segment 116 = .ok ((.aload_n 0), 1) := by decide +kernel
theorem dF_segment_117 : decode cF_segment 117 = .ok ((.getfield 12), 3) := by decide +kernel
theorem dF_segment_120 : decode cF_segment 120 = .ok ((.getfield 62), 3) := by decide +kernel
theorem dF_segment_123 : decode cF_segment 123 = .ok ((.if_icmp .ge 15), 3) := by decide +kernel
theorem dF_segment_126 : decode cF_segment 126 = .ok ((.aload_n 0), 1) := by decide +kernel
theorem dF_segment_127 : decode cF_segment 127 = .ok ((.getfield 12), 3) := by decide +kernel
theorem dF_segment_130 : decode cF_segment 130 = .ok ((.getfield 106), 3) := by decide +kernel
theorem dF_segment_133 : decode cF_segment 133 = .ok ((.iload_n 1), 1) := by decide +kernel
theorem dF_segment_134 : decode cF_segment 134 = .ok (.iaload, 1) := by decide +kernel
theorem dF_segment_135 : decode cF_segment 135 = .ok ((.goto 4), 3) := by decide +kernel
theorem dF_segment_138 : decode cF_segment 138 = .ok ((.iconst (-1)), 1) := by decide +kernel
theorem dF_segment_139 : decode cF_segment 139 = .ok (.ireturn, 1) := by decide +kernel
theorem dF_segment_140 : decode cF_segment 140 = .ok ((.new 44), 3) := by decide +kernel
theorem dF_segment_143 : decode cF_segment 143 = .ok (.dup, 1) := by decide +kernel
theorem dF_segment_144 : decode cF_segment 144 = .ok ((.ldc 109), 2) := by decide +kernel
theorem dF_segment_146 : decode cF_segment 146 = .ok ((.invokespecial 48), 3) := by decide +kernel
theorem dF_segment_149 : decode cF_segment 149 = .ok (.athrow, 1) := by decide +kernel
theorem dF_whereIs_0 : decode cF_whereIs 0 = .ok ((.iload_n 1), 1) := by decide +kernel
theorem dF_whereIs_1 : decode cF_whereIs 1 = .ok ((.ifCond .lt 14), 3) := by decide +kernel
theorem dF_whereIs_4 : decode cF_whereIs 4 = .ok ((.iload_n 1), 1) := by decide +kernel
theorem dF_whereIs_5 : decode cF_whereIs 5 = .ok ((.aload_n 0), 1) := by decide +kernel
theorem dF_whereIs_6 : decode cF_whereIs 6 = .ok ((.getfield 12), 3) := by decide +kernel
theorem dF_whereIs_9 : decode cF_whereIs 9 = .ok ((.getfield 75), 3) := by decide +kernel
theorem dF_whereIs_12 : decode cF_whereIs 12 = .ok ((.if_icmp .le 13), 3) := by decide +kernel
theorem dF_whereIs_15 : decode cF_whereIs 15 = .ok ((.new 44), 3) := by decide +kernel
theorem dF_whereIs_18 : decode cF_whereIs 18 = .ok (.dup, 1) := by decide +kernel
theorem dF_whereIs_19 : decode cF_whereIs 19 = .ok ((.ldc 111), 2) := by decide +kernel
theorem dF_whereIs_21 : decode cF_whereIs 21 = .ok ((.invokespecial 48), 3) := by decide +kernel
theorem dF_whereIs_24 : decode cF_whereIs 24 = .ok (.athrow, 1) := by decide +kernel
theorem dF_whereIs_25 : decode cF_whereIs 25 = .ok ((.aload_n 0), 1) := by decide +kernel
theorem dF_whereIs_26 : decode cF_whereIs 26 = .ok ((.getfield 12), 3) := by decide +kernel
theorem dF_whereIs_29 : decode cF_whereIs 29 = .ok ((.iload_n 1), 1) := by decide +kernel
theorem dF_whereIs_30 : decode cF_whereIs 30 = .ok ((.invokevirtual 113), 3) := by decide +kernel
theorem dF_whereIs_33 : decode cF_whereIs 33 = .ok (.ireturn, 1) := by decide +kernel
theorem dF_step_0 : decode cF_step 0 = .ok ((.iload_n 1), 1) := by decide +kernel
theorem dF_step_1 : decode cF_step 1 = .ok ((.ifCond .lt 11), 3) := by decide +kernel
theorem dF_step_4 : decode cF_step 4 = .ok ((.iload_n 1), 1) := by decide +kernel
theorem dF_step_5 : decode cF_step 5 = .ok ((.aload_n 0), 1) := by decide +kernel
theorem dF_step_6 : decode cF_step 6 = .ok ((.invokevirtual 131), 3) := by decide +kernel
theorem dF_step_9 : decode cF_step 9 = .ok ((.if_icmp .lt 13), 3) := by decide +kernel
theorem dF_step_12 : decode cF_step 12 = .ok ((.new 86), 3) := by decide +kernel
theorem dF_step_15 : decode cF_step 15 = .ok (.dup, 1) := by decide +kernel
theorem dF_step_16 : decode cF_step 16 = .ok ((.ldc 134), 2) := by decide +kernel
theorem dF_step_18 : decode cF_step 18 = .ok ((.invokespecial 90), 3) := by decide +kernel
theorem dF_step_21 : decode cF_step 21 = .ok (.athrow, 1) := by decide +kernel
theorem dF_step_22 : decode cF_step 22 = .ok ((.iload_n 2), 1) := by decide +kernel
theorem dF_step_23 : decode cF_step 23 = .ok ((.ifCond .eq 18), 3) := by decide +kernel
theorem dF_step_26 : decode cF_step 26 = .ok ((.iload_n 2), 1) := by decide +kernel
theorem dF_step_27 : decode cF_step 27 = .ok ((.iconst 1), 1) := by decide +kernel
theorem dF_step_28 : decode cF_step 28 = .ok ((.if_icmp .eq 13), 3) := by decide +kernel
theorem dF_step_31 : decode cF_step 31 = .ok ((.new 44), 3) := by decide +kernel
theorem dF_step_34 : decode cF_step 34 = .ok (.dup, 1) := by decide +kernel
theorem dF_step_35 : decode cF_step 35 = .ok ((.ldc 136), 2) := by decide +kernel
theorem dF_step_37 : decode cF_step 37 = .ok ((.invokespecial 48), 3) := by decide +kernel
theorem dF_step_40 : decode cF_step 40 = .ok (.athrow, 1) := by decide +kernel
theorem dF_step_41 : decode cF_step 41 = .ok ((.iload_n 2), 1) := by decide +kernel
theorem dF_step_42 : decode cF_step 42 = .ok ((.ifCond .ne 15), 3) := by decide +kernel
theorem dF_step_45 : decode cF_step 45 = .ok ((.aload_n 0), 1) := by decide +kernel
theorem dF_step_46 : decode cF_step 46 = .ok ((.getfield 21), 3) := by decide +kernel
theorem dF_step_49 : decode cF_step 49 = .ok ((.getfield 138), 3) := by decide +kernel
theorem dF_step_52 : decode cF_step 52 = .ok ((.iload_n 1), 1) := by decide +kernel
theorem dF_step_53 : decode cF_step 53 = .ok (.iaload, 1) := by decide +kernel
theorem dF_step_54 : decode cF_step 54 = .ok ((.goto 12), 3) := by decide +kernel
theorem dF_step_57 : decode cF_step 57 = .ok ((.aload_n 0), 1) := by decide +kernel
theorem dF_step_58 : decode cF_step 58 = .ok ((.getfield 21), 3) := by decide +kernel
theorem dF_step_61 : decode cF_step 61 = .ok ((.getfield 141), 3) := by decide +kernel
theorem dF_step_64 : decode cF_step 64 = .ok ((.iload_n 1), 1) := by decide +kernel
theorem dF_step_65 : decode cF_step 65 = .ok (.iaload, 1) := by decide +kernel
theorem dF_step_66 : decode cF_step 66 = .ok (.ireturn, 1) := by decide +kernel
theorem dF_above_0 : decode cF_above 0 = .ok ((.aload_n 0), 1) := by decide +kernel
theorem dF_above_1 : decode cF_above 1 = .ok ((.getfield 28), 3) := by decide +kernel
theorem dF_above_4 : decode cF_above 4 = .ok ((.invokevirtual 144), 3) := by decide +kernel
theorem dF_above_7 : decode cF_above 7 = .ok ((.iload_n 1), 1) := by decide +kernel
theorem dF_above_8 : decode cF_above 8 = .ok ((.ifCond .lt 36), 3) := by decide +kernel
theorem dF_above_11 : decode cF_above 11 = .ok ((.iload_n 1), 1) := by decide +kernel
theorem dF_above_12 : decode cF_above 12 = .ok ((.aload_n 0), 1) := by decide +kernel
theorem dF_above_13 : decode cF_above 13 = .ok ((.getfield 28), 3) := by decide +kernel
theorem dF_above_16 : decode cF_above 16 = .ok ((.getfield 147), 3) := by decide +kernel
theorem dF_above_19 : decode cF_above 19 = .ok ((.if_icmp .ge 25), 3) := by decide +kernel
theorem dF_above_22 : decode cF_above 22 = .ok ((.aload_n 0), 1) := by decide +kernel
theorem dF_above_23 : decode cF_above 23 = .ok ((.getfield 12), 3) := by decide +kernel
theorem dF_above_26 : decode cF_above 26 = .ok ((.iload_n 2), 1) := by decide +kernel
theorem dF_above_27 : decode cF_above 27 = .ok ((.invokevirtual 82), 3) := by decide +kernel
theorem dF_above_30 : decode cF_above 30 = .ok ((.ifCond .eq 14), 3) := by decide +kernel
theorem dF_above_33 : decode cF_above 33 = .ok ((.aload_n 0), 1) := by decide +kernel
theorem dF_above_34 : decode cF_above 34 = .ok ((.getfield 12), 3) := by decide +kernel
theorem dF_above_37 : decode cF_above 37 = .ok ((.iload_n 3), 1) := by decide +kernel
theorem dF_above_38 : decode cF_above 38 = .ok ((.invokevirtual 82), 3) := by decide +kernel
theorem dF_above_41 : decode cF_above 41 = .ok ((.ifCond .ne 13), 3) := by decide +kernel
theorem dF_above_44 : decode cF_above 44 = .ok ((.new 86), 3) := by decide +kernel
theorem dF_above_47 : decode cF_above 47 = .ok (.dup, 1) := by decide +kernel
theorem dF_above_48 : decode cF_above 48 = .ok ((.ldc 150), 2) := by decide +kernel
theorem dF_above_50 : decode cF_above 50 = .ok ((.invokespecial 90), 3) := by decide +kernel
theorem dF_above_53 : decode cF_above 53 = .ok (.athrow, 1) := by decide +kernel
theorem dF_above_54 : decode cF_above 54 = .ok ((.iload_n 2), 1) := by decide +kernel
theorem dF_above_55 : decode cF_above 55 = .ok ((.iload_n 3), 1) := by decide +kernel
theorem dF_above_56 : decode cF_above 56 = .ok ((.if_icmp .eq 15), 3) := by decide +kernel
theorem dF_above_59 : decode cF_above 59 = .ok ((.aload_n 0), 1) := by decide +kernel
theorem dF_above_60 : decode cF_above 60 = .ok ((.getfield 12), 3) := by decide +kernel
theorem dF_above_63 : decode cF_above 63 = .ok ((.iload_n 2), 1) := by decide +kernel
theorem dF_above_64 : decode cF_above 64 = .ok ((.iload_n 3), 1) := by decide +kernel
theorem dF_above_65 : decode cF_above 65 = .ok ((.invokevirtual 152), 3) := by decide +kernel
theorem dF_above_68 : decode cF_above 68 = .ok ((.ifCond .ne 5), 3) := by decide +kernel
theorem dF_above_71 : decode cF_above 71 = .ok ((.iconst (-1)), 1) := by decide +kernel
theorem dF_above_72 : decode cF_above 72 = .ok (.ireturn, 1) := by decide +kernel
theorem dF_above_73 : decode cF_above 73 = .ok ((.aload_n 0), 1) := by decide +kernel
theorem dF_above_74 : decode cF_above 74 = .ok ((.getfield 28), 3) := by decide +kernel
theorem dF_above_77 : decode cF_above 77 = .ok ((.getfield 156), 3) := by decide +kernel
theorem dF_above_80 : decode cF_above 80 = .ok ((.iload_n 1), 1) := by decide +kernel
theorem dF_above_81 : decode cF_above 81 = .ok (.iaload, 1) := by decide +kernel
theorem dF_above_82 : decode cF_above 82 = .ok ((.iload_n 2), 1) := by decide +kernel
theorem dF_above_83 : decode cF_above 83 = .ok ((.iload_n 3), 1) := by decide +kernel
theorem dF_above_84 : decode cF_above 84 = .ok ((.invokestatic 159), 3) := by decide +kernel
theorem dF_above_87 : decode cF_above 87 = .ok ((.ifCond .eq 7), 3) := by decide +kernel
theorem dF_above_90 : decode cF_above 90 = .ok ((.iconst 1), 1) := by decide +kernel
theorem dF_above_91 : decode cF_above 91 = .ok ((.goto 4), 3) := by decide +kernel
theorem dF_above_94 : decode cF_above 94 = .ok ((.iconst 0), 1) := by decide +kernel
theorem dF_above_95 : decode cF_above 95 = .ok (.ireturn, 1) := by decide +kernel
theorem dF_layer_0 : decode cF_layer 0 = .ok ((.aload_n 0), 1) := by decide +kernel
theorem dF_layer_1 : decode cF_layer 1 = .ok ((.getfield 28), 3) := by decide +kernel
theorem dF_layer_4 : decode cF_layer 4 = .ok ((.invokevirtual 144), 3) := by decide +kernel
theorem dF_layer_7 : decode cF_layer 7 = .ok ((.iload_n 1), 1) := by decide +kernel
theorem dF_layer_8 : decode cF_layer 8 = .ok ((.ifCond .lt 14), 3) := by decide +kernel
theorem dF_layer_11 : decode cF_layer 11 = .ok ((.iload_n 1), 1) := by decide +kernel
theorem dF_layer_12 : decode cF_layer 12 = .ok ((.aload_n 0), 1) := by decide +kernel
theorem dF_layer_13 : decode cF_layer 13 = .ok ((.getfield 28), 3) := by decide +kernel
theorem dF_layer_16 : decode cF_layer 16 = .ok ((.getfield 147), 3) := by decide +kernel
theorem dF_layer_19 : decode cF_layer 19 = .ok ((.if_icmp .lt 13), 3) := by decide +kernel
theorem dF_layer_22 : decode cF_layer 22 = .ok ((.new 86), 3) := by decide +kernel
theorem dF_layer_25 : decode cF_layer 25 = .ok (.dup, 1) := by decide +kernel
theorem dF_layer_26 : decode cF_layer 26 = .ok ((.ldc 163), 2) := by decide +kernel
theorem dF_layer_28 : decode cF_layer 28 = .ok ((.invokespecial 90), 3) := by decide +kernel
theorem dF_layer_31 : decode cF_layer 31 = .ok (.athrow, 1) := by decide +kernel
theorem dF_layer_32 : decode cF_layer 32 = .ok ((.aload_n 0), 1) := by decide +kernel
theorem dF_layer_33 : decode cF_layer 33 = .ok ((.getfield 28), 3) := by decide +kernel
theorem dF_layer_36 : decode cF_layer 36 = .ok ((.aload_n 0), 1) := by decide +kernel
theorem dF_layer_37 : decode cF_layer 37 = .ok ((.getfield 28), 3) := by decide +kernel
theorem dF_layer_40 : decode cF_layer 40 = .ok ((.getfield 156), 3) := by decide +kernel
theorem dF_layer_43 : decode cF_layer 43 = .ok ((.iload_n 1), 1) := by decide +kernel
theorem dF_layer_44 : decode cF_layer 44 = .ok (.iaload, 1) := by decide +kernel
theorem dF_layer_45 : decode cF_layer 45 = .ok ((.iload_n 2), 1) := by decide +kernel
theorem dF_layer_46 : decode cF_layer 46 = .ok ((.iload_n 3), 1) := by decide +kernel
theorem dF_layer_47 : decode cF_layer 47 = .ok ((.invokevirtual 165), 3) := by decide +kernel
theorem dF_layer_50 : decode cF_layer 50 = .ok (.ireturn, 1) := by decide +kernel
theorem dF_type_0 : decode cF_type 0 = .ok ((.iload_n 1), 1) := by decide +kernel
theorem dF_type_1 : decode cF_type 1 = .ok ((.bipush 32), 2) := by decide +kernel
theorem dF_type_3 : decode cF_type 3 = .ok ((.if_icmp .lt 9), 3) := by decide +kernel
theorem dF_type_6 : decode cF_type 6 = .ok ((.iload_n 1), 1) := by decide +kernel
theorem dF_type_7 : decode cF_type 7 = .ok ((.bipush 126), 2) := by decide +kernel
theorem dF_type_9 : decode cF_type 9 = .ok ((.if_icmp .le 13), 3) := by decide +kernel
theorem dF_type_12 : decode cF_type 12 = .ok ((.new 44), 3) := by decide +kernel
theorem dF_type_15 : decode cF_type 15 = .ok (.dup, 1) := by decide +kernel
theorem dF_type_16 : decode cF_type 16 = .ok ((.ldc 179), 2) := by decide +kernel
theorem dF_type_18 : decode cF_type 18 = .ok ((.invokespecial 48), 3) := by decide +kernel
theorem dF_type_21 : decode cF_type 21 = .ok (.athrow, 1) := by decide +kernel
theorem dF_type_22 : decode cF_type 22 = .ok ((.aload_n 0), 1) := by decide +kernel
theorem dF_type_23 : decode cF_type 23 = .ok ((.getfield 36), 3) := by decide +kernel
theorem dF_type_26 : decode cF_type 26 = .ok ((.bipush 60), 2) := by decide +kernel
theorem dF_type_28 : decode cF_type 28 = .ok ((.if_icmp .lt 13), 3) := by decide +kernel
theorem dF_type_31 : decode cF_type 31 = .ok ((.new 57), 3) := by decide +kernel
theorem dF_type_34 : decode cF_type 34 = .ok (.dup, 1) := by decide +kernel
theorem dF_type_35 : decode cF_type 35 = .ok ((.ldc 181), 2) := by decide +kernel
theorem dF_type_37 : decode cF_type 37 = .ok ((.invokespecial 61), 3) := by decide +kernel
theorem dF_type_40 : decode cF_type 40 = .ok (.athrow, 1) := by decide +kernel
theorem dF_type_41 : decode cF_type 41 = .ok ((.aload_n 0), 1) := by decide +kernel
theorem dF_type_42 : decode cF_type 42 = .ok ((.getfield 32), 3) := by decide +kernel
theorem dF_type_45 : decode cF_type 45 = .ok ((.aload_n 0), 1) := by decide +kernel
theorem dF_type_46 : decode cF_type 46 = .ok ((.getfield 36), 3) := by decide +kernel
theorem dF_type_49 : decode cF_type 49 = .ok ((.iload_n 1), 1) := by decide +kernel
theorem dF_type_50 : decode cF_type 50 = .ok (.iastore, 1) := by decide +kernel
theorem dF_type_51 : decode cF_type 51 = .ok ((.aload_n 0), 1) := by decide +kernel
theorem dF_type_52 : decode cF_type 52 = .ok (.dup, 1) := by decide +kernel
theorem dF_type_53 : decode cF_type 53 = .ok ((.getfield 36), 3) := by decide +kernel
theorem dF_type_56 : decode cF_type 56 = .ok ((.iconst 1), 1) := by decide +kernel
theorem dF_type_57 : decode cF_type 57 = .ok (.iadd, 1) := by decide +kernel
theorem dF_type_58 : decode cF_type 58 = .ok ((.putfield 36), 3) := by decide +kernel
theorem dF_type_61 : decode cF_type 61 = .ok ((.aload_n 0), 1) := by decide +kernel
theorem dF_type_62 : decode cF_type 62 = .ok ((.getfield 36), 3) := by decide +kernel
theorem dF_type_65 : decode cF_type 65 = .ok (.ireturn, 1) := by decide +kernel
end
section
theorem dP_init_0 : decode cP_init 0 = .ok ((.aload_n 0), 1) := by decide +kernel
theorem dP_init_1 : decode cP_init 1 = .ok ((.invokespecial 3), 3) := by decide +kernel
theorem dP_init_4 : decode cP_init 4 = .ok ((.aload_n 0), 1) := by decide +kernel
theorem dP_init_5 : decode cP_init 5 = .ok ((.bipush 6), 2) := by decide +kernel
theorem dP_init_7 : decode cP_init 7 = .ok ((.newarray .int), 2) := by decide +kernel
theorem dP_init_9 : decode cP_init 9 = .ok ((.putfield 9), 3) := by decide +kernel
theorem dP_init_12 : decode cP_init 12 = .ok ((.aload_n 0), 1) := by decide +kernel
theorem dP_init_13 : decode cP_init 13 = .ok ((.bipush 6), 2) := by decide +kernel
theorem dP_init_15 : decode cP_init 15 = .ok ((.newarray .int), 2) := by decide +kernel
theorem dP_init_17 : decode cP_init 17 = .ok ((.putfield 15), 3) := by decide +kernel
theorem dP_init_20 : decode cP_init 20 = .ok ((.aload_n 0), 1) := by decide +kernel
theorem dP_init_21 : decode cP_init 21 = .ok ((.bipush 8), 2) := by decide +kernel
theorem dP_init_23 : decode cP_init 23 = .ok ((.newarray .int), 2) := by decide +kernel
theorem dP_init_25 : decode cP_init 25 = .ok ((.putfield 18), 3) := by decide +kernel
theorem dP_init_28 : decode cP_init 28 = .ok ((.aload_n 0), 1) := by decide +kernel
theorem dP_init_29 : decode cP_init 29 = .ok ((.bipush 7), 2) := by decide +kernel
theorem dP_init_31 : decode cP_init 31 = .ok ((.newarray .int), 2) := by decide +kernel
theorem dP_init_33 : decode cP_init 33 = .ok ((.putfield 21), 3) := by decide +kernel
theorem dP_init_36 : decode cP_init 36 = .ok ((.aload_n 0), 1) := by decide +kernel
theorem dP_init_37 : decode cP_init 37 = .ok ((.bipush 7), 2) := by decide +kernel
theorem dP_init_39 : decode cP_init 39 = .ok ((.newarray .int), 2) := by decide +kernel
theorem dP_init_41 : decode cP_init 41 = .ok ((.putfield 24), 3) := by decide +kernel
theorem dP_init_44 : decode cP_init 44 = .ok ((.aload_n 0), 1) := by decide +kernel
theorem dP_init_45 : decode cP_init 45 = .ok ((.iconst 1), 1) := by decide +kernel
theorem dP_init_46 : decode cP_init 46 = .ok ((.invokevirtual 27), 3) := by decide +kernel
theorem dP_init_49 : decode cP_init 49 = .ok (.return_, 1) := by decide +kernel
theorem dP_renew_0 : decode cP_renew 0 = .ok ((.aload_n 0), 1) := by decide +kernel
theorem dP_renew_1 : decode cP_renew 1 = .ok ((.iload_n 1), 1) := by decide +kernel
theorem dP_renew_2 : decode cP_renew 2 = .ok ((.putfield 31), 3) := by decide +kernel
theorem dP_renew_5 : decode cP_renew 5 = .ok ((.aload_n 0), 1) := by decide +kernel
theorem dP_renew_6 : decode cP_renew 6 = .ok ((.iconst 0), 1) := by decide +kernel
theorem dP_renew_7 : decode cP_renew 7 = .ok ((.putfield 35), 3) := by decide +kernel
theorem dP_renew_10 : decode cP_renew 10 = .ok ((.aload_n 0), 1) := by decide +kernel
theorem dP_renew_11 : decode cP_renew 11 = .ok ((.iconst 0), 1) := by decide +kernel
theorem dP_renew_12 : decode cP_renew 12 = .ok ((.putfield 38), 3) := by decide +kernel
theorem dP_renew_15 : decode cP_renew 15 = .ok ((.aload_n 0), 1) := by decide +kernel
theorem dP_renew_16 : decode cP_renew 16 = .ok ((.invokevirtual 42), 3) := by decide +kernel
theorem dP_renew_19 : decode cP_renew 19 = .ok (.return_, 1) := by decide +kernel
theorem dP_fold_0 : decode cP_fold 0 = .ok ((.aload_n 0), 1) := by decide +kernel
theorem dP_fold_1 : decode cP_fold 1 = .ok ((.getfield 18), 3) := by decide +kernel
theorem dP_fold_4 : decode cP_fold 4 = .ok ((.iconst 0), 1) := by decide +kernel
theorem dP_fold_5 : decode cP_fold 5 = .ok ((.iconst 0), 1) := by decide +kernel
theorem dP_fold_6 : decode cP_fold 6 = .ok (.iastore, 1) := by decide +kernel
theorem dP_fold_7 : decode cP_fold 7 = .ok ((.iconst 0), 1) := by decide +kernel
theorem dP_fold_8 : decode cP_fold 8 = .ok ((.istore_n 1), 1) := by decide +kernel
theorem dP_fold_9 : decode cP_fold 9 = .ok ((.iload_n 1), 1) := by decide +kernel
theorem dP_fold_10 : decode cP_fold 10 = .ok ((.aload_n 0), 1) := by decide +kernel
theorem dP_fold_11 : decode cP_fold 11 = .ok ((.getfield 35), 3) := by decide +kernel
theorem dP_fold_14 : decode cP_fold 14 = .ok ((.if_icmp .gt 80), 3) := by decide +kernel
theorem dP_fold_17 : decode cP_fold 17 = .ok ((.aload_n 0), 1) := by decide +kernel
theorem dP_fold_18 : decode cP_fold 18 = .ok ((.getfield 18), 3) := by decide +kernel
theorem dP_fold_21 : decode cP_fold 21 = .ok ((.iload_n 1), 1) := by decide +kernel
theorem dP_fold_22 : decode cP_fold 22 = .ok ((.iconst 1), 1) := by decide +kernel
theorem dP_fold_23 : decode cP_fold 23 = .ok (.iadd, 1) := by decide +kernel
theorem dP_fold_24 : decode cP_fold 24 = .ok ((.aload_n 0), 1) := by decide +kernel
theorem dP_fold_25 : decode cP_fold 25 = .ok ((.getfield 18), 3) := by decide +kernel
theorem dP_fold_28 : decode cP_fold 28 = .ok ((.iload_n 1), 1) := by decide +kernel
theorem dP_fold_29 : decode cP_fold 29 = .ok (.iaload, 1) := by decide +kernel
theorem dP_fold_30 : decode cP_fold 30 = .ok ((.iload_n 1), 1) := by decide +kernel
theorem dP_fold_31 : decode cP_fold 31 = .ok ((.invokestatic 60), 3) := by decide +kernel
theorem dP_fold_34 : decode cP_fold 34 = .ok ((.aload_n 0), 1) := by decide +kernel
theorem dP_fold_35 : decode cP_fold 35 = .ok ((.iload_n 1), 1) := by decide +kernel
theorem dP_fold_36 : decode cP_fold 36 = .ok ((.invokevirtual 63), 3) := by decide +kernel
theorem dP_fold_39 : decode cP_fold 39 = .ok (.imul, 1) := by decide +kernel
theorem dP_fold_40 : decode cP_fold 40 = .ok (.iadd, 1) := by decide +kernel
theorem dP_fold_41 : decode cP_fold 41 = .ok (.iastore, 1) := by decide +kernel
theorem dP_fold_42 : decode cP_fold 42 = .ok ((.aload_n 0), 1) := by decide +kernel
theorem dP_fold_43 : decode cP_fold 43 = .ok ((.getfield 21), 3) := by decide +kernel
theorem dP_fold_46 : decode cP_fold 46 = .ok ((.iload_n 1), 1) := by decide +kernel
theorem dP_fold_47 : decode cP_fold 47 = .ok ((.aload_n 0), 1) := by decide +kernel
theorem dP_fold_48 : decode cP_fold 48 = .ok ((.getfield 18), 3) := by decide +kernel
theorem dP_fold_51 : decode cP_fold 51 = .ok ((.iload_n 1), 1) := by decide +kernel
theorem dP_fold_52 : decode cP_fold 52 = .ok (.iaload, 1) := by decide +kernel
theorem dP_fold_53 : decode cP_fold 53 = .ok ((.aload_n 0), 1) := by decide +kernel
theorem dP_fold_54 : decode cP_fold 54 = .ok ((.getfield 18), 3) := by decide +kernel
theorem dP_fold_57 : decode cP_fold 57 = .ok ((.iload_n 1), 1) := by decide +kernel
theorem dP_fold_58 : decode cP_fold 58 = .ok ((.iconst 1), 1) := by decide +kernel
theorem dP_fold_59 : decode cP_fold 59 = .ok (.iadd, 1) := by decide +kernel
theorem dP_fold_60 : decode cP_fold 60 = .ok (.iaload, 1) := by decide +kernel
theorem dP_fold_61 : decode cP_fold 61 = .ok ((.invokestatic 66), 3) := by decide +kernel
theorem dP_fold_64 : decode cP_fold 64 = .ok (.iastore, 1) := by decide +kernel
theorem dP_fold_65 : decode cP_fold 65 = .ok ((.aload_n 0), 1) := by decide +kernel
theorem dP_fold_66 : decode cP_fold 66 = .ok ((.getfield 24), 3) := by decide +kernel
theorem dP_fold_69 : decode cP_fold 69 = .ok ((.iload_n 1), 1) := by decide +kernel
theorem dP_fold_70 : decode cP_fold 70 = .ok ((.aload_n 0), 1) := by decide +kernel
theorem dP_fold_71 : decode cP_fold 71 = .ok ((.getfield 18), 3) := by decide +kernel
theorem dP_fold_74 : decode cP_fold 74 = .ok ((.iload_n 1), 1) := by decide +kernel
theorem dP_fold_75 : decode cP_fold 75 = .ok (.iaload, 1) := by decide +kernel
theorem dP_fold_76 : decode cP_fold 76 = .ok ((.aload_n 0), 1) := by decide +kernel
theorem dP_fold_77 : decode cP_fold 77 = .ok ((.getfield 18), 3) := by decide +kernel
theorem dP_fold_80 : decode cP_fold 80 = .ok ((.iload_n 1), 1) := by decide +kernel
theorem dP_fold_81 : decode cP_fold 81 = .ok ((.iconst 1), 1) := by decide +kernel
theorem dP_fold_82 : decode cP_fold 82 = .ok (.iadd, 1) := by decide +kernel
theorem dP_fold_83 : decode cP_fold 83 = .ok (.iaload, 1) := by decide +kernel
theorem dP_fold_84 : decode cP_fold 84 = .ok ((.invokestatic 72), 3) := by decide +kernel
theorem dP_fold_87 : decode cP_fold 87 = .ok (.iastore, 1) := by decide +kernel
theorem dP_fold_88 : decode cP_fold 88 = .ok ((.iinc 1 1), 3) := by decide +kernel
theorem dP_fold_91 : decode cP_fold 91 = .ok ((.goto (-82)), 3) := by decide +kernel
theorem dP_fold_94 : decode cP_fold 94 = .ok (.return_, 1) := by decide +kernel
theorem dP_direction_0 : decode cP_direction 0 = .ok ((.iload_n 0), 1) := by decide +kernel
theorem dP_direction_1 : decode cP_direction 1 = .ok ((.iconst 2), 1) := by decide +kernel
theorem dP_direction_2 : decode cP_direction 2 = .ok (.irem, 1) := by decide +kernel
theorem dP_direction_3 : decode cP_direction 3 = .ok ((.ifCond .ne 7), 3) := by decide +kernel
theorem dP_direction_6 : decode cP_direction 6 = .ok ((.iconst 1), 1) := by decide +kernel
theorem dP_direction_7 : decode cP_direction 7 = .ok ((.goto 4), 3) := by decide +kernel
theorem dP_direction_10 : decode cP_direction 10 = .ok ((.iconst (-1)), 1) := by decide +kernel
theorem dP_direction_11 : decode cP_direction 11 = .ok (.ireturn, 1) := by decide +kernel
theorem dP_segmentLength_0 : decode cP_segmentLength 0 = .ok ((.aload_n 0), 1) := by decide +kernel
theorem dP_segmentLength_1 : decode cP_segmentLength 1 = .ok ((.iload_n 1), 1) := by decide +kernel
theorem dP_segmentLength_2 : decode cP_segmentLength 2 = .ok ((.invokevirtual 75), 3) := by decide +kernel
theorem dP_segmentLength_5 : decode cP_segmentLength 5 = .ok ((.aload_n 0), 1) := by decide +kernel
theorem dP_segmentLength_6 : decode cP_segmentLength 6 = .ok ((.iload_n 1), 1) := by decide +kernel
theorem dP_segmentLength_7 : decode cP_segmentLength 7 = .ok ((.invokevirtual 78), 3) := by decide +kernel
theorem dP_segmentLength_10 : decode cP_segmentLength 10 = .ok (.isub, 1) := by decide +kernel
theorem dP_segmentLength_11 : decode cP_segmentLength 11 = .ok (.ireturn, 1) := by decide +kernel
theorem dP_rightEnd_0 : decode cP_rightEnd 0 = .ok ((.iload_n 1), 1) := by decide +kernel
theorem dP_rightEnd_1 : decode cP_rightEnd 1 = .ok ((.aload_n 0), 1) := by decide +kernel
theorem dP_rightEnd_2 : decode cP_rightEnd 2 = .ok ((.getfield 35), 3) := by decide +kernel
theorem dP_rightEnd_5 : decode cP_rightEnd 5 = .ok ((.if_icmp .ge 12), 3) := by decide +kernel
theorem dP_rightEnd_8 : decode cP_rightEnd 8 = .ok ((.aload_n 0), 1) := by decide +kernel
theorem dP_rightEnd_9 : decode cP_rightEnd 9 = .ok ((.getfield 9), 3) := by decide +kernel
theorem dP_rightEnd_12 : decode cP_rightEnd 12 = .ok ((.iload_n 1), 1) := by decide +kernel
theorem dP_rightEnd_13 : decode cP_rightEnd 13 = .ok (.iaload, 1) := by decide +kernel
theorem dP_rightEnd_14 : decode cP_rightEnd 14 = .ok ((.goto 7), 3) := by decide +kernel
theorem dP_rightEnd_17 : decode cP_rightEnd 17 = .ok ((.aload_n 0), 1) := by decide +kernel
theorem dP_rightEnd_18 : decode cP_rightEnd 18 = .ok ((.getfield 31), 3) := by decide +kernel
theorem dP_rightEnd_21 : decode cP_rightEnd 21 = .ok (.ireturn, 1) := by decide +kernel
theorem dP_leftEnd_0 : decode cP_leftEnd 0 = .ok ((.iload_n 1), 1) := by decide +kernel
theorem dP_leftEnd_1 : decode cP_leftEnd 1 = .ok ((.ifCond .ne 7), 3) := by decide +kernel
theorem dP_leftEnd_4 : decode cP_leftEnd 4 = .ok ((.iconst 0), 1) := by decide +kernel
theorem dP_leftEnd_5 : decode cP_leftEnd 5 = .ok ((.goto 11), 3) := by decide +kernel
theorem dP_leftEnd_8 : decode cP_leftEnd 8 = .ok ((.aload_n 0), 1) := by decide +kernel
theorem dP_leftEnd_9 : decode cP_leftEnd 9 = .ok ((.getfield 9), 3) := by decide +kernel
theorem dP_leftEnd_12 : decode cP_leftEnd 12 = .ok ((.iload_n 1), 1) := by decide +kernel
theorem dP_leftEnd_13 : decode cP_leftEnd 13 = .ok ((.iconst 1), 1) := by decide +kernel
theorem dP_leftEnd_14 : decode cP_leftEnd 14 = .ok (.isub, 1) := by decide +kernel
theorem dP_leftEnd_15 : decode cP_leftEnd 15 = .ok (.iaload, 1) := by decide +kernel
theorem dP_leftEnd_16 : decode cP_leftEnd 16 = .ok (.ireturn, 1) := by decide +kernel
theorem dP_turnOver_0 : decode cP_turnOver 0 = .ok ((.aload_n 0), 1) := by decide +kernel
theorem dP_turnOver_1 : decode cP_turnOver 1 = .ok ((.aload_n 0), 1) := by decide +kernel
theorem dP_turnOver_2 : decode cP_turnOver 2 = .ok ((.getfield 38), 3) := by decide +kernel
theorem dP_turnOver_5 : decode cP_turnOver 5 = .ok ((.ifCond .ne 7), 3) := by decide +kernel
theorem dP_turnOver_8 : decode cP_turnOver 8 = .ok ((.iconst 1), 1) := by decide +kernel
theorem dP_turnOver_9 : decode cP_turnOver 9 = .ok ((.goto 4), 3) := by decide +kernel
theorem dP_turnOver_12 : decode cP_turnOver 12 = .ok ((.iconst 0), 1) := by decide +kernel
theorem dP_turnOver_13 : decode cP_turnOver 13 = .ok ((.putfield 38), 3) := by decide +kernel
theorem dP_turnOver_16 : decode cP_turnOver 16 = .ok (.return_, 1) := by decide +kernel
theorem dP_freeCreases_0 : decode cP_freeCreases 0 = .ok ((.iconst 0), 1) := by decide +kernel
theorem dP_freeCreases_1 : decode cP_freeCreases 1 = .ok ((.istore_n 1), 1) := by decide +kernel
theorem dP_freeCreases_2 : decode cP_freeCreases 2 = .ok ((.iconst 0), 1) := by decide +kernel
theorem dP_freeCreases_3 : decode cP_freeCreases 3 = .ok ((.istore_n 2), 1) := by decide +kernel
theorem dP_freeCreases_4 : decode cP_freeCreases 4 = .ok ((.iload_n 2), 1) := by decide +kernel
theorem dP_freeCreases_5 : decode cP_freeCreases 5 = .ok ((.aload_n 0), 1) := by decide +kernel
theorem dP_freeCreases_6 : decode cP_freeCreases 6 = .ok ((.getfield 35), 3) := by decide +kernel
theorem dP_freeCreases_9 : decode cP_freeCreases 9 = .ok ((.if_icmp .ge 21), 3) := by decide +kernel
theorem dP_freeCreases_12 : decode cP_freeCreases 12 = .ok ((.aload_n 0), 1) := by decide +kernel
theorem dP_freeCreases_13 : decode cP_freeCreases 13 = .ok ((.getfield 15), 3) := by decide +kernel
theorem dP_freeCreases_16 : decode cP_freeCreases 16 = .ok ((.iload_n 2), 1) := by decide +kernel
theorem dP_freeCreases_17 : decode cP_freeCreases 17 = .ok (.iaload, 1) := by decide +kernel
theorem dP_freeCreases_18 : decode cP_freeCreases 18 = .ok ((.ifCond .ne 6), 3) := by decide +kernel
theorem dP_freeCreases_21 : decode cP_freeCreases 21 = .ok ((.iinc 1 1), 3) := by decide +kernel
theorem dP_freeCreases_24 : decode cP_freeCreases 24 = .ok ((.iinc 2 1), 3) := by decide +kernel
theorem dP_freeCreases_27 : decode cP_freeCreases 27 = .ok ((.goto (-23)), 3) := by decide +kernel
theorem dP_freeCreases_30 : decode cP_freeCreases 30 = .ok ((.iload_n 1), 1) := by decide +kernel
theorem dP_freeCreases_31 : decode cP_freeCreases 31 = .ok (.ireturn, 1) := by decide +kernel
theorem dP_reach_0 : decode cP_reach 0 = .ok ((.aload_n 0), 1) := by decide +kernel
theorem dP_reach_1 : decode cP_reach 1 = .ok ((.getfield 18), 3) := by decide +kernel
theorem dP_reach_4 : decode cP_reach 4 = .ok ((.iconst 0), 1) := by decide +kernel
theorem dP_reach_5 : decode cP_reach 5 = .ok (.iaload, 1) := by decide +kernel
theorem dP_reach_6 : decode cP_reach 6 = .ok ((.istore_n 1), 1) := by decide +kernel
theorem dP_reach_7 : decode cP_reach 7 = .ok ((.aload_n 0), 1) := by decide +kernel
theorem dP_reach_8 : decode cP_reach 8 = .ok ((.getfield 18), 3) := by decide +kernel
theorem dP_reach_11 : decode cP_reach 11 = .ok ((.iconst 0), 1) := by decide +kernel
theorem dP_reach_12 : decode cP_reach 12 = .ok (.iaload, 1) := by decide +kernel
theorem dP_reach_13 : decode cP_reach 13 = .ok ((.istore_n 2), 1) := by decide +kernel
theorem dP_reach_14 : decode cP_reach 14 = .ok ((.iconst 1), 1) := by decide +kernel
theorem dP_reach_15 : decode cP_reach 15 = .ok ((.istore_n 3), 1) := by decide +kernel
theorem dP_reach_16 : decode cP_reach 16 = .ok ((.iload_n 3), 1) := by decide +kernel
theorem dP_reach_17 : decode cP_reach 17 = .ok ((.aload_n 0), 1) := by decide +kernel
theorem dP_reach_18 : decode cP_reach 18 = .ok ((.invokevirtual 81), 3) := by decide +kernel
theorem dP_reach_21 : decode cP_reach 21 = .ok ((.if_icmp .gt 31), 3) := by decide +kernel
theorem dP_reach_24 : decode cP_reach 24 = .ok ((.iload_n 1), 1) := by decide +kernel
theorem dP_reach_25 : decode cP_reach 25 = .ok ((.aload_n 0), 1) := by decide +kernel
theorem dP_reach_26 : decode cP_reach 26 = .ok ((.getfield 18), 3) := by decide +kernel
theorem dP_reach_29 : decode cP_reach 29 = .ok ((.iload_n 3), 1) := by decide +kernel
theorem dP_reach_30 : decode cP_reach 30 = .ok (.iaload, 1) := by decide +kernel
theorem dP_reach_31 : decode cP_reach 31 = .ok ((.invokestatic 66), 3) := by decide +kernel
theorem dP_reach_34 : decode cP_reach 34 = .ok ((.istore_n 1), 1) := by decide +kernel
theorem dP_reach_35 : decode cP_reach 35 = .ok ((.iload_n 2), 1) := by decide +kernel
theorem dP_reach_36 : decode cP_reach 36 = .ok ((.aload_n 0), 1) := by decide +kernel
theorem dP_reach_37 : decode cP_reach 37 = .ok ((.getfield 18), 3) := by decide +kernel
theorem dP_reach_40 : decode cP_reach 40 = .ok ((.iload_n 3), 1) := by decide +kernel
theorem dP_reach_41 : decode cP_reach 41 = .ok (.iaload, 1) := by decide +kernel
theorem dP_reach_42 : decode cP_reach 42 = .ok ((.invokestatic 72), 3) := by decide +kernel
theorem dP_reach_45 : decode cP_reach 45 = .ok ((.istore_n 2), 1) := by decide +kernel
theorem dP_reach_46 : decode cP_reach 46 = .ok ((.iinc 3 1), 3) := by decide +kernel
theorem dP_reach_49 : decode cP_reach 49 = .ok ((.goto (-33)), 3) := by decide +kernel
theorem dP_reach_52 : decode cP_reach 52 = .ok ((.iload_n 2), 1) := by decide +kernel
theorem dP_reach_53 : decode cP_reach 53 = .ok ((.iload_n 1), 1) := by decide +kernel
theorem dP_reach_54 : decode cP_reach 54 = .ok (.isub, 1) := by decide +kernel
theorem dP_reach_55 : decode cP_reach 55 = .ok (.ireturn, 1) := by decide +kernel
theorem dP_segments_0 : decode cP_segments 0 = .ok ((.aload_n 0), 1) := by decide +kernel
theorem dP_segments_1 : decode cP_segments 1 = .ok ((.getfield 35), 3) := by decide +kernel
theorem dP_segments_4 : decode cP_segments 4 = .ok ((.iconst 1), 1) := by decide +kernel
theorem dP_segments_5 : decode cP_segments 5 = .ok (.iadd, 1) := by decide +kernel
theorem dP_segments_6 : decode cP_segments 6 = .ok (.ireturn, 1) := by decide +kernel
theorem dP_mostImages_0 : decode cP_mostImages 0 = .ok ((.iconst 0), 1) := by decide +kernel
theorem dP_mostImages_1 : decode cP_mostImages 1 = .ok ((.istore_n 1), 1) := by decide +kernel
theorem dP_mostImages_2 : decode cP_mostImages 2 = .ok ((.iconst 0), 1) := by decide +kernel
theorem dP_mostImages_3 : decode cP_mostImages 3 = .ok ((.istore_n 2), 1) := by decide +kernel
theorem dP_mostImages_4 : decode cP_mostImages 4 = .ok ((.iload_n 2), 1) := by decide +kernel
theorem dP_mostImages_5 : decode cP_mostImages 5 = .ok ((.aload_n 0), 1) := by decide +kernel
theorem dP_mostImages_6 : decode cP_mostImages 6 = .ok ((.getfield 35), 3) := by decide +kernel
theorem dP_mostImages_9 : decode cP_mostImages 9 = .ok ((.if_icmp .gt 24), 3) := by decide +kernel
theorem dP_mostImages_12 : decode cP_mostImages 12 = .ok ((.iload_n 1), 1) := by decide +kernel
theorem dP_mostImages_13 : decode cP_mostImages 13 = .ok ((.aload_n 0), 1) := by decide +kernel
theorem dP_mostImages_14 : decode cP_mostImages 14 = .ok ((.aload_n 0), 1) := by decide +kernel
theorem dP_mostImages_15 : decode cP_mostImages 15 = .ok ((.getfield 21), 3) := by decide +kernel
theorem dP_mostImages_18 : decode cP_mostImages 18 = .ok ((.iload_n 2), 1) := by decide +kernel
theorem dP_mostImages_19 : decode cP_mostImages 19 = .ok (.iaload, 1) := by decide +kernel
theorem dP_mostImages_20 : decode cP_mostImages 20 = .ok ((.invokevirtual 85), 3) := by decide +kernel
theorem dP_mostImages_23 : decode cP_mostImages 23 = .ok ((.invokestatic 72), 3) := by decide +kernel
theorem dP_mostImages_26 : decode cP_mostImages 26 = .ok ((.istore_n 1), 1) := by decide +kernel
theorem dP_mostImages_27 : decode cP_mostImages 27 = .ok ((.iinc 2 1), 3) := by decide +kernel
theorem dP_mostImages_30 : decode cP_mostImages 30 = .ok ((.goto (-26)), 3) := by decide +kernel
theorem dP_mostImages_33 : decode cP_mostImages 33 = .ok ((.iload_n 1), 1) := by decide +kernel
theorem dP_mostImages_34 : decode cP_mostImages 34 = .ok (.ireturn, 1) := by decide +kernel
theorem dP_imagesOver_0 : decode cP_imagesOver 0 = .ok ((.iconst 0), 1) := by decide +kernel
theorem dP_imagesOver_1 : decode cP_imagesOver 1 = .ok ((.istore_n 2), 1) := by decide +kernel
theorem dP_imagesOver_2 : decode cP_imagesOver 2 = .ok ((.iconst 0), 1) := by decide +kernel
theorem dP_imagesOver_3 : decode cP_imagesOver 3 = .ok ((.istore_n 3), 1) := by decide +kernel
theorem dP_imagesOver_4 : decode cP_imagesOver 4 = .ok ((.iload_n 3), 1) := by decide +kernel
theorem dP_imagesOver_5 : decode cP_imagesOver 5 = .ok ((.aload_n 0), 1) := by decide +kernel
theorem dP_imagesOver_6 : decode cP_imagesOver 6 = .ok ((.getfield 35), 3) := by decide +kernel
theorem dP_imagesOver_9 : decode cP_imagesOver 9 = .ok ((.if_icmp .gt 21), 3) := by decide +kernel
theorem dP_imagesOver_12 : decode cP_imagesOver 12 = .ok ((.aload_n 0), 1) := by decide +kernel
theorem dP_imagesOver_13 : decode cP_imagesOver 13 = .ok ((.iload_n 3), 1) := by decide +kernel
theorem dP_imagesOver_14 : decode cP_imagesOver 14 = .ok ((.iload_n 1), 1) := by decide +kernel
theorem dP_imagesOver_15 : decode cP_imagesOver 15 = .ok ((.invokevirtual 88), 3) := by decide +kernel
theorem dP_imagesOver_18 : decode cP_imagesOver 18 = .ok ((.ifCond .eq 6), 3) := by decide +kernel
theorem dP_imagesOver_21 : decode cP_imagesOver 21 = .ok ((.iinc 2 1), 3) := by decide +kernel
theorem dP_imagesOver_24 : decode cP_imagesOver 24 = .ok ((.iinc 3 1), 3) := by decide +kernel
theorem dP_imagesOver_27 : decode cP_imagesOver 27 = .ok ((.goto (-23)), 3) := by decide +kernel
theorem dP_imagesOver_30 : decode cP_imagesOver 30 = .ok ((.iload_n 2), 1) := by decide +kernel
theorem dP_imagesOver_31 : decode cP_imagesOver 31 = .ok (.ireturn, 1) := by decide +kernel
theorem dP_liesOver_0 : decode cP_liesOver 0 = .ok ((.aload_n 0), 1) := by decide +kernel
theorem dP_liesOver_1 : decode cP_liesOver 1 = .ok ((.getfield 21), 3) := by decide +kernel
theorem dP_liesOver_4 : decode cP_liesOver 4 = .ok ((.iload_n 1), 1) := by decide +kernel
theorem dP_liesOver_5 : decode cP_liesOver 5 = .ok (.iaload, 1) := by decide +kernel
theorem dP_liesOver_6 : decode cP_liesOver 6 = .ok ((.iload_n 2), 1) := by decide +kernel
theorem dP_liesOver_7 : decode cP_liesOver 7 = .ok ((.if_icmp .gt 17), 3) := by decide +kernel
theorem dP_liesOver_10 : decode cP_liesOver 10 = .ok ((.iload_n 2), 1) := by decide +kernel
theorem dP_liesOver_11 : decode cP_liesOver 11 = .ok ((.aload_n 0), 1) := by decide +kernel
theorem dP_liesOver_12 : decode cP_liesOver 12 = .ok ((.getfield 24), 3) := by decide +kernel
theorem dP_liesOver_15 : decode cP_liesOver 15 = .ok ((.iload_n 1), 1) := by decide +kernel
theorem dP_liesOver_16 : decode cP_liesOver 16 = .ok (.iaload, 1) := by decide +kernel
theorem dP_liesOver_17 : decode cP_liesOver 17 = .ok ((.if_icmp .ge 7), 3) := by decide +kernel
theorem dP_liesOver_20 : decode cP_liesOver 20 = .ok ((.iconst 1), 1) := by decide +kernel
theorem dP_liesOver_21 : decode cP_liesOver 21 = .ok ((.goto 4), 3) := by decide +kernel
theorem dP_liesOver_24 : decode cP_liesOver 24 = .ok ((.iconst 0), 1) := by decide +kernel
theorem dP_liesOver_25 : decode cP_liesOver 25 = .ok (.ireturn, 1) := by decide +kernel
theorem dP_overlap_0 : decode cP_overlap 0 = .ok ((.aload_n 0), 1) := by decide +kernel
theorem dP_overlap_1 : decode cP_overlap 1 = .ok ((.getfield 21), 3) := by decide +kernel
theorem dP_overlap_4 : decode cP_overlap 4 = .ok ((.iload_n 1), 1) := by decide +kernel
theorem dP_overlap_5 : decode cP_overlap 5 = .ok (.iaload, 1) := by decide +kernel
theorem dP_overlap_6 : decode cP_overlap 6 = .ok ((.aload_n 0), 1) := by decide +kernel
theorem dP_overlap_7 : decode cP_overlap 7 = .ok ((.getfield 24), 3) := by decide +kernel
theorem dP_overlap_10 : decode cP_overlap 10 = .ok ((.iload_n 2), 1) := by decide +kernel
theorem dP_overlap_11 : decode cP_overlap 11 = .ok (.iaload, 1) := by decide +kernel
theorem dP_overlap_12 : decode cP_overlap 12 = .ok ((.if_icmp .ge 22), 3) := by decide +kernel
theorem dP_overlap_15 : decode cP_overlap 15 = .ok ((.aload_n 0), 1) := by decide +kernel
theorem dP_overlap_16 : decode cP_overlap 16 = .ok ((.getfield 21), 3) := by decide +kernel
theorem dP_overlap_19 : decode cP_overlap 19 = .ok ((.iload_n 2), 1) := by decide +kernel
theorem dP_overlap_20 : decode cP_overlap 20 = .ok (.iaload, 1) := by decide +kernel
theorem dP_overlap_21 : decode cP_overlap 21 = .ok ((.aload_n 0), 1) := by decide +kernel
theorem dP_overlap_22 : decode cP_overlap 22 = .ok ((.getfield 24), 3) := by decide +kernel
theorem dP_overlap_25 : decode cP_overlap 25 = .ok ((.iload_n 1), 1) := by decide +kernel
theorem dP_overlap_26 : decode cP_overlap 26 = .ok (.iaload, 1) := by decide +kernel
theorem dP_overlap_27 : decode cP_overlap 27 = .ok ((.if_icmp .ge 7), 3) := by decide +kernel
theorem dP_overlap_30 : decode cP_overlap 30 = .ok ((.iconst 1), 1) := by decide +kernel
theorem dP_overlap_31 : decode cP_overlap 31 = .ok ((.goto 4), 3) := by decide +kernel
theorem dP_overlap_34 : decode cP_overlap 34 = .ok ((.iconst 0), 1) := by decide +kernel
theorem dP_overlap_35 : decode cP_overlap 35 = .ok (.ireturn, 1) := by decide +kernel
theorem dP_frontUp_0 : decode cP_frontUp 0 = .ok ((.iload_n 1), 1) := by decide +kernel
theorem dP_frontUp_1 : decode cP_frontUp 1 = .ok ((.iconst 2), 1) := by decide +kernel
theorem dP_frontUp_2 : decode cP_frontUp 2 = .ok (.irem, 1) := by decide +kernel
theorem dP_frontUp_3 : decode cP_frontUp 3 = .ok ((.ifCond .ne 7), 3) := by decide +kernel
theorem dP_frontUp_6 : decode cP_frontUp 6 = .ok ((.iconst 1), 1) := by decide +kernel
theorem dP_frontUp_7 : decode cP_frontUp 7 = .ok ((.goto 4), 3) := by decide +kernel
theorem dP_frontUp_10 : decode cP_frontUp 10 = .ok ((.iconst 0), 1) := by decide +kernel
theorem dP_frontUp_11 : decode cP_frontUp 11 = .ok ((.aload_n 0), 1) := by decide +kernel
theorem dP_frontUp_12 : decode cP_frontUp 12 = .ok ((.getfield 38), 3) := by decide +kernel
theorem dP_frontUp_15 : decode cP_frontUp 15 = .ok ((.if_icmp .eq 7), 3) := by decide +kernel
theorem dP_frontUp_18 : decode cP_frontUp 18 = .ok ((.iconst 1), 1) := by decide +kernel
theorem dP_frontUp_19 : decode cP_frontUp 19 = .ok ((.goto 4), 3) := by decide +kernel
theorem dP_frontUp_22 : decode cP_frontUp 22 = .ok ((.iconst 0), 1) := by decide +kernel
theorem dP_frontUp_23 : decode cP_frontUp 23 = .ok (.ireturn, 1) := by decide +kernel
theorem dP_foldedCrease_0 : decode cP_foldedCrease 0 = .ok ((.aload_n 0), 1) := by decide +kernel
theorem dP_foldedCrease_1 : decode cP_foldedCrease 1 = .ok ((.getfield 18), 3) := by decide +kernel
theorem dP_foldedCrease_4 : decode cP_foldedCrease 4 = .ok ((.iload_n 1), 1) := by decide +kernel
theorem dP_foldedCrease_5 : decode cP_foldedCrease 5 = .ok ((.iconst 1), 1) := by decide +kernel
theorem dP_foldedCrease_6 : decode cP_foldedCrease 6 = .ok (.iadd, 1) := by decide +kernel
theorem dP_foldedCrease_7 : decode cP_foldedCrease 7 = .ok (.iaload, 1) := by decide +kernel
theorem dP_foldedCrease_8 : decode cP_foldedCrease 8 = .ok (.ireturn, 1) := by decide +kernel
theorem dP_hasInside_0 : decode cP_hasInside 0 = .ok ((.aload_n 0), 1) := by decide +kernel
theorem dP_hasInside_1 : decode cP_hasInside 1 = .ok ((.getfield 21), 3) := by decide +kernel
theorem dP_hasInside_4 : decode cP_hasInside 4 = .ok ((.iload_n 1), 1) := by decide +kernel
theorem dP_hasInside_5 : decode cP_hasInside 5 = .ok (.iaload, 1) := by decide +kernel
theorem dP_hasInside_6 : decode cP_hasInside 6 = .ok ((.iload_n 2), 1) := by decide +kernel
theorem dP_hasInside_7 : decode cP_hasInside 7 = .ok ((.if_icmp .ge 17), 3) := by decide +kernel
theorem dP_hasInside_10 : decode cP_hasInside 10 = .ok ((.iload_n 2), 1) := by decide +kernel
theorem dP_hasInside_11 : decode cP_hasInside 11 = .ok ((.aload_n 0), 1) := by decide +kernel
theorem dP_hasInside_12 : decode cP_hasInside 12 = .ok ((.getfield 24), 3) := by decide +kernel
theorem dP_hasInside_15 : decode cP_hasInside 15 = .ok ((.iload_n 1), 1) := by decide +kernel
theorem dP_hasInside_16 : decode cP_hasInside 16 = .ok (.iaload, 1) := by decide +kernel
theorem dP_hasInside_17 : decode cP_hasInside 17 = .ok ((.if_icmp .ge 7), 3) := by decide +kernel
theorem dP_hasInside_20 : decode cP_hasInside 20 = .ok ((.iconst 1), 1) := by decide +kernel
theorem dP_hasInside_21 : decode cP_hasInside 21 = .ok ((.goto 4), 3) := by decide +kernel
theorem dP_hasInside_24 : decode cP_hasInside 24 = .ok ((.iconst 0), 1) := by decide +kernel
theorem dP_hasInside_25 : decode cP_hasInside 25 = .ok (.ireturn, 1) := by decide +kernel
theorem dP_judgeCrease_0 : decode cP_judgeCrease 0 = .ok ((.iload_n 1), 1) := by decide +kernel
theorem dP_judgeCrease_1 : decode cP_judgeCrease 1 = .ok ((.iconst 1), 1) := by decide +kernel
theorem dP_judgeCrease_2 : decode cP_judgeCrease 2 = .ok ((.if_icmp .lt 20), 3) := by decide +kernel
theorem dP_judgeCrease_5 : decode cP_judgeCrease 5 = .ok ((.iload_n 1), 1) := by decide +kernel
theorem dP_judgeCrease_6 : decode cP_judgeCrease 6 = .ok ((.aload_n 0), 1) := by decide +kernel
theorem dP_judgeCrease_7 : decode cP_judgeCrease 7 = .ok ((.getfield 31), 3) := by decide +kernel
theorem dP_judgeCrease_10 : decode cP_judgeCrease 10 = .ok ((.if_icmp .ge 12), 3) := by decide +kernel
theorem dP_judgeCrease_13 : decode cP_judgeCrease 13 = .ok ((.iload_n 2), 1) := by decide +kernel
theorem dP_judgeCrease_14 : decode cP_judgeCrease 14 = .ok ((.ifCond .lt 8), 3) := by decide +kernel
theorem dP_judgeCrease_17 : decode cP_judgeCrease 17 = .ok ((.iload_n 2), 1) := by decide +kernel
theorem dP_judgeCrease_18 : decode cP_judgeCrease 18 = .ok ((.iconst 3), 1) := by decide +kernel
theorem dP_judgeCrease_19 : decode cP_judgeCrease 19 = .ok ((.if_icmp .le 5), 3) := by decide +kernel
theorem dP_judgeCrease_22 : decode cP_judgeCrease 22 = .ok ((.iconst 1), 1) := by decide +kernel
theorem dP_judgeCrease_23 : decode cP_judgeCrease 23 = .ok (.ireturn, 1) := by decide +kernel
theorem dP_judgeCrease_24 : decode cP_judgeCrease 24 = .ok ((.aload_n 0), 1) := by decide +kernel
theorem dP_judgeCrease_25 : decode cP_judgeCrease 25 = .ok ((.iload_n 1), 1) := by decide +kernel
theorem dP_judgeCrease_26 : decode cP_judgeCrease 26 = .ok ((.invokevirtual 45), 3) := by decide +kernel
theorem dP_judgeCrease_29 : decode cP_judgeCrease 29 = .ok ((.ifCond .eq 5), 3) := by decide +kernel
theorem dP_judgeCrease_32 : decode cP_judgeCrease 32 = .ok ((.iconst 0), 1) := by decide +kernel
theorem dP_judgeCrease_33 : decode cP_judgeCrease 33 = .ok (.ireturn, 1) := by decide +kernel
theorem dP_judgeCrease_34 : decode cP_judgeCrease 34 = .ok ((.iload_n 2), 1) := by decide +kernel
theorem dP_judgeCrease_35 : decode cP_judgeCrease 35 = .ok ((.iconst 3), 1) := by decide +kernel
theorem dP_judgeCrease_36 : decode cP_judgeCrease 36 = .ok ((.if_icmp .ne 5), 3) := by decide +kernel
theorem dP_judgeCrease_39 : decode cP_judgeCrease 39 = .ok ((.iconst 1), 1) := by decide +kernel
theorem dP_judgeCrease_40 : decode cP_judgeCrease 40 = .ok (.ireturn, 1) := by decide +kernel
theorem dP_judgeCrease_41 : decode cP_judgeCrease 41 = .ok ((.aload_n 0), 1) := by decide +kernel
theorem dP_judgeCrease_42 : decode cP_judgeCrease 42 = .ok ((.getfield 35), 3) := by decide +kernel
theorem dP_judgeCrease_45 : decode cP_judgeCrease 45 = .ok ((.bipush 6), 2) := by decide +kernel
theorem dP_judgeCrease_47 : decode cP_judgeCrease 47 = .ok ((.if_icmp .ge 7), 3) := by decide +kernel
theorem dP_judgeCrease_50 : decode cP_judgeCrease 50 = .ok ((.iconst 0), 1) := by decide +kernel
theorem dP_judgeCrease_51 : decode cP_judgeCrease 51 = .ok ((.goto 4), 3) := by decide +kernel
theorem dP_judgeCrease_54 : decode cP_judgeCrease 54 = .ok ((.iconst 2), 1) := by decide +kernel
theorem dP_judgeCrease_55 : decode cP_judgeCrease 55 = .ok (.ireturn, 1) := by decide +kernel
theorem dP_hasCreaseAt_0 : decode cP_hasCreaseAt 0 = .ok ((.aload_n 0), 1) := by decide +kernel
theorem dP_hasCreaseAt_1 : decode cP_hasCreaseAt 1 = .ok ((.iload_n 1), 1) := by decide +kernel
theorem dP_hasCreaseAt_2 : decode cP_hasCreaseAt 2 = .ok ((.invokevirtual 49), 3) := by decide +kernel
theorem dP_hasCreaseAt_5 : decode cP_hasCreaseAt 5 = .ok ((.istore_n 2), 1) := by decide +kernel
theorem dP_hasCreaseAt_6 : decode cP_hasCreaseAt 6 = .ok ((.iload_n 2), 1) := by decide +kernel
theorem dP_hasCreaseAt_7 : decode cP_hasCreaseAt 7 = .ok ((.aload_n 0), 1) := by decide +kernel
theorem dP_hasCreaseAt_8 : decode cP_hasCreaseAt 8 = .ok ((.getfield 35), 3) := by decide +kernel
theorem dP_hasCreaseAt_11 : decode cP_hasCreaseAt 11 = .ok ((.if_icmp .ge 17), 3) := by decide +kernel
theorem dP_hasCreaseAt_14 : decode cP_hasCreaseAt 14 = .ok ((.aload_n 0), 1) := by decide +kernel
theorem dP_hasCreaseAt_15 : decode cP_hasCreaseAt 15 = .ok ((.getfield 9), 3) := by decide +kernel
theorem dP_hasCreaseAt_18 : decode cP_hasCreaseAt 18 = .ok ((.iload_n 2), 1) := by decide +kernel
theorem dP_hasCreaseAt_19 : decode cP_hasCreaseAt 19 = .ok (.iaload, 1) := by decide +kernel
theorem dP_hasCreaseAt_20 : decode cP_hasCreaseAt 20 = .ok ((.iload_n 1), 1) := by decide +kernel
theorem dP_hasCreaseAt_21 : decode cP_hasCreaseAt 21 = .ok ((.if_icmp .ne 7), 3) := by decide +kernel
theorem dP_hasCreaseAt_24 : decode cP_hasCreaseAt 24 = .ok ((.iconst 1), 1) := by decide +kernel
theorem dP_hasCreaseAt_25 : decode cP_hasCreaseAt 25 = .ok ((.goto 4), 3) := by decide +kernel
theorem dP_hasCreaseAt_28 : decode cP_hasCreaseAt 28 = .ok ((.iconst 0), 1) := by decide +kernel
theorem dP_hasCreaseAt_29 : decode cP_hasCreaseAt 29 = .ok (.ireturn, 1) := by decide +kernel
theorem dP_creasesBefore_0 : decode cP_creasesBefore 0 = .ok ((.iconst 0), 1) := by decide +kernel
theorem dP_creasesBefore_1 : decode cP_creasesBefore 1 = .ok ((.istore_n 2), 1) := by decide +kernel
theorem dP_creasesBefore_2 : decode cP_creasesBefore 2 = .ok ((.iload_n 2), 1) := by decide +kernel
theorem dP_creasesBefore_3 : decode cP_creasesBefore 3 = .ok ((.aload_n 0), 1) := by decide +kernel
theorem dP_creasesBefore_4 : decode cP_creasesBefore 4 = .ok ((.getfield 35), 3) := by decide +kernel
theorem dP_creasesBefore_7 : decode cP_creasesBefore 7 = .ok ((.if_icmp .ge 19), 3) := by decide +kernel
theorem dP_creasesBefore_10 : decode cP_creasesBefore 10 = .ok ((.aload_n 0), 1) := by decide +kernel
theorem dP_creasesBefore_11 : decode cP_creasesBefore 11 = .ok ((.getfield 9), 3) := by decide +kernel
theorem dP_creasesBefore_14 : decode cP_creasesBefore 14 = .ok ((.iload_n 2), 1) := by decide +kernel
theorem dP_creasesBefore_15 : decode cP_creasesBefore 15 = .ok (.iaload, 1) := by decide +kernel
theorem dP_creasesBefore_16 : decode cP_creasesBefore 16 = .ok ((.iload_n 1), 1) := by decide +kernel
theorem dP_creasesBefore_17 : decode cP_creasesBefore 17 = .ok ((.if_icmp .ge 9), 3) := by decide +kernel
theorem dP_creasesBefore_20 : decode cP_creasesBefore 20 = .ok ((.iinc 2 1), 3) := by decide +kernel
theorem dP_creasesBefore_23 : decode cP_creasesBefore 23 = .ok ((.goto (-21)), 3) := by decide +kernel
theorem dP_creasesBefore_26 : decode cP_creasesBefore 26 = .ok ((.iload_n 2), 1) := by decide +kernel
theorem dP_creasesBefore_27 : decode cP_creasesBefore 27 = .ok (.ireturn, 1) := by decide +kernel
theorem dP_setCrease_0 : decode cP_setCrease 0 = .ok ((.aload_n 0), 1) := by decide +kernel
theorem dP_setCrease_1 : decode cP_setCrease 1 = .ok ((.iload_n 1), 1) := by decide +kernel
theorem dP_setCrease_2 : decode cP_setCrease 2 = .ok ((.invokevirtual 49), 3) := by decide +kernel
theorem dP_setCrease_5 : decode cP_setCrease 5 = .ok ((.istore_n 3), 1) := by decide +kernel
theorem dP_setCrease_6 : decode cP_setCrease 6 = .ok ((.iload_n 2), 1) := by decide +kernel
theorem dP_setCrease_7 : decode cP_setCrease 7 = .ok ((.iconst 3), 1) := by decide +kernel
theorem dP_setCrease_8 : decode cP_setCrease 8 = .ok ((.if_icmp .ne 11), 3) := by decide +kernel
theorem dP_setCrease_11 : decode cP_setCrease 11 = .ok ((.aload_n 0), 1) := by decide +kernel
theorem dP_setCrease_12 : decode cP_setCrease 12 = .ok ((.iload_n 3), 1) := by decide +kernel
theorem dP_setCrease_13 : decode cP_setCrease 13 = .ok ((.invokevirtual 53), 3) := by decide +kernel
theorem dP_setCrease_16 : decode cP_setCrease 16 = .ok ((.goto 28), 3) := by decide +kernel
theorem dP_setCrease_19 : decode cP_setCrease 19 = .ok ((.aload_n 0), 1) := by decide +kernel
theorem dP_setCrease_20 : decode cP_setCrease 20 = .ok ((.iload_n 1), 1) := by decide +kernel
theorem dP_setCrease_21 : decode cP_setCrease 21 = .ok ((.invokevirtual 45), 3) := by decide +kernel
theorem dP_setCrease_24 : decode cP_setCrease 24 = .ok ((.ifCond .eq 13), 3) := by decide +kernel
theorem dP_setCrease_27 : decode cP_setCrease 27 = .ok ((.aload_n 0), 1) := by decide +kernel
theorem dP_setCrease_28 : decode cP_setCrease 28 = .ok ((.getfield 15), 3) := by decide +kernel
theorem dP_setCrease_31 : decode cP_setCrease 31 = .ok ((.iload_n 3), 1) := by decide +kernel
theorem dP_setCrease_32 : decode cP_setCrease 32 = .ok ((.iload_n 2), 1) := by decide +kernel
theorem dP_setCrease_33 : decode cP_setCrease 33 = .ok (.iastore, 1) := by decide +kernel
theorem dP_setCrease_34 : decode cP_setCrease 34 = .ok ((.goto 10), 3) := by decide +kernel
theorem dP_setCrease_37 : decode cP_setCrease 37 = .ok ((.aload_n 0), 1) := by decide +kernel
theorem dP_setCrease_38 : decode cP_setCrease 38 = .ok ((.iload_n 3), 1) := by decide +kernel
theorem dP_setCrease_39 : decode cP_setCrease 39 = .ok ((.iload_n 1), 1) := by decide +kernel
theorem dP_setCrease_40 : decode cP_setCrease 40 = .ok ((.iload_n 2), 1) := by decide +kernel
theorem dP_setCrease_41 : decode cP_setCrease 41 = .ok ((.invokevirtual 56), 3) := by decide +kernel
theorem dP_setCrease_44 : decode cP_setCrease 44 = .ok ((.aload_n 0), 1) := by decide +kernel
theorem dP_setCrease_45 : decode cP_setCrease 45 = .ok ((.invokevirtual 42), 3) := by decide +kernel
theorem dP_setCrease_48 : decode cP_setCrease 48 = .ok (.return_, 1) := by decide +kernel
theorem dP_removeCrease_0 : decode cP_removeCrease 0 = .ok ((.aload_n 0), 1) := by decide +kernel
theorem dP_removeCrease_1 : decode cP_removeCrease 1 = .ok (.dup, 1) := by decide +kernel
theorem dP_removeCrease_2 : decode cP_removeCrease 2 = .ok ((.getfield 35), 3) := by decide +kernel
theorem dP_removeCrease_5 : decode cP_removeCrease 5 = .ok ((.iconst 1), 1) := by decide +kernel
theorem dP_removeCrease_6 : decode cP_removeCrease 6 = .ok (.isub, 1) := by decide +kernel
theorem dP_removeCrease_7 : decode cP_removeCrease 7 = .ok ((.putfield 35), 3) := by decide +kernel
theorem dP_removeCrease_10 : decode cP_removeCrease 10 = .ok ((.iload_n 1), 1) := by decide +kernel
theorem dP_removeCrease_11 : decode cP_removeCrease 11 = .ok ((.istore_n 2), 1) := by decide +kernel
theorem dP_removeCrease_12 : decode cP_removeCrease 12 = .ok ((.iload_n 2), 1) := by decide +kernel
theorem dP_removeCrease_13 : decode cP_removeCrease 13 = .ok ((.aload_n 0), 1) := by decide +kernel
theorem dP_removeCrease_14 : decode cP_removeCrease 14 = .ok ((.getfield 35), 3) := by decide +kernel
theorem dP_removeCrease_17 : decode cP_removeCrease 17 = .ok ((.if_icmp .ge 37), 3) := by decide +kernel
theorem dP_removeCrease_20 : decode cP_removeCrease 20 = .ok ((.aload_n 0), 1) := by decide +kernel
theorem dP_removeCrease_21 : decode cP_removeCrease 21 = .ok ((.getfield 9), 3) := by decide +kernel
theorem dP_removeCrease_24 : decode cP_removeCrease 24 = .ok ((.iload_n 2), 1) := by decide +kernel
theorem dP_removeCrease_25 : decode cP_removeCrease 25 = .ok ((.aload_n 0), 1) := by decide +kernel
theorem dP_removeCrease_26 : decode cP_removeCrease 26 = .ok ((.getfield 9), 3) := by decide +kernel
theorem dP_removeCrease_29 : decode cP_removeCrease 29 = .ok ((.iload_n 2), 1) := by decide +kernel
theorem dP_removeCrease_30 : decode cP_removeCrease 30 = .ok ((.iconst 1), 1) := by decide +kernel
theorem dP_removeCrease_31 : decode cP_removeCrease 31 = .ok (.iadd, 1) := by decide +kernel
theorem dP_removeCrease_32 : decode cP_removeCrease 32 = .ok (.iaload, 1) := by decide +kernel
theorem dP_removeCrease_33 : decode cP_removeCrease 33 = .ok (.iastore, 1) := by decide +kernel
theorem dP_removeCrease_34 : decode cP_removeCrease 34 = .ok ((.aload_n 0), 1) := by decide +kernel
theorem dP_removeCrease_35 : decode cP_removeCrease 35 = .ok ((.getfield 15), 3) := by decide +kernel
theorem dP_removeCrease_38 : decode cP_removeCrease 38 = .ok ((.iload_n 2), 1) := by decide +kernel
theorem dP_removeCrease_39 : decode cP_removeCrease 39 = .ok ((.aload_n 0), 1) := by decide +kernel
theorem dP_removeCrease_40 : decode cP_removeCrease 40 = .ok ((.getfield 15), 3) := by decide +kernel
theorem dP_removeCrease_43 : decode cP_removeCrease 43 = .ok ((.iload_n 2), 1) := by decide +kernel
theorem dP_removeCrease_44 : decode cP_removeCrease 44 = .ok ((.iconst 1), 1) := by decide +kernel
theorem dP_removeCrease_45 : decode cP_removeCrease 45 = .ok (.iadd, 1) := by decide +kernel
theorem dP_removeCrease_46 : decode cP_removeCrease 46 = .ok (.iaload, 1) := by decide +kernel
theorem dP_removeCrease_47 : decode cP_removeCrease 47 = .ok (.iastore, 1) := by decide +kernel
theorem dP_removeCrease_48 : decode cP_removeCrease 48 = .ok ((.iinc 2 1), 3) := by decide +kernel
theorem dP_removeCrease_51 : decode cP_removeCrease 51 = .ok ((.goto (-39)), 3) := by decide +kernel
theorem dP_removeCrease_54 : decode cP_removeCrease 54 = .ok (.return_, 1) := by decide +kernel
theorem dP_insertCrease_0 : decode cP_insertCrease 0 = .ok ((.aload_n 0), 1) := by decide +kernel
theorem dP_insertCrease_1 : decode cP_insertCrease 1 = .ok ((.getfield 35), 3) := by decide +kernel
theorem dP_insertCrease_4 : decode cP_insertCrease 4 = .ok ((.istore 4), 2) := by decide +kernel
theorem dP_insertCrease_6 : decode cP_insertCrease 6 = .ok ((.iload 4), 2) := by decide +kernel
theorem dP_insertCrease_8 : decode cP_insertCrease 8 = .ok ((.iload_n 1), 1) := by decide +kernel
theorem dP_insertCrease_9 : decode cP_insertCrease 9 = .ok ((.if_icmp .le 41), 3) := by decide +kernel
theorem dP_insertCrease_12 : decode cP_insertCrease 12 = .ok ((.aload_n 0), 1) := by decide +kernel
theorem dP_insertCrease_13 : decode cP_insertCrease 13 = .ok ((.getfield 9), 3) := by decide +kernel
theorem dP_insertCrease_16 : decode cP_insertCrease 16 = .ok ((.iload 4), 2) := by decide +kernel
theorem dP_insertCrease_18 : decode cP_insertCrease 18 = .ok ((.aload_n 0), 1) := by decide +kernel
theorem dP_insertCrease_19 : decode cP_insertCrease 19 = .ok ((.getfield 9), 3) := by decide +kernel
theorem dP_insertCrease_22 : decode cP_insertCrease 22 = .ok ((.iload 4), 2) := by decide +kernel
theorem dP_insertCrease_24 : decode cP_insertCrease 24 = .ok ((.iconst 1), 1) := by decide +kernel
theorem dP_insertCrease_25 : decode cP_insertCrease 25 = .ok (.isub, 1) := by decide +kernel
theorem dP_insertCrease_26 : decode cP_insertCrease 26 = .ok (.iaload, 1) := by decide +kernel
theorem dP_insertCrease_27 : decode cP_insertCrease 27 = .ok (.iastore, 1) := by decide +kernel
theorem dP_insertCrease_28 : decode cP_insertCrease 28 = .ok ((.aload_n 0), 1) := by decide +kernel
theorem dP_insertCrease_29 : decode cP_insertCrease 29 = .ok ((.getfield 15), 3) := by decide +kernel
theorem dP_insertCrease_32 : decode cP_insertCrease 32 = .ok ((.iload 4), 2) := by decide +kernel
theorem dP_insertCrease_34 : decode cP_insertCrease 34 = .ok ((.aload_n 0), 1) := by decide +kernel
theorem dP_insertCrease_35 : decode cP_insertCrease 35 = .ok ((.getfield 15), 3) := by decide +kernel
theorem dP_insertCrease_38 : decode cP_insertCrease 38 = .ok ((.iload 4), 2) := by decide +kernel
theorem dP_insertCrease_40 : decode cP_insertCrease 40 = .ok ((.iconst 1), 1) := by decide +kernel
theorem dP_insertCrease_41 : decode cP_insertCrease 41 = .ok (.isub, 1) := by decide +kernel
theorem dP_insertCrease_42 : decode cP_insertCrease 42 = .ok (.iaload, 1) := by decide +kernel
theorem dP_insertCrease_43 : decode cP_insertCrease 43 = .ok (.iastore, 1) := by decide +kernel
theorem dP_insertCrease_44 : decode cP_insertCrease 44 = .ok ((.iinc 4 (-1)), 3) := by decide +kernel
theorem dP_insertCrease_47 : decode cP_insertCrease 47 = .ok ((.goto (-41)), 3) := by decide +kernel
theorem dP_insertCrease_50 : decode cP_insertCrease 50 = .ok ((.aload_n 0), 1) := by decide +kernel
theorem dP_insertCrease_51 : decode cP_insertCrease 51 = .ok ((.getfield 9), 3) := by decide +kernel
theorem dP_insertCrease_54 : decode cP_insertCrease 54 = .ok ((.iload_n 1), 1) := by decide +kernel
theorem dP_insertCrease_55 : decode cP_insertCrease 55 = .ok ((.iload_n 2), 1) := by decide +kernel
theorem dP_insertCrease_56 : decode cP_insertCrease 56 = .ok (.iastore, 1) := by decide +kernel
theorem dP_insertCrease_57 : decode cP_insertCrease 57 = .ok ((.aload_n 0), 1) := by decide +kernel
theorem dP_insertCrease_58 : decode cP_insertCrease 58 = .ok ((.getfield 15), 3) := by decide +kernel
theorem dP_insertCrease_61 : decode cP_insertCrease 61 = .ok ((.iload_n 1), 1) := by decide +kernel
theorem dP_insertCrease_62 : decode cP_insertCrease 62 = .ok ((.iload_n 3), 1) := by decide +kernel
theorem dP_insertCrease_63 : decode cP_insertCrease 63 = .ok (.iastore, 1) := by decide +kernel
theorem dP_insertCrease_64 : decode cP_insertCrease 64 = .ok ((.aload_n 0), 1) := by decide +kernel
theorem dP_insertCrease_65 : decode cP_insertCrease 65 = .ok (.dup, 1) := by decide +kernel
theorem dP_insertCrease_66 : decode cP_insertCrease 66 = .ok ((.getfield 35), 3) := by decide +kernel
theorem dP_insertCrease_69 : decode cP_insertCrease 69 = .ok ((.iconst 1), 1) := by decide +kernel
theorem dP_insertCrease_70 : decode cP_insertCrease 70 = .ok (.iadd, 1) := by decide +kernel
theorem dP_insertCrease_71 : decode cP_insertCrease 71 = .ok ((.putfield 35), 3) := by decide +kernel
theorem dP_insertCrease_74 : decode cP_insertCrease 74 = .ok (.return_, 1) := by decide +kernel
theorem dP_hasSegment_0 : decode cP_hasSegment 0 = .ok ((.iload_n 1), 1) := by decide +kernel
theorem dP_hasSegment_1 : decode cP_hasSegment 1 = .ok ((.ifCond .lt 15), 3) := by decide +kernel
theorem dP_hasSegment_4 : decode cP_hasSegment 4 = .ok ((.iload_n 1), 1) := by decide +kernel
theorem dP_hasSegment_5 : decode cP_hasSegment 5 = .ok ((.aload_n 0), 1) := by decide +kernel
theorem dP_hasSegment_6 : decode cP_hasSegment 6 = .ok ((.getfield 35), 3) := by decide +kernel
theorem dP_hasSegment_9 : decode cP_hasSegment 9 = .ok ((.if_icmp .gt 7), 3) := by decide +kernel
theorem dP_hasSegment_12 : decode cP_hasSegment 12 = .ok ((.iconst 1), 1) := by decide +kernel
theorem dP_hasSegment_13 : decode cP_hasSegment 13 = .ok ((.goto 4), 3) := by decide +kernel
theorem dP_hasSegment_16 : decode cP_hasSegment 16 = .ok ((.iconst 0), 1) := by decide +kernel
theorem dP_hasSegment_17 : decode cP_hasSegment 17 = .ok (.ireturn, 1) := by decide +kernel
theorem dP_foldedPlace_0 : decode cP_foldedPlace 0 = .ok ((.aload_n 0), 1) := by decide +kernel
theorem dP_foldedPlace_1 : decode cP_foldedPlace 1 = .ok ((.iload_n 1), 1) := by decide +kernel
theorem dP_foldedPlace_2 : decode cP_foldedPlace 2 = .ok ((.invokevirtual 49), 3) := by decide +kernel
theorem dP_foldedPlace_5 : decode cP_foldedPlace 5 = .ok ((.istore_n 2), 1) := by decide +kernel
theorem dP_foldedPlace_6 : decode cP_foldedPlace 6 = .ok ((.aload_n 0), 1) := by decide +kernel
theorem dP_foldedPlace_7 : decode cP_foldedPlace 7 = .ok ((.getfield 18), 3) := by decide +kernel
theorem dP_foldedPlace_10 : decode cP_foldedPlace 10 = .ok ((.iload_n 2), 1) := by decide +kernel
theorem dP_foldedPlace_11 : decode cP_foldedPlace 11 = .ok (.iaload, 1) := by decide +kernel
theorem dP_foldedPlace_12 : decode cP_foldedPlace 12 = .ok ((.iload_n 2), 1) := by decide +kernel
theorem dP_foldedPlace_13 : decode cP_foldedPlace 13 = .ok ((.invokestatic 60), 3) := by decide +kernel
theorem dP_foldedPlace_16 : decode cP_foldedPlace 16 = .ok ((.iload_n 1), 1) := by decide +kernel
theorem dP_foldedPlace_17 : decode cP_foldedPlace 17 = .ok ((.aload_n 0), 1) := by decide +kernel
theorem dP_foldedPlace_18 : decode cP_foldedPlace 18 = .ok ((.iload_n 2), 1) := by decide +kernel
theorem dP_foldedPlace_19 : decode cP_foldedPlace 19 = .ok ((.invokevirtual 78), 3) := by decide +kernel
theorem dP_foldedPlace_22 : decode cP_foldedPlace 22 = .ok (.isub, 1) := by decide +kernel
theorem dP_foldedPlace_23 : decode cP_foldedPlace 23 = .ok (.imul, 1) := by decide +kernel
theorem dP_foldedPlace_24 : decode cP_foldedPlace 24 = .ok (.iadd, 1) := by decide +kernel
theorem dP_foldedPlace_25 : decode cP_foldedPlace 25 = .ok (.ireturn, 1) := by decide +kernel
end
section
theorem dR_init_0 : decode cR_init 0 = .ok ((.aload_n 0), 1) := by decide +kernel
theorem dR_init_1 : decode cR_init 1 = .ok ((.invokespecial 3), 3) := by decide +kernel
theorem dR_init_4 : decode cR_init 4 = .ok ((.aload_n 0), 1) := by decide +kernel
theorem dR_init_5 : decode cR_init 5 = .ok ((.aload_n 1), 1) := by decide +kernel
theorem dR_init_6 : decode cR_init 6 = .ok ((.putfield 9), 3) := by decide +kernel
theorem dR_init_9 : decode cR_init 9 = .ok ((.aload_n 0), 1) := by decide +kernel
theorem dR_init_10 : decode cR_init 10 = .ok ((.bipush 7), 2) := by decide +kernel
theorem dR_init_12 : decode cR_init 12 = .ok ((.newarray .int), 2) := by decide +kernel
theorem dR_init_14 : decode cR_init 14 = .ok ((.putfield 15), 3) := by decide +kernel
theorem dR_init_17 : decode cR_init 17 = .ok ((.aload_n 0), 1) := by decide +kernel
theorem dR_init_18 : decode cR_init 18 = .ok ((.bipush 6), 2) := by decide +kernel
theorem dR_init_20 : decode cR_init 20 = .ok ((.newarray .int), 2) := by decide +kernel
theorem dR_init_22 : decode cR_init 22 = .ok ((.putfield 19), 3) := by decide +kernel
theorem dR_init_25 : decode cR_init 25 = .ok ((.aload_n 0), 1) := by decide +kernel
theorem dR_init_26 : decode cR_init 26 = .ok ((.bipush 6), 2) := by decide +kernel
theorem dR_init_28 : decode cR_init 28 = .ok ((.newarray .int), 2) := by decide +kernel
theorem dR_init_30 : decode cR_init 30 = .ok ((.putfield 22), 3) := by decide +kernel
theorem dR_init_33 : decode cR_init 33 = .ok ((.aload_n 0), 1) := by decide +kernel
theorem dR_init_34 : decode cR_init 34 = .ok ((.bipush 6), 2) := by decide +kernel
theorem dR_init_36 : decode cR_init 36 = .ok ((.newarray .int), 2) := by decide +kernel
theorem dR_init_38 : decode cR_init 38 = .ok ((.putfield 25), 3) := by decide +kernel
theorem dR_init_41 : decode cR_init 41 = .ok ((.aload_n 0), 1) := by decide +kernel
theorem dR_init_42 : decode cR_init 42 = .ok ((.bipush 6), 2) := by decide +kernel
theorem dR_init_44 : decode cR_init 44 = .ok ((.newarray .int), 2) := by decide +kernel
theorem dR_init_46 : decode cR_init 46 = .ok ((.putfield 28), 3) := by decide +kernel
theorem dR_init_49 : decode cR_init 49 = .ok (.return_, 1) := by decide +kernel
theorem dR_reduce_0 : decode cR_reduce 0 = .ok ((.aload_n 0), 1) := by decide +kernel
theorem dR_reduce_1 : decode cR_reduce 1 = .ok ((.invokevirtual 31), 3) := by decide +kernel
theorem dR_reduce_4 : decode cR_reduce 4 = .ok ((.iconst 1), 1) := by decide +kernel
theorem dR_reduce_5 : decode cR_reduce 5 = .ok ((.istore_n 1), 1) := by decide +kernel
theorem dR_reduce_6 : decode cR_reduce 6 = .ok ((.iconst 0), 1) := by decide +kernel
theorem dR_reduce_7 : decode cR_reduce 7 = .ok ((.istore_n 2), 1) := by decide +kernel
theorem dR_reduce_8 : decode cR_reduce 8 = .ok ((.iload_n 2), 1) := by decide +kernel
theorem dR_reduce_9 : decode cR_reduce 9 = .ok ((.bipush 6), 2) := by decide +kernel
theorem dR_reduce_11 : decode cR_reduce 11 = .ok ((.if_icmp .ge 34), 3) := by decide +kernel
theorem dR_reduce_14 : decode cR_reduce 14 = .ok ((.iload_n 1), 1) := by decide +kernel
theorem dR_reduce_15 : decode cR_reduce 15 = .ok ((.ifCond .eq 30), 3) := by decide +kernel
theorem dR_reduce_18 : decode cR_reduce 18 = .ok ((.aload_n 0), 1) := by decide +kernel
theorem dR_reduce_19 : decode cR_reduce 19 = .ok ((.getfield 34), 3) := by decide +kernel
theorem dR_reduce_22 : decode cR_reduce 22 = .ok ((.iconst 1), 1) := by decide +kernel
theorem dR_reduce_23 : decode cR_reduce 23 = .ok ((.if_icmp .le 14), 3) := by decide +kernel
theorem dR_reduce_26 : decode cR_reduce 26 = .ok ((.aload_n 0), 1) := by decide +kernel
theorem dR_reduce_27 : decode cR_reduce 27 = .ok ((.invokevirtual 38), 3) := by decide +kernel
theorem dR_reduce_30 : decode cR_reduce 30 = .ok ((.ifCond .eq 7), 3) := by decide +kernel
theorem dR_reduce_33 : decode cR_reduce 33 = .ok ((.iconst 1), 1) := by decide +kernel
theorem dR_reduce_34 : decode cR_reduce 34 = .ok ((.goto 4), 3) := by decide +kernel
theorem dR_reduce_37 : decode cR_reduce 37 = .ok ((.iconst 0), 1) := by decide +kernel
theorem dR_reduce_38 : decode cR_reduce 38 = .ok ((.istore_n 1), 1) := by decide +kernel
theorem dR_reduce_39 : decode cR_reduce 39 = .ok ((.iinc 2 1), 3) := by decide +kernel
theorem dR_reduce_42 : decode cR_reduce 42 = .ok ((.goto (-34)), 3) := by decide +kernel
theorem dR_reduce_45 : decode cR_reduce 45 = .ok (.return_, 1) := by decide +kernel
theorem dR_copyPattern_0 : decode cR_copyPattern 0 = .ok ((.aload_n 0), 1) := by decide +kernel
theorem dR_copyPattern_1 : decode cR_copyPattern 1 = .ok ((.iconst 0), 1) := by decide +kernel
theorem dR_copyPattern_2 : decode cR_copyPattern 2 = .ok ((.putfield 42), 3) := by decide +kernel
theorem dR_copyPattern_5 : decode cR_copyPattern 5 = .ok ((.aload_n 0), 1) := by decide +kernel
theorem dR_copyPattern_6 : decode cR_copyPattern 6 = .ok ((.aload_n 0), 1) := by decide +kernel
theorem dR_copyPattern_7 : decode cR_copyPattern 7 = .ok ((.getfield 9), 3) := by decide +kernel
theorem dR_copyPattern_10 : decode cR_copyPattern 10 = .ok ((.invokevirtual 45), 3) := by decide +kernel
theorem dR_copyPattern_13 : decode cR_copyPattern 13 = .ok ((.putfield 34), 3) := by decide +kernel
theorem dR_copyPattern_16 : decode cR_copyPattern 16 = .ok ((.iconst 0), 1) := by decide +kernel
theorem dR_copyPattern_17 : decode cR_copyPattern 17 = .ok ((.istore_n 1), 1) := by decide +kernel
theorem dR_copyPattern_18 : decode cR_copyPattern 18 = .ok ((.iload_n 1), 1) := by decide +kernel
theorem dR_copyPattern_19 : decode cR_copyPattern 19 = .ok ((.aload_n 0), 1) := by decide +kernel
theorem dR_copyPattern_20 : decode cR_copyPattern 20 = .ok ((.getfield 34), 3) := by decide +kernel
theorem dR_copyPattern_23 : decode cR_copyPattern 23 = .ok ((.if_icmp .ge 23), 3) := by decide +kernel
theorem dR_copyPattern_26 : decode cR_copyPattern 26 = .ok ((.aload_n 0), 1) := by decide +kernel
theorem dR_copyPattern_27 : decode cR_copyPattern 27 = .ok ((.getfield 15), 3) := by decide +kernel
theorem dR_copyPattern_30 : decode cR_copyPattern 30 = .ok ((.iload_n 1), 1) := by decide +kernel
theorem dR_copyPattern_31 : decode cR_copyPattern 31 = .ok ((.aload_n 0), 1) := by decide +kernel
theorem dR_copyPattern_32 : decode cR_copyPattern 32 = .ok ((.getfield 9), 3) := by decide +kernel
theorem dR_copyPattern_35 : decode cR_copyPattern 35 = .ok ((.iload_n 1), 1) := by decide +kernel
theorem dR_copyPattern_36 : decode cR_copyPattern 36 = .ok ((.invokevirtual 51), 3) := by decide +kernel
theorem dR_copyPattern_39 : decode cR_copyPattern 39 = .ok (.iastore, 1) := by decide +kernel
theorem dR_copyPattern_40 : decode cR_copyPattern 40 = .ok ((.iinc 1 1), 3) := by decide +kernel
theorem dR_copyPattern_43 : decode cR_copyPattern 43 = .ok ((.goto (-25)), 3) := by decide +kernel
theorem dR_copyPattern_46 : decode cR_copyPattern 46 = .ok ((.iconst 0), 1) := by decide +kernel
theorem dR_copyPattern_47 : decode cR_copyPattern 47 = .ok ((.istore_n 1), 1) := by decide +kernel
theorem dR_copyPattern_48 : decode cR_copyPattern 48 = .ok ((.iload_n 1), 1) := by decide +kernel
theorem dR_copyPattern_49 : decode cR_copyPattern 49 = .ok ((.aload_n 0), 1) := by decide +kernel
theorem dR_copyPattern_50 : decode cR_copyPattern 50 = .ok ((.getfield 9), 3) := by decide +kernel
theorem dR_copyPattern_53 : decode cR_copyPattern 53 = .ok ((.getfield 55), 3) := by decide +kernel
theorem dR_copyPattern_56 : decode cR_copyPattern 56 = .ok ((.if_icmp .ge 39), 3) := by decide +kernel
theorem dR_copyPattern_59 : decode cR_copyPattern 59 = .ok ((.aload_n 0), 1) := by decide +kernel
theorem dR_copyPattern_60 : decode cR_copyPattern 60 = .ok ((.getfield 19), 3) := by decide +kernel
theorem dR_copyPattern_63 : decode cR_copyPattern 63 = .ok ((.iload_n 1), 1) := by decide +kernel
theorem dR_copyPattern_64 : decode cR_copyPattern 64 = .ok ((.aload_n 0), 1) := by decide +kernel
theorem dR_copyPattern_65 : decode cR_copyPattern 65 = .ok ((.getfield 9), 3) := by decide +kernel
theorem dR_copyPattern_68 : decode cR_copyPattern 68 = .ok ((.getfield 58), 3) := by decide +kernel
theorem dR_copyPattern_71 : decode cR_copyPattern 71 = .ok ((.iload_n 1), 1) := by decide +kernel
theorem dR_copyPattern_72 : decode cR_copyPattern 72 = .ok (.iaload, 1) := by decide +kernel
theorem dR_copyPattern_73 : decode cR_copyPattern 73 = .ok (.iastore, 1) := by decide +kernel
theorem dR_copyPattern_74 : decode cR_copyPattern 74 = .ok ((.aload_n 0), 1) := by decide +kernel
theorem dR_copyPattern_75 : decode cR_copyPattern 75 = .ok ((.getfield 22), 3) := by decide +kernel
theorem dR_copyPattern_78 : decode cR_copyPattern 78 = .ok ((.iload_n 1), 1) := by decide +kernel
theorem dR_copyPattern_79 : decode cR_copyPattern 79 = .ok ((.aload_n 0), 1) := by decide +kernel
theorem dR_copyPattern_80 : decode cR_copyPattern 80 = .ok ((.getfield 9), 3) := by decide +kernel
theorem dR_copyPattern_83 : decode cR_copyPattern 83 = .ok ((.getfield 61), 3) := by decide +kernel
theorem dR_copyPattern_86 : decode cR_copyPattern 86 = .ok ((.iload_n 1), 1) := by decide +kernel
theorem dR_copyPattern_87 : decode cR_copyPattern 87 = .ok (.iaload, 1) := by decide +kernel
theorem dR_copyPattern_88 : decode cR_copyPattern 88 = .ok (.iastore, 1) := by decide +kernel
theorem dR_copyPattern_89 : decode cR_copyPattern 89 = .ok ((.iinc 1 1), 3) := by decide +kernel
theorem dR_copyPattern_92 : decode cR_copyPattern 92 = .ok ((.goto (-44)), 3) := by decide +kernel
theorem dR_copyPattern_95 : decode cR_copyPattern 95 = .ok (.return_, 1) := by decide +kernel
theorem dR_reduceOnce_0 : decode cR_reduceOnce 0 = .ok ((.aload_n 0), 1) := by decide +kernel
theorem dR_reduceOnce_1 : decode cR_reduceOnce 1 = .ok ((.getfield 15), 3) := by decide +kernel
theorem dR_reduceOnce_4 : decode cR_reduceOnce 4 = .ok ((.iconst 0), 1) := by decide +kernel
theorem dR_reduceOnce_5 : decode cR_reduceOnce 5 = .ok (.iaload, 1) := by decide +kernel
theorem dR_reduceOnce_6 : decode cR_reduceOnce 6 = .ok ((.aload_n 0), 1) := by decide +kernel
theorem dR_reduceOnce_7 : decode cR_reduceOnce 7 = .ok ((.getfield 15), 3) := by decide +kernel
theorem dR_reduceOnce_10 : decode cR_reduceOnce 10 = .ok ((.iconst 1), 1) := by decide +kernel
theorem dR_reduceOnce_11 : decode cR_reduceOnce 11 = .ok (.iaload, 1) := by decide +kernel
theorem dR_reduceOnce_12 : decode cR_reduceOnce 12 = .ok ((.if_icmp .gt 23), 3) := by decide +kernel
theorem dR_reduceOnce_15 : decode cR_reduceOnce 15 = .ok ((.aload_n 0), 1) := by decide +kernel
theorem dR_reduceOnce_16 : decode cR_reduceOnce 16 = .ok ((.iconst 1), 1) := by decide +kernel
theorem dR_reduceOnce_17 : decode cR_reduceOnce 17 = .ok ((.iconst 0), 1) := by decide +kernel
theorem dR_reduceOnce_18 : decode cR_reduceOnce 18 = .ok ((.invokevirtual 62), 3) := by decide +kernel
theorem dR_reduceOnce_21 : decode cR_reduceOnce 21 = .ok ((.aload_n 0), 1) := by decide +kernel
theorem dR_reduceOnce_22 : decode cR_reduceOnce 22 = .ok ((.iconst 0), 1) := by decide +kernel
theorem dR_reduceOnce_23 : decode cR_reduceOnce 23 = .ok ((.iconst 1), 1) := by decide +kernel
theorem dR_reduceOnce_24 : decode cR_reduceOnce 24 = .ok ((.invokevirtual 66), 3) := by decide +kernel
theorem dR_reduceOnce_27 : decode cR_reduceOnce 27 = .ok ((.aload_n 0), 1) := by decide +kernel
theorem dR_reduceOnce_28 : decode cR_reduceOnce 28 = .ok ((.iconst 0), 1) := by decide +kernel
theorem dR_reduceOnce_29 : decode cR_reduceOnce 29 = .ok ((.iconst 1), 1) := by decide +kernel
theorem dR_reduceOnce_30 : decode cR_reduceOnce 30 = .ok ((.invokevirtual 69), 3) := by decide +kernel
theorem dR_reduceOnce_33 : decode cR_reduceOnce 33 = .ok ((.iconst 1), 1) := by decide +kernel
theorem dR_reduceOnce_34 : decode cR_reduceOnce 34 = .ok (.ireturn, 1) := by decide +kernel
theorem dR_reduceOnce_35 : decode cR_reduceOnce 35 = .ok ((.aload_n 0), 1) := by decide +kernel
theorem dR_reduceOnce_36 : decode cR_reduceOnce 36 = .ok ((.getfield 15), 3) := by decide +kernel
theorem dR_reduceOnce_39 : decode cR_reduceOnce 39 = .ok ((.aload_n 0), 1) := by decide +kernel
theorem dR_reduceOnce_40 : decode cR_reduceOnce 40 = .ok ((.getfield 34), 3) := by decide +kernel
theorem dR_reduceOnce_43 : decode cR_reduceOnce 43 = .ok ((.iconst 1), 1) := by decide +kernel
theorem dR_reduceOnce_44 : decode cR_reduceOnce 44 = .ok (.isub, 1) := by decide +kernel
theorem dR_reduceOnce_45 : decode cR_reduceOnce 45 = .ok (.iaload, 1) := by decide +kernel
theorem dR_reduceOnce_46 : decode cR_reduceOnce 46 = .ok ((.aload_n 0), 1) := by decide +kernel
theorem dR_reduceOnce_47 : decode cR_reduceOnce 47 = .ok ((.getfield 15), 3) := by decide +kernel
theorem dR_reduceOnce_50 : decode cR_reduceOnce 50 = .ok ((.aload_n 0), 1) := by decide +kernel
theorem dR_reduceOnce_51 : decode cR_reduceOnce 51 = .ok ((.getfield 34), 3) := by decide +kernel
theorem dR_reduceOnce_54 : decode cR_reduceOnce 54 = .ok ((.iconst 2), 1) := by decide +kernel
theorem dR_reduceOnce_55 : decode cR_reduceOnce 55 = .ok (.isub, 1) := by decide +kernel
theorem dR_reduceOnce_56 : decode cR_reduceOnce 56 = .ok (.iaload, 1) := by decide +kernel
theorem dR_reduceOnce_57 : decode cR_reduceOnce 57 = .ok ((.if_icmp .gt 26), 3) := by decide +kernel
theorem dR_reduceOnce_60 : decode cR_reduceOnce 60 = .ok ((.aload_n 0), 1) := by decide +kernel
theorem dR_reduceOnce_61 : decode cR_reduceOnce 61 = .ok ((.iconst 2), 1) := by decide +kernel
theorem dR_reduceOnce_62 : decode cR_reduceOnce 62 = .ok ((.aload_n 0), 1) := by decide +kernel
theorem dR_reduceOnce_63 : decode cR_reduceOnce 63 = .ok ((.getfield 34), 3) := by decide +kernel
theorem dR_reduceOnce_66 : decode cR_reduceOnce 66 = .ok ((.iconst 2), 1) := by decide +kernel
theorem dR_reduceOnce_67 : decode cR_reduceOnce 67 = .ok (.isub, 1) := by decide +kernel
theorem dR_reduceOnce_68 : decode cR_reduceOnce 68 = .ok ((.invokevirtual 62), 3) := by decide +kernel
theorem dR_reduceOnce_71 : decode cR_reduceOnce 71 = .ok ((.aload_n 0), 1) := by decide +kernel
theorem dR_reduceOnce_72 : decode cR_reduceOnce 72 = .ok (.dup, 1) := by decide +kernel
theorem dR_reduceOnce_73 : decode cR_reduceOnce 73 = .ok ((.getfield 34), 3) := by decide +kernel
theorem dR_reduceOnce_76 : decode cR_reduceOnce 76 = .ok ((.iconst 1), 1) := by decide +kernel
theorem dR_reduceOnce_77 : decode cR_reduceOnce 77 = .ok (.isub, 1) := by decide +kernel
theorem dR_reduceOnce_78 : decode cR_reduceOnce 78 = .ok ((.putfield 34), 3) := by decide +kernel
theorem dR_reduceOnce_81 : decode cR_reduceOnce 81 = .ok ((.iconst 1), 1) := by decide +kernel
theorem dR_reduceOnce_82 : decode cR_reduceOnce 82 = .ok (.ireturn, 1) := by decide +kernel
theorem dR_reduceOnce_83 : decode cR_reduceOnce 83 = .ok ((.aload_n 0), 1) := by decide +kernel
theorem dR_reduceOnce_84 : decode cR_reduceOnce 84 = .ok ((.invokevirtual 72), 3) := by decide +kernel
theorem dR_reduceOnce_87 : decode cR_reduceOnce 87 = .ok ((.istore_n 1), 1) := by decide +kernel
theorem dR_reduceOnce_88 : decode cR_reduceOnce 88 = .ok ((.iload_n 1), 1) := by decide +kernel
theorem dR_reduceOnce_89 : decode cR_reduceOnce 89 = .ok ((.iconst (-1)), 1) := by decide +kernel
theorem dR_reduceOnce_90 : decode cR_reduceOnce 90 = .ok ((.if_icmp .ne 5), 3) := by decide +kernel
theorem dR_reduceOnce_93 : decode cR_reduceOnce 93 = .ok ((.iconst 0), 1) := by decide +kernel
theorem dR_reduceOnce_94 : decode cR_reduceOnce 94 = .ok (.ireturn, 1) := by decide +kernel
theorem dR_reduceOnce_95 : decode cR_reduceOnce 95 = .ok ((.aload_n 0), 1) := by decide +kernel
theorem dR_reduceOnce_96 : decode cR_reduceOnce 96 = .ok ((.iconst 3), 1) := by decide +kernel
theorem dR_reduceOnce_97 : decode cR_reduceOnce 97 = .ok ((.iload_n 1), 1) := by decide +kernel
theorem dR_reduceOnce_98 : decode cR_reduceOnce 98 = .ok ((.iconst 1), 1) := by decide +kernel
theorem dR_reduceOnce_99 : decode cR_reduceOnce 99 = .ok (.isub, 1) := by decide +kernel
theorem dR_reduceOnce_100 : decode cR_reduceOnce 100 = .ok ((.invokevirtual 62), 3) := by decide +kernel
theorem dR_reduceOnce_103 : decode cR_reduceOnce 103 = .ok ((.aload_n 0), 1) := by decide +kernel
theorem dR_reduceOnce_104 : decode cR_reduceOnce 104 = .ok ((.iload_n 1), 1) := by decide +kernel
theorem dR_reduceOnce_105 : decode cR_reduceOnce 105 = .ok ((.invokevirtual 75), 3) := by decide +kernel
theorem dR_reduceOnce_108 : decode cR_reduceOnce 108 = .ok ((.iconst 1), 1) := by decide +kernel
theorem dR_reduceOnce_109 : decode cR_reduceOnce 109 = .ok (.ireturn, 1) := by decide +kernel
theorem dR_note_0 : decode cR_note 0 = .ok ((.aload_n 0), 1) := by decide +kernel
theorem dR_note_1 : decode cR_note 1 = .ok ((.getfield 25), 3) := by decide +kernel
theorem dR_note_4 : decode cR_note 4 = .ok ((.aload_n 0), 1) := by decide +kernel
theorem dR_note_5 : decode cR_note 5 = .ok ((.getfield 42), 3) := by decide +kernel
theorem dR_note_8 : decode cR_note 8 = .ok ((.iload_n 1), 1) := by decide +kernel
theorem dR_note_9 : decode cR_note 9 = .ok (.iastore, 1) := by decide +kernel
theorem dR_note_10 : decode cR_note 10 = .ok ((.aload_n 0), 1) := by decide +kernel
theorem dR_note_11 : decode cR_note 11 = .ok ((.getfield 28), 3) := by decide +kernel
theorem dR_note_14 : decode cR_note 14 = .ok ((.aload_n 0), 1) := by decide +kernel
theorem dR_note_15 : decode cR_note 15 = .ok ((.getfield 42), 3) := by decide +kernel
theorem dR_note_18 : decode cR_note 18 = .ok ((.aload_n 0), 1) := by decide +kernel
theorem dR_note_19 : decode cR_note 19 = .ok ((.getfield 19), 3) := by decide +kernel
theorem dR_note_22 : decode cR_note 22 = .ok ((.iload_n 2), 1) := by decide +kernel
theorem dR_note_23 : decode cR_note 23 = .ok (.iaload, 1) := by decide +kernel
theorem dR_note_24 : decode cR_note 24 = .ok (.iastore, 1) := by decide +kernel
theorem dR_note_25 : decode cR_note 25 = .ok ((.aload_n 0), 1) := by decide +kernel
theorem dR_note_26 : decode cR_note 26 = .ok (.dup, 1) := by decide +kernel
theorem dR_note_27 : decode cR_note 27 = .ok ((.getfield 42), 3) := by decide +kernel
theorem dR_note_30 : decode cR_note 30 = .ok ((.iconst 1), 1) := by decide +kernel
theorem dR_note_31 : decode cR_note 31 = .ok (.iadd, 1) := by decide +kernel
theorem dR_note_32 : decode cR_note 32 = .ok ((.putfield 42), 3) := by decide +kernel
theorem dR_note_35 : decode cR_note 35 = .ok (.return_, 1) := by decide +kernel
theorem dR_removeLengths_0 : decode cR_removeLengths 0 = .ok ((.aload_n 0), 1) := by decide +kernel
theorem dR_removeLengths_1 : decode cR_removeLengths 1 = .ok (.dup, 1) := by decide +kernel
theorem dR_removeLengths_2 : decode cR_removeLengths 2 = .ok ((.getfield 34), 3) := by decide +kernel
theorem dR_removeLengths_5 : decode cR_removeLengths 5 = .ok ((.iload_n 2), 1) := by decide +kernel
theorem dR_removeLengths_6 : decode cR_removeLengths 6 = .ok (.isub, 1) := by decide +kernel
theorem dR_removeLengths_7 : decode cR_removeLengths 7 = .ok ((.putfield 34), 3) := by decide +kernel
theorem dR_removeLengths_10 : decode cR_removeLengths 10 = .ok ((.iload_n 1), 1) := by decide +kernel
theorem dR_removeLengths_11 : decode cR_removeLengths 11 = .ok ((.istore_n 3), 1) := by decide +kernel
theorem dR_removeLengths_12 : decode cR_removeLengths 12 = .ok ((.iload_n 3), 1) := by decide +kernel
theorem dR_removeLengths_13 : decode cR_removeLengths 13 = .ok ((.aload_n 0), 1) := by decide +kernel
theorem dR_removeLengths_14 : decode cR_removeLengths 14 = .ok ((.getfield 34), 3) := by decide +kernel
theorem dR_removeLengths_17 : decode cR_removeLengths 17 = .ok ((.if_icmp .ge 23), 3) := by decide +kernel
theorem dR_removeLengths_20 : decode cR_removeLengths 20 = .ok ((.aload_n 0), 1) := by decide +kernel
theorem dR_removeLengths_21 : decode cR_removeLengths 21 = .ok ((.getfield 15), 3) := by decide +kernel
theorem dR_removeLengths_24 : decode cR_removeLengths 24 = .ok ((.iload_n 3), 1) := by decide +kernel
theorem dR_removeLengths_25 : decode cR_removeLengths 25 = .ok ((.aload_n 0), 1) := by decide +kernel
theorem dR_removeLengths_26 : decode cR_removeLengths 26 = .ok ((.getfield 15), 3) := by decide +kernel
theorem dR_removeLengths_29 : decode cR_removeLengths 29 = .ok ((.iload_n 3), 1) := by decide +kernel
theorem dR_removeLengths_30 : decode cR_removeLengths 30 = .ok ((.iload_n 2), 1) := by decide +kernel
theorem dR_removeLengths_31 : decode cR_removeLengths 31 = .ok (.iadd, 1) := by decide +kernel
theorem dR_removeLengths_32 : decode cR_removeLengths 32 = .ok (.iaload, 1) := by decide +kernel
theorem dR_removeLengths_33 : decode cR_removeLengths 33 = .ok (.iastore, 1) := by decide +kernel
theorem dR_removeLengths_34 : decode cR_removeLengths 34 = .ok ((.iinc 3 1), 3) := by decide +kernel
theorem dR_removeLengths_37 : decode cR_removeLengths 37 = .ok ((.goto (-25)), 3) := by decide +kernel
theorem dR_removeLengths_40 : decode cR_removeLengths 40 = .ok (.return_, 1) := by decide +kernel
theorem dR_removeCreases_0 : decode cR_removeCreases 0 = .ok ((.iload_n 1), 1) := by decide +kernel
theorem dR_removeCreases_1 : decode cR_removeCreases 1 = .ok ((.istore_n 3), 1) := by decide +kernel
theorem dR_removeCreases_2 : decode cR_removeCreases 2 = .ok ((.iload_n 3), 1) := by decide +kernel
theorem dR_removeCreases_3 : decode cR_removeCreases 3 = .ok ((.iload_n 2), 1) := by decide +kernel
theorem dR_removeCreases_4 : decode cR_removeCreases 4 = .ok (.iadd, 1) := by decide +kernel
theorem dR_removeCreases_5 : decode cR_removeCreases 5 = .ok ((.bipush 6), 2) := by decide +kernel
theorem dR_removeCreases_7 : decode cR_removeCreases 7 = .ok ((.if_icmp .ge 37), 3) := by decide +kernel
theorem dR_removeCreases_10 : decode cR_removeCreases 10 = .ok ((.aload_n 0), 1) := by decide +kernel
theorem dR_removeCreases_11 : decode cR_removeCreases 11 = .ok ((.getfield 19), 3) := by decide +kernel
theorem dR_removeCreases_14 : decode cR_removeCreases 14 = .ok ((.iload_n 3), 1) := by decide +kernel
theorem dR_removeCreases_15 : decode cR_removeCreases 15 = .ok ((.aload_n 0), 1) := by decide +kernel
theorem dR_removeCreases_16 : decode cR_removeCreases 16 = .ok ((.getfield 19), 3) := by decide +kernel
theorem dR_removeCreases_19 : decode cR_removeCreases 19 = .ok ((.iload_n 3), 1) := by decide +kernel
theorem dR_removeCreases_20 : decode cR_removeCreases 20 = .ok ((.iload_n 2), 1) := by decide +kernel
theorem dR_removeCreases_21 : decode cR_removeCreases 21 = .ok (.iadd, 1) := by decide +kernel
theorem dR_removeCreases_22 : decode cR_removeCreases 22 = .ok (.iaload, 1) := by decide +kernel
theorem dR_removeCreases_23 : decode cR_removeCreases 23 = .ok (.iastore, 1) := by decide +kernel
theorem dR_removeCreases_24 : decode cR_removeCreases 24 = .ok ((.aload_n 0), 1) := by decide +kernel
theorem dR_removeCreases_25 : decode cR_removeCreases 25 = .ok ((.getfield 22), 3) := by decide +kernel
theorem dR_removeCreases_28 : decode cR_removeCreases 28 = .ok ((.iload_n 3), 1) := by decide +kernel
theorem dR_removeCreases_29 : decode cR_removeCreases 29 = .ok ((.aload_n 0), 1) := by decide +kernel
theorem dR_removeCreases_30 : decode cR_removeCreases 30 = .ok ((.getfield 22), 3) := by decide +kernel
theorem dR_removeCreases_33 : decode cR_removeCreases 33 = .ok ((.iload_n 3), 1) := by decide +kernel
theorem dR_removeCreases_34 : decode cR_removeCreases 34 = .ok ((.iload_n 2), 1) := by decide +kernel
theorem dR_removeCreases_35 : decode cR_removeCreases 35 = .ok (.iadd, 1) := by decide +kernel
theorem dR_removeCreases_36 : decode cR_removeCreases 36 = .ok (.iaload, 1) := by decide +kernel
theorem dR_removeCreases_37 : decode cR_removeCreases 37 = .ok (.iastore, 1) := by decide +kernel
theorem dR_removeCreases_38 : decode cR_removeCreases 38 = .ok ((.iinc 3 1), 3) := by decide +kernel
theorem dR_removeCreases_41 : decode cR_removeCreases 41 = .ok ((.goto (-39)), 3) := by decide +kernel
theorem dR_removeCreases_44 : decode cR_removeCreases 44 = .ok (.return_, 1) := by decide +kernel
theorem dR_leftmostPleat_0 : decode cR_leftmostPleat 0 = .ok ((.iconst 1), 1) := by decide +kernel
theorem dR_leftmostPleat_1 : decode cR_leftmostPleat 1 = .ok ((.istore_n 1), 1) := by decide +kernel
theorem dR_leftmostPleat_2 : decode cR_leftmostPleat 2 = .ok ((.iload_n 1), 1) := by decide +kernel
theorem dR_leftmostPleat_3 : decode cR_leftmostPleat 3 = .ok ((.aload_n 0), 1) := by decide +kernel
theorem dR_leftmostPleat_4 : decode cR_leftmostPleat 4 = .ok ((.getfield 34), 3) := by decide +kernel
theorem dR_leftmostPleat_7 : decode cR_leftmostPleat 7 = .ok ((.iconst 1), 1) := by decide +kernel
theorem dR_leftmostPleat_8 : decode cR_leftmostPleat 8 = .ok (.isub, 1) := by decide +kernel
theorem dR_leftmostPleat_9 : decode cR_leftmostPleat 9 = .ok ((.if_icmp .ge 62), 3) := by decide +kernel
theorem dR_leftmostPleat_12 : decode cR_leftmostPleat 12 = .ok ((.aload_n 0), 1) := by decide +kernel
theorem dR_leftmostPleat_13 : decode cR_leftmostPleat 13 = .ok ((.getfield 15), 3) := by decide +kernel
theorem dR_leftmostPleat_16 : decode cR_leftmostPleat 16 = .ok ((.iload_n 1), 1) := by decide +kernel
theorem dR_leftmostPleat_17 : decode cR_leftmostPleat 17 = .ok (.iaload, 1) := by decide +kernel
theorem dR_leftmostPleat_18 : decode cR_leftmostPleat 18 = .ok ((.aload_n 0), 1) := by decide +kernel
theorem dR_leftmostPleat_19 : decode cR_leftmostPleat 19 = .ok ((.getfield 15), 3) := by decide +kernel
theorem dR_leftmostPleat_22 : decode cR_leftmostPleat 22 = .ok ((.iload_n 1), 1) := by decide +kernel
theorem dR_leftmostPleat_23 : decode cR_leftmostPleat 23 = .ok ((.iconst 1), 1) := by decide +kernel
theorem dR_leftmostPleat_24 : decode cR_leftmostPleat 24 = .ok (.isub, 1) := by decide +kernel
theorem dR_leftmostPleat_25 : decode cR_leftmostPleat 25 = .ok (.iaload, 1) := by decide +kernel
theorem dR_leftmostPleat_26 : decode cR_leftmostPleat 26 = .ok ((.if_icmp .gt 39), 3) := by decide +kernel
theorem dR_leftmostPleat_29 : decode cR_leftmostPleat 29 = .ok ((.aload_n 0), 1) := by decide +kernel
theorem dR_leftmostPleat_30 : decode cR_leftmostPleat 30 = .ok ((.getfield 15), 3) := by decide +kernel
theorem dR_leftmostPleat_33 : decode cR_leftmostPleat 33 = .ok ((.iload_n 1), 1) := by decide +kernel
theorem dR_leftmostPleat_34 : decode cR_leftmostPleat 34 = .ok (.iaload, 1) := by decide +kernel
theorem dR_leftmostPleat_35 : decode cR_leftmostPleat 35 = .ok ((.aload_n 0), 1) := by decide +kernel
theorem dR_leftmostPleat_36 : decode cR_leftmostPleat 36 = .ok ((.getfield 15), 3) := by decide +kernel
theorem dR_leftmostPleat_39 : decode cR_leftmostPleat 39 = .ok ((.iload_n 1), 1) := by decide +kernel
theorem dR_leftmostPleat_40 : decode cR_leftmostPleat 40 = .ok ((.iconst 1), 1) := by decide +kernel
theorem dR_leftmostPleat_41 : decode cR_leftmostPleat 41 = .ok (.iadd, 1) := by decide +kernel
theorem dR_leftmostPleat_42 : decode cR_leftmostPleat 42 = .ok (.iaload, 1) := by decide +kernel
theorem dR_leftmostPleat_43 : decode cR_leftmostPleat 43 = .ok ((.if_icmp .gt 22), 3) := by decide +kernel
theorem dR_leftmostPleat_46 : decode cR_leftmostPleat 46 = .ok ((.aload_n 0), 1) := by decide +kernel
theorem dR_leftmostPleat_47 : decode cR_leftmostPleat 47 = .ok ((.getfield 22), 3) := by decide +kernel
theorem dR_leftmostPleat_50 : decode cR_leftmostPleat 50 = .ok ((.iload_n 1), 1) := by decide +kernel
theorem dR_leftmostPleat_51 : decode cR_leftmostPleat 51 = .ok ((.iconst 1), 1) := by decide +kernel
theorem dR_leftmostPleat_52 : decode cR_leftmostPleat 52 = .ok (.isub, 1) := by decide +kernel
theorem dR_leftmostPleat_53 : decode cR_leftmostPleat 53 = .ok (.iaload, 1) := by decide +kernel
theorem dR_leftmostPleat_54 : decode cR_leftmostPleat 54 = .ok ((.aload_n 0), 1) := by decide +kernel
theorem dR_leftmostPleat_55 : decode cR_leftmostPleat 55 = .ok ((.getfield 22), 3) := by decide +kernel
theorem dR_leftmostPleat_58 : decode cR_leftmostPleat 58 = .ok ((.iload_n 1), 1) := by decide +kernel
theorem dR_leftmostPleat_59 : decode cR_leftmostPleat 59 = .ok (.iaload, 1) := by decide +kernel
theorem dR_leftmostPleat_60 : decode cR_leftmostPleat 60 = .ok ((.if_icmp .eq 5), 3) := by decide +kernel
theorem dR_leftmostPleat_63 : decode cR_leftmostPleat 63 = .ok ((.iload_n 1), 1) := by decide +kernel
theorem dR_leftmostPleat_64 : decode cR_leftmostPleat 64 = .ok (.ireturn, 1) := by decide +kernel
theorem dR_leftmostPleat_65 : decode cR_leftmostPleat 65 = .ok ((.iinc 1 1), 3) := by decide +kernel
theorem dR_leftmostPleat_68 : decode cR_leftmostPleat 68 = .ok ((.goto (-66)), 3) := by decide +kernel
theorem dR_leftmostPleat_71 : decode cR_leftmostPleat 71 = .ok ((.iconst (-1)), 1) := by decide +kernel
theorem dR_leftmostPleat_72 : decode cR_leftmostPleat 72 = .ok (.ireturn, 1) := by decide +kernel
theorem dR_flatten_0 : decode cR_flatten 0 = .ok ((.aload_n 0), 1) := by decide +kernel
theorem dR_flatten_1 : decode cR_flatten 1 = .ok ((.getfield 15), 3) := by decide +kernel
theorem dR_flatten_4 : decode cR_flatten 4 = .ok ((.iload_n 1), 1) := by decide +kernel
theorem dR_flatten_5 : decode cR_flatten 5 = .ok ((.iconst 1), 1) := by decide +kernel
theorem dR_flatten_6 : decode cR_flatten 6 = .ok (.isub, 1) := by decide +kernel
theorem dR_flatten_7 : decode cR_flatten 7 = .ok ((.aload_n 0), 1) := by decide +kernel
theorem dR_flatten_8 : decode cR_flatten 8 = .ok ((.getfield 15), 3) := by decide +kernel
theorem dR_flatten_11 : decode cR_flatten 11 = .ok ((.iload_n 1), 1) := by decide +kernel
theorem dR_flatten_12 : decode cR_flatten 12 = .ok ((.iconst 1), 1) := by decide +kernel
theorem dR_flatten_13 : decode cR_flatten 13 = .ok (.isub, 1) := by decide +kernel
theorem dR_flatten_14 : decode cR_flatten 14 = .ok (.iaload, 1) := by decide +kernel
theorem dR_flatten_15 : decode cR_flatten 15 = .ok ((.aload_n 0), 1) := by decide +kernel
theorem dR_flatten_16 : decode cR_flatten 16 = .ok ((.getfield 15), 3) := by decide +kernel
theorem dR_flatten_19 : decode cR_flatten 19 = .ok ((.iload_n 1), 1) := by decide +kernel
theorem dR_flatten_20 : decode cR_flatten 20 = .ok (.iaload, 1) := by decide +kernel
theorem dR_flatten_21 : decode cR_flatten 21 = .ok (.isub, 1) := by decide +kernel
theorem dR_flatten_22 : decode cR_flatten 22 = .ok ((.aload_n 0), 1) := by decide +kernel
theorem dR_flatten_23 : decode cR_flatten 23 = .ok ((.getfield 15), 3) := by decide +kernel
theorem dR_flatten_26 : decode cR_flatten 26 = .ok ((.iload_n 1), 1) := by decide +kernel
theorem dR_flatten_27 : decode cR_flatten 27 = .ok ((.iconst 1), 1) := by decide +kernel
theorem dR_flatten_28 : decode cR_flatten 28 = .ok (.iadd, 1) := by decide +kernel
theorem dR_flatten_29 : decode cR_flatten 29 = .ok (.iaload, 1) := by decide +kernel
theorem dR_flatten_30 : decode cR_flatten 30 = .ok (.iadd, 1) := by decide +kernel
theorem dR_flatten_31 : decode cR_flatten 31 = .ok (.iastore, 1) := by decide +kernel
theorem dR_flatten_32 : decode cR_flatten 32 = .ok ((.aload_n 0), 1) := by decide +kernel
theorem dR_flatten_33 : decode cR_flatten 33 = .ok ((.iload_n 1), 1) := by decide +kernel
theorem dR_flatten_34 : decode cR_flatten 34 = .ok ((.iconst 1), 1) := by decide +kernel
theorem dR_flatten_35 : decode cR_flatten 35 = .ok (.isub, 1) := by decide +kernel
theorem dR_flatten_36 : decode cR_flatten 36 = .ok ((.iconst 2), 1) := by decide +kernel
theorem dR_flatten_37 : decode cR_flatten 37 = .ok ((.invokevirtual 69), 3) := by decide +kernel
theorem dR_flatten_40 : decode cR_flatten 40 = .ok ((.aload_n 0), 1) := by decide +kernel
theorem dR_flatten_41 : decode cR_flatten 41 = .ok ((.iload_n 1), 1) := by decide +kernel
theorem dR_flatten_42 : decode cR_flatten 42 = .ok ((.iconst 2), 1) := by decide +kernel
theorem dR_flatten_43 : decode cR_flatten 43 = .ok ((.invokevirtual 66), 3) := by decide +kernel
theorem dR_flatten_46 : decode cR_flatten 46 = .ok (.return_, 1) := by decide +kernel
end
section
theorem dO_init_0 : decode cO_init 0 = .ok ((.aload_n 0), 1) := by decide +kernel
theorem dO_init_1 : decode cO_init 1 = .ok ((.invokespecial 3), 3) := by decide +kernel
theorem dO_init_4 : decode cO_init 4 = .ok ((.aload_n 0), 1) := by decide +kernel
theorem dO_init_5 : decode cO_init 5 = .ok ((.aload_n 1), 1) := by decide +kernel
theorem dO_init_6 : decode cO_init 6 = .ok ((.putfield 9), 3) := by decide +kernel
theorem dO_init_9 : decode cO_init 9 = .ok ((.aload_n 0), 1) := by decide +kernel
theorem dO_init_10 : decode cO_init 10 = .ok ((.bipush 64), 2) := by decide +kernel
theorem dO_init_12 : decode cO_init 12 = .ok ((.newarray .int), 2) := by decide +kernel
theorem dO_init_14 : decode cO_init 14 = .ok ((.putfield 15), 3) := by decide +kernel
theorem dO_init_17 : decode cO_init 17 = .ok (.return_, 1) := by decide +kernel
theorem dO_forget_0 : decode cO_forget 0 = .ok ((.aload_n 0), 1) := by decide +kernel
theorem dO_forget_1 : decode cO_forget 1 = .ok ((.iconst 0), 1) := by decide +kernel
theorem dO_forget_2 : decode cO_forget 2 = .ok ((.putfield 19), 3) := by decide +kernel
theorem dO_forget_5 : decode cO_forget 5 = .ok (.return_, 1) := by decide +kernel
theorem dO_findAll_0 : decode cO_findAll 0 = .ok ((.aload_n 0), 1) := by decide +kernel
theorem dO_findAll_1 : decode cO_findAll 1 = .ok ((.getfield 19), 3) := by decide +kernel
theorem dO_findAll_4 : decode cO_findAll 4 = .ok ((.ifCond .ne 25), 3) := by decide +kernel
theorem dO_findAll_7 : decode cO_findAll 7 = .ok ((.aload_n 0), 1) := by decide +kernel
theorem dO_findAll_8 : decode cO_findAll 8 = .ok ((.iconst 0), 1) := by decide +kernel
theorem dO_findAll_9 : decode cO_findAll 9 = .ok ((.putfield 23), 3) := by decide +kernel
theorem dO_findAll_12 : decode cO_findAll 12 = .ok ((.aload_n 0), 1) := by decide +kernel
theorem dO_findAll_13 : decode cO_findAll 13 = .ok ((.lconst 0), 1) := by decide +kernel
theorem dO_findAll_14 : decode cO_findAll 14 = .ok ((.putfield 27), 3) := by decide +kernel
theorem dO_findAll_17 : decode cO_findAll 17 = .ok ((.aload_n 0), 1) := by decide +kernel
theorem dO_findAll_18 : decode cO_findAll 18 = .ok ((.iconst 0), 1) := by decide +kernel
theorem dO_findAll_19 : decode cO_findAll 19 = .ok ((.iconst 1), 1) := by decide +kernel
theorem dO_findAll_20 : decode cO_findAll 20 = .ok ((.iconst 0), 1) := by decide +kernel
theorem dO_findAll_21 : decode cO_findAll 21 = .ok ((.invokevirtual 31), 3) := by decide +kernel
theorem dO_findAll_24 : decode cO_findAll 24 = .ok ((.aload_n 0), 1) := by decide +kernel
theorem dO_findAll_25 : decode cO_findAll 25 = .ok ((.iconst 1), 1) := by decide +kernel
theorem dO_findAll_26 : decode cO_findAll 26 = .ok ((.putfield 19), 3) := by decide +kernel
theorem dO_findAll_29 : decode cO_findAll 29 = .ok (.return_, 1) := by decide +kernel
theorem dO_decide_0 : decode cO_decide 0 = .ok ((.iload_n 2), 1) := by decide +kernel
theorem dO_decide_1 : decode cO_decide 1 = .ok ((.aload_n 0), 1) := by decide +kernel
theorem dO_decide_2 : decode cO_decide 2 = .ok ((.getfield 9), 3) := by decide +kernel
theorem dO_decide_5 : decode cO_decide 5 = .ok ((.getfield 35), 3) := by decide +kernel
theorem dO_decide_8 : decode cO_decide 8 = .ok ((.if_icmp .le 9), 3) := by decide +kernel
theorem dO_decide_11 : decode cO_decide 11 = .ok ((.aload_n 0), 1) := by decide +kernel
theorem dO_decide_12 : decode cO_decide 12 = .ok ((.iload_n 3), 1) := by decide +kernel
theorem dO_decide_13 : decode cO_decide 13 = .ok ((.invokevirtual 40), 3) := by decide +kernel
theorem dO_decide_16 : decode cO_decide 16 = .ok (.return_, 1) := by decide +kernel
theorem dO_decide_17 : decode cO_decide 17 = .ok ((.iload_n 1), 1) := by decide +kernel
theorem dO_decide_18 : decode cO_decide 18 = .ok ((.iconst 1), 1) := by decide +kernel
theorem dO_decide_19 : decode cO_decide 19 = .ok (.iadd, 1) := by decide +kernel
theorem dO_decide_20 : decode cO_decide 20 = .ok ((.iload_n 2), 1) := by decide +kernel
theorem dO_decide_21 : decode cO_decide 21 = .ok ((.if_icmp .lt 7), 3) := by decide +kernel
theorem dO_decide_24 : decode cO_decide 24 = .ok ((.iconst 1), 1) := by decide +kernel
theorem dO_decide_25 : decode cO_decide 25 = .ok ((.goto 4), 3) := by decide +kernel
theorem dO_decide_28 : decode cO_decide 28 = .ok ((.iconst 0), 1) := by decide +kernel
theorem dO_decide_29 : decode cO_decide 29 = .ok ((.istore 4), 2) := by decide +kernel
theorem dO_decide_31 : decode cO_decide 31 = .ok ((.iload 4), 2) := by decide +kernel
theorem dO_decide_33 : decode cO_decide 33 = .ok ((.ifCond .eq 7), 3) := by decide +kernel
theorem dO_decide_36 : decode cO_decide 36 = .ok ((.iconst 0), 1) := by decide +kernel
theorem dO_decide_37 : decode cO_decide 37 = .ok ((.goto 6), 3) := by decide +kernel
theorem dO_decide_40 : decode cO_decide 40 = .ok ((.iload_n 1), 1) := by decide +kernel
theorem dO_decide_41 : decode cO_decide 41 = .ok ((.iconst 1), 1) := by decide +kernel
theorem dO_decide_42 : decode cO_decide 42 = .ok (.iadd, 1) := by decide +kernel
theorem dO_decide_43 : decode cO_decide 43 = .ok ((.istore 5), 2) := by decide +kernel
theorem dO_decide_45 : decode cO_decide 45 = .ok ((.iload 4), 2) := by decide +kernel
theorem dO_decide_47 : decode cO_decide 47 = .ok ((.ifCond .eq 9), 3) := by decide +kernel
theorem dO_decide_50 : decode cO_decide 50 = .ok ((.iload_n 2), 1) := by decide +kernel
theorem dO_decide_51 : decode cO_decide 51 = .ok ((.iconst 1), 1) := by decide +kernel
theorem dO_decide_52 : decode cO_decide 52 = .ok (.iadd, 1) := by decide +kernel
theorem dO_decide_53 : decode cO_decide 53 = .ok ((.goto 4), 3) := by decide +kernel
theorem dO_decide_56 : decode cO_decide 56 = .ok ((.iload_n 2), 1) := by decide +kernel
theorem dO_decide_57 : decode cO_decide 57 = .ok ((.istore 6), 2) := by decide +kernel
theorem dO_decide_59 : decode cO_decide 59 = .ok ((.aload_n 0), 1) := by decide +kernel
theorem dO_decide_60 : decode cO_decide 60 = .ok ((.getfield 9), 3) := by decide +kernel
theorem dO_decide_63 : decode cO_decide 63 = .ok ((.iload_n 1), 1) := by decide +kernel
theorem dO_decide_64 : decode cO_decide 64 = .ok ((.iload_n 2), 1) := by decide +kernel
theorem dO_decide_65 : decode cO_decide 65 = .ok ((.invokevirtual 44), 3) := by decide +kernel
theorem dO_decide_68 : decode cO_decide 68 = .ok ((.ifCond .ne 13), 3) := by decide +kernel
theorem dO_decide_71 : decode cO_decide 71 = .ok ((.aload_n 0), 1) := by decide +kernel
theorem dO_decide_72 : decode cO_decide 72 = .ok ((.iload 5), 2) := by decide +kernel
theorem dO_decide_74 : decode cO_decide 74 = .ok ((.iload 6), 2) := by decide +kernel
theorem dO_decide_76 : decode cO_decide 76 = .ok ((.iload_n 3), 1) := by decide +kernel
theorem dO_decide_77 : decode cO_decide 77 = .ok ((.invokevirtual 31), 3) := by decide +kernel
theorem dO_decide_80 : decode cO_decide 80 = .ok (.return_, 1) := by decide +kernel
theorem dO_decide_81 : decode cO_decide 81 = .ok ((.iconst 0), 1) := by decide +kernel
theorem dO_decide_82 : decode cO_decide 82 = .ok ((.istore 7), 2) := by decide +kernel
theorem dO_decide_84 : decode cO_decide 84 = .ok ((.iload 7), 2) := by decide +kernel
theorem dO_decide_86 : decode cO_decide 86 = .ok ((.iconst 1), 1) := by decide +kernel
theorem dO_decide_87 : decode cO_decide 87 = .ok ((.if_icmp .gt 81), 3) := by decide +kernel
theorem dO_decide_90 : decode cO_decide 90 = .ok ((.iload 7), 2) := by decide +kernel
theorem dO_decide_92 : decode cO_decide 92 = .ok ((.ifCond .ne 7), 3) := by decide +kernel
theorem dO_decide_95 : decode cO_decide 95 = .ok ((.iload_n 3), 1) := by decide +kernel
theorem dO_decide_96 : decode cO_decide 96 = .ok ((.goto 10), 3) := by decide +kernel
theorem dO_decide_99 : decode cO_decide 99 = .ok ((.iload_n 3), 1) := by decide +kernel
theorem dO_decide_100 : decode cO_decide 100 = .ok ((.iload_n 1), 1) := by decide +kernel
theorem dO_decide_101 : decode cO_decide 101 = .ok ((.iload_n 2), 1) := by decide +kernel
theorem dO_decide_102 : decode cO_decide 102 = .ok ((.invokestatic 48), 3) := by decide +kernel
theorem dO_decide_105 : decode cO_decide 105 = .ok (.ior, 1) := by decide +kernel
theorem dO_decide_106 : decode cO_decide 106 = .ok ((.istore 8), 2) := by decide +kernel
theorem dO_decide_108 : decode cO_decide 108 = .ok ((.aload_n 0), 1) := by decide +kernel
theorem dO_decide_109 : decode cO_decide 109 = .ok ((.iload 8), 2) := by decide +kernel
theorem dO_decide_111 : decode cO_decide 111 = .ok ((.iload_n 1), 1) := by decide +kernel
theorem dO_decide_112 : decode cO_decide 112 = .ok ((.iload_n 2), 1) := by decide +kernel
theorem dO_decide_113 : decode cO_decide 113 = .ok ((.invokevirtual 52), 3) := by decide +kernel
theorem dO_decide_116 : decode cO_decide 116 = .ok ((.ifCond .eq 46), 3) := by decide +kernel
theorem dO_decide_119 : decode cO_decide 119 = .ok ((.aload_n 0), 1) := by decide +kernel
theorem dO_decide_120 : decode cO_decide 120 = .ok ((.iload 8), 2) := by decide +kernel
theorem dO_decide_122 : decode cO_decide 122 = .ok ((.iload_n 1), 1) := by decide +kernel
theorem dO_decide_123 : decode cO_decide 123 = .ok ((.iload_n 2), 1) := by decide +kernel
theorem dO_decide_124 : decode cO_decide 124 = .ok ((.invokevirtual 56), 3) := by decide +kernel
theorem dO_decide_127 : decode cO_decide 127 = .ok ((.ifCond .eq 35), 3) := by decide +kernel
theorem dO_decide_130 : decode cO_decide 130 = .ok ((.aload_n 0), 1) := by decide +kernel
theorem dO_decide_131 : decode cO_decide 131 = .ok ((.iload 8), 2) := by decide +kernel
theorem dO_decide_133 : decode cO_decide 133 = .ok ((.iload_n 1), 1) := by decide +kernel
theorem dO_decide_134 : decode cO_decide 134 = .ok ((.iload_n 2), 1) := by decide +kernel
theorem dO_decide_135 : decode cO_decide 135 = .ok ((.invokevirtual 59), 3) := by decide +kernel
theorem dO_decide_138 : decode cO_decide 138 = .ok ((.ifCond .eq 24), 3) := by decide +kernel
theorem dO_decide_141 : decode cO_decide 141 = .ok ((.aload_n 0), 1) := by decide +kernel
theorem dO_decide_142 : decode cO_decide 142 = .ok ((.iload 8), 2) := by decide +kernel
theorem dO_decide_144 : decode cO_decide 144 = .ok ((.iload_n 1), 1) := by decide +kernel
theorem dO_decide_145 : decode cO_decide 145 = .ok ((.iload_n 2), 1) := by decide +kernel
theorem dO_decide_146 : decode cO_decide 146 = .ok ((.invokevirtual 62), 3) := by decide +kernel
theorem dO_decide_149 : decode cO_decide 149 = .ok ((.ifCond .eq 13), 3) := by decide +kernel
theorem dO_decide_152 : decode cO_decide 152 = .ok ((.aload_n 0), 1) := by decide +kernel
theorem dO_decide_153 : decode cO_decide 153 = .ok ((.iload 5), 2) := by decide +kernel
theorem dO_decide_155 : decode cO_decide 155 = .ok ((.iload 6), 2) := by decide +kernel
theorem dO_decide_157 : decode cO_decide 157 = .ok ((.iload 8), 2) := by decide +kernel
theorem dO_decide_159 : decode cO_decide 159 = .ok ((.invokevirtual 31), 3) := by decide +kernel
theorem dO_decide_162 : decode cO_decide 162 = .ok ((.iinc 7 1), 3) := by decide +kernel
theorem dO_decide_165 : decode cO_decide 165 = .ok ((.goto (-81)), 3) := by decide +kernel
theorem dO_decide_168 : decode cO_decide 168 = .ok (.return_, 1) := by decide +kernel
theorem dO_keep_0 : decode cO_keep 0 = .ok ((.aload_n 0), 1) := by decide +kernel
theorem dO_keep_1 : decode cO_keep 1 = .ok ((.getfield 23), 3) := by decide +kernel
theorem dO_keep_4 : decode cO_keep 4 = .ok ((.aload_n 0), 1) := by decide +kernel
theorem dO_keep_5 : decode cO_keep 5 = .ok ((.getfield 15), 3) := by decide +kernel
theorem dO_keep_8 : decode cO_keep 8 = .ok (.arraylength, 1) := by decide +kernel
theorem dO_keep_9 : decode cO_keep 9 = .ok ((.if_icmp .lt 21), 3) := by decide +kernel
theorem dO_keep_12 : decode cO_keep 12 = .ok ((.aload_n 0), 1) := by decide +kernel
theorem dO_keep_13 : decode cO_keep 13 = .ok ((.aload_n 0), 1) := by decide +kernel
theorem dO_keep_14 : decode cO_keep 14 = .ok ((.getfield 15), 3) := by decide +kernel
theorem dO_keep_17 : decode cO_keep 17 = .ok ((.iconst 2), 1) := by decide +kernel
theorem dO_keep_18 : decode cO_keep 18 = .ok ((.aload_n 0), 1) := by decide +kernel
theorem dO_keep_19 : decode cO_keep 19 = .ok ((.getfield 15), 3) := by decide +kernel
theorem dO_keep_22 : decode cO_keep 22 = .ok (.arraylength, 1) := by decide +kernel
theorem dO_keep_23 : decode cO_keep 23 = .ok (.imul, 1) := by decide +kernel
theorem dO_keep_24 : decode cO_keep 24 = .ok ((.invokestatic 65), 3) := by decide +kernel
theorem dO_keep_27 : decode cO_keep 27 = .ok ((.putfield 15), 3) := by decide +kernel
theorem dO_keep_30 : decode cO_keep 30 = .ok ((.aload_n 0), 1) := by decide +kernel
theorem dO_keep_31 : decode cO_keep 31 = .ok ((.getfield 15), 3) := by decide +kernel
theorem dO_keep_34 : decode cO_keep 34 = .ok ((.aload_n 0), 1) := by decide +kernel
theorem dO_keep_35 : decode cO_keep 35 = .ok ((.getfield 23), 3) := by decide +kernel
theorem dO_keep_38 : decode cO_keep 38 = .ok ((.iload_n 1), 1) := by decide +kernel
theorem dO_keep_39 : decode cO_keep 39 = .ok (.iastore, 1) := by decide +kernel
theorem dO_keep_40 : decode cO_keep 40 = .ok ((.aload_n 0), 1) := by decide +kernel
theorem dO_keep_41 : decode cO_keep 41 = .ok (.dup, 1) := by decide +kernel
theorem dO_keep_42 : decode cO_keep 42 = .ok ((.getfield 23), 3) := by decide +kernel
theorem dO_keep_45 : decode cO_keep 45 = .ok ((.iconst 1), 1) := by decide +kernel
theorem dO_keep_46 : decode cO_keep 46 = .ok (.iadd, 1) := by decide +kernel
theorem dO_keep_47 : decode cO_keep 47 = .ok ((.putfield 23), 3) := by decide +kernel
theorem dO_keep_50 : decode cO_keep 50 = .ok ((.aload_n 0), 1) := by decide +kernel
theorem dO_keep_51 : decode cO_keep 51 = .ok (.dup, 1) := by decide +kernel
theorem dO_keep_52 : decode cO_keep 52 = .ok ((.getfield 27), 3) := by decide +kernel
theorem dO_keep_55 : decode cO_keep 55 = .ok ((.lconst 1), 1) := by decide +kernel
theorem dO_keep_56 : decode cO_keep 56 = .ok ((.aload_n 0), 1) := by decide +kernel
theorem dO_keep_57 : decode cO_keep 57 = .ok ((.iload_n 1), 1) := by decide +kernel
theorem dO_keep_58 : decode cO_keep 58 = .ok ((.invokevirtual 71), 3) := by decide +kernel
theorem dO_keep_61 : decode cO_keep 61 = .ok (.lshl, 1) := by decide +kernel
theorem dO_keep_62 : decode cO_keep 62 = .ok (.lor, 1) := by decide +kernel
theorem dO_keep_63 : decode cO_keep 63 = .ok ((.putfield 27), 3) := by decide +kernel
theorem dO_keep_66 : decode cO_keep 66 = .ok (.return_, 1) := by decide +kernel
theorem dO_markingOf_0 : decode cO_markingOf 0 = .ok ((.iconst 0), 1) := by decide +kernel
theorem dO_markingOf_1 : decode cO_markingOf 1 = .ok ((.istore_n 2), 1) := by decide +kernel
theorem dO_markingOf_2 : decode cO_markingOf 2 = .ok ((.iconst 0), 1) := by decide +kernel
theorem dO_markingOf_3 : decode cO_markingOf 3 = .ok ((.istore_n 3), 1) := by decide +kernel
theorem dO_markingOf_4 : decode cO_markingOf 4 = .ok ((.iload_n 3), 1) := by decide +kernel
theorem dO_markingOf_5 : decode cO_markingOf 5 = .ok ((.aload_n 0), 1) := by decide +kernel
theorem dO_markingOf_6 : decode cO_markingOf 6 = .ok ((.getfield 9), 3) := by decide +kernel
theorem dO_markingOf_9 : decode cO_markingOf 9 = .ok ((.getfield 35), 3) := by decide +kernel
theorem dO_markingOf_12 : decode cO_markingOf 12 = .ok ((.if_icmp .ge 26), 3) := by decide +kernel
theorem dO_markingOf_15 : decode cO_markingOf 15 = .ok ((.iload_n 1), 1) := by decide +kernel
theorem dO_markingOf_16 : decode cO_markingOf 16 = .ok ((.iload_n 3), 1) := by decide +kernel
theorem dO_markingOf_17 : decode cO_markingOf 17 = .ok ((.iload_n 3), 1) := by decide +kernel
theorem dO_markingOf_18 : decode cO_markingOf 18 = .ok ((.iconst 1), 1) := by decide +kernel
theorem dO_markingOf_19 : decode cO_markingOf 19 = .ok (.iadd, 1) := by decide +kernel
theorem dO_markingOf_20 : decode cO_markingOf 20 = .ok ((.invokestatic 75), 3) := by decide +kernel
theorem dO_markingOf_23 : decode cO_markingOf 23 = .ok ((.ifCond .eq 9), 3) := by decide +kernel
theorem dO_markingOf_26 : decode cO_markingOf 26 = .ok ((.iload_n 2), 1) := by decide +kernel
theorem dO_markingOf_27 : decode cO_markingOf 27 = .ok ((.iconst 1), 1) := by decide +kernel
theorem dO_markingOf_28 : decode cO_markingOf 28 = .ok ((.iload_n 3), 1) := by decide +kernel
theorem dO_markingOf_29 : decode cO_markingOf 29 = .ok (.ishl, 1) := by decide +kernel
theorem dO_markingOf_30 : decode cO_markingOf 30 = .ok (.ior, 1) := by decide +kernel
theorem dO_markingOf_31 : decode cO_markingOf 31 = .ok ((.istore_n 2), 1) := by decide +kernel
theorem dO_markingOf_32 : decode cO_markingOf 32 = .ok ((.iinc 3 1), 3) := by decide +kernel
theorem dO_markingOf_35 : decode cO_markingOf 35 = .ok ((.goto (-31)), 3) := by decide +kernel
theorem dO_markingOf_38 : decode cO_markingOf 38 = .ok ((.iload_n 2), 1) := by decide +kernel
theorem dO_markingOf_39 : decode cO_markingOf 39 = .ok (.ireturn, 1) := by decide +kernel
theorem dO_isAbove_0 : decode cO_isAbove 0 = .ok ((.iload_n 1), 1) := by decide +kernel
theorem dO_isAbove_1 : decode cO_isAbove 1 = .ok ((.iload_n 2), 1) := by decide +kernel
theorem dO_isAbove_2 : decode cO_isAbove 2 = .ok ((.if_icmp .ge 21), 3) := by decide +kernel
theorem dO_isAbove_5 : decode cO_isAbove 5 = .ok ((.iload_n 0), 1) := by decide +kernel
theorem dO_isAbove_6 : decode cO_isAbove 6 = .ok ((.iload_n 1), 1) := by decide +kernel
theorem dO_isAbove_7 : decode cO_isAbove 7 = .ok ((.iload_n 2), 1) := by decide +kernel
theorem dO_isAbove_8 : decode cO_isAbove 8 = .ok ((.invokestatic 48), 3) := by decide +kernel
theorem dO_isAbove_11 : decode cO_isAbove 11 = .ok (.iand, 1) := by decide +kernel
theorem dO_isAbove_12 : decode cO_isAbove 12 = .ok ((.ifCond .eq 7), 3) := by decide +kernel
theorem dO_isAbove_15 : decode cO_isAbove 15 = .ok ((.iconst 1), 1) := by decide +kernel
theorem dO_isAbove_16 : decode cO_isAbove 16 = .ok ((.goto 22), 3) := by decide +kernel
theorem dO_isAbove_19 : decode cO_isAbove 19 = .ok ((.iconst 0), 1) := by decide +kernel
theorem dO_isAbove_20 : decode cO_isAbove 20 = .ok ((.goto 18), 3) := by decide +kernel
theorem dO_isAbove_23 : decode cO_isAbove 23 = .ok ((.iload_n 0), 1) := by decide +kernel
theorem dO_isAbove_24 : decode cO_isAbove 24 = .ok ((.iload_n 2), 1) := by decide +kernel
theorem dO_isAbove_25 : decode cO_isAbove 25 = .ok ((.iload_n 1), 1) := by decide +kernel
theorem dO_isAbove_26 : decode cO_isAbove 26 = .ok ((.invokestatic 48), 3) := by decide +kernel
theorem dO_isAbove_29 : decode cO_isAbove 29 = .ok (.iand, 1) := by decide +kernel
theorem dO_isAbove_30 : decode cO_isAbove 30 = .ok ((.ifCond .ne 7), 3) := by decide +kernel
theorem dO_isAbove_33 : decode cO_isAbove 33 = .ok ((.iconst 1), 1) := by decide +kernel
theorem dO_isAbove_34 : decode cO_isAbove 34 = .ok ((.goto 4), 3) := by decide +kernel
theorem dO_isAbove_37 : decode cO_isAbove 37 = .ok ((.iconst 0), 1) := by decide +kernel
theorem dO_isAbove_38 : decode cO_isAbove 38 = .ok (.ireturn, 1) := by decide +kernel
theorem dO_bit_0 : decode cO_bit 0 = .ok ((.iconst 1), 1) := by decide +kernel
theorem dO_bit_1 : decode cO_bit 1 = .ok ((.iload_n 1), 1) := by decide +kernel
theorem dO_bit_2 : decode cO_bit 2 = .ok ((.iload_n 1), 1) := by decide +kernel
theorem dO_bit_3 : decode cO_bit 3 = .ok ((.iconst 1), 1) := by decide +kernel
theorem dO_bit_4 : decode cO_bit 4 = .ok (.isub, 1) := by decide +kernel
theorem dO_bit_5 : decode cO_bit 5 = .ok (.imul, 1) := by decide +kernel
theorem dO_bit_6 : decode cO_bit 6 = .ok ((.iconst 2), 1) := by decide +kernel
theorem dO_bit_7 : decode cO_bit 7 = .ok (.idiv, 1) := by decide +kernel
theorem dO_bit_8 : decode cO_bit 8 = .ok ((.iload_n 0), 1) := by decide +kernel
theorem dO_bit_9 : decode cO_bit 9 = .ok (.iadd, 1) := by decide +kernel
theorem dO_bit_10 : decode cO_bit 10 = .ok (.ishl, 1) := by decide +kernel
theorem dO_bit_11 : decode cO_bit 11 = .ok (.ireturn, 1) := by decide +kernel
theorem dO_keepsMark_0 : decode cO_keepsMark 0 = .ok ((.iload_n 3), 1) := by decide +kernel
theorem dO_keepsMark_1 : decode cO_keepsMark 1 = .ok ((.iload_n 2), 1) := by decide +kernel
theorem dO_keepsMark_2 : decode cO_keepsMark 2 = .ok ((.iconst 1), 1) := by decide +kernel
theorem dO_keepsMark_3 : decode cO_keepsMark 3 = .ok (.iadd, 1) := by decide +kernel
theorem dO_keepsMark_4 : decode cO_keepsMark 4 = .ok ((.if_icmp .ne 15), 3) := by decide +kernel
theorem dO_keepsMark_7 : decode cO_keepsMark 7 = .ok ((.aload_n 0), 1) := by decide +kernel
theorem dO_keepsMark_8 : decode cO_keepsMark 8 = .ok ((.getfield 9), 3) := by decide +kernel
theorem dO_keepsMark_11 : decode cO_keepsMark 11 = .ok ((.getfield 78), 3) := by decide +kernel
theorem dO_keepsMark_14 : decode cO_keepsMark 14 = .ok ((.iload_n 2), 1) := by decide +kernel
theorem dO_keepsMark_15 : decode cO_keepsMark 15 = .ok (.iaload, 1) := by decide +kernel
theorem dO_keepsMark_16 : decode cO_keepsMark 16 = .ok ((.ifCond .ne 5), 3) := by decide +kernel
theorem dO_keepsMark_19 : decode cO_keepsMark 19 = .ok ((.iconst 1), 1) := by decide +kernel
theorem dO_keepsMark_20 : decode cO_keepsMark 20 = .ok (.ireturn, 1) := by decide +kernel
theorem dO_keepsMark_21 : decode cO_keepsMark 21 = .ok ((.aload_n 0), 1) := by decide +kernel
theorem dO_keepsMark_22 : decode cO_keepsMark 22 = .ok ((.getfield 9), 3) := by decide +kernel
theorem dO_keepsMark_25 : decode cO_keepsMark 25 = .ok ((.getfield 78), 3) := by decide +kernel
theorem dO_keepsMark_28 : decode cO_keepsMark 28 = .ok ((.iload_n 2), 1) := by decide +kernel
theorem dO_keepsMark_29 : decode cO_keepsMark 29 = .ok (.iaload, 1) := by decide +kernel
theorem dO_keepsMark_30 : decode cO_keepsMark 30 = .ok ((.iconst 2), 1) := by decide +kernel
theorem dO_keepsMark_31 : decode cO_keepsMark 31 = .ok ((.if_icmp .ne 7), 3) := by decide +kernel
theorem dO_keepsMark_34 : decode cO_keepsMark 34 = .ok ((.iconst 1), 1) := by decide +kernel
theorem dO_keepsMark_35 : decode cO_keepsMark 35 = .ok ((.goto 4), 3) := by decide +kernel
theorem dO_keepsMark_38 : decode cO_keepsMark 38 = .ok ((.iconst 0), 1) := by decide +kernel
theorem dO_keepsMark_39 : decode cO_keepsMark 39 = .ok ((.aload_n 0), 1) := by decide +kernel
theorem dO_keepsMark_40 : decode cO_keepsMark 40 = .ok ((.getfield 9), 3) := by decide +kernel
theorem dO_keepsMark_43 : decode cO_keepsMark 43 = .ok ((.iload_n 2), 1) := by decide +kernel
theorem dO_keepsMark_44 : decode cO_keepsMark 44 = .ok ((.invokevirtual 81), 3) := by decide +kernel
theorem dO_keepsMark_47 : decode cO_keepsMark 47 = .ok ((.if_icmp .ne 7), 3) := by decide +kernel
theorem dO_keepsMark_50 : decode cO_keepsMark 50 = .ok ((.iconst 1), 1) := by decide +kernel
theorem dO_keepsMark_51 : decode cO_keepsMark 51 = .ok ((.goto 4), 3) := by decide +kernel
theorem dO_keepsMark_54 : decode cO_keepsMark 54 = .ok ((.iconst 0), 1) := by decide +kernel
theorem dO_keepsMark_55 : decode cO_keepsMark 55 = .ok ((.istore 4), 2) := by decide +kernel
theorem dO_keepsMark_57 : decode cO_keepsMark 57 = .ok ((.iload_n 1), 1) := by decide +kernel
theorem dO_keepsMark_58 : decode cO_keepsMark 58 = .ok ((.iload_n 3), 1) := by decide +kernel
theorem dO_keepsMark_59 : decode cO_keepsMark 59 = .ok ((.iload_n 2), 1) := by decide +kernel
theorem dO_keepsMark_60 : decode cO_keepsMark 60 = .ok ((.invokestatic 75), 3) := by decide +kernel
theorem dO_keepsMark_63 : decode cO_keepsMark 63 = .ok ((.iload 4), 2) := by decide +kernel
theorem dO_keepsMark_65 : decode cO_keepsMark 65 = .ok ((.if_icmp .ne 7), 3) := by decide +kernel
theorem dO_keepsMark_68 : decode cO_keepsMark 68 = .ok ((.iconst 1), 1) := by decide +kernel
theorem dO_keepsMark_69 : decode cO_keepsMark 69 = .ok ((.goto 4), 3) := by decide +kernel
theorem dO_keepsMark_72 : decode cO_keepsMark 72 = .ok ((.iconst 0), 1) := by decide +kernel
theorem dO_keepsMark_73 : decode cO_keepsMark 73 = .ok (.ireturn, 1) := by decide +kernel
theorem dO_makesNoRound_0 : decode cO_makesNoRound 0 = .ok ((.iconst 0), 1) := by decide +kernel
theorem dO_makesNoRound_1 : decode cO_makesNoRound 1 = .ok ((.istore 4), 2) := by decide +kernel
theorem dO_makesNoRound_3 : decode cO_makesNoRound 3 = .ok ((.iload 4), 2) := by decide +kernel
theorem dO_makesNoRound_5 : decode cO_makesNoRound 5 = .ok ((.iload_n 2), 1) := by decide +kernel
theorem dO_makesNoRound_6 : decode cO_makesNoRound 6 = .ok ((.if_icmp .ge 70), 3) := by decide +kernel
theorem dO_makesNoRound_9 : decode cO_makesNoRound 9 = .ok ((.aload_n 0), 1) := by decide +kernel
theorem dO_makesNoRound_10 : decode cO_makesNoRound 10 = .ok ((.getfield 9), 3) := by decide +kernel
theorem dO_makesNoRound_13 : decode cO_makesNoRound 13 = .ok ((.iload 4), 2) := by decide +kernel
theorem dO_makesNoRound_15 : decode cO_makesNoRound 15 = .ok ((.iload_n 2), 1) := by decide +kernel
theorem dO_makesNoRound_16 : decode cO_makesNoRound 16 = .ok ((.invokevirtual 44), 3) := by decide +kernel
theorem dO_makesNoRound_19 : decode cO_makesNoRound 19 = .ok ((.ifCond .eq 51), 3) := by decide +kernel
theorem dO_makesNoRound_22 : decode cO_makesNoRound 22 = .ok ((.aload_n 0), 1) := by decide +kernel
theorem dO_makesNoRound_23 : decode cO_makesNoRound 23 = .ok ((.getfield 9), 3) := by decide +kernel
theorem dO_makesNoRound_26 : decode cO_makesNoRound 26 = .ok ((.iload 4), 2) := by decide +kernel
theorem dO_makesNoRound_28 : decode cO_makesNoRound 28 = .ok ((.iload_n 3), 1) := by decide +kernel
theorem dO_makesNoRound_29 : decode cO_makesNoRound 29 = .ok ((.invokevirtual 44), 3) := by decide +kernel
theorem dO_makesNoRound_32 : decode cO_makesNoRound 32 = .ok ((.ifCond .eq 38), 3) := by decide +kernel
theorem dO_makesNoRound_35 : decode cO_makesNoRound 35 = .ok ((.iload_n 1), 1) := by decide +kernel
theorem dO_makesNoRound_36 : decode cO_makesNoRound 36 = .ok ((.iload_n 2), 1) := by decide +kernel
theorem dO_makesNoRound_37 : decode cO_makesNoRound 37 = .ok ((.iload_n 3), 1) := by decide +kernel
theorem dO_makesNoRound_38 : decode cO_makesNoRound 38 = .ok ((.invokestatic 75), 3) := by decide +kernel
theorem dO_makesNoRound_41 : decode cO_makesNoRound 41 = .ok ((.iload_n 1), 1) := by decide +kernel
theorem dO_makesNoRound_42 : decode cO_makesNoRound 42 = .ok ((.iload_n 3), 1) := by decide +kernel
theorem dO_makesNoRound_43 : decode cO_makesNoRound 43 = .ok ((.iload 4), 2) := by decide +kernel
theorem dO_makesNoRound_45 : decode cO_makesNoRound 45 = .ok ((.invokestatic 75), 3) := by decide +kernel
theorem dO_makesNoRound_48 : decode cO_makesNoRound 48 = .ok ((.if_icmp .ne 22), 3) := by decide +kernel
theorem dO_makesNoRound_51 : decode cO_makesNoRound 51 = .ok ((.iload_n 1), 1) := by decide +kernel
theorem dO_makesNoRound_52 : decode cO_makesNoRound 52 = .ok ((.iload_n 3), 1) := by decide +kernel
theorem dO_makesNoRound_53 : decode cO_makesNoRound 53 = .ok ((.iload 4), 2) := by decide +kernel
theorem dO_makesNoRound_55 : decode cO_makesNoRound 55 = .ok ((.invokestatic 75), 3) := by decide +kernel
theorem dO_makesNoRound_58 : decode cO_makesNoRound 58 = .ok ((.iload_n 1), 1) := by decide +kernel
theorem dO_makesNoRound_59 : decode cO_makesNoRound 59 = .ok ((.iload 4), 2) := by decide +kernel
theorem dO_makesNoRound_61 : decode cO_makesNoRound 61 = .ok ((.iload_n 2), 1) := by decide +kernel
theorem dO_makesNoRound_62 : decode cO_makesNoRound 62 = .ok ((.invokestatic 75), 3) := by decide +kernel
theorem dO_makesNoRound_65 : decode cO_makesNoRound 65 = .ok ((.if_icmp .ne 5), 3) := by decide +kernel
theorem dO_makesNoRound_68 : decode cO_makesNoRound 68 = .ok ((.iconst 0), 1) := by decide +kernel
theorem dO_makesNoRound_69 : decode cO_makesNoRound 69 = .ok (.ireturn, 1) := by decide +kernel
theorem dO_makesNoRound_70 : decode cO_makesNoRound 70 = .ok ((.iinc 4 1), 3) := by decide +kernel
theorem dO_makesNoRound_73 : decode cO_makesNoRound 73 = .ok ((.goto (-70)), 3) := by decide +kernel
theorem dO_makesNoRound_76 : decode cO_makesNoRound 76 = .ok ((.iconst 1), 1) := by decide +kernel
theorem dO_makesNoRound_77 : decode cO_makesNoRound 77 = .ok (.ireturn, 1) := by decide +kernel
theorem dO_crossesNoCrease_0 : decode cO_crossesNoCrease 0 = .ok ((.iload_n 2), 1) := by decide +kernel
theorem dO_crossesNoCrease_1 : decode cO_crossesNoCrease 1 = .ok ((.ifCond .le 38), 3) := by decide +kernel
theorem dO_crossesNoCrease_4 : decode cO_crossesNoCrease 4 = .ok ((.aload_n 0), 1) := by decide +kernel
theorem dO_crossesNoCrease_5 : decode cO_crossesNoCrease 5 = .ok ((.getfield 9), 3) := by decide +kernel
theorem dO_crossesNoCrease_8 : decode cO_crossesNoCrease 8 = .ok ((.iload_n 3), 1) := by decide +kernel
theorem dO_crossesNoCrease_9 : decode cO_crossesNoCrease 9 = .ok ((.aload_n 0), 1) := by decide +kernel
theorem dO_crossesNoCrease_10 : decode cO_crossesNoCrease 10 = .ok ((.getfield 9), 3) := by decide +kernel
theorem dO_crossesNoCrease_13 : decode cO_crossesNoCrease 13 = .ok ((.iload_n 2), 1) := by decide +kernel
theorem dO_crossesNoCrease_14 : decode cO_crossesNoCrease 14 = .ok ((.iconst 1), 1) := by decide +kernel
theorem dO_crossesNoCrease_15 : decode cO_crossesNoCrease 15 = .ok (.isub, 1) := by decide +kernel
theorem dO_crossesNoCrease_16 : decode cO_crossesNoCrease 16 = .ok ((.invokevirtual 85), 3) := by decide +kernel
theorem dO_crossesNoCrease_19 : decode cO_crossesNoCrease 19 = .ok ((.invokevirtual 88), 3) := by decide +kernel
theorem dO_crossesNoCrease_22 : decode cO_crossesNoCrease 22 = .ok ((.ifCond .eq 17), 3) := by decide +kernel
theorem dO_crossesNoCrease_25 : decode cO_crossesNoCrease 25 = .ok ((.iload_n 1), 1) := by decide +kernel
theorem dO_crossesNoCrease_26 : decode cO_crossesNoCrease 26 = .ok ((.iload_n 3), 1) := by decide +kernel
theorem dO_crossesNoCrease_27 : decode cO_crossesNoCrease 27 = .ok ((.iload_n 2), 1) := by decide +kernel
theorem dO_crossesNoCrease_28 : decode cO_crossesNoCrease 28 = .ok ((.iconst 1), 1) := by decide +kernel
theorem dO_crossesNoCrease_29 : decode cO_crossesNoCrease 29 = .ok (.isub, 1) := by decide +kernel
theorem dO_crossesNoCrease_30 : decode cO_crossesNoCrease 30 = .ok ((.iload_n 2), 1) := by decide +kernel
theorem dO_crossesNoCrease_31 : decode cO_crossesNoCrease 31 = .ok ((.invokestatic 91), 3) := by decide +kernel
theorem dO_crossesNoCrease_34 : decode cO_crossesNoCrease 34 = .ok ((.ifCond .eq 5), 3) := by decide +kernel
theorem dO_crossesNoCrease_37 : decode cO_crossesNoCrease 37 = .ok ((.iconst 0), 1) := by decide +kernel
theorem dO_crossesNoCrease_38 : decode cO_crossesNoCrease 38 = .ok (.ireturn, 1) := by decide +kernel
theorem dO_crossesNoCrease_39 : decode cO_crossesNoCrease 39 = .ok ((.aload_n 0), 1) := by decide +kernel
theorem dO_crossesNoCrease_40 : decode cO_crossesNoCrease 40 = .ok ((.getfield 9), 3) := by decide +kernel
theorem dO_crossesNoCrease_43 : decode cO_crossesNoCrease 43 = .ok ((.iload_n 2), 1) := by decide +kernel
theorem dO_crossesNoCrease_44 : decode cO_crossesNoCrease 44 = .ok ((.aload_n 0), 1) := by decide +kernel
theorem dO_crossesNoCrease_45 : decode cO_crossesNoCrease 45 = .ok ((.getfield 9), 3) := by decide +kernel
theorem dO_crossesNoCrease_48 : decode cO_crossesNoCrease 48 = .ok ((.iload_n 3), 1) := by decide +kernel
theorem dO_crossesNoCrease_49 : decode cO_crossesNoCrease 49 = .ok ((.iconst 1), 1) := by decide +kernel
theorem dO_crossesNoCrease_50 : decode cO_crossesNoCrease 50 = .ok (.isub, 1) := by decide +kernel
theorem dO_crossesNoCrease_51 : decode cO_crossesNoCrease 51 = .ok ((.invokevirtual 85), 3) := by decide +kernel
theorem dO_crossesNoCrease_54 : decode cO_crossesNoCrease 54 = .ok ((.invokevirtual 88), 3) := by decide +kernel
theorem dO_crossesNoCrease_57 : decode cO_crossesNoCrease 57 = .ok ((.ifCond .eq 15), 3) := by decide +kernel
theorem dO_crossesNoCrease_60 : decode cO_crossesNoCrease 60 = .ok ((.iload_n 1), 1) := by decide +kernel
theorem dO_crossesNoCrease_61 : decode cO_crossesNoCrease 61 = .ok ((.iload_n 2), 1) := by decide +kernel
theorem dO_crossesNoCrease_62 : decode cO_crossesNoCrease 62 = .ok ((.iload_n 3), 1) := by decide +kernel
theorem dO_crossesNoCrease_63 : decode cO_crossesNoCrease 63 = .ok ((.iconst 1), 1) := by decide +kernel
theorem dO_crossesNoCrease_64 : decode cO_crossesNoCrease 64 = .ok (.isub, 1) := by decide +kernel
theorem dO_crossesNoCrease_65 : decode cO_crossesNoCrease 65 = .ok ((.iload_n 3), 1) := by decide +kernel
theorem dO_crossesNoCrease_66 : decode cO_crossesNoCrease 66 = .ok ((.invokestatic 91), 3) := by decide +kernel
theorem dO_crossesNoCrease_69 : decode cO_crossesNoCrease 69 = .ok ((.ifCond .ne 7), 3) := by decide +kernel
theorem dO_crossesNoCrease_72 : decode cO_crossesNoCrease 72 = .ok ((.iconst 1), 1) := by decide +kernel
theorem dO_crossesNoCrease_73 : decode cO_crossesNoCrease 73 = .ok ((.goto 4), 3) := by decide +kernel
theorem dO_crossesNoCrease_76 : decode cO_crossesNoCrease 76 = .ok ((.iconst 0), 1) := by decide +kernel
theorem dO_crossesNoCrease_77 : decode cO_crossesNoCrease 77 = .ok (.ireturn, 1) := by decide +kernel
theorem dO_isBetween_0 : decode cO_isBetween 0 = .ok ((.iload_n 0), 1) := by decide +kernel
theorem dO_isBetween_1 : decode cO_isBetween 1 = .ok ((.iload_n 1), 1) := by decide +kernel
theorem dO_isBetween_2 : decode cO_isBetween 2 = .ok ((.iload_n 2), 1) := by decide +kernel
theorem dO_isBetween_3 : decode cO_isBetween 3 = .ok ((.invokestatic 75), 3) := by decide +kernel
theorem dO_isBetween_6 : decode cO_isBetween 6 = .ok ((.iload_n 0), 1) := by decide +kernel
theorem dO_isBetween_7 : decode cO_isBetween 7 = .ok ((.iload_n 1), 1) := by decide +kernel
theorem dO_isBetween_8 : decode cO_isBetween 8 = .ok ((.iload_n 3), 1) := by decide +kernel
theorem dO_isBetween_9 : decode cO_isBetween 9 = .ok ((.invokestatic 75), 3) := by decide +kernel
theorem dO_isBetween_12 : decode cO_isBetween 12 = .ok ((.if_icmp .eq 7), 3) := by decide +kernel
theorem dO_isBetween_15 : decode cO_isBetween 15 = .ok ((.iconst 1), 1) := by decide +kernel
theorem dO_isBetween_16 : decode cO_isBetween 16 = .ok ((.goto 4), 3) := by decide +kernel
theorem dO_isBetween_19 : decode cO_isBetween 19 = .ok ((.iconst 0), 1) := by decide +kernel
theorem dO_isBetween_20 : decode cO_isBetween 20 = .ok (.ireturn, 1) := by decide +kernel
theorem dO_creasesNest_0 : decode cO_creasesNest 0 = .ok ((.iload_n 2), 1) := by decide +kernel
theorem dO_creasesNest_1 : decode cO_creasesNest 1 = .ok ((.ifCond .eq 26), 3) := by decide +kernel
theorem dO_creasesNest_4 : decode cO_creasesNest 4 = .ok ((.aload_n 0), 1) := by decide +kernel
theorem dO_creasesNest_5 : decode cO_creasesNest 5 = .ok ((.getfield 9), 3) := by decide +kernel
theorem dO_creasesNest_8 : decode cO_creasesNest 8 = .ok ((.iload_n 2), 1) := by decide +kernel
theorem dO_creasesNest_9 : decode cO_creasesNest 9 = .ok ((.iconst 1), 1) := by decide +kernel
theorem dO_creasesNest_10 : decode cO_creasesNest 10 = .ok (.isub, 1) := by decide +kernel
theorem dO_creasesNest_11 : decode cO_creasesNest 11 = .ok ((.invokevirtual 85), 3) := by decide +kernel
theorem dO_creasesNest_14 : decode cO_creasesNest 14 = .ok ((.aload_n 0), 1) := by decide +kernel
theorem dO_creasesNest_15 : decode cO_creasesNest 15 = .ok ((.getfield 9), 3) := by decide +kernel
theorem dO_creasesNest_18 : decode cO_creasesNest 18 = .ok ((.iload_n 3), 1) := by decide +kernel
theorem dO_creasesNest_19 : decode cO_creasesNest 19 = .ok ((.iconst 1), 1) := by decide +kernel
theorem dO_creasesNest_20 : decode cO_creasesNest 20 = .ok (.isub, 1) := by decide +kernel
theorem dO_creasesNest_21 : decode cO_creasesNest 21 = .ok ((.invokevirtual 85), 3) := by decide +kernel
theorem dO_creasesNest_24 : decode cO_creasesNest 24 = .ok ((.if_icmp .eq 5), 3) := by decide +kernel
theorem dO_creasesNest_27 : decode cO_creasesNest 27 = .ok ((.iconst 1), 1) := by decide +kernel
theorem dO_creasesNest_28 : decode cO_creasesNest 28 = .ok (.ireturn, 1) := by decide +kernel
theorem dO_creasesNest_29 : decode cO_creasesNest 29 = .ok ((.iload_n 1), 1) := by decide +kernel
theorem dO_creasesNest_30 : decode cO_creasesNest 30 = .ok ((.iload_n 3), 1) := by decide +kernel
theorem dO_creasesNest_31 : decode cO_creasesNest 31 = .ok ((.iconst 1), 1) := by decide +kernel
theorem dO_creasesNest_32 : decode cO_creasesNest 32 = .ok (.isub, 1) := by decide +kernel
theorem dO_creasesNest_33 : decode cO_creasesNest 33 = .ok ((.iload_n 2), 1) := by decide +kernel
theorem dO_creasesNest_34 : decode cO_creasesNest 34 = .ok ((.iconst 1), 1) := by decide +kernel
theorem dO_creasesNest_35 : decode cO_creasesNest 35 = .ok (.isub, 1) := by decide +kernel
theorem dO_creasesNest_36 : decode cO_creasesNest 36 = .ok ((.iload_n 2), 1) := by decide +kernel
theorem dO_creasesNest_37 : decode cO_creasesNest 37 = .ok ((.invokestatic 91), 3) := by decide +kernel
theorem dO_creasesNest_40 : decode cO_creasesNest 40 = .ok ((.iload_n 1), 1) := by decide +kernel
theorem dO_creasesNest_41 : decode cO_creasesNest 41 = .ok ((.iload_n 3), 1) := by decide +kernel
theorem dO_creasesNest_42 : decode cO_creasesNest 42 = .ok ((.iload_n 2), 1) := by decide +kernel
theorem dO_creasesNest_43 : decode cO_creasesNest 43 = .ok ((.iconst 1), 1) := by decide +kernel
theorem dO_creasesNest_44 : decode cO_creasesNest 44 = .ok (.isub, 1) := by decide +kernel
theorem dO_creasesNest_45 : decode cO_creasesNest 45 = .ok ((.iload_n 2), 1) := by decide +kernel
theorem dO_creasesNest_46 : decode cO_creasesNest 46 = .ok ((.invokestatic 91), 3) := by decide +kernel
theorem dO_creasesNest_49 : decode cO_creasesNest 49 = .ok ((.if_icmp .ne 7), 3) := by decide +kernel
theorem dO_creasesNest_52 : decode cO_creasesNest 52 = .ok ((.iconst 1), 1) := by decide +kernel
theorem dO_creasesNest_53 : decode cO_creasesNest 53 = .ok ((.goto 4), 3) := by decide +kernel
theorem dO_creasesNest_56 : decode cO_creasesNest 56 = .ok ((.iconst 0), 1) := by decide +kernel
theorem dO_creasesNest_57 : decode cO_creasesNest 57 = .ok (.ireturn, 1) := by decide +kernel
theorem dO_segmentAt_0 : decode cO_segmentAt 0 = .ok ((.iconst 0), 1) := by decide +kernel
theorem dO_segmentAt_1 : decode cO_segmentAt 1 = .ok ((.istore 4), 2) := by decide +kernel
theorem dO_segmentAt_3 : decode cO_segmentAt 3 = .ok ((.iload 4), 2) := by decide +kernel
theorem dO_segmentAt_5 : decode cO_segmentAt 5 = .ok ((.aload_n 0), 1) := by decide +kernel
theorem dO_segmentAt_6 : decode cO_segmentAt 6 = .ok ((.getfield 9), 3) := by decide +kernel
theorem dO_segmentAt_9 : decode cO_segmentAt 9 = .ok ((.getfield 35), 3) := by decide +kernel
theorem dO_segmentAt_12 : decode cO_segmentAt 12 = .ok ((.if_icmp .gt 37), 3) := by decide +kernel
theorem dO_segmentAt_15 : decode cO_segmentAt 15 = .ok ((.aload_n 0), 1) := by decide +kernel
theorem dO_segmentAt_16 : decode cO_segmentAt 16 = .ok ((.getfield 9), 3) := by decide +kernel
theorem dO_segmentAt_19 : decode cO_segmentAt 19 = .ok ((.iload 4), 2) := by decide +kernel
theorem dO_segmentAt_21 : decode cO_segmentAt 21 = .ok ((.iload_n 2), 1) := by decide +kernel
theorem dO_segmentAt_22 : decode cO_segmentAt 22 = .ok ((.invokevirtual 95), 3) := by decide +kernel
theorem dO_segmentAt_25 : decode cO_segmentAt 25 = .ok ((.ifCond .eq 18), 3) := by decide +kernel
theorem dO_segmentAt_28 : decode cO_segmentAt 28 = .ok ((.aload_n 0), 1) := by decide +kernel
theorem dO_segmentAt_29 : decode cO_segmentAt 29 = .ok ((.iload_n 1), 1) := by decide +kernel
theorem dO_segmentAt_30 : decode cO_segmentAt 30 = .ok ((.iload 4), 2) := by decide +kernel
theorem dO_segmentAt_32 : decode cO_segmentAt 32 = .ok ((.iload_n 2), 1) := by decide +kernel
theorem dO_segmentAt_33 : decode cO_segmentAt 33 = .ok ((.invokevirtual 98), 3) := by decide +kernel
theorem dO_segmentAt_36 : decode cO_segmentAt 36 = .ok ((.iload_n 3), 1) := by decide +kernel
theorem dO_segmentAt_37 : decode cO_segmentAt 37 = .ok ((.if_icmp .ne 6), 3) := by decide +kernel
theorem dO_segmentAt_40 : decode cO_segmentAt 40 = .ok ((.iload 4), 2) := by decide +kernel
theorem dO_segmentAt_42 : decode cO_segmentAt 42 = .ok (.ireturn, 1) := by decide +kernel
theorem dO_segmentAt_43 : decode cO_segmentAt 43 = .ok ((.iinc 4 1), 3) := by decide +kernel
theorem dO_segmentAt_46 : decode cO_segmentAt 46 = .ok ((.goto (-43)), 3) := by decide +kernel
theorem dO_segmentAt_49 : decode cO_segmentAt 49 = .ok ((.iconst (-1)), 1) := by decide +kernel
theorem dO_segmentAt_50 : decode cO_segmentAt 50 = .ok (.ireturn, 1) := by decide +kernel
theorem dO_below_0 : decode cO_below 0 = .ok ((.iconst 0), 1) := by decide +kernel
theorem dO_below_1 : decode cO_below 1 = .ok ((.istore 4), 2) := by decide +kernel
theorem dO_below_3 : decode cO_below 3 = .ok ((.iconst 0), 1) := by decide +kernel
theorem dO_below_4 : decode cO_below 4 = .ok ((.istore 5), 2) := by decide +kernel
theorem dO_below_6 : decode cO_below 6 = .ok ((.iload 5), 2) := by decide +kernel
theorem dO_below_8 : decode cO_below 8 = .ok ((.aload_n 0), 1) := by decide +kernel
theorem dO_below_9 : decode cO_below 9 = .ok ((.getfield 9), 3) := by decide +kernel
theorem dO_below_12 : decode cO_below 12 = .ok ((.getfield 35), 3) := by decide +kernel
theorem dO_below_15 : decode cO_below 15 = .ok ((.if_icmp .gt 41), 3) := by decide +kernel
theorem dO_below_18 : decode cO_below 18 = .ok ((.iload 5), 2) := by decide +kernel
theorem dO_below_20 : decode cO_below 20 = .ok ((.iload_n 2), 1) := by decide +kernel
theorem dO_below_21 : decode cO_below 21 = .ok ((.if_icmp .eq 29), 3) := by decide +kernel
theorem dO_below_24 : decode cO_below 24 = .ok ((.aload_n 0), 1) := by decide +kernel
theorem dO_below_25 : decode cO_below 25 = .ok ((.getfield 9), 3) := by decide +kernel
theorem dO_below_28 : decode cO_below 28 = .ok ((.iload 5), 2) := by decide +kernel
theorem dO_below_30 : decode cO_below 30 = .ok ((.iload_n 3), 1) := by decide +kernel
theorem dO_below_31 : decode cO_below 31 = .ok ((.invokevirtual 95), 3) := by decide +kernel
theorem dO_below_34 : decode cO_below 34 = .ok ((.ifCond .eq 16), 3) := by decide +kernel
theorem dO_below_37 : decode cO_below 37 = .ok ((.iload_n 1), 1) := by decide +kernel
theorem dO_below_38 : decode cO_below 38 = .ok ((.iload_n 2), 1) := by decide +kernel
theorem dO_below_39 : decode cO_below 39 = .ok ((.iload 5), 2) := by decide +kernel
theorem dO_below_41 : decode cO_below 41 = .ok ((.invokestatic 75), 3) := by decide +kernel
theorem dO_below_44 : decode cO_below 44 = .ok ((.ifCond .eq 6), 3) := by decide +kernel
theorem dO_below_47 : decode cO_below 47 = .ok ((.iinc 4 1), 3) := by decide +kernel
theorem dO_below_50 : decode cO_below 50 = .ok ((.iinc 5 1), 3) := by decide +kernel
theorem dO_below_53 : decode cO_below 53 = .ok ((.goto (-47)), 3) := by decide +kernel
theorem dO_below_56 : decode cO_below 56 = .ok ((.iload 4), 2) := by decide +kernel
theorem dO_below_58 : decode cO_below 58 = .ok (.ireturn, 1) := by decide +kernel
end
section
theorem dM_init_0 : decode cM_init 0 = .ok ((.aload_n 0), 1) := by decide +kernel
theorem dM_init_1 : decode cM_init 1 = .ok ((.invokespecial 1), 3) := by decide +kernel
theorem dM_init_4 : decode cM_init 4 = .ok ((.aload_n 0), 1) := by decide +kernel
theorem dM_init_5 : decode cM_init 5 = .ok ((.iconst 1), 1) := by decide +kernel
theorem dM_init_6 : decode cM_init 6 = .ok ((.putfield 7), 3) := by decide +kernel
theorem dM_init_9 : decode cM_init 9 = .ok ((.aload_n 0), 1) := by decide +kernel
theorem dM_init_10 : decode cM_init 10 = .ok ((.bipush 6), 2) := by decide +kernel
theorem dM_init_12 : decode cM_init 12 = .ok ((.newarray .int), 2) := by decide +kernel
theorem dM_init_14 : decode cM_init 14 = .ok ((.putfield 13), 3) := by decide +kernel
theorem dM_init_17 : decode cM_init 17 = .ok ((.aload_n 0), 1) := by decide +kernel
theorem dM_init_18 : decode cM_init 18 = .ok ((.bipush 6), 2) := by decide +kernel
theorem dM_init_20 : decode cM_init 20 = .ok ((.newarray .int), 2) := by decide +kernel
theorem dM_init_22 : decode cM_init 22 = .ok ((.putfield 17), 3) := by decide +kernel
theorem dM_init_25 : decode cM_init 25 = .ok ((.aload_n 0), 1) := by decide +kernel
theorem dM_init_26 : decode cM_init 26 = .ok ((.bipush 60), 2) := by decide +kernel
theorem dM_init_28 : decode cM_init 28 = .ok ((.newarray .int), 2) := by decide +kernel
theorem dM_init_30 : decode cM_init 30 = .ok ((.putfield 20), 3) := by decide +kernel
theorem dM_init_33 : decode cM_init 33 = .ok ((.aload_n 0), 1) := by decide +kernel
theorem dM_init_34 : decode cM_init 34 = .ok ((.bipush 49), 2) := by decide +kernel
theorem dM_init_36 : decode cM_init 36 = .ok ((.newarray .int), 2) := by decide +kernel
theorem dM_init_38 : decode cM_init 38 = .ok ((.putfield 23), 3) := by decide +kernel
theorem dM_init_41 : decode cM_init 41 = .ok ((.aload_n 0), 1) := by decide +kernel
theorem dM_init_42 : decode cM_init 42 = .ok ((.bipush 21), 2) := by decide +kernel
theorem dM_init_44 : decode cM_init 44 = .ok ((.newarray .int), 2) := by decide +kernel
theorem dM_init_46 : decode cM_init 46 = .ok ((.putfield 26), 3) := by decide +kernel
theorem dM_init_49 : decode cM_init 49 = .ok ((.aload_n 0), 1) := by decide +kernel
theorem dM_init_50 : decode cM_init 50 = .ok ((.bipush 21), 2) := by decide +kernel
theorem dM_init_52 : decode cM_init 52 = .ok ((.newarray .int), 2) := by decide +kernel
theorem dM_init_54 : decode cM_init 54 = .ok ((.putfield 29), 3) := by decide +kernel
theorem dM_init_57 : decode cM_init 57 = .ok ((.aload_n 0), 1) := by decide +kernel
theorem dM_init_58 : decode cM_init 58 = .ok ((.bipush 7), 2) := by decide +kernel
theorem dM_init_60 : decode cM_init 60 = .ok ((.newarray .int), 2) := by decide +kernel
theorem dM_init_62 : decode cM_init 62 = .ok ((.putfield 32), 3) := by decide +kernel
theorem dM_init_65 : decode cM_init 65 = .ok ((.aload_n 0), 1) := by decide +kernel
theorem dM_init_66 : decode cM_init 66 = .ok ((.bipush 7), 2) := by decide +kernel
theorem dM_init_68 : decode cM_init 68 = .ok ((.newarray .int), 2) := by decide +kernel
theorem dM_init_70 : decode cM_init 70 = .ok ((.putfield 35), 3) := by decide +kernel
theorem dM_init_73 : decode cM_init 73 = .ok ((.aload_n 0), 1) := by decide +kernel
theorem dM_init_74 : decode cM_init 74 = .ok ((.bipush 6), 2) := by decide +kernel
theorem dM_init_76 : decode cM_init 76 = .ok ((.newarray .int), 2) := by decide +kernel
theorem dM_init_78 : decode cM_init 78 = .ok ((.putfield 38), 3) := by decide +kernel
theorem dM_init_81 : decode cM_init 81 = .ok ((.aload_n 0), 1) := by decide +kernel
theorem dM_init_82 : decode cM_init 82 = .ok ((.bipush 7), 2) := by decide +kernel
theorem dM_init_84 : decode cM_init 84 = .ok ((.newarray .int), 2) := by decide +kernel
theorem dM_init_86 : decode cM_init 86 = .ok ((.putfield 41), 3) := by decide +kernel
theorem dM_init_89 : decode cM_init 89 = .ok ((.aload_n 0), 1) := by decide +kernel
theorem dM_init_90 : decode cM_init 90 = .ok ((.bipush 7), 2) := by decide +kernel
theorem dM_init_92 : decode cM_init 92 = .ok ((.newarray .int), 2) := by decide +kernel
theorem dM_init_94 : decode cM_init 94 = .ok ((.putfield 44), 3) := by decide +kernel
theorem dM_init_97 : decode cM_init 97 = .ok ((.aload_n 0), 1) := by decide +kernel
theorem dM_init_98 : decode cM_init 98 = .ok ((.bipush 7), 2) := by decide +kernel
theorem dM_init_100 : decode cM_init 100 = .ok ((.newarray .int), 2) := by decide +kernel
theorem dM_init_102 : decode cM_init 102 = .ok ((.putfield 47), 3) := by decide +kernel
theorem dM_init_105 : decode cM_init 105 = .ok ((.aload_n 0), 1) := by decide +kernel
theorem dM_init_106 : decode cM_init 106 = .ok ((.bipush 7), 2) := by decide +kernel
theorem dM_init_108 : decode cM_init 108 = .ok ((.newarray .int), 2) := by decide +kernel
theorem dM_init_110 : decode cM_init 110 = .ok ((.putfield 50), 3) := by decide +kernel
theorem dM_init_113 : decode cM_init 113 = .ok ((.aload_n 0), 1) := by decide +kernel
theorem dM_init_114 : decode cM_init 114 = .ok ((.bipush 7), 2) := by decide +kernel
theorem dM_init_116 : decode cM_init 116 = .ok ((.newarray .int), 2) := by decide +kernel
theorem dM_init_118 : decode cM_init 118 = .ok ((.putfield 53), 3) := by decide +kernel
theorem dM_init_121 : decode cM_init 121 = .ok (.return_, 1) := by decide +kernel
theorem dM_thrown_0 : decode cM_thrown 0 = .ok ((.aload_n 0), 1) := by decide +kernel
theorem dM_thrown_1 : decode cM_thrown 1 = .ok ((.getfield 56), 3) := by decide +kernel
theorem dM_thrown_4 : decode cM_thrown 4 = .ok (.ireturn, 1) := by decide +kernel
theorem dM_strip_0 : decode cM_strip 0 = .ok ((.aload_n 0), 1) := by decide +kernel
theorem dM_strip_1 : decode cM_strip 1 = .ok ((.iload_n 1), 1) := by decide +kernel
theorem dM_strip_2 : decode cM_strip 2 = .ok ((.iconst 1), 1) := by decide +kernel
theorem dM_strip_3 : decode cM_strip 3 = .ok ((.if_icmp .lt 9), 3) := by decide +kernel
theorem dM_strip_6 : decode cM_strip 6 = .ok ((.iload_n 1), 1) := by decide +kernel
theorem dM_strip_7 : decode cM_strip 7 = .ok ((.bipush 60), 2) := by decide +kernel
theorem dM_strip_9 : decode cM_strip 9 = .ok ((.if_icmp .le 7), 3) := by decide +kernel
theorem dM_strip_12 : decode cM_strip 12 = .ok ((.iconst 1), 1) := by decide +kernel
theorem dM_strip_13 : decode cM_strip 13 = .ok ((.goto 4), 3) := by decide +kernel
theorem dM_strip_16 : decode cM_strip 16 = .ok ((.iconst 0), 1) := by decide +kernel
theorem dM_strip_17 : decode cM_strip 17 = .ok ((.iconst 0), 1) := by decide +kernel
theorem dM_strip_18 : decode cM_strip 18 = .ok ((.invokevirtual 59), 3) := by decide +kernel
theorem dM_strip_21 : decode cM_strip 21 = .ok ((.ifCond .eq 4), 3) := by decide +kernel
theorem dM_strip_24 : decode cM_strip 24 = .ok (.return_, 1) := by decide +kernel
theorem dM_strip_25 : decode cM_strip 25 = .ok ((.aload_n 0), 1) := by decide +kernel
theorem dM_strip_26 : decode cM_strip 26 = .ok ((.iload_n 1), 1) := by decide +kernel
theorem dM_strip_27 : decode cM_strip 27 = .ok ((.putfield 7), 3) := by decide +kernel
theorem dM_strip_30 : decode cM_strip 30 = .ok ((.aload_n 0), 1) := by decide +kernel
theorem dM_strip_31 : decode cM_strip 31 = .ok ((.iconst 0), 1) := by decide +kernel
theorem dM_strip_32 : decode cM_strip 32 = .ok ((.putfield 63), 3) := by decide +kernel
theorem dM_strip_35 : decode cM_strip 35 = .ok ((.aload_n 0), 1) := by decide +kernel
theorem dM_strip_36 : decode cM_strip 36 = .ok ((.iconst 0), 1) := by decide +kernel
theorem dM_strip_37 : decode cM_strip 37 = .ok ((.putfield 66), 3) := by decide +kernel
theorem dM_strip_40 : decode cM_strip 40 = .ok (.return_, 1) := by decide +kernel
theorem dM_refuse_0 : decode cM_refuse 0 = .ok ((.aload_n 0), 1) := by decide +kernel
theorem dM_refuse_1 : decode cM_refuse 1 = .ok ((.iload_n 1), 1) := by decide +kernel
theorem dM_refuse_2 : decode cM_refuse 2 = .ok ((.ifCond .eq 7), 3) := by decide +kernel
theorem dM_refuse_5 : decode cM_refuse 5 = .ok ((.iconst 1), 1) := by decide +kernel
theorem dM_refuse_6 : decode cM_refuse 6 = .ok ((.goto 12), 3) := by decide +kernel
theorem dM_refuse_9 : decode cM_refuse 9 = .ok ((.iload_n 2), 1) := by decide +kernel
theorem dM_refuse_10 : decode cM_refuse 10 = .ok ((.ifCond .eq 7), 3) := by decide +kernel
theorem dM_refuse_13 : decode cM_refuse 13 = .ok ((.iconst 2), 1) := by decide +kernel
theorem dM_refuse_14 : decode cM_refuse 14 = .ok ((.goto 4), 3) := by decide +kernel
theorem dM_refuse_17 : decode cM_refuse 17 = .ok ((.iconst 0), 1) := by decide +kernel
theorem dM_refuse_18 : decode cM_refuse 18 = .ok ((.putfield 56), 3) := by decide +kernel
theorem dM_refuse_21 : decode cM_refuse 21 = .ok ((.aload_n 0), 1) := by decide +kernel
theorem dM_refuse_22 : decode cM_refuse 22 = .ok ((.getfield 56), 3) := by decide +kernel
theorem dM_refuse_25 : decode cM_refuse 25 = .ok ((.ifCond .le 7), 3) := by decide +kernel
theorem dM_refuse_28 : decode cM_refuse 28 = .ok ((.iconst 1), 1) := by decide +kernel
theorem dM_refuse_29 : decode cM_refuse 29 = .ok ((.goto 4), 3) := by decide +kernel
theorem dM_refuse_32 : decode cM_refuse 32 = .ok ((.iconst 0), 1) := by decide +kernel
theorem dM_refuse_33 : decode cM_refuse 33 = .ok (.ireturn, 1) := by decide +kernel
theorem dM_crease_0 : decode cM_crease 0 = .ok ((.aload_n 0), 1) := by decide +kernel
theorem dM_crease_1 : decode cM_crease 1 = .ok ((.iload_n 1), 1) := by decide +kernel
theorem dM_crease_2 : decode cM_crease 2 = .ok ((.invokevirtual 70), 3) := by decide +kernel
theorem dM_crease_5 : decode cM_crease 5 = .ok ((.istore_n 3), 1) := by decide +kernel
theorem dM_crease_6 : decode cM_crease 6 = .ok ((.iload_n 3), 1) := by decide +kernel
theorem dM_crease_7 : decode cM_crease 7 = .ok ((.aload_n 0), 1) := by decide +kernel
theorem dM_crease_8 : decode cM_crease 8 = .ok ((.getfield 63), 3) := by decide +kernel
theorem dM_crease_11 : decode cM_crease 11 = .ok ((.if_icmp .ge 17), 3) := by decide +kernel
theorem dM_crease_14 : decode cM_crease 14 = .ok ((.aload_n 0), 1) := by decide +kernel
theorem dM_crease_15 : decode cM_crease 15 = .ok ((.getfield 13), 3) := by decide +kernel
theorem dM_crease_18 : decode cM_crease 18 = .ok ((.iload_n 3), 1) := by decide +kernel
theorem dM_crease_19 : decode cM_crease 19 = .ok (.iaload, 1) := by decide +kernel
theorem dM_crease_20 : decode cM_crease 20 = .ok ((.iload_n 1), 1) := by decide +kernel
theorem dM_crease_21 : decode cM_crease 21 = .ok ((.if_icmp .ne 7), 3) := by decide +kernel
theorem dM_crease_24 : decode cM_crease 24 = .ok ((.iconst 1), 1) := by decide +kernel
theorem dM_crease_25 : decode cM_crease 25 = .ok ((.goto 4), 3) := by decide +kernel
theorem dM_crease_28 : decode cM_crease 28 = .ok ((.iconst 0), 1) := by decide +kernel
theorem dM_crease_29 : decode cM_crease 29 = .ok ((.istore 4), 2) := by decide +kernel
theorem dM_crease_31 : decode cM_crease 31 = .ok ((.iload_n 1), 1) := by decide +kernel
theorem dM_crease_32 : decode cM_crease 32 = .ok ((.iconst 1), 1) := by decide +kernel
theorem dM_crease_33 : decode cM_crease 33 = .ok ((.if_icmp .lt 30), 3) := by decide +kernel
theorem dM_crease_36 : decode cM_crease 36 = .ok ((.iload_n 1), 1) := by decide +kernel
theorem dM_crease_37 : decode cM_crease 37 = .ok ((.aload_n 0), 1) := by decide +kernel
theorem dM_crease_38 : decode cM_crease 38 = .ok ((.getfield 7), 3) := by decide +kernel
theorem dM_crease_41 : decode cM_crease 41 = .ok ((.if_icmp .ge 22), 3) := by decide +kernel
theorem dM_crease_44 : decode cM_crease 44 = .ok ((.iload_n 2), 1) := by decide +kernel
theorem dM_crease_45 : decode cM_crease 45 = .ok ((.ifCond .lt 18), 3) := by decide +kernel
theorem dM_crease_48 : decode cM_crease 48 = .ok ((.iload_n 2), 1) := by decide +kernel
theorem dM_crease_49 : decode cM_crease 49 = .ok ((.iconst 3), 1) := by decide +kernel
theorem dM_crease_50 : decode cM_crease 50 = .ok ((.if_icmp .gt 13), 3) := by decide +kernel
theorem dM_crease_53 : decode cM_crease 53 = .ok ((.iload_n 2), 1) := by decide +kernel
theorem dM_crease_54 : decode cM_crease 54 = .ok ((.iconst 3), 1) := by decide +kernel
theorem dM_crease_55 : decode cM_crease 55 = .ok ((.if_icmp .ne 12), 3) := by decide +kernel
theorem dM_crease_58 : decode cM_crease 58 = .ok ((.iload 4), 2) := by decide +kernel
theorem dM_crease_60 : decode cM_crease 60 = .ok ((.ifCond .ne 7), 3) := by decide +kernel
theorem dM_crease_63 : decode cM_crease 63 = .ok ((.iconst 1), 1) := by decide +kernel
theorem dM_crease_64 : decode cM_crease 64 = .ok ((.goto 4), 3) := by decide +kernel
theorem dM_crease_67 : decode cM_crease 67 = .ok ((.iconst 0), 1) := by decide +kernel
theorem dM_crease_68 : decode cM_crease 68 = .ok ((.istore 5), 2) := by decide +kernel
theorem dM_crease_70 : decode cM_crease 70 = .ok ((.aload_n 0), 1) := by decide +kernel
theorem dM_crease_71 : decode cM_crease 71 = .ok ((.iload 5), 2) := by decide +kernel
theorem dM_crease_73 : decode cM_crease 73 = .ok ((.iload 4), 2) := by decide +kernel
theorem dM_crease_75 : decode cM_crease 75 = .ok ((.ifCond .ne 16), 3) := by decide +kernel
theorem dM_crease_78 : decode cM_crease 78 = .ok ((.aload_n 0), 1) := by decide +kernel
theorem dM_crease_79 : decode cM_crease 79 = .ok ((.getfield 63), 3) := by decide +kernel
theorem dM_crease_82 : decode cM_crease 82 = .ok ((.bipush 6), 2) := by decide +kernel
theorem dM_crease_84 : decode cM_crease 84 = .ok ((.if_icmp .ne 7), 3) := by decide +kernel
theorem dM_crease_87 : decode cM_crease 87 = .ok ((.iconst 1), 1) := by decide +kernel
theorem dM_crease_88 : decode cM_crease 88 = .ok ((.goto 4), 3) := by decide +kernel
theorem dM_crease_91 : decode cM_crease 91 = .ok ((.iconst 0), 1) := by decide +kernel
theorem dM_crease_92 : decode cM_crease 92 = .ok ((.invokevirtual 59), 3) := by decide +kernel
theorem dM_crease_95 : decode cM_crease 95 = .ok ((.ifCond .eq 5), 3) := by decide +kernel
theorem dM_crease_98 : decode cM_crease 98 = .ok ((.iconst 0), 1) := by decide +kernel
theorem dM_crease_99 : decode cM_crease 99 = .ok (.ireturn, 1) := by decide +kernel
theorem dM_crease_100 : decode cM_crease 100 = .ok ((.iload 4), 2) := by decide +kernel
theorem dM_crease_102 : decode cM_crease 102 = .ok ((.ifCond .eq 18), 3) := by decide +kernel
theorem dM_crease_105 : decode cM_crease 105 = .ok ((.iload_n 2), 1) := by decide +kernel
theorem dM_crease_106 : decode cM_crease 106 = .ok ((.iconst 3), 1) := by decide +kernel
theorem dM_crease_107 : decode cM_crease 107 = .ok ((.if_icmp .ge 13), 3) := by decide +kernel
theorem dM_crease_110 : decode cM_crease 110 = .ok ((.aload_n 0), 1) := by decide +kernel
theorem dM_crease_111 : decode cM_crease 111 = .ok ((.getfield 17), 3) := by decide +kernel
theorem dM_crease_114 : decode cM_crease 114 = .ok ((.iload_n 3), 1) := by decide +kernel
theorem dM_crease_115 : decode cM_crease 115 = .ok ((.iload_n 2), 1) := by decide +kernel
theorem dM_crease_116 : decode cM_crease 116 = .ok (.iastore, 1) := by decide +kernel
theorem dM_crease_117 : decode cM_crease 117 = .ok ((.goto 145), 3) := by decide +kernel
theorem dM_crease_120 : decode cM_crease 120 = .ok ((.iload 4), 2) := by decide +kernel
theorem dM_crease_122 : decode cM_crease 122 = .ok ((.ifCond .eq 66), 3) := by decide +kernel
theorem dM_crease_125 : decode cM_crease 125 = .ok ((.aload_n 0), 1) := by decide +kernel
theorem dM_crease_126 : decode cM_crease 126 = .ok (.dup, 1) := by decide +kernel
theorem dM_crease_127 : decode cM_crease 127 = .ok ((.getfield 63), 3) := by decide +kernel
theorem dM_crease_130 : decode cM_crease 130 = .ok ((.iconst 1), 1) := by decide +kernel
theorem dM_crease_131 : decode cM_crease 131 = .ok (.isub, 1) := by decide +kernel
theorem dM_crease_132 : decode cM_crease 132 = .ok ((.putfield 63), 3) := by decide +kernel
theorem dM_crease_135 : decode cM_crease 135 = .ok ((.iload_n 3), 1) := by decide +kernel
theorem dM_crease_136 : decode cM_crease 136 = .ok ((.istore 6), 2) := by decide +kernel
theorem dM_crease_138 : decode cM_crease 138 = .ok ((.iload 6), 2) := by decide +kernel
theorem dM_crease_140 : decode cM_crease 140 = .ok ((.aload_n 0), 1) := by decide +kernel
theorem dM_crease_141 : decode cM_crease 141 = .ok ((.getfield 63), 3) := by decide +kernel
theorem dM_crease_144 : decode cM_crease 144 = .ok ((.if_icmp .ge 41), 3) := by decide +kernel
theorem dM_crease_147 : decode cM_crease 147 = .ok ((.aload_n 0), 1) := by decide +kernel
theorem dM_crease_148 : decode cM_crease 148 = .ok ((.getfield 13), 3) := by decide +kernel
theorem dM_crease_151 : decode cM_crease 151 = .ok ((.iload 6), 2) := by decide +kernel
theorem dM_crease_153 : decode cM_crease 153 = .ok ((.aload_n 0), 1) := by decide +kernel
theorem dM_crease_154 : decode cM_crease 154 = .ok ((.getfield 13), 3) := by decide +kernel
theorem dM_crease_157 : decode cM_crease 157 = .ok ((.iload 6), 2) := by decide +kernel
theorem dM_crease_159 : decode cM_crease 159 = .ok ((.iconst 1), 1) := by decide +kernel
theorem dM_crease_160 : decode cM_crease 160 = .ok (.iadd, 1) := by decide +kernel
theorem dM_crease_161 : decode cM_crease 161 = .ok (.iaload, 1) := by decide +kernel
theorem dM_crease_162 : decode cM_crease 162 = .ok (.iastore, 1) := by decide +kernel
theorem dM_crease_163 : decode cM_crease 163 = .ok ((.aload_n 0), 1) := by decide +kernel
theorem dM_crease_164 : decode cM_crease 164 = .ok ((.getfield 17), 3) := by decide +kernel
theorem dM_crease_167 : decode cM_crease 167 = .ok ((.iload 6), 2) := by decide +kernel
theorem dM_crease_169 : decode cM_crease 169 = .ok ((.aload_n 0), 1) := by decide +kernel
theorem dM_crease_170 : decode cM_crease 170 = .ok ((.getfield 17), 3) := by decide +kernel
theorem dM_crease_173 : decode cM_crease 173 = .ok ((.iload 6), 2) := by decide +kernel
theorem dM_crease_175 : decode cM_crease 175 = .ok ((.iconst 1), 1) := by decide +kernel
theorem dM_crease_176 : decode cM_crease 176 = .ok (.iadd, 1) := by decide +kernel
theorem dM_crease_177 : decode cM_crease 177 = .ok (.iaload, 1) := by decide +kernel
theorem dM_crease_178 : decode cM_crease 178 = .ok (.iastore, 1) := by decide +kernel
theorem dM_crease_179 : decode cM_crease 179 = .ok ((.iinc 6 1), 3) := by decide +kernel
theorem dM_crease_182 : decode cM_crease 182 = .ok ((.goto (-44)), 3) := by decide +kernel
theorem dM_crease_185 : decode cM_crease 185 = .ok ((.goto 77), 3) := by decide +kernel
theorem dM_crease_188 : decode cM_crease 188 = .ok ((.aload_n 0), 1) := by decide +kernel
theorem dM_crease_189 : decode cM_crease 189 = .ok ((.getfield 63), 3) := by decide +kernel
theorem dM_crease_192 : decode cM_crease 192 = .ok ((.istore 6), 2) := by decide +kernel
theorem dM_crease_194 : decode cM_crease 194 = .ok ((.iload 6), 2) := by decide +kernel
theorem dM_crease_196 : decode cM_crease 196 = .ok ((.iload_n 3), 1) := by decide +kernel
theorem dM_crease_197 : decode cM_crease 197 = .ok ((.if_icmp .le 41), 3) := by decide +kernel
theorem dM_crease_200 : decode cM_crease 200 = .ok ((.aload_n 0), 1) := by decide +kernel
theorem dM_crease_201 : decode cM_crease 201 = .ok ((.getfield 13), 3) := by decide +kernel
theorem dM_crease_204 : decode cM_crease 204 = .ok ((.iload 6), 2) := by decide +kernel
theorem dM_crease_206 : decode cM_crease 206 = .ok ((.aload_n 0), 1) := by decide +kernel
theorem dM_crease_207 : decode cM_crease 207 = .ok ((.getfield 13), 3) := by decide +kernel
theorem dM_crease_210 : decode cM_crease 210 = .ok ((.iload 6), 2) := by decide +kernel
theorem dM_crease_212 : decode cM_crease 212 = .ok ((.iconst 1), 1) := by decide +kernel
theorem dM_crease_213 : decode cM_crease 213 = .ok (.isub, 1) := by decide +kernel
theorem dM_crease_214 : decode cM_crease 214 = .ok (.iaload, 1) := by decide +kernel
theorem dM_crease_215 : decode cM_crease 215 = .ok (.iastore, 1) := by decide +kernel
theorem dM_crease_216 : decode cM_crease 216 = .ok ((.aload_n 0), 1) := by decide +kernel
theorem dM_crease_217 : decode cM_crease 217 = .ok ((.getfield 17), 3) := by decide +kernel
theorem dM_crease_220 : decode cM_crease 220 = .ok ((.iload 6), 2) := by decide +kernel
theorem dM_crease_222 : decode cM_crease 222 = .ok ((.aload_n 0), 1) := by decide +kernel
theorem dM_crease_223 : decode cM_crease 223 = .ok ((.getfield 17), 3) := by decide +kernel
theorem dM_crease_226 : decode cM_crease 226 = .ok ((.iload 6), 2) := by decide +kernel
theorem dM_crease_228 : decode cM_crease 228 = .ok ((.iconst 1), 1) := by decide +kernel
theorem dM_crease_229 : decode cM_crease 229 = .ok (.isub, 1) := by decide +kernel
theorem dM_crease_230 : decode cM_crease 230 = .ok (.iaload, 1) := by decide +kernel
theorem dM_crease_231 : decode cM_crease 231 = .ok (.iastore, 1) := by decide +kernel
theorem dM_crease_232 : decode cM_crease 232 = .ok ((.iinc 6 (-1)), 3) := by decide +kernel
theorem dM_crease_235 : decode cM_crease 235 = .ok ((.goto (-41)), 3) := by decide +kernel
theorem dM_crease_238 : decode cM_crease 238 = .ok ((.aload_n 0), 1) := by decide +kernel
theorem dM_crease_239 : decode cM_crease 239 = .ok ((.getfield 13), 3) := by decide +kernel
theorem dM_crease_242 : decode cM_crease 242 = .ok ((.iload_n 3), 1) := by decide +kernel
theorem dM_crease_243 : decode cM_crease 243 = .ok ((.iload_n 1), 1) := by decide +kernel
theorem dM_crease_244 : decode cM_crease 244 = .ok (.iastore, 1) := by decide +kernel
theorem dM_crease_245 : decode cM_crease 245 = .ok ((.aload_n 0), 1) := by decide +kernel
theorem dM_crease_246 : decode cM_crease 246 = .ok ((.getfield 17), 3) := by decide +kernel
theorem dM_crease_249 : decode cM_crease 249 = .ok ((.iload_n 3), 1) := by decide +kernel
theorem dM_crease_250 : decode cM_crease 250 = .ok ((.iload_n 2), 1) := by decide +kernel
theorem dM_crease_251 : decode cM_crease 251 = .ok (.iastore, 1) := by decide +kernel
theorem dM_crease_252 : decode cM_crease 252 = .ok ((.aload_n 0), 1) := by decide +kernel
theorem dM_crease_253 : decode cM_crease 253 = .ok (.dup, 1) := by decide +kernel
theorem dM_crease_254 : decode cM_crease 254 = .ok ((.getfield 63), 3) := by decide +kernel
theorem dM_crease_257 : decode cM_crease 257 = .ok ((.iconst 1), 1) := by decide +kernel
theorem dM_crease_258 : decode cM_crease 258 = .ok (.iadd, 1) := by decide +kernel
theorem dM_crease_259 : decode cM_crease 259 = .ok ((.putfield 63), 3) := by decide +kernel
theorem dM_crease_262 : decode cM_crease 262 = .ok ((.aload_n 0), 1) := by decide +kernel
theorem dM_crease_263 : decode cM_crease 263 = .ok ((.getfield 63), 3) := by decide +kernel
theorem dM_crease_266 : decode cM_crease 266 = .ok (.ireturn, 1) := by decide +kernel
theorem dM_before_0 : decode cM_before 0 = .ok ((.iconst 0), 1) := by decide +kernel
theorem dM_before_1 : decode cM_before 1 = .ok ((.istore_n 2), 1) := by decide +kernel
theorem dM_before_2 : decode cM_before 2 = .ok ((.iconst 0), 1) := by decide +kernel
theorem dM_before_3 : decode cM_before 3 = .ok ((.istore_n 3), 1) := by decide +kernel
theorem dM_before_4 : decode cM_before 4 = .ok ((.iload_n 3), 1) := by decide +kernel
theorem dM_before_5 : decode cM_before 5 = .ok ((.aload_n 0), 1) := by decide +kernel
theorem dM_before_6 : decode cM_before 6 = .ok ((.getfield 63), 3) := by decide +kernel
theorem dM_before_9 : decode cM_before 9 = .ok ((.if_icmp .ge 27), 3) := by decide +kernel
theorem dM_before_12 : decode cM_before 12 = .ok ((.iload_n 2), 1) := by decide +kernel
theorem dM_before_13 : decode cM_before 13 = .ok ((.aload_n 0), 1) := by decide +kernel
theorem dM_before_14 : decode cM_before 14 = .ok ((.getfield 13), 3) := by decide +kernel
theorem dM_before_17 : decode cM_before 17 = .ok ((.iload_n 3), 1) := by decide +kernel
theorem dM_before_18 : decode cM_before 18 = .ok (.iaload, 1) := by decide +kernel
theorem dM_before_19 : decode cM_before 19 = .ok ((.iload_n 1), 1) := by decide +kernel
theorem dM_before_20 : decode cM_before 20 = .ok ((.if_icmp .ge 7), 3) := by decide +kernel
theorem dM_before_23 : decode cM_before 23 = .ok ((.iconst 1), 1) := by decide +kernel
theorem dM_before_24 : decode cM_before 24 = .ok ((.goto 4), 3) := by decide +kernel
theorem dM_before_27 : decode cM_before 27 = .ok ((.iconst 0), 1) := by decide +kernel
theorem dM_before_28 : decode cM_before 28 = .ok (.iadd, 1) := by decide +kernel
theorem dM_before_29 : decode cM_before 29 = .ok ((.istore_n 2), 1) := by decide +kernel
theorem dM_before_30 : decode cM_before 30 = .ok ((.iinc 3 1), 3) := by decide +kernel
theorem dM_before_33 : decode cM_before 33 = .ok ((.goto (-29)), 3) := by decide +kernel
theorem dM_before_36 : decode cM_before 36 = .ok ((.iload_n 2), 1) := by decide +kernel
theorem dM_before_37 : decode cM_before 37 = .ok (.ireturn, 1) := by decide +kernel
theorem dM_turn_0 : decode cM_turn 0 = .ok ((.aload_n 0), 1) := by decide +kernel
theorem dM_turn_1 : decode cM_turn 1 = .ok ((.iconst 0), 1) := by decide +kernel
theorem dM_turn_2 : decode cM_turn 2 = .ok ((.putfield 56), 3) := by decide +kernel
theorem dM_turn_5 : decode cM_turn 5 = .ok ((.aload_n 0), 1) := by decide +kernel
theorem dM_turn_6 : decode cM_turn 6 = .ok ((.aload_n 0), 1) := by decide +kernel
theorem dM_turn_7 : decode cM_turn 7 = .ok ((.getfield 66), 3) := by decide +kernel
theorem dM_turn_10 : decode cM_turn 10 = .ok ((.ifCond .ne 7), 3) := by decide +kernel
theorem dM_turn_13 : decode cM_turn 13 = .ok ((.iconst 1), 1) := by decide +kernel
theorem dM_turn_14 : decode cM_turn 14 = .ok ((.goto 4), 3) := by decide +kernel
theorem dM_turn_17 : decode cM_turn 17 = .ok ((.iconst 0), 1) := by decide +kernel
theorem dM_turn_18 : decode cM_turn 18 = .ok ((.putfield 66), 3) := by decide +kernel
theorem dM_turn_21 : decode cM_turn 21 = .ok ((.aload_n 0), 1) := by decide +kernel
theorem dM_turn_22 : decode cM_turn 22 = .ok ((.getfield 66), 3) := by decide +kernel
theorem dM_turn_25 : decode cM_turn 25 = .ok (.ireturn, 1) := by decide +kernel
theorem dM_count_0 : decode cM_count 0 = .ok ((.aload_n 0), 1) := by decide +kernel
theorem dM_count_1 : decode cM_count 1 = .ok ((.iconst 0), 1) := by decide +kernel
theorem dM_count_2 : decode cM_count 2 = .ok ((.putfield 56), 3) := by decide +kernel
theorem dM_count_5 : decode cM_count 5 = .ok ((.iload_n 1), 1) := by decide +kernel
theorem dM_count_6 : decode cM_count 6 = .ok ((.ifCond .ne 10), 3) := by decide +kernel
theorem dM_count_9 : decode cM_count 9 = .ok ((.aload_n 0), 1) := by decide +kernel
theorem dM_count_10 : decode cM_count 10 = .ok ((.getfield 7), 3) := by decide +kernel
theorem dM_count_13 : decode cM_count 13 = .ok ((.goto 40), 3) := by decide +kernel
theorem dM_count_16 : decode cM_count 16 = .ok ((.iload_n 1), 1) := by decide +kernel
theorem dM_count_17 : decode cM_count 17 = .ok ((.iconst 1), 1) := by decide +kernel
theorem dM_count_18 : decode cM_count 18 = .ok ((.if_icmp .ne 10), 3) := by decide +kernel
theorem dM_count_21 : decode cM_count 21 = .ok ((.aload_n 0), 1) := by decide +kernel
theorem dM_count_22 : decode cM_count 22 = .ok ((.getfield 63), 3) := by decide +kernel
theorem dM_count_25 : decode cM_count 25 = .ok ((.goto 28), 3) := by decide +kernel
theorem dM_count_28 : decode cM_count 28 = .ok ((.iload_n 1), 1) := by decide +kernel
theorem dM_count_29 : decode cM_count 29 = .ok ((.iconst 2), 1) := by decide +kernel
theorem dM_count_30 : decode cM_count 30 = .ok ((.if_icmp .ne 10), 3) := by decide +kernel
theorem dM_count_33 : decode cM_count 33 = .ok ((.aload_n 0), 1) := by decide +kernel
theorem dM_count_34 : decode cM_count 34 = .ok ((.invokevirtual 74), 3) := by decide +kernel
theorem dM_count_37 : decode cM_count 37 = .ok ((.goto 16), 3) := by decide +kernel
theorem dM_count_40 : decode cM_count 40 = .ok ((.iload_n 1), 1) := by decide +kernel
theorem dM_count_41 : decode cM_count 41 = .ok ((.iconst 3), 1) := by decide +kernel
theorem dM_count_42 : decode cM_count 42 = .ok ((.if_icmp .ne 10), 3) := by decide +kernel
theorem dM_count_45 : decode cM_count 45 = .ok ((.aload_n 0), 1) := by decide +kernel
theorem dM_count_46 : decode cM_count 46 = .ok ((.getfield 78), 3) := by decide +kernel
theorem dM_count_49 : decode cM_count 49 = .ok ((.goto 4), 3) := by decide +kernel
theorem dM_count_52 : decode cM_count 52 = .ok ((.iconst (-1)), 1) := by decide +kernel
theorem dM_count_53 : decode cM_count 53 = .ok (.ireturn, 1) := by decide +kernel
theorem dM_free_0 : decode cM_free 0 = .ok ((.iconst 0), 1) := by decide +kernel
theorem dM_free_1 : decode cM_free 1 = .ok ((.istore_n 1), 1) := by decide +kernel
theorem dM_free_2 : decode cM_free 2 = .ok ((.iconst 0), 1) := by decide +kernel
theorem dM_free_3 : decode cM_free 3 = .ok ((.istore_n 2), 1) := by decide +kernel
theorem dM_free_4 : decode cM_free 4 = .ok ((.iload_n 2), 1) := by decide +kernel
theorem dM_free_5 : decode cM_free 5 = .ok ((.aload_n 0), 1) := by decide +kernel
theorem dM_free_6 : decode cM_free 6 = .ok ((.getfield 63), 3) := by decide +kernel
theorem dM_free_9 : decode cM_free 9 = .ok ((.if_icmp .ge 26), 3) := by decide +kernel
theorem dM_free_12 : decode cM_free 12 = .ok ((.iload_n 1), 1) := by decide +kernel
theorem dM_free_13 : decode cM_free 13 = .ok ((.aload_n 0), 1) := by decide +kernel
theorem dM_free_14 : decode cM_free 14 = .ok ((.getfield 17), 3) := by decide +kernel
theorem dM_free_17 : decode cM_free 17 = .ok ((.iload_n 2), 1) := by decide +kernel
theorem dM_free_18 : decode cM_free 18 = .ok (.iaload, 1) := by decide +kernel
theorem dM_free_19 : decode cM_free 19 = .ok ((.ifCond .ne 7), 3) := by decide +kernel
theorem dM_free_22 : decode cM_free 22 = .ok ((.iconst 1), 1) := by decide +kernel
theorem dM_free_23 : decode cM_free 23 = .ok ((.goto 4), 3) := by decide +kernel
theorem dM_free_26 : decode cM_free 26 = .ok ((.iconst 0), 1) := by decide +kernel
theorem dM_free_27 : decode cM_free 27 = .ok (.iadd, 1) := by decide +kernel
theorem dM_free_28 : decode cM_free 28 = .ok ((.istore_n 1), 1) := by decide +kernel
theorem dM_free_29 : decode cM_free 29 = .ok ((.iinc 2 1), 3) := by decide +kernel
theorem dM_free_32 : decode cM_free 32 = .ok ((.goto (-28)), 3) := by decide +kernel
theorem dM_free_35 : decode cM_free 35 = .ok ((.iload_n 1), 1) := by decide +kernel
theorem dM_free_36 : decode cM_free 36 = .ok (.ireturn, 1) := by decide +kernel
theorem dM_segment_0 : decode cM_segment 0 = .ok ((.aload_n 0), 1) := by decide +kernel
theorem dM_segment_1 : decode cM_segment 1 = .ok ((.iload_n 1), 1) := by decide +kernel
theorem dM_segment_2 : decode cM_segment 2 = .ok ((.ifCond .lt 11), 3) := by decide +kernel
theorem dM_segment_5 : decode cM_segment 5 = .ok ((.iload_n 1), 1) := by decide +kernel
theorem dM_segment_6 : decode cM_segment 6 = .ok ((.aload_n 0), 1) := by decide +kernel
theorem dM_segment_7 : decode cM_segment 7 = .ok ((.getfield 63), 3) := by decide +kernel
theorem dM_segment_10 : decode cM_segment 10 = .ok ((.if_icmp .le 7), 3) := by decide +kernel
theorem dM_segment_13 : decode cM_segment 13 = .ok ((.iconst 1), 1) := by decide +kernel
theorem dM_segment_14 : decode cM_segment 14 = .ok ((.goto 4), 3) := by decide +kernel
theorem dM_segment_17 : decode cM_segment 17 = .ok ((.iconst 0), 1) := by decide +kernel
theorem dM_segment_18 : decode cM_segment 18 = .ok ((.iload_n 2), 1) := by decide +kernel
theorem dM_segment_19 : decode cM_segment 19 = .ok ((.ifCond .lt 8), 3) := by decide +kernel
theorem dM_segment_22 : decode cM_segment 22 = .ok ((.iload_n 2), 1) := by decide +kernel
theorem dM_segment_23 : decode cM_segment 23 = .ok ((.iconst 5), 1) := by decide +kernel
theorem dM_segment_24 : decode cM_segment 24 = .ok ((.if_icmp .le 7), 3) := by decide +kernel
theorem dM_segment_27 : decode cM_segment 27 = .ok ((.iconst 1), 1) := by decide +kernel
theorem dM_segment_28 : decode cM_segment 28 = .ok ((.goto 4), 3) := by decide +kernel
theorem dM_segment_31 : decode cM_segment 31 = .ok ((.iconst 0), 1) := by decide +kernel
theorem dM_segment_32 : decode cM_segment 32 = .ok ((.invokevirtual 59), 3) := by decide +kernel
theorem dM_segment_35 : decode cM_segment 35 = .ok ((.ifCond .eq 5), 3) := by decide +kernel
theorem dM_segment_38 : decode cM_segment 38 = .ok ((.iconst 0), 1) := by decide +kernel
theorem dM_segment_39 : decode cM_segment 39 = .ok (.ireturn, 1) := by decide +kernel
theorem dM_segment_40 : decode cM_segment 40 = .ok ((.iload_n 2), 1) := by decide +kernel
theorem dM_segment_41 : decode cM_segment 41 = .ok ((.tableswitch 73 0 4 #[35, 41, 47, 53, 59]), 35) := by decide +kernel
theorem dM_segment_76 : decode cM_segment 76 = .ok ((.aload_n 0), 1) := by decide +kernel
theorem dM_segment_77 : decode cM_segment 77 = .ok ((.iload_n 1), 1) := by decide +kernel
theorem dM_segment_78 : decode cM_segment 78 = .ok ((.invokevirtual 81), 3) := by decide +kernel
theorem dM_segment_81 : decode cM_segment 81 = .ok (.ireturn, 1) := by decide +kernel
theorem dM_segment_82 : decode cM_segment 82 = .ok ((.aload_n 0), 1) := by decide +kernel
theorem dM_segment_83 : decode cM_segment 83 = .ok ((.iload_n 1), 1) := by decide +kernel
theorem dM_segment_84 : decode cM_segment 84 = .ok ((.invokevirtual 87), 3) := by decide +kernel
theorem dM_segment_87 : decode cM_segment 87 = .ok (.ireturn, 1) := by decide +kernel
theorem dM_segment_88 : decode cM_segment 88 = .ok ((.aload_n 0), 1) := by decide +kernel
theorem dM_segment_89 : decode cM_segment 89 = .ok ((.iload_n 1), 1) := by decide +kernel
theorem dM_segment_90 : decode cM_segment 90 = .ok ((.invokevirtual 90), 3) := by decide +kernel
theorem dM_segment_93 : decode cM_segment 93 = .ok (.ireturn, 1) := by decide +kernel
theorem dM_segment_94 : decode cM_segment 94 = .ok ((.aload_n 0), 1) := by decide +kernel
theorem dM_segment_95 : decode cM_segment 95 = .ok ((.iload_n 1), 1) := by decide +kernel
theorem dM_segment_96 : decode cM_segment 96 = .ok ((.invokevirtual 93), 3) := by decide +kernel
theorem dM_segment_99 : decode cM_segment 99 = .ok (.ireturn, 1) := by decide +kernel
theorem dM_segment_100 : decode cM_segment 100 = .ok ((.aload_n 0), 1) := by decide +kernel
theorem dM_segment_101 : decode cM_segment 101 = .ok ((.iload_n 1), 1) := by decide +kernel
theorem dM_segment_102 : decode cM_segment 102 = .ok ((.invokevirtual 96), 3) := by decide +kernel
theorem dM_segment_105 : decode cM_segment 105 = .ok ((.ifCond .eq 7), 3) := by decide +kernel
theorem dM_segment_108 : decode cM_segment 108 = .ok ((.iconst 1), 1) := by decide +kernel
theorem dM_segment_109 : decode cM_segment 109 = .ok ((.goto 4), 3) := by decide +kernel
theorem dM_segment_112 : decode cM_segment 112 = .ok ((.iconst 0), 1) := by decide +kernel
theorem dM_segment_113 : decode cM_segment 113 = .ok (.ireturn, 1) := by decide +kernel
theorem dM_segment_114 : decode cM_segment 114 = .ok ((.iload_n 1), 1) := by decide +kernel
theorem dM_segment_115 : decode cM_segment 115 = .ok ((.aload_n 0), 1) := by decide +kernel
theorem dM_segment_116 : decode cM_segment 116 = .ok ((.getfield 63), 3) := by decide +kernel
theorem dM_segment_119 : decode cM_segment 119 = .ok ((.if_icmp .ge 12), 3) := by decide +kernel
theorem dM_segment_122 : decode cM_segment 122 = .ok ((.aload_n 0), 1) := by decide +kernel
theorem dM_segment_123 : decode cM_segment 123 = .ok ((.getfield 17), 3) := by decide +kernel
theorem dM_segment_126 : decode cM_segment 126 = .ok ((.iload_n 1), 1) := by decide +kernel
theorem dM_segment_127 : decode cM_segment 127 = .ok (.iaload, 1) := by decide +kernel
theorem dM_segment_128 : decode cM_segment 128 = .ok ((.goto 4), 3) := by decide +kernel
theorem dM_segment_131 : decode cM_segment 131 = .ok ((.iconst (-1)), 1) := by decide +kernel
theorem dM_segment_132 : decode cM_segment 132 = .ok (.ireturn, 1) := by decide +kernel
theorem dM_leftEnd_0 : decode cM_leftEnd 0 = .ok ((.iload_n 1), 1) := by decide +kernel
theorem dM_leftEnd_1 : decode cM_leftEnd 1 = .ok ((.ifCond .ne 7), 3) := by decide +kernel
theorem dM_leftEnd_4 : decode cM_leftEnd 4 = .ok ((.iconst 0), 1) := by decide +kernel
theorem dM_leftEnd_5 : decode cM_leftEnd 5 = .ok ((.goto 11), 3) := by decide +kernel
theorem dM_leftEnd_8 : decode cM_leftEnd 8 = .ok ((.aload_n 0), 1) := by decide +kernel
theorem dM_leftEnd_9 : decode cM_leftEnd 9 = .ok ((.getfield 13), 3) := by decide +kernel
theorem dM_leftEnd_12 : decode cM_leftEnd 12 = .ok ((.iload_n 1), 1) := by decide +kernel
theorem dM_leftEnd_13 : decode cM_leftEnd 13 = .ok ((.iconst 1), 1) := by decide +kernel
theorem dM_leftEnd_14 : decode cM_leftEnd 14 = .ok (.isub, 1) := by decide +kernel
theorem dM_leftEnd_15 : decode cM_leftEnd 15 = .ok (.iaload, 1) := by decide +kernel
theorem dM_leftEnd_16 : decode cM_leftEnd 16 = .ok (.ireturn, 1) := by decide +kernel
theorem dM_rightEnd_0 : decode cM_rightEnd 0 = .ok ((.iload_n 1), 1) := by decide +kernel
theorem dM_rightEnd_1 : decode cM_rightEnd 1 = .ok ((.aload_n 0), 1) := by decide +kernel
theorem dM_rightEnd_2 : decode cM_rightEnd 2 = .ok ((.getfield 63), 3) := by decide +kernel
theorem dM_rightEnd_5 : decode cM_rightEnd 5 = .ok ((.if_icmp .ne 10), 3) := by decide +kernel
theorem dM_rightEnd_8 : decode cM_rightEnd 8 = .ok ((.aload_n 0), 1) := by decide +kernel
theorem dM_rightEnd_9 : decode cM_rightEnd 9 = .ok ((.getfield 7), 3) := by decide +kernel
theorem dM_rightEnd_12 : decode cM_rightEnd 12 = .ok ((.goto 9), 3) := by decide +kernel
theorem dM_rightEnd_15 : decode cM_rightEnd 15 = .ok ((.aload_n 0), 1) := by decide +kernel
theorem dM_rightEnd_16 : decode cM_rightEnd 16 = .ok ((.getfield 13), 3) := by decide +kernel
theorem dM_rightEnd_19 : decode cM_rightEnd 19 = .ok ((.iload_n 1), 1) := by decide +kernel
theorem dM_rightEnd_20 : decode cM_rightEnd 20 = .ok (.iaload, 1) := by decide +kernel
theorem dM_rightEnd_21 : decode cM_rightEnd 21 = .ok (.ireturn, 1) := by decide +kernel
theorem dM_low_0 : decode cM_low 0 = .ok ((.aload_n 0), 1) := by decide +kernel
theorem dM_low_1 : decode cM_low 1 = .ok ((.aload_n 0), 1) := by decide +kernel
theorem dM_low_2 : decode cM_low 2 = .ok ((.iload_n 1), 1) := by decide +kernel
theorem dM_low_3 : decode cM_low 3 = .ok ((.invokevirtual 81), 3) := by decide +kernel
theorem dM_low_6 : decode cM_low 6 = .ok ((.invokevirtual 84), 3) := by decide +kernel
theorem dM_low_9 : decode cM_low 9 = .ok ((.istore_n 2), 1) := by decide +kernel
theorem dM_low_10 : decode cM_low 10 = .ok ((.aload_n 0), 1) := by decide +kernel
theorem dM_low_11 : decode cM_low 11 = .ok ((.aload_n 0), 1) := by decide +kernel
theorem dM_low_12 : decode cM_low 12 = .ok ((.iload_n 1), 1) := by decide +kernel
theorem dM_low_13 : decode cM_low 13 = .ok ((.invokevirtual 87), 3) := by decide +kernel
theorem dM_low_16 : decode cM_low 16 = .ok ((.invokevirtual 84), 3) := by decide +kernel
theorem dM_low_19 : decode cM_low 19 = .ok ((.istore_n 3), 1) := by decide +kernel
theorem dM_low_20 : decode cM_low 20 = .ok ((.iload_n 2), 1) := by decide +kernel
theorem dM_low_21 : decode cM_low 21 = .ok ((.iload_n 3), 1) := by decide +kernel
theorem dM_low_22 : decode cM_low 22 = .ok ((.if_icmp .ge 7), 3) := by decide +kernel
theorem dM_low_25 : decode cM_low 25 = .ok ((.iload_n 2), 1) := by decide +kernel
theorem dM_low_26 : decode cM_low 26 = .ok ((.goto 4), 3) := by decide +kernel
theorem dM_low_29 : decode cM_low 29 = .ok ((.iload_n 3), 1) := by decide +kernel
theorem dM_low_30 : decode cM_low 30 = .ok (.ireturn, 1) := by decide +kernel
theorem dM_fold_0 : decode cM_fold 0 = .ok ((.iconst 0), 1) := by decide +kernel
theorem dM_fold_1 : decode cM_fold 1 = .ok ((.istore_n 2), 1) := by decide +kernel
theorem dM_fold_2 : decode cM_fold 2 = .ok ((.iconst 0), 1) := by decide +kernel
theorem dM_fold_3 : decode cM_fold 3 = .ok ((.istore_n 3), 1) := by decide +kernel
theorem dM_fold_4 : decode cM_fold 4 = .ok ((.iload_n 3), 1) := by decide +kernel
theorem dM_fold_5 : decode cM_fold 5 = .ok ((.iload_n 1), 1) := by decide +kernel
theorem dM_fold_6 : decode cM_fold 6 = .ok ((.if_icmp .ge 66), 3) := by decide +kernel
theorem dM_fold_9 : decode cM_fold 9 = .ok ((.iconst 0), 1) := by decide +kernel
theorem dM_fold_10 : decode cM_fold 10 = .ok ((.istore 4), 2) := by decide +kernel
theorem dM_fold_12 : decode cM_fold 12 = .ok ((.iconst 0), 1) := by decide +kernel
theorem dM_fold_13 : decode cM_fold 13 = .ok ((.istore 5), 2) := by decide +kernel
theorem dM_fold_15 : decode cM_fold 15 = .ok ((.iload 5), 2) := by decide +kernel
theorem dM_fold_17 : decode cM_fold 17 = .ok ((.aload_n 0), 1) := by decide +kernel
theorem dM_fold_18 : decode cM_fold 18 = .ok ((.getfield 63), 3) := by decide +kernel
theorem dM_fold_21 : decode cM_fold 21 = .ok ((.if_icmp .ge 30), 3) := by decide +kernel
theorem dM_fold_24 : decode cM_fold 24 = .ok ((.iload 4), 2) := by decide +kernel
theorem dM_fold_26 : decode cM_fold 26 = .ok ((.aload_n 0), 1) := by decide +kernel
theorem dM_fold_27 : decode cM_fold 27 = .ok ((.getfield 13), 3) := by decide +kernel
theorem dM_fold_30 : decode cM_fold 30 = .ok ((.iload 5), 2) := by decide +kernel
theorem dM_fold_32 : decode cM_fold 32 = .ok (.iaload, 1) := by decide +kernel
theorem dM_fold_33 : decode cM_fold 33 = .ok ((.iload_n 3), 1) := by decide +kernel
theorem dM_fold_34 : decode cM_fold 34 = .ok ((.if_icmp .gt 7), 3) := by decide +kernel
theorem dM_fold_37 : decode cM_fold 37 = .ok ((.iconst 1), 1) := by decide +kernel
theorem dM_fold_38 : decode cM_fold 38 = .ok ((.goto 4), 3) := by decide +kernel
theorem dM_fold_41 : decode cM_fold 41 = .ok ((.iconst 0), 1) := by decide +kernel
theorem dM_fold_42 : decode cM_fold 42 = .ok (.iadd, 1) := by decide +kernel
theorem dM_fold_43 : decode cM_fold 43 = .ok ((.istore 4), 2) := by decide +kernel
theorem dM_fold_45 : decode cM_fold 45 = .ok ((.iinc 5 1), 3) := by decide +kernel
theorem dM_fold_48 : decode cM_fold 48 = .ok ((.goto (-33)), 3) := by decide +kernel
theorem dM_fold_51 : decode cM_fold 51 = .ok ((.iload_n 2), 1) := by decide +kernel
theorem dM_fold_52 : decode cM_fold 52 = .ok ((.iload 4), 2) := by decide +kernel
theorem dM_fold_54 : decode cM_fold 54 = .ok ((.iconst 2), 1) := by decide +kernel
theorem dM_fold_55 : decode cM_fold 55 = .ok (.irem, 1) := by decide +kernel
theorem dM_fold_56 : decode cM_fold 56 = .ok ((.ifCond .ne 7), 3) := by decide +kernel
theorem dM_fold_59 : decode cM_fold 59 = .ok ((.iconst 1), 1) := by decide +kernel
theorem dM_fold_60 : decode cM_fold 60 = .ok ((.goto 4), 3) := by decide +kernel
theorem dM_fold_63 : decode cM_fold 63 = .ok ((.iconst (-1)), 1) := by decide +kernel
theorem dM_fold_64 : decode cM_fold 64 = .ok (.iadd, 1) := by decide +kernel
theorem dM_fold_65 : decode cM_fold 65 = .ok ((.istore_n 2), 1) := by decide +kernel
theorem dM_fold_66 : decode cM_fold 66 = .ok ((.iinc 3 1), 3) := by decide +kernel
theorem dM_fold_69 : decode cM_fold 69 = .ok ((.goto (-65)), 3) := by decide +kernel
theorem dM_fold_72 : decode cM_fold 72 = .ok ((.iload_n 2), 1) := by decide +kernel
theorem dM_fold_73 : decode cM_fold 73 = .ok (.ireturn, 1) := by decide +kernel
theorem dM_high_0 : decode cM_high 0 = .ok ((.aload_n 0), 1) := by decide +kernel
theorem dM_high_1 : decode cM_high 1 = .ok ((.iload_n 1), 1) := by decide +kernel
theorem dM_high_2 : decode cM_high 2 = .ok ((.invokevirtual 90), 3) := by decide +kernel
theorem dM_high_5 : decode cM_high 5 = .ok ((.aload_n 0), 1) := by decide +kernel
theorem dM_high_6 : decode cM_high 6 = .ok ((.iload_n 1), 1) := by decide +kernel
theorem dM_high_7 : decode cM_high 7 = .ok ((.invokevirtual 87), 3) := by decide +kernel
theorem dM_high_10 : decode cM_high 10 = .ok (.iadd, 1) := by decide +kernel
theorem dM_high_11 : decode cM_high 11 = .ok ((.aload_n 0), 1) := by decide +kernel
theorem dM_high_12 : decode cM_high 12 = .ok ((.iload_n 1), 1) := by decide +kernel
theorem dM_high_13 : decode cM_high 13 = .ok ((.invokevirtual 81), 3) := by decide +kernel
theorem dM_high_16 : decode cM_high 16 = .ok (.isub, 1) := by decide +kernel
theorem dM_high_17 : decode cM_high 17 = .ok (.ireturn, 1) := by decide +kernel
theorem dM_isUp_0 : decode cM_isUp 0 = .ok ((.iload_n 1), 1) := by decide +kernel
theorem dM_isUp_1 : decode cM_isUp 1 = .ok ((.iconst 2), 1) := by decide +kernel
theorem dM_isUp_2 : decode cM_isUp 2 = .ok (.irem, 1) := by decide +kernel
theorem dM_isUp_3 : decode cM_isUp 3 = .ok ((.ifCond .ne 7), 3) := by decide +kernel
theorem dM_isUp_6 : decode cM_isUp 6 = .ok ((.iconst 1), 1) := by decide +kernel
theorem dM_isUp_7 : decode cM_isUp 7 = .ok ((.goto 4), 3) := by decide +kernel
theorem dM_isUp_10 : decode cM_isUp 10 = .ok ((.iconst 0), 1) := by decide +kernel
theorem dM_isUp_11 : decode cM_isUp 11 = .ok ((.aload_n 0), 1) := by decide +kernel
theorem dM_isUp_12 : decode cM_isUp 12 = .ok ((.getfield 66), 3) := by decide +kernel
theorem dM_isUp_15 : decode cM_isUp 15 = .ok ((.if_icmp .eq 7), 3) := by decide +kernel
theorem dM_isUp_18 : decode cM_isUp 18 = .ok ((.iconst 1), 1) := by decide +kernel
theorem dM_isUp_19 : decode cM_isUp 19 = .ok ((.goto 4), 3) := by decide +kernel
theorem dM_isUp_22 : decode cM_isUp 22 = .ok ((.iconst 0), 1) := by decide +kernel
theorem dM_isUp_23 : decode cM_isUp 23 = .ok (.ireturn, 1) := by decide +kernel
theorem dM_whereIs_0 : decode cM_whereIs 0 = .ok ((.aload_n 0), 1) := by decide +kernel
theorem dM_whereIs_1 : decode cM_whereIs 1 = .ok ((.iload_n 1), 1) := by decide +kernel
theorem dM_whereIs_2 : decode cM_whereIs 2 = .ok ((.ifCond .lt 11), 3) := by decide +kernel
theorem dM_whereIs_5 : decode cM_whereIs 5 = .ok ((.iload_n 1), 1) := by decide +kernel
theorem dM_whereIs_6 : decode cM_whereIs 6 = .ok ((.aload_n 0), 1) := by decide +kernel
theorem dM_whereIs_7 : decode cM_whereIs 7 = .ok ((.getfield 7), 3) := by decide +kernel
theorem dM_whereIs_10 : decode cM_whereIs 10 = .ok ((.if_icmp .le 7), 3) := by decide +kernel
theorem dM_whereIs_13 : decode cM_whereIs 13 = .ok ((.iconst 1), 1) := by decide +kernel
theorem dM_whereIs_14 : decode cM_whereIs 14 = .ok ((.goto 4), 3) := by decide +kernel
theorem dM_whereIs_17 : decode cM_whereIs 17 = .ok ((.iconst 0), 1) := by decide +kernel
theorem dM_whereIs_18 : decode cM_whereIs 18 = .ok ((.iconst 0), 1) := by decide +kernel
theorem dM_whereIs_19 : decode cM_whereIs 19 = .ok ((.invokevirtual 59), 3) := by decide +kernel
theorem dM_whereIs_22 : decode cM_whereIs 22 = .ok ((.ifCond .eq 5), 3) := by decide +kernel
theorem dM_whereIs_25 : decode cM_whereIs 25 = .ok ((.iconst 0), 1) := by decide +kernel
theorem dM_whereIs_26 : decode cM_whereIs 26 = .ok (.ireturn, 1) := by decide +kernel
theorem dM_whereIs_27 : decode cM_whereIs 27 = .ok ((.aload_n 0), 1) := by decide +kernel
theorem dM_whereIs_28 : decode cM_whereIs 28 = .ok ((.iload_n 1), 1) := by decide +kernel
theorem dM_whereIs_29 : decode cM_whereIs 29 = .ok ((.invokevirtual 84), 3) := by decide +kernel
theorem dM_whereIs_32 : decode cM_whereIs 32 = .ok (.ireturn, 1) := by decide +kernel
theorem dM_width_0 : decode cM_width 0 = .ok ((.aload_n 0), 1) := by decide +kernel
theorem dM_width_1 : decode cM_width 1 = .ok ((.iconst 0), 1) := by decide +kernel
theorem dM_width_2 : decode cM_width 2 = .ok ((.putfield 56), 3) := by decide +kernel
theorem dM_width_5 : decode cM_width 5 = .ok ((.iconst 0), 1) := by decide +kernel
theorem dM_width_6 : decode cM_width 6 = .ok ((.istore_n 1), 1) := by decide +kernel
theorem dM_width_7 : decode cM_width 7 = .ok ((.iconst 0), 1) := by decide +kernel
theorem dM_width_8 : decode cM_width 8 = .ok ((.istore_n 2), 1) := by decide +kernel
theorem dM_width_9 : decode cM_width 9 = .ok ((.iconst 0), 1) := by decide +kernel
theorem dM_width_10 : decode cM_width 10 = .ok ((.istore_n 3), 1) := by decide +kernel
theorem dM_width_11 : decode cM_width 11 = .ok ((.iload_n 3), 1) := by decide +kernel
theorem dM_width_12 : decode cM_width 12 = .ok ((.aload_n 0), 1) := by decide +kernel
theorem dM_width_13 : decode cM_width 13 = .ok ((.getfield 7), 3) := by decide +kernel
theorem dM_width_16 : decode cM_width 16 = .ok ((.if_icmp .gt 47), 3) := by decide +kernel
theorem dM_width_19 : decode cM_width 19 = .ok ((.aload_n 0), 1) := by decide +kernel
theorem dM_width_20 : decode cM_width 20 = .ok ((.iload_n 3), 1) := by decide +kernel
theorem dM_width_21 : decode cM_width 21 = .ok ((.invokevirtual 84), 3) := by decide +kernel
theorem dM_width_24 : decode cM_width 24 = .ok ((.iload_n 1), 1) := by decide +kernel
theorem dM_width_25 : decode cM_width 25 = .ok ((.if_icmp .ge 11), 3) := by decide +kernel
theorem dM_width_28 : decode cM_width 28 = .ok ((.aload_n 0), 1) := by decide +kernel
theorem dM_width_29 : decode cM_width 29 = .ok ((.iload_n 3), 1) := by decide +kernel
theorem dM_width_30 : decode cM_width 30 = .ok ((.invokevirtual 84), 3) := by decide +kernel
theorem dM_width_33 : decode cM_width 33 = .ok ((.goto 4), 3) := by decide +kernel
theorem dM_width_36 : decode cM_width 36 = .ok ((.iload_n 1), 1) := by decide +kernel
theorem dM_width_37 : decode cM_width 37 = .ok ((.istore_n 1), 1) := by decide +kernel
theorem dM_width_38 : decode cM_width 38 = .ok ((.aload_n 0), 1) := by decide +kernel
theorem dM_width_39 : decode cM_width 39 = .ok ((.iload_n 3), 1) := by decide +kernel
theorem dM_width_40 : decode cM_width 40 = .ok ((.invokevirtual 84), 3) := by decide +kernel
theorem dM_width_43 : decode cM_width 43 = .ok ((.iload_n 2), 1) := by decide +kernel
theorem dM_width_44 : decode cM_width 44 = .ok ((.if_icmp .le 11), 3) := by decide +kernel
theorem dM_width_47 : decode cM_width 47 = .ok ((.aload_n 0), 1) := by decide +kernel
theorem dM_width_48 : decode cM_width 48 = .ok ((.iload_n 3), 1) := by decide +kernel
theorem dM_width_49 : decode cM_width 49 = .ok ((.invokevirtual 84), 3) := by decide +kernel
theorem dM_width_52 : decode cM_width 52 = .ok ((.goto 4), 3) := by decide +kernel
theorem dM_width_55 : decode cM_width 55 = .ok ((.iload_n 2), 1) := by decide +kernel
theorem dM_width_56 : decode cM_width 56 = .ok ((.istore_n 2), 1) := by decide +kernel
theorem dM_width_57 : decode cM_width 57 = .ok ((.iinc 3 1), 3) := by decide +kernel
theorem dM_width_60 : decode cM_width 60 = .ok ((.goto (-49)), 3) := by decide +kernel
theorem dM_width_63 : decode cM_width 63 = .ok ((.iload_n 2), 1) := by decide +kernel
theorem dM_width_64 : decode cM_width 64 = .ok ((.iload_n 1), 1) := by decide +kernel
theorem dM_width_65 : decode cM_width 65 = .ok (.isub, 1) := by decide +kernel
theorem dM_width_66 : decode cM_width 66 = .ok (.ireturn, 1) := by decide +kernel
theorem dM_thickness_0 : decode cM_thickness 0 = .ok ((.aload_n 0), 1) := by decide +kernel
theorem dM_thickness_1 : decode cM_thickness 1 = .ok ((.iconst 0), 1) := by decide +kernel
theorem dM_thickness_2 : decode cM_thickness 2 = .ok ((.putfield 56), 3) := by decide +kernel
theorem dM_thickness_5 : decode cM_thickness 5 = .ok ((.iconst 0), 1) := by decide +kernel
theorem dM_thickness_6 : decode cM_thickness 6 = .ok ((.istore_n 1), 1) := by decide +kernel
theorem dM_thickness_7 : decode cM_thickness 7 = .ok ((.bipush (-60)), 2) := by decide +kernel
theorem dM_thickness_9 : decode cM_thickness 9 = .ok ((.istore_n 2), 1) := by decide +kernel
theorem dM_thickness_10 : decode cM_thickness 10 = .ok ((.iload_n 2), 1) := by decide +kernel
theorem dM_thickness_11 : decode cM_thickness 11 = .ok ((.bipush 60), 2) := by decide +kernel
theorem dM_thickness_13 : decode cM_thickness 13 = .ok ((.if_icmp .ge 58), 3) := by decide +kernel
theorem dM_thickness_16 : decode cM_thickness 16 = .ok ((.iconst 0), 1) := by decide +kernel
theorem dM_thickness_17 : decode cM_thickness 17 = .ok ((.istore_n 3), 1) := by decide +kernel
theorem dM_thickness_18 : decode cM_thickness 18 = .ok ((.iconst 0), 1) := by decide +kernel
theorem dM_thickness_19 : decode cM_thickness 19 = .ok ((.istore 4), 2) := by decide +kernel
theorem dM_thickness_21 : decode cM_thickness 21 = .ok ((.iload 4), 2) := by decide +kernel
theorem dM_thickness_23 : decode cM_thickness 23 = .ok ((.aload_n 0), 1) := by decide +kernel
theorem dM_thickness_24 : decode cM_thickness 24 = .ok ((.getfield 63), 3) := by decide +kernel
theorem dM_thickness_27 : decode cM_thickness 27 = .ok ((.if_icmp .gt 27), 3) := by decide +kernel
theorem dM_thickness_30 : decode cM_thickness 30 = .ok ((.iload_n 3), 1) := by decide +kernel
theorem dM_thickness_31 : decode cM_thickness 31 = .ok ((.aload_n 0), 1) := by decide +kernel
theorem dM_thickness_32 : decode cM_thickness 32 = .ok ((.iload 4), 2) := by decide +kernel
theorem dM_thickness_34 : decode cM_thickness 34 = .ok ((.iload_n 2), 1) := by decide +kernel
theorem dM_thickness_35 : decode cM_thickness 35 = .ok ((.invokevirtual 100), 3) := by decide +kernel
theorem dM_thickness_38 : decode cM_thickness 38 = .ok ((.ifCond .eq 7), 3) := by decide +kernel
theorem dM_thickness_41 : decode cM_thickness 41 = .ok ((.iconst 1), 1) := by decide +kernel
theorem dM_thickness_42 : decode cM_thickness 42 = .ok ((.goto 4), 3) := by decide +kernel
theorem dM_thickness_45 : decode cM_thickness 45 = .ok ((.iconst 0), 1) := by decide +kernel
theorem dM_thickness_46 : decode cM_thickness 46 = .ok (.iadd, 1) := by decide +kernel
theorem dM_thickness_47 : decode cM_thickness 47 = .ok ((.istore_n 3), 1) := by decide +kernel
theorem dM_thickness_48 : decode cM_thickness 48 = .ok ((.iinc 4 1), 3) := by decide +kernel
theorem dM_thickness_51 : decode cM_thickness 51 = .ok ((.goto (-30)), 3) := by decide +kernel
theorem dM_thickness_54 : decode cM_thickness 54 = .ok ((.iload_n 3), 1) := by decide +kernel
theorem dM_thickness_55 : decode cM_thickness 55 = .ok ((.iload_n 1), 1) := by decide +kernel
theorem dM_thickness_56 : decode cM_thickness 56 = .ok ((.if_icmp .le 7), 3) := by decide +kernel
theorem dM_thickness_59 : decode cM_thickness 59 = .ok ((.iload_n 3), 1) := by decide +kernel
theorem dM_thickness_60 : decode cM_thickness 60 = .ok ((.goto 4), 3) := by decide +kernel
theorem dM_thickness_63 : decode cM_thickness 63 = .ok ((.iload_n 1), 1) := by decide +kernel
theorem dM_thickness_64 : decode cM_thickness 64 = .ok ((.istore_n 1), 1) := by decide +kernel
theorem dM_thickness_65 : decode cM_thickness 65 = .ok ((.iinc 2 1), 3) := by decide +kernel
theorem dM_thickness_68 : decode cM_thickness 68 = .ok ((.goto (-58)), 3) := by decide +kernel
theorem dM_thickness_71 : decode cM_thickness 71 = .ok ((.iload_n 1), 1) := by decide +kernel
theorem dM_thickness_72 : decode cM_thickness 72 = .ok (.ireturn, 1) := by decide +kernel
theorem dM_covers_0 : decode cM_covers 0 = .ok ((.aload_n 0), 1) := by decide +kernel
theorem dM_covers_1 : decode cM_covers 1 = .ok ((.iload_n 1), 1) := by decide +kernel
theorem dM_covers_2 : decode cM_covers 2 = .ok ((.invokevirtual 90), 3) := by decide +kernel
theorem dM_covers_5 : decode cM_covers 5 = .ok ((.iload_n 2), 1) := by decide +kernel
theorem dM_covers_6 : decode cM_covers 6 = .ok ((.if_icmp .gt 16), 3) := by decide +kernel
theorem dM_covers_9 : decode cM_covers 9 = .ok ((.iload_n 2), 1) := by decide +kernel
theorem dM_covers_10 : decode cM_covers 10 = .ok ((.aload_n 0), 1) := by decide +kernel
theorem dM_covers_11 : decode cM_covers 11 = .ok ((.iload_n 1), 1) := by decide +kernel
theorem dM_covers_12 : decode cM_covers 12 = .ok ((.invokevirtual 93), 3) := by decide +kernel
theorem dM_covers_15 : decode cM_covers 15 = .ok ((.if_icmp .ge 7), 3) := by decide +kernel
theorem dM_covers_18 : decode cM_covers 18 = .ok ((.iconst 1), 1) := by decide +kernel
theorem dM_covers_19 : decode cM_covers 19 = .ok ((.goto 4), 3) := by decide +kernel
theorem dM_covers_22 : decode cM_covers 22 = .ok ((.iconst 0), 1) := by decide +kernel
theorem dM_covers_23 : decode cM_covers 23 = .ok (.ireturn, 1) := by decide +kernel
theorem dM_foldable_0 : decode cM_foldable 0 = .ok ((.aload_n 0), 1) := by decide +kernel
theorem dM_foldable_1 : decode cM_foldable 1 = .ok ((.iconst 0), 1) := by decide +kernel
theorem dM_foldable_2 : decode cM_foldable 2 = .ok ((.putfield 56), 3) := by decide +kernel
theorem dM_foldable_5 : decode cM_foldable 5 = .ok ((.aload_n 0), 1) := by decide +kernel
theorem dM_foldable_6 : decode cM_foldable 6 = .ok ((.invokevirtual 74), 3) := by decide +kernel
theorem dM_foldable_9 : decode cM_foldable 9 = .ok ((.ifCond .le 5), 3) := by decide +kernel
theorem dM_foldable_12 : decode cM_foldable 12 = .ok ((.iconst (-1)), 1) := by decide +kernel
theorem dM_foldable_13 : decode cM_foldable 13 = .ok (.ireturn, 1) := by decide +kernel
theorem dM_foldable_14 : decode cM_foldable 14 = .ok ((.aload_n 0), 1) := by decide +kernel
theorem dM_foldable_15 : decode cM_foldable 15 = .ok ((.invokevirtual 121), 3) := by decide +kernel
theorem dM_foldable_18 : decode cM_foldable 18 = .ok ((.aload_n 0), 1) := by decide +kernel
theorem dM_foldable_19 : decode cM_foldable 19 = .ok ((.getfield 104), 3) := by decide +kernel
theorem dM_foldable_22 : decode cM_foldable 22 = .ok ((.iconst 1), 1) := by decide +kernel
theorem dM_foldable_23 : decode cM_foldable 23 = .ok ((.if_icmp .ne 7), 3) := by decide +kernel
theorem dM_foldable_26 : decode cM_foldable 26 = .ok ((.iconst 1), 1) := by decide +kernel
theorem dM_foldable_27 : decode cM_foldable 27 = .ok ((.goto 4), 3) := by decide +kernel
theorem dM_foldable_30 : decode cM_foldable 30 = .ok ((.iconst 0), 1) := by decide +kernel
theorem dM_foldable_31 : decode cM_foldable 31 = .ok (.ireturn, 1) := by decide +kernel
theorem dM_reduce_0 : decode cM_reduce 0 = .ok ((.aload_n 0), 1) := by decide +kernel
theorem dM_reduce_1 : decode cM_reduce 1 = .ok ((.aload_n 0), 1) := by decide +kernel
theorem dM_reduce_2 : decode cM_reduce 2 = .ok ((.getfield 63), 3) := by decide +kernel
theorem dM_reduce_5 : decode cM_reduce 5 = .ok ((.iconst 1), 1) := by decide +kernel
theorem dM_reduce_6 : decode cM_reduce 6 = .ok (.iadd, 1) := by decide +kernel
theorem dM_reduce_7 : decode cM_reduce 7 = .ok ((.putfield 104), 3) := by decide +kernel
theorem dM_reduce_10 : decode cM_reduce 10 = .ok ((.aload_n 0), 1) := by decide +kernel
theorem dM_reduce_11 : decode cM_reduce 11 = .ok ((.iconst 0), 1) := by decide +kernel
theorem dM_reduce_12 : decode cM_reduce 12 = .ok ((.putfield 107), 3) := by decide +kernel
theorem dM_reduce_15 : decode cM_reduce 15 = .ok ((.iconst 0), 1) := by decide +kernel
theorem dM_reduce_16 : decode cM_reduce 16 = .ok ((.istore_n 1), 1) := by decide +kernel
theorem dM_reduce_17 : decode cM_reduce 17 = .ok ((.iload_n 1), 1) := by decide +kernel
theorem dM_reduce_18 : decode cM_reduce 18 = .ok ((.aload_n 0), 1) := by decide +kernel
theorem dM_reduce_19 : decode cM_reduce 19 = .ok ((.getfield 104), 3) := by decide +kernel
theorem dM_reduce_22 : decode cM_reduce 22 = .ok ((.if_icmp .ge 74), 3) := by decide +kernel
theorem dM_reduce_25 : decode cM_reduce 25 = .ok ((.aload_n 0), 1) := by decide +kernel
theorem dM_reduce_26 : decode cM_reduce 26 = .ok ((.getfield 41), 3) := by decide +kernel
theorem dM_reduce_29 : decode cM_reduce 29 = .ok ((.iload_n 1), 1) := by decide +kernel
theorem dM_reduce_30 : decode cM_reduce 30 = .ok ((.aload_n 0), 1) := by decide +kernel
theorem dM_reduce_31 : decode cM_reduce 31 = .ok ((.iload_n 1), 1) := by decide +kernel
theorem dM_reduce_32 : decode cM_reduce 32 = .ok ((.invokevirtual 87), 3) := by decide +kernel
theorem dM_reduce_35 : decode cM_reduce 35 = .ok ((.aload_n 0), 1) := by decide +kernel
theorem dM_reduce_36 : decode cM_reduce 36 = .ok ((.iload_n 1), 1) := by decide +kernel
theorem dM_reduce_37 : decode cM_reduce 37 = .ok ((.invokevirtual 81), 3) := by decide +kernel
theorem dM_reduce_40 : decode cM_reduce 40 = .ok (.isub, 1) := by decide +kernel
theorem dM_reduce_41 : decode cM_reduce 41 = .ok (.iastore, 1) := by decide +kernel
theorem dM_reduce_42 : decode cM_reduce 42 = .ok ((.aload_n 0), 1) := by decide +kernel
theorem dM_reduce_43 : decode cM_reduce 43 = .ok ((.getfield 44), 3) := by decide +kernel
theorem dM_reduce_46 : decode cM_reduce 46 = .ok ((.iload_n 1), 1) := by decide +kernel
theorem dM_reduce_47 : decode cM_reduce 47 = .ok ((.iload_n 1), 1) := by decide +kernel
theorem dM_reduce_48 : decode cM_reduce 48 = .ok ((.aload_n 0), 1) := by decide +kernel
theorem dM_reduce_49 : decode cM_reduce 49 = .ok ((.getfield 63), 3) := by decide +kernel
theorem dM_reduce_52 : decode cM_reduce 52 = .ok ((.if_icmp .ge 12), 3) := by decide +kernel
theorem dM_reduce_55 : decode cM_reduce 55 = .ok ((.aload_n 0), 1) := by decide +kernel
theorem dM_reduce_56 : decode cM_reduce 56 = .ok ((.getfield 17), 3) := by decide +kernel
theorem dM_reduce_59 : decode cM_reduce 59 = .ok ((.iload_n 1), 1) := by decide +kernel
theorem dM_reduce_60 : decode cM_reduce 60 = .ok (.iaload, 1) := by decide +kernel
theorem dM_reduce_61 : decode cM_reduce 61 = .ok ((.goto 4), 3) := by decide +kernel
theorem dM_reduce_64 : decode cM_reduce 64 = .ok ((.iconst 0), 1) := by decide +kernel
theorem dM_reduce_65 : decode cM_reduce 65 = .ok (.iastore, 1) := by decide +kernel
theorem dM_reduce_66 : decode cM_reduce 66 = .ok ((.aload_n 0), 1) := by decide +kernel
theorem dM_reduce_67 : decode cM_reduce 67 = .ok ((.getfield 47), 3) := by decide +kernel
theorem dM_reduce_70 : decode cM_reduce 70 = .ok ((.iload_n 1), 1) := by decide +kernel
theorem dM_reduce_71 : decode cM_reduce 71 = .ok ((.iload_n 1), 1) := by decide +kernel
theorem dM_reduce_72 : decode cM_reduce 72 = .ok ((.aload_n 0), 1) := by decide +kernel
theorem dM_reduce_73 : decode cM_reduce 73 = .ok ((.getfield 63), 3) := by decide +kernel
theorem dM_reduce_76 : decode cM_reduce 76 = .ok ((.if_icmp .ge 12), 3) := by decide +kernel
theorem dM_reduce_79 : decode cM_reduce 79 = .ok ((.aload_n 0), 1) := by decide +kernel
theorem dM_reduce_80 : decode cM_reduce 80 = .ok ((.getfield 13), 3) := by decide +kernel
theorem dM_reduce_83 : decode cM_reduce 83 = .ok ((.iload_n 1), 1) := by decide +kernel
theorem dM_reduce_84 : decode cM_reduce 84 = .ok (.iaload, 1) := by decide +kernel
theorem dM_reduce_85 : decode cM_reduce 85 = .ok ((.goto 4), 3) := by decide +kernel
theorem dM_reduce_88 : decode cM_reduce 88 = .ok ((.iconst 0), 1) := by decide +kernel
theorem dM_reduce_89 : decode cM_reduce 89 = .ok (.iastore, 1) := by decide +kernel
theorem dM_reduce_90 : decode cM_reduce 90 = .ok ((.iinc 1 1), 3) := by decide +kernel
theorem dM_reduce_93 : decode cM_reduce 93 = .ok ((.goto (-76)), 3) := by decide +kernel
theorem dM_reduce_96 : decode cM_reduce 96 = .ok ((.iconst 1), 1) := by decide +kernel
theorem dM_reduce_97 : decode cM_reduce 97 = .ok ((.istore_n 1), 1) := by decide +kernel
theorem dM_reduce_98 : decode cM_reduce 98 = .ok ((.iload_n 1), 1) := by decide +kernel
theorem dM_reduce_99 : decode cM_reduce 99 = .ok ((.ifCond .eq 175), 3) := by decide +kernel
theorem dM_reduce_102 : decode cM_reduce 102 = .ok ((.aload_n 0), 1) := by decide +kernel
theorem dM_reduce_103 : decode cM_reduce 103 = .ok ((.getfield 104), 3) := by decide +kernel
theorem dM_reduce_106 : decode cM_reduce 106 = .ok ((.iconst 1), 1) := by decide +kernel
theorem dM_reduce_107 : decode cM_reduce 107 = .ok ((.if_icmp .le 167), 3) := by decide +kernel
theorem dM_reduce_110 : decode cM_reduce 110 = .ok ((.aload_n 0), 1) := by decide +kernel
theorem dM_reduce_111 : decode cM_reduce 111 = .ok ((.invokevirtual 110), 3) := by decide +kernel
theorem dM_reduce_114 : decode cM_reduce 114 = .ok ((.istore_n 2), 1) := by decide +kernel
theorem dM_reduce_115 : decode cM_reduce 115 = .ok ((.aload_n 0), 1) := by decide +kernel
theorem dM_reduce_116 : decode cM_reduce 116 = .ok ((.getfield 41), 3) := by decide +kernel
theorem dM_reduce_119 : decode cM_reduce 119 = .ok ((.iconst 0), 1) := by decide +kernel
theorem dM_reduce_120 : decode cM_reduce 120 = .ok (.iaload, 1) := by decide +kernel
theorem dM_reduce_121 : decode cM_reduce 121 = .ok ((.aload_n 0), 1) := by decide +kernel
theorem dM_reduce_122 : decode cM_reduce 122 = .ok ((.getfield 41), 3) := by decide +kernel
theorem dM_reduce_125 : decode cM_reduce 125 = .ok ((.iconst 1), 1) := by decide +kernel
theorem dM_reduce_126 : decode cM_reduce 126 = .ok (.iaload, 1) := by decide +kernel
theorem dM_reduce_127 : decode cM_reduce 127 = .ok ((.if_icmp .gt 22), 3) := by decide +kernel
theorem dM_reduce_130 : decode cM_reduce 130 = .ok ((.aload_n 0), 1) := by decide +kernel
theorem dM_reduce_131 : decode cM_reduce 131 = .ok ((.iconst 1), 1) := by decide +kernel
theorem dM_reduce_132 : decode cM_reduce 132 = .ok ((.aload_n 0), 1) := by decide +kernel
theorem dM_reduce_133 : decode cM_reduce 133 = .ok ((.getfield 47), 3) := by decide +kernel
theorem dM_reduce_136 : decode cM_reduce 136 = .ok ((.iconst 0), 1) := by decide +kernel
theorem dM_reduce_137 : decode cM_reduce 137 = .ok (.iaload, 1) := by decide +kernel
theorem dM_reduce_138 : decode cM_reduce 138 = .ok ((.invokevirtual 113), 3) := by decide +kernel
theorem dM_reduce_141 : decode cM_reduce 141 = .ok ((.aload_n 0), 1) := by decide +kernel
theorem dM_reduce_142 : decode cM_reduce 142 = .ok ((.iconst 0), 1) := by decide +kernel
theorem dM_reduce_143 : decode cM_reduce 143 = .ok ((.invokevirtual 117), 3) := by decide +kernel
theorem dM_reduce_146 : decode cM_reduce 146 = .ok ((.goto 125), 3) := by decide +kernel
theorem dM_reduce_149 : decode cM_reduce 149 = .ok ((.aload_n 0), 1) := by decide +kernel
theorem dM_reduce_150 : decode cM_reduce 150 = .ok ((.getfield 41), 3) := by decide +kernel
theorem dM_reduce_153 : decode cM_reduce 153 = .ok ((.aload_n 0), 1) := by decide +kernel
theorem dM_reduce_154 : decode cM_reduce 154 = .ok ((.getfield 104), 3) := by decide +kernel
theorem dM_reduce_157 : decode cM_reduce 157 = .ok ((.iconst 1), 1) := by decide +kernel
theorem dM_reduce_158 : decode cM_reduce 158 = .ok (.isub, 1) := by decide +kernel
theorem dM_reduce_159 : decode cM_reduce 159 = .ok (.iaload, 1) := by decide +kernel
theorem dM_reduce_160 : decode cM_reduce 160 = .ok ((.aload_n 0), 1) := by decide +kernel
theorem dM_reduce_161 : decode cM_reduce 161 = .ok ((.getfield 41), 3) := by decide +kernel
theorem dM_reduce_164 : decode cM_reduce 164 = .ok ((.aload_n 0), 1) := by decide +kernel
theorem dM_reduce_165 : decode cM_reduce 165 = .ok ((.getfield 104), 3) := by decide +kernel
theorem dM_reduce_168 : decode cM_reduce 168 = .ok ((.iconst 2), 1) := by decide +kernel
theorem dM_reduce_169 : decode cM_reduce 169 = .ok (.isub, 1) := by decide +kernel
theorem dM_reduce_170 : decode cM_reduce 170 = .ok (.iaload, 1) := by decide +kernel
theorem dM_reduce_171 : decode cM_reduce 171 = .ok ((.if_icmp .gt 32), 3) := by decide +kernel
theorem dM_reduce_174 : decode cM_reduce 174 = .ok ((.aload_n 0), 1) := by decide +kernel
theorem dM_reduce_175 : decode cM_reduce 175 = .ok ((.iconst 2), 1) := by decide +kernel
theorem dM_reduce_176 : decode cM_reduce 176 = .ok ((.aload_n 0), 1) := by decide +kernel
theorem dM_reduce_177 : decode cM_reduce 177 = .ok ((.getfield 47), 3) := by decide +kernel
theorem dM_reduce_180 : decode cM_reduce 180 = .ok ((.aload_n 0), 1) := by decide +kernel
theorem dM_reduce_181 : decode cM_reduce 181 = .ok ((.getfield 104), 3) := by decide +kernel
theorem dM_reduce_184 : decode cM_reduce 184 = .ok ((.iconst 2), 1) := by decide +kernel
theorem dM_reduce_185 : decode cM_reduce 185 = .ok (.isub, 1) := by decide +kernel
theorem dM_reduce_186 : decode cM_reduce 186 = .ok (.iaload, 1) := by decide +kernel
theorem dM_reduce_187 : decode cM_reduce 187 = .ok ((.invokevirtual 113), 3) := by decide +kernel
theorem dM_reduce_190 : decode cM_reduce 190 = .ok ((.aload_n 0), 1) := by decide +kernel
theorem dM_reduce_191 : decode cM_reduce 191 = .ok (.dup, 1) := by decide +kernel
theorem dM_reduce_192 : decode cM_reduce 192 = .ok ((.getfield 104), 3) := by decide +kernel
theorem dM_reduce_195 : decode cM_reduce 195 = .ok ((.iconst 1), 1) := by decide +kernel
theorem dM_reduce_196 : decode cM_reduce 196 = .ok (.isub, 1) := by decide +kernel
theorem dM_reduce_197 : decode cM_reduce 197 = .ok ((.putfield 104), 3) := by decide +kernel
theorem dM_reduce_200 : decode cM_reduce 200 = .ok ((.goto 71), 3) := by decide +kernel
theorem dM_reduce_203 : decode cM_reduce 203 = .ok ((.iload_n 2), 1) := by decide +kernel
theorem dM_reduce_204 : decode cM_reduce 204 = .ok ((.ifCond .le 65), 3) := by decide +kernel
theorem dM_reduce_207 : decode cM_reduce 207 = .ok ((.aload_n 0), 1) := by decide +kernel
theorem dM_reduce_208 : decode cM_reduce 208 = .ok ((.iconst 3), 1) := by decide +kernel
theorem dM_reduce_209 : decode cM_reduce 209 = .ok ((.aload_n 0), 1) := by decide +kernel
theorem dM_reduce_210 : decode cM_reduce 210 = .ok ((.getfield 47), 3) := by decide +kernel
theorem dM_reduce_213 : decode cM_reduce 213 = .ok ((.iload_n 2), 1) := by decide +kernel
theorem dM_reduce_214 : decode cM_reduce 214 = .ok ((.iconst 1), 1) := by decide +kernel
theorem dM_reduce_215 : decode cM_reduce 215 = .ok (.isub, 1) := by decide +kernel
theorem dM_reduce_216 : decode cM_reduce 216 = .ok (.iaload, 1) := by decide +kernel
theorem dM_reduce_217 : decode cM_reduce 217 = .ok ((.invokevirtual 113), 3) := by decide +kernel
theorem dM_reduce_220 : decode cM_reduce 220 = .ok ((.aload_n 0), 1) := by decide +kernel
theorem dM_reduce_221 : decode cM_reduce 221 = .ok ((.getfield 41), 3) := by decide +kernel
theorem dM_reduce_224 : decode cM_reduce 224 = .ok ((.iload_n 2), 1) := by decide +kernel
theorem dM_reduce_225 : decode cM_reduce 225 = .ok ((.iconst 1), 1) := by decide +kernel
theorem dM_reduce_226 : decode cM_reduce 226 = .ok (.iadd, 1) := by decide +kernel
theorem dM_reduce_227 : decode cM_reduce 227 = .ok ((.aload_n 0), 1) := by decide +kernel
theorem dM_reduce_228 : decode cM_reduce 228 = .ok ((.getfield 41), 3) := by decide +kernel
theorem dM_reduce_231 : decode cM_reduce 231 = .ok ((.iload_n 2), 1) := by decide +kernel
theorem dM_reduce_232 : decode cM_reduce 232 = .ok ((.iconst 1), 1) := by decide +kernel
theorem dM_reduce_233 : decode cM_reduce 233 = .ok (.isub, 1) := by decide +kernel
theorem dM_reduce_234 : decode cM_reduce 234 = .ok (.iaload, 1) := by decide +kernel
theorem dM_reduce_235 : decode cM_reduce 235 = .ok ((.aload_n 0), 1) := by decide +kernel
theorem dM_reduce_236 : decode cM_reduce 236 = .ok ((.getfield 41), 3) := by decide +kernel
theorem dM_reduce_239 : decode cM_reduce 239 = .ok ((.iload_n 2), 1) := by decide +kernel
theorem dM_reduce_240 : decode cM_reduce 240 = .ok (.iaload, 1) := by decide +kernel
theorem dM_reduce_241 : decode cM_reduce 241 = .ok (.isub, 1) := by decide +kernel
theorem dM_reduce_242 : decode cM_reduce 242 = .ok ((.aload_n 0), 1) := by decide +kernel
theorem dM_reduce_243 : decode cM_reduce 243 = .ok ((.getfield 41), 3) := by decide +kernel
theorem dM_reduce_246 : decode cM_reduce 246 = .ok ((.iload_n 2), 1) := by decide +kernel
theorem dM_reduce_247 : decode cM_reduce 247 = .ok ((.iconst 1), 1) := by decide +kernel
theorem dM_reduce_248 : decode cM_reduce 248 = .ok (.iadd, 1) := by decide +kernel
theorem dM_reduce_249 : decode cM_reduce 249 = .ok (.iaload, 1) := by decide +kernel
theorem dM_reduce_250 : decode cM_reduce 250 = .ok (.iadd, 1) := by decide +kernel
theorem dM_reduce_251 : decode cM_reduce 251 = .ok (.iastore, 1) := by decide +kernel
theorem dM_reduce_252 : decode cM_reduce 252 = .ok ((.aload_n 0), 1) := by decide +kernel
theorem dM_reduce_253 : decode cM_reduce 253 = .ok ((.iload_n 2), 1) := by decide +kernel
theorem dM_reduce_254 : decode cM_reduce 254 = .ok ((.iconst 1), 1) := by decide +kernel
theorem dM_reduce_255 : decode cM_reduce 255 = .ok (.isub, 1) := by decide +kernel
theorem dM_reduce_256 : decode cM_reduce 256 = .ok ((.invokevirtual 117), 3) := by decide +kernel
theorem dM_reduce_259 : decode cM_reduce 259 = .ok ((.aload_n 0), 1) := by decide +kernel
theorem dM_reduce_260 : decode cM_reduce 260 = .ok ((.iload_n 2), 1) := by decide +kernel
theorem dM_reduce_261 : decode cM_reduce 261 = .ok ((.iconst 1), 1) := by decide +kernel
theorem dM_reduce_262 : decode cM_reduce 262 = .ok (.isub, 1) := by decide +kernel
theorem dM_reduce_263 : decode cM_reduce 263 = .ok ((.invokevirtual 117), 3) := by decide +kernel
theorem dM_reduce_266 : decode cM_reduce 266 = .ok ((.goto 5), 3) := by decide +kernel
theorem dM_reduce_269 : decode cM_reduce 269 = .ok ((.iconst 0), 1) := by decide +kernel
theorem dM_reduce_270 : decode cM_reduce 270 = .ok ((.istore_n 1), 1) := by decide +kernel
theorem dM_reduce_271 : decode cM_reduce 271 = .ok ((.goto (-173)), 3) := by decide +kernel
theorem dM_reduce_274 : decode cM_reduce 274 = .ok (.return_, 1) := by decide +kernel
theorem dM_middle_0 : decode cM_middle 0 = .ok ((.iconst 1), 1) := by decide +kernel
theorem dM_middle_1 : decode cM_middle 1 = .ok ((.istore_n 1), 1) := by decide +kernel
theorem dM_middle_2 : decode cM_middle 2 = .ok ((.iload_n 1), 1) := by decide +kernel
theorem dM_middle_3 : decode cM_middle 3 = .ok ((.aload_n 0), 1) := by decide +kernel
theorem dM_middle_4 : decode cM_middle 4 = .ok ((.getfield 104), 3) := by decide +kernel
theorem dM_middle_7 : decode cM_middle 7 = .ok ((.iconst 1), 1) := by decide +kernel
theorem dM_middle_8 : decode cM_middle 8 = .ok (.isub, 1) := by decide +kernel
theorem dM_middle_9 : decode cM_middle 9 = .ok ((.if_icmp .ge 62), 3) := by decide +kernel
theorem dM_middle_12 : decode cM_middle 12 = .ok ((.aload_n 0), 1) := by decide +kernel
theorem dM_middle_13 : decode cM_middle 13 = .ok ((.getfield 41), 3) := by decide +kernel
theorem dM_middle_16 : decode cM_middle 16 = .ok ((.iload_n 1), 1) := by decide +kernel
theorem dM_middle_17 : decode cM_middle 17 = .ok (.iaload, 1) := by decide +kernel
theorem dM_middle_18 : decode cM_middle 18 = .ok ((.aload_n 0), 1) := by decide +kernel
theorem dM_middle_19 : decode cM_middle 19 = .ok ((.getfield 41), 3) := by decide +kernel
theorem dM_middle_22 : decode cM_middle 22 = .ok ((.iload_n 1), 1) := by decide +kernel
theorem dM_middle_23 : decode cM_middle 23 = .ok ((.iconst 1), 1) := by decide +kernel
theorem dM_middle_24 : decode cM_middle 24 = .ok (.isub, 1) := by decide +kernel
theorem dM_middle_25 : decode cM_middle 25 = .ok (.iaload, 1) := by decide +kernel
theorem dM_middle_26 : decode cM_middle 26 = .ok ((.if_icmp .gt 39), 3) := by decide +kernel
theorem dM_middle_29 : decode cM_middle 29 = .ok ((.aload_n 0), 1) := by decide +kernel
theorem dM_middle_30 : decode cM_middle 30 = .ok ((.getfield 41), 3) := by decide +kernel
theorem dM_middle_33 : decode cM_middle 33 = .ok ((.iload_n 1), 1) := by decide +kernel
theorem dM_middle_34 : decode cM_middle 34 = .ok (.iaload, 1) := by decide +kernel
theorem dM_middle_35 : decode cM_middle 35 = .ok ((.aload_n 0), 1) := by decide +kernel
theorem dM_middle_36 : decode cM_middle 36 = .ok ((.getfield 41), 3) := by decide +kernel
theorem dM_middle_39 : decode cM_middle 39 = .ok ((.iload_n 1), 1) := by decide +kernel
theorem dM_middle_40 : decode cM_middle 40 = .ok ((.iconst 1), 1) := by decide +kernel
theorem dM_middle_41 : decode cM_middle 41 = .ok (.iadd, 1) := by decide +kernel
theorem dM_middle_42 : decode cM_middle 42 = .ok (.iaload, 1) := by decide +kernel
theorem dM_middle_43 : decode cM_middle 43 = .ok ((.if_icmp .gt 22), 3) := by decide +kernel
theorem dM_middle_46 : decode cM_middle 46 = .ok ((.aload_n 0), 1) := by decide +kernel
theorem dM_middle_47 : decode cM_middle 47 = .ok ((.getfield 44), 3) := by decide +kernel
theorem dM_middle_50 : decode cM_middle 50 = .ok ((.iload_n 1), 1) := by decide +kernel
theorem dM_middle_51 : decode cM_middle 51 = .ok ((.iconst 1), 1) := by decide +kernel
theorem dM_middle_52 : decode cM_middle 52 = .ok (.isub, 1) := by decide +kernel
theorem dM_middle_53 : decode cM_middle 53 = .ok (.iaload, 1) := by decide +kernel
theorem dM_middle_54 : decode cM_middle 54 = .ok ((.aload_n 0), 1) := by decide +kernel
theorem dM_middle_55 : decode cM_middle 55 = .ok ((.getfield 44), 3) := by decide +kernel
theorem dM_middle_58 : decode cM_middle 58 = .ok ((.iload_n 1), 1) := by decide +kernel
theorem dM_middle_59 : decode cM_middle 59 = .ok (.iaload, 1) := by decide +kernel
theorem dM_middle_60 : decode cM_middle 60 = .ok ((.if_icmp .eq 5), 3) := by decide +kernel
theorem dM_middle_63 : decode cM_middle 63 = .ok ((.iload_n 1), 1) := by decide +kernel
theorem dM_middle_64 : decode cM_middle 64 = .ok (.ireturn, 1) := by decide +kernel
theorem dM_middle_65 : decode cM_middle 65 = .ok ((.iinc 1 1), 3) := by decide +kernel
theorem dM_middle_68 : decode cM_middle 68 = .ok ((.goto (-66)), 3) := by decide +kernel
theorem dM_middle_71 : decode cM_middle 71 = .ok ((.iconst (-1)), 1) := by decide +kernel
theorem dM_middle_72 : decode cM_middle 72 = .ok (.ireturn, 1) := by decide +kernel
theorem dM_note_0 : decode cM_note 0 = .ok ((.aload_n 0), 1) := by decide +kernel
theorem dM_note_1 : decode cM_note 1 = .ok ((.getfield 50), 3) := by decide +kernel
theorem dM_note_4 : decode cM_note 4 = .ok ((.aload_n 0), 1) := by decide +kernel
theorem dM_note_5 : decode cM_note 5 = .ok ((.getfield 107), 3) := by decide +kernel
theorem dM_note_8 : decode cM_note 8 = .ok ((.iload_n 1), 1) := by decide +kernel
theorem dM_note_9 : decode cM_note 9 = .ok (.iastore, 1) := by decide +kernel
theorem dM_note_10 : decode cM_note 10 = .ok ((.aload_n 0), 1) := by decide +kernel
theorem dM_note_11 : decode cM_note 11 = .ok ((.getfield 53), 3) := by decide +kernel
theorem dM_note_14 : decode cM_note 14 = .ok ((.aload_n 0), 1) := by decide +kernel
theorem dM_note_15 : decode cM_note 15 = .ok ((.getfield 107), 3) := by decide +kernel
theorem dM_note_18 : decode cM_note 18 = .ok ((.iload_n 2), 1) := by decide +kernel
theorem dM_note_19 : decode cM_note 19 = .ok (.iastore, 1) := by decide +kernel
theorem dM_note_20 : decode cM_note 20 = .ok ((.aload_n 0), 1) := by decide +kernel
theorem dM_note_21 : decode cM_note 21 = .ok (.dup, 1) := by decide +kernel
theorem dM_note_22 : decode cM_note 22 = .ok ((.getfield 107), 3) := by decide +kernel
theorem dM_note_25 : decode cM_note 25 = .ok ((.iconst 1), 1) := by decide +kernel
theorem dM_note_26 : decode cM_note 26 = .ok (.iadd, 1) := by decide +kernel
theorem dM_note_27 : decode cM_note 27 = .ok ((.putfield 107), 3) := by decide +kernel
theorem dM_note_30 : decode cM_note 30 = .ok (.return_, 1) := by decide +kernel
theorem dM_drop_0 : decode cM_drop 0 = .ok ((.aload_n 0), 1) := by decide +kernel
theorem dM_drop_1 : decode cM_drop 1 = .ok (.dup, 1) := by decide +kernel
theorem dM_drop_2 : decode cM_drop 2 = .ok ((.getfield 104), 3) := by decide +kernel
theorem dM_drop_5 : decode cM_drop 5 = .ok ((.iconst 1), 1) := by decide +kernel
theorem dM_drop_6 : decode cM_drop 6 = .ok (.isub, 1) := by decide +kernel
theorem dM_drop_7 : decode cM_drop 7 = .ok ((.putfield 104), 3) := by decide +kernel
theorem dM_drop_10 : decode cM_drop 10 = .ok ((.iload_n 1), 1) := by decide +kernel
theorem dM_drop_11 : decode cM_drop 11 = .ok ((.istore_n 2), 1) := by decide +kernel
theorem dM_drop_12 : decode cM_drop 12 = .ok ((.iload_n 2), 1) := by decide +kernel
theorem dM_drop_13 : decode cM_drop 13 = .ok ((.aload_n 0), 1) := by decide +kernel
theorem dM_drop_14 : decode cM_drop 14 = .ok ((.getfield 104), 3) := by decide +kernel
theorem dM_drop_17 : decode cM_drop 17 = .ok ((.if_icmp .ge 51), 3) := by decide +kernel
theorem dM_drop_20 : decode cM_drop 20 = .ok ((.aload_n 0), 1) := by decide +kernel
theorem dM_drop_21 : decode cM_drop 21 = .ok ((.getfield 41), 3) := by decide +kernel
theorem dM_drop_24 : decode cM_drop 24 = .ok ((.iload_n 2), 1) := by decide +kernel
theorem dM_drop_25 : decode cM_drop 25 = .ok ((.aload_n 0), 1) := by decide +kernel
theorem dM_drop_26 : decode cM_drop 26 = .ok ((.getfield 41), 3) := by decide +kernel
theorem dM_drop_29 : decode cM_drop 29 = .ok ((.iload_n 2), 1) := by decide +kernel
theorem dM_drop_30 : decode cM_drop 30 = .ok ((.iconst 1), 1) := by decide +kernel
theorem dM_drop_31 : decode cM_drop 31 = .ok (.iadd, 1) := by decide +kernel
theorem dM_drop_32 : decode cM_drop 32 = .ok (.iaload, 1) := by decide +kernel
theorem dM_drop_33 : decode cM_drop 33 = .ok (.iastore, 1) := by decide +kernel
theorem dM_drop_34 : decode cM_drop 34 = .ok ((.aload_n 0), 1) := by decide +kernel
theorem dM_drop_35 : decode cM_drop 35 = .ok ((.getfield 44), 3) := by decide +kernel
theorem dM_drop_38 : decode cM_drop 38 = .ok ((.iload_n 2), 1) := by decide +kernel
theorem dM_drop_39 : decode cM_drop 39 = .ok ((.aload_n 0), 1) := by decide +kernel
theorem dM_drop_40 : decode cM_drop 40 = .ok ((.getfield 44), 3) := by decide +kernel
theorem dM_drop_43 : decode cM_drop 43 = .ok ((.iload_n 2), 1) := by decide +kernel
theorem dM_drop_44 : decode cM_drop 44 = .ok ((.iconst 1), 1) := by decide +kernel
theorem dM_drop_45 : decode cM_drop 45 = .ok (.iadd, 1) := by decide +kernel
theorem dM_drop_46 : decode cM_drop 46 = .ok (.iaload, 1) := by decide +kernel
theorem dM_drop_47 : decode cM_drop 47 = .ok (.iastore, 1) := by decide +kernel
theorem dM_drop_48 : decode cM_drop 48 = .ok ((.aload_n 0), 1) := by decide +kernel
theorem dM_drop_49 : decode cM_drop 49 = .ok ((.getfield 47), 3) := by decide +kernel
theorem dM_drop_52 : decode cM_drop 52 = .ok ((.iload_n 2), 1) := by decide +kernel
theorem dM_drop_53 : decode cM_drop 53 = .ok ((.aload_n 0), 1) := by decide +kernel
theorem dM_drop_54 : decode cM_drop 54 = .ok ((.getfield 47), 3) := by decide +kernel
theorem dM_drop_57 : decode cM_drop 57 = .ok ((.iload_n 2), 1) := by decide +kernel
theorem dM_drop_58 : decode cM_drop 58 = .ok ((.iconst 1), 1) := by decide +kernel
theorem dM_drop_59 : decode cM_drop 59 = .ok (.iadd, 1) := by decide +kernel
theorem dM_drop_60 : decode cM_drop 60 = .ok (.iaload, 1) := by decide +kernel
theorem dM_drop_61 : decode cM_drop 61 = .ok (.iastore, 1) := by decide +kernel
theorem dM_drop_62 : decode cM_drop 62 = .ok ((.iinc 2 1), 3) := by decide +kernel
theorem dM_drop_65 : decode cM_drop 65 = .ok ((.goto (-53)), 3) := by decide +kernel
theorem dM_drop_68 : decode cM_drop 68 = .ok (.return_, 1) := by decide +kernel
theorem dM_steps_0 : decode cM_steps 0 = .ok ((.aload_n 0), 1) := by decide +kernel
theorem dM_steps_1 : decode cM_steps 1 = .ok ((.iconst 0), 1) := by decide +kernel
theorem dM_steps_2 : decode cM_steps 2 = .ok ((.putfield 56), 3) := by decide +kernel
theorem dM_steps_5 : decode cM_steps 5 = .ok ((.aload_n 0), 1) := by decide +kernel
theorem dM_steps_6 : decode cM_steps 6 = .ok ((.invokevirtual 74), 3) := by decide +kernel
theorem dM_steps_9 : decode cM_steps 9 = .ok ((.ifCond .le 5), 3) := by decide +kernel
theorem dM_steps_12 : decode cM_steps 12 = .ok ((.iconst (-1)), 1) := by decide +kernel
theorem dM_steps_13 : decode cM_steps 13 = .ok (.ireturn, 1) := by decide +kernel
theorem dM_steps_14 : decode cM_steps 14 = .ok ((.aload_n 0), 1) := by decide +kernel
theorem dM_steps_15 : decode cM_steps 15 = .ok ((.invokevirtual 121), 3) := by decide +kernel
theorem dM_steps_18 : decode cM_steps 18 = .ok ((.aload_n 0), 1) := by decide +kernel
theorem dM_steps_19 : decode cM_steps 19 = .ok ((.getfield 107), 3) := by decide +kernel
theorem dM_steps_22 : decode cM_steps 22 = .ok (.ireturn, 1) := by decide +kernel
theorem dM_step_0 : decode cM_step 0 = .ok ((.aload_n 0), 1) := by decide +kernel
theorem dM_step_1 : decode cM_step 1 = .ok ((.invokevirtual 121), 3) := by decide +kernel
theorem dM_step_4 : decode cM_step 4 = .ok ((.aload_n 0), 1) := by decide +kernel
theorem dM_step_5 : decode cM_step 5 = .ok ((.aload_n 0), 1) := by decide +kernel
theorem dM_step_6 : decode cM_step 6 = .ok ((.invokevirtual 74), 3) := by decide +kernel
theorem dM_step_9 : decode cM_step 9 = .ok ((.ifCond .gt 15), 3) := by decide +kernel
theorem dM_step_12 : decode cM_step 12 = .ok ((.iload_n 1), 1) := by decide +kernel
theorem dM_step_13 : decode cM_step 13 = .ok ((.ifCond .lt 11), 3) := by decide +kernel
theorem dM_step_16 : decode cM_step 16 = .ok ((.iload_n 1), 1) := by decide +kernel
theorem dM_step_17 : decode cM_step 17 = .ok ((.aload_n 0), 1) := by decide +kernel
theorem dM_step_18 : decode cM_step 18 = .ok ((.getfield 107), 3) := by decide +kernel
theorem dM_step_21 : decode cM_step 21 = .ok ((.if_icmp .lt 7), 3) := by decide +kernel
theorem dM_step_24 : decode cM_step 24 = .ok ((.iconst 1), 1) := by decide +kernel
theorem dM_step_25 : decode cM_step 25 = .ok ((.goto 4), 3) := by decide +kernel
theorem dM_step_28 : decode cM_step 28 = .ok ((.iconst 0), 1) := by decide +kernel
theorem dM_step_29 : decode cM_step 29 = .ok ((.iload_n 2), 1) := by decide +kernel
theorem dM_step_30 : decode cM_step 30 = .ok ((.ifCond .lt 8), 3) := by decide +kernel
theorem dM_step_33 : decode cM_step 33 = .ok ((.iload_n 2), 1) := by decide +kernel
theorem dM_step_34 : decode cM_step 34 = .ok ((.iconst 1), 1) := by decide +kernel
theorem dM_step_35 : decode cM_step 35 = .ok ((.if_icmp .le 7), 3) := by decide +kernel
theorem dM_step_38 : decode cM_step 38 = .ok ((.iconst 1), 1) := by decide +kernel
theorem dM_step_39 : decode cM_step 39 = .ok ((.goto 4), 3) := by decide +kernel
theorem dM_step_42 : decode cM_step 42 = .ok ((.iconst 0), 1) := by decide +kernel
theorem dM_step_43 : decode cM_step 43 = .ok ((.invokevirtual 59), 3) := by decide +kernel
theorem dM_step_46 : decode cM_step 46 = .ok ((.ifCond .eq 5), 3) := by decide +kernel
theorem dM_step_49 : decode cM_step 49 = .ok ((.iconst 0), 1) := by decide +kernel
theorem dM_step_50 : decode cM_step 50 = .ok (.ireturn, 1) := by decide +kernel
theorem dM_step_51 : decode cM_step 51 = .ok ((.iload_n 2), 1) := by decide +kernel
theorem dM_step_52 : decode cM_step 52 = .ok ((.ifCond .ne 12), 3) := by decide +kernel
theorem dM_step_55 : decode cM_step 55 = .ok ((.aload_n 0), 1) := by decide +kernel
theorem dM_step_56 : decode cM_step 56 = .ok ((.getfield 50), 3) := by decide +kernel
theorem dM_step_59 : decode cM_step 59 = .ok ((.iload_n 1), 1) := by decide +kernel
theorem dM_step_60 : decode cM_step 60 = .ok (.iaload, 1) := by decide +kernel
theorem dM_step_61 : decode cM_step 61 = .ok ((.goto 9), 3) := by decide +kernel
theorem dM_step_64 : decode cM_step 64 = .ok ((.aload_n 0), 1) := by decide +kernel
theorem dM_step_65 : decode cM_step 65 = .ok ((.getfield 53), 3) := by decide +kernel
theorem dM_step_68 : decode cM_step 68 = .ok ((.iload_n 1), 1) := by decide +kernel
theorem dM_step_69 : decode cM_step 69 = .ok (.iaload, 1) := by decide +kernel
theorem dM_step_70 : decode cM_step 70 = .ok (.ireturn, 1) := by decide +kernel
theorem dM_orders_0 : decode cM_orders 0 = .ok ((.aload_n 0), 1) := by decide +kernel
theorem dM_orders_1 : decode cM_orders 1 = .ok ((.iconst 0), 1) := by decide +kernel
theorem dM_orders_2 : decode cM_orders 2 = .ok ((.putfield 56), 3) := by decide +kernel
theorem dM_orders_5 : decode cM_orders 5 = .ok ((.aload_n 0), 1) := by decide +kernel
theorem dM_orders_6 : decode cM_orders 6 = .ok ((.ldc 162), 2) := by decide +kernel
theorem dM_orders_8 : decode cM_orders 8 = .ok ((.invokevirtual 163), 3) := by decide +kernel
theorem dM_orders_11 : decode cM_orders 11 = .ok ((.istore_n 1), 1) := by decide +kernel
theorem dM_orders_12 : decode cM_orders 12 = .ok ((.aload_n 0), 1) := by decide +kernel
theorem dM_orders_13 : decode cM_orders 13 = .ok ((.getfield 155), 3) := by decide +kernel
theorem dM_orders_16 : decode cM_orders 16 = .ok (.ireturn, 1) := by decide +kernel
theorem dM_look_0 : decode cM_look 0 = .ok ((.aload_n 0), 1) := by decide +kernel
theorem dM_look_1 : decode cM_look 1 = .ok ((.invokevirtual 152), 3) := by decide +kernel
theorem dM_look_4 : decode cM_look 4 = .ok ((.istore_n 2), 1) := by decide +kernel
theorem dM_look_5 : decode cM_look 5 = .ok ((.aload_n 0), 1) := by decide +kernel
theorem dM_look_6 : decode cM_look 6 = .ok ((.iconst 0), 1) := by decide +kernel
theorem dM_look_7 : decode cM_look 7 = .ok ((.putfield 155), 3) := by decide +kernel
theorem dM_look_10 : decode cM_look 10 = .ok ((.iconst 0), 1) := by decide +kernel
theorem dM_look_11 : decode cM_look 11 = .ok ((.istore_n 3), 1) := by decide +kernel
theorem dM_look_12 : decode cM_look 12 = .ok ((.iconst 0), 1) := by decide +kernel
theorem dM_look_13 : decode cM_look 13 = .ok ((.istore 4), 2) := by decide +kernel
theorem dM_look_15 : decode cM_look 15 = .ok ((.iload_n 3), 1) := by decide +kernel
theorem dM_look_16 : decode cM_look 16 = .ok ((.ifCond .lt 166), 3) := by decide +kernel
theorem dM_look_19 : decode cM_look 19 = .ok ((.iload_n 1), 1) := by decide +kernel
theorem dM_look_20 : decode cM_look 20 = .ok ((.ifCond .lt 162), 3) := by decide +kernel
theorem dM_look_23 : decode cM_look 23 = .ok ((.iload 4), 2) := by decide +kernel
theorem dM_look_25 : decode cM_look 25 = .ok ((.ifCond .ne 37), 3) := by decide +kernel
theorem dM_look_28 : decode cM_look 28 = .ok ((.iload_n 3), 1) := by decide +kernel
theorem dM_look_29 : decode cM_look 29 = .ok ((.iload_n 2), 1) := by decide +kernel
theorem dM_look_30 : decode cM_look 30 = .ok ((.if_icmp .ne 32), 3) := by decide +kernel
theorem dM_look_33 : decode cM_look 33 = .ok ((.aload_n 0), 1) := by decide +kernel
theorem dM_look_34 : decode cM_look 34 = .ok (.dup, 1) := by decide +kernel
theorem dM_look_35 : decode cM_look 35 = .ok ((.getfield 155), 3) := by decide +kernel
theorem dM_look_38 : decode cM_look 38 = .ok ((.iconst 1), 1) := by decide +kernel
theorem dM_look_39 : decode cM_look 39 = .ok (.iadd, 1) := by decide +kernel
theorem dM_look_40 : decode cM_look 40 = .ok ((.putfield 155), 3) := by decide +kernel
theorem dM_look_43 : decode cM_look 43 = .ok ((.aload_n 0), 1) := by decide +kernel
theorem dM_look_44 : decode cM_look 44 = .ok ((.getfield 155), 3) := by decide +kernel
theorem dM_look_47 : decode cM_look 47 = .ok ((.iload_n 1), 1) := by decide +kernel
theorem dM_look_48 : decode cM_look 48 = .ok ((.if_icmp .le 5), 3) := by decide +kernel
theorem dM_look_51 : decode cM_look 51 = .ok ((.iconst 1), 1) := by decide +kernel
theorem dM_look_52 : decode cM_look 52 = .ok (.ireturn, 1) := by decide +kernel
theorem dM_look_53 : decode cM_look 53 = .ok ((.iconst 1), 1) := by decide +kernel
theorem dM_look_54 : decode cM_look 54 = .ok ((.istore 4), 2) := by decide +kernel
theorem dM_look_56 : decode cM_look 56 = .ok ((.iinc 3 (-1)), 3) := by decide +kernel
theorem dM_look_59 : decode cM_look 59 = .ok ((.goto (-44)), 3) := by decide +kernel
theorem dM_look_62 : decode cM_look 62 = .ok ((.aload_n 0), 1) := by decide +kernel
theorem dM_look_63 : decode cM_look 63 = .ok ((.aload_n 0), 1) := by decide +kernel
theorem dM_look_64 : decode cM_look 64 = .ok ((.getfield 26), 3) := by decide +kernel
theorem dM_look_67 : decode cM_look 67 = .ok ((.iload_n 3), 1) := by decide +kernel
theorem dM_look_68 : decode cM_look 68 = .ok (.iaload, 1) := by decide +kernel
theorem dM_look_69 : decode cM_look 69 = .ok ((.aload_n 0), 1) := by decide +kernel
theorem dM_look_70 : decode cM_look 70 = .ok ((.getfield 29), 3) := by decide +kernel
theorem dM_look_73 : decode cM_look 73 = .ok ((.iload_n 3), 1) := by decide +kernel
theorem dM_look_74 : decode cM_look 74 = .ok (.iaload, 1) := by decide +kernel
theorem dM_look_75 : decode cM_look 75 = .ok ((.invokevirtual 124), 3) := by decide +kernel
theorem dM_look_78 : decode cM_look 78 = .ok ((.iload 4), 2) := by decide +kernel
theorem dM_look_80 : decode cM_look 80 = .ok ((.ifCond .eq 7), 3) := by decide +kernel
theorem dM_look_83 : decode cM_look 83 = .ok ((.iconst 1), 1) := by decide +kernel
theorem dM_look_84 : decode cM_look 84 = .ok ((.goto 4), 3) := by decide +kernel
theorem dM_look_87 : decode cM_look 87 = .ok ((.iconst 0), 1) := by decide +kernel
theorem dM_look_88 : decode cM_look 88 = .ok (.iadd, 1) := by decide +kernel
theorem dM_look_89 : decode cM_look 89 = .ok ((.istore 5), 2) := by decide +kernel
theorem dM_look_91 : decode cM_look 91 = .ok ((.iload 4), 2) := by decide +kernel
theorem dM_look_93 : decode cM_look 93 = .ok ((.ifCond .eq 8), 3) := by decide +kernel
theorem dM_look_96 : decode cM_look 96 = .ok ((.iload 5), 2) := by decide +kernel
theorem dM_look_98 : decode cM_look 98 = .ok ((.goto 4), 3) := by decide +kernel
theorem dM_look_101 : decode cM_look 101 = .ok ((.iconst 0), 1) := by decide +kernel
theorem dM_look_102 : decode cM_look 102 = .ok ((.istore 5), 2) := by decide +kernel
theorem dM_look_104 : decode cM_look 104 = .ok ((.iload 5), 2) := by decide +kernel
theorem dM_look_106 : decode cM_look 106 = .ok ((.iconst 1), 1) := by decide +kernel
theorem dM_look_107 : decode cM_look 107 = .ok ((.if_icmp .le 27), 3) := by decide +kernel
theorem dM_look_110 : decode cM_look 110 = .ok ((.aload_n 0), 1) := by decide +kernel
theorem dM_look_111 : decode cM_look 111 = .ok ((.aload_n 0), 1) := by decide +kernel
theorem dM_look_112 : decode cM_look 112 = .ok ((.getfield 26), 3) := by decide +kernel
theorem dM_look_115 : decode cM_look 115 = .ok ((.iload_n 3), 1) := by decide +kernel
theorem dM_look_116 : decode cM_look 116 = .ok (.iaload, 1) := by decide +kernel
theorem dM_look_117 : decode cM_look 117 = .ok ((.aload_n 0), 1) := by decide +kernel
theorem dM_look_118 : decode cM_look 118 = .ok ((.getfield 29), 3) := by decide +kernel
theorem dM_look_121 : decode cM_look 121 = .ok ((.iload_n 3), 1) := by decide +kernel
theorem dM_look_122 : decode cM_look 122 = .ok (.iaload, 1) := by decide +kernel
theorem dM_look_123 : decode cM_look 123 = .ok ((.bipush (-2)), 2) := by decide +kernel
theorem dM_look_125 : decode cM_look 125 = .ok ((.invokevirtual 148), 3) := by decide +kernel
theorem dM_look_128 : decode cM_look 128 = .ok ((.iinc 3 (-1)), 3) := by decide +kernel
theorem dM_look_131 : decode cM_look 131 = .ok ((.goto 48), 3) := by decide +kernel
theorem dM_look_134 : decode cM_look 134 = .ok ((.aload_n 0), 1) := by decide +kernel
theorem dM_look_135 : decode cM_look 135 = .ok ((.aload_n 0), 1) := by decide +kernel
theorem dM_look_136 : decode cM_look 136 = .ok ((.getfield 26), 3) := by decide +kernel
theorem dM_look_139 : decode cM_look 139 = .ok ((.iload_n 3), 1) := by decide +kernel
theorem dM_look_140 : decode cM_look 140 = .ok (.iaload, 1) := by decide +kernel
theorem dM_look_141 : decode cM_look 141 = .ok ((.aload_n 0), 1) := by decide +kernel
theorem dM_look_142 : decode cM_look 142 = .ok ((.getfield 29), 3) := by decide +kernel
theorem dM_look_145 : decode cM_look 145 = .ok ((.iload_n 3), 1) := by decide +kernel
theorem dM_look_146 : decode cM_look 146 = .ok (.iaload, 1) := by decide +kernel
theorem dM_look_147 : decode cM_look 147 = .ok ((.iload 5), 2) := by decide +kernel
theorem dM_look_149 : decode cM_look 149 = .ok ((.invokevirtual 148), 3) := by decide +kernel
theorem dM_look_152 : decode cM_look 152 = .ok ((.aload_n 0), 1) := by decide +kernel
theorem dM_look_153 : decode cM_look 153 = .ok ((.invokevirtual 158), 3) := by decide +kernel
theorem dM_look_156 : decode cM_look 156 = .ok ((.ifCond .ne 7), 3) := by decide +kernel
theorem dM_look_159 : decode cM_look 159 = .ok ((.iconst 1), 1) := by decide +kernel
theorem dM_look_160 : decode cM_look 160 = .ok ((.goto 4), 3) := by decide +kernel
theorem dM_look_163 : decode cM_look 163 = .ok ((.iconst 0), 1) := by decide +kernel
theorem dM_look_164 : decode cM_look 164 = .ok ((.istore 4), 2) := by decide +kernel
theorem dM_look_166 : decode cM_look 166 = .ok ((.iload 4), 2) := by decide +kernel
theorem dM_look_168 : decode cM_look 168 = .ok ((.ifCond .eq 7), 3) := by decide +kernel
theorem dM_look_171 : decode cM_look 171 = .ok ((.iload_n 3), 1) := by decide +kernel
theorem dM_look_172 : decode cM_look 172 = .ok ((.goto 6), 3) := by decide +kernel
theorem dM_look_175 : decode cM_look 175 = .ok ((.iload_n 3), 1) := by decide +kernel
theorem dM_look_176 : decode cM_look 176 = .ok ((.iconst 1), 1) := by decide +kernel
theorem dM_look_177 : decode cM_look 177 = .ok (.iadd, 1) := by decide +kernel
theorem dM_look_178 : decode cM_look 178 = .ok ((.istore_n 3), 1) := by decide +kernel
theorem dM_look_179 : decode cM_look 179 = .ok ((.goto (-164)), 3) := by decide +kernel
theorem dM_look_182 : decode cM_look 182 = .ok ((.iconst 0), 1) := by decide +kernel
theorem dM_look_183 : decode cM_look 183 = .ok (.ireturn, 1) := by decide +kernel
theorem dM_begin_0 : decode cM_begin 0 = .ok ((.iconst 0), 1) := by decide +kernel
theorem dM_begin_1 : decode cM_begin 1 = .ok ((.istore_n 1), 1) := by decide +kernel
theorem dM_begin_2 : decode cM_begin 2 = .ok ((.iload_n 1), 1) := by decide +kernel
theorem dM_begin_3 : decode cM_begin 3 = .ok ((.aload_n 0), 1) := by decide +kernel
theorem dM_begin_4 : decode cM_begin 4 = .ok ((.getfield 63), 3) := by decide +kernel
theorem dM_begin_7 : decode cM_begin 7 = .ok ((.if_icmp .gt 31), 3) := by decide +kernel
theorem dM_begin_10 : decode cM_begin 10 = .ok ((.aload_n 0), 1) := by decide +kernel
theorem dM_begin_11 : decode cM_begin 11 = .ok ((.getfield 32), 3) := by decide +kernel
theorem dM_begin_14 : decode cM_begin 14 = .ok ((.iload_n 1), 1) := by decide +kernel
theorem dM_begin_15 : decode cM_begin 15 = .ok ((.aload_n 0), 1) := by decide +kernel
theorem dM_begin_16 : decode cM_begin 16 = .ok ((.iload_n 1), 1) := by decide +kernel
theorem dM_begin_17 : decode cM_begin 17 = .ok ((.invokevirtual 90), 3) := by decide +kernel
theorem dM_begin_20 : decode cM_begin 20 = .ok (.iastore, 1) := by decide +kernel
theorem dM_begin_21 : decode cM_begin 21 = .ok ((.aload_n 0), 1) := by decide +kernel
theorem dM_begin_22 : decode cM_begin 22 = .ok ((.getfield 35), 3) := by decide +kernel
theorem dM_begin_25 : decode cM_begin 25 = .ok ((.iload_n 1), 1) := by decide +kernel
theorem dM_begin_26 : decode cM_begin 26 = .ok ((.aload_n 0), 1) := by decide +kernel
theorem dM_begin_27 : decode cM_begin 27 = .ok ((.iload_n 1), 1) := by decide +kernel
theorem dM_begin_28 : decode cM_begin 28 = .ok ((.invokevirtual 93), 3) := by decide +kernel
theorem dM_begin_31 : decode cM_begin 31 = .ok (.iastore, 1) := by decide +kernel
theorem dM_begin_32 : decode cM_begin 32 = .ok ((.iinc 1 1), 3) := by decide +kernel
theorem dM_begin_35 : decode cM_begin 35 = .ok ((.goto (-33)), 3) := by decide +kernel
theorem dM_begin_38 : decode cM_begin 38 = .ok ((.iconst 0), 1) := by decide +kernel
theorem dM_begin_39 : decode cM_begin 39 = .ok ((.istore_n 1), 1) := by decide +kernel
theorem dM_begin_40 : decode cM_begin 40 = .ok ((.iload_n 1), 1) := by decide +kernel
theorem dM_begin_41 : decode cM_begin 41 = .ok ((.aload_n 0), 1) := by decide +kernel
theorem dM_begin_42 : decode cM_begin 42 = .ok ((.getfield 63), 3) := by decide +kernel
theorem dM_begin_45 : decode cM_begin 45 = .ok ((.if_icmp .ge 25), 3) := by decide +kernel
theorem dM_begin_48 : decode cM_begin 48 = .ok ((.aload_n 0), 1) := by decide +kernel
theorem dM_begin_49 : decode cM_begin 49 = .ok ((.getfield 38), 3) := by decide +kernel
theorem dM_begin_52 : decode cM_begin 52 = .ok ((.iload_n 1), 1) := by decide +kernel
theorem dM_begin_53 : decode cM_begin 53 = .ok ((.aload_n 0), 1) := by decide +kernel
theorem dM_begin_54 : decode cM_begin 54 = .ok ((.aload_n 0), 1) := by decide +kernel
theorem dM_begin_55 : decode cM_begin 55 = .ok ((.getfield 13), 3) := by decide +kernel
theorem dM_begin_58 : decode cM_begin 58 = .ok ((.iload_n 1), 1) := by decide +kernel
theorem dM_begin_59 : decode cM_begin 59 = .ok (.iaload, 1) := by decide +kernel
theorem dM_begin_60 : decode cM_begin 60 = .ok ((.invokevirtual 84), 3) := by decide +kernel
theorem dM_begin_63 : decode cM_begin 63 = .ok (.iastore, 1) := by decide +kernel
theorem dM_begin_64 : decode cM_begin 64 = .ok ((.iinc 1 1), 3) := by decide +kernel
theorem dM_begin_67 : decode cM_begin 67 = .ok ((.goto (-27)), 3) := by decide +kernel
theorem dM_begin_70 : decode cM_begin 70 = .ok ((.iconst 0), 1) := by decide +kernel
theorem dM_begin_71 : decode cM_begin 71 = .ok ((.istore_n 1), 1) := by decide +kernel
theorem dM_begin_72 : decode cM_begin 72 = .ok ((.iconst 0), 1) := by decide +kernel
theorem dM_begin_73 : decode cM_begin 73 = .ok ((.istore_n 2), 1) := by decide +kernel
theorem dM_begin_74 : decode cM_begin 74 = .ok ((.iload_n 2), 1) := by decide +kernel
theorem dM_begin_75 : decode cM_begin 75 = .ok ((.bipush 49), 2) := by decide +kernel
theorem dM_begin_77 : decode cM_begin 77 = .ok ((.if_icmp .ge 16), 3) := by decide +kernel
theorem dM_begin_80 : decode cM_begin 80 = .ok ((.aload_n 0), 1) := by decide +kernel
theorem dM_begin_81 : decode cM_begin 81 = .ok ((.getfield 23), 3) := by decide +kernel
theorem dM_begin_84 : decode cM_begin 84 = .ok ((.iload_n 2), 1) := by decide +kernel
theorem dM_begin_85 : decode cM_begin 85 = .ok ((.iconst (-1)), 1) := by decide +kernel
theorem dM_begin_86 : decode cM_begin 86 = .ok (.iastore, 1) := by decide +kernel
theorem dM_begin_87 : decode cM_begin 87 = .ok ((.iinc 2 1), 3) := by decide +kernel
theorem dM_begin_90 : decode cM_begin 90 = .ok ((.goto (-16)), 3) := by decide +kernel
theorem dM_begin_93 : decode cM_begin 93 = .ok ((.iconst 1), 1) := by decide +kernel
theorem dM_begin_94 : decode cM_begin 94 = .ok ((.istore_n 2), 1) := by decide +kernel
theorem dM_begin_95 : decode cM_begin 95 = .ok ((.iload_n 2), 1) := by decide +kernel
theorem dM_begin_96 : decode cM_begin 96 = .ok ((.aload_n 0), 1) := by decide +kernel
theorem dM_begin_97 : decode cM_begin 97 = .ok ((.getfield 63), 3) := by decide +kernel
theorem dM_begin_100 : decode cM_begin 100 = .ok ((.if_icmp .gt 56), 3) := by decide +kernel
theorem dM_begin_103 : decode cM_begin 103 = .ok ((.iconst 0), 1) := by decide +kernel
theorem dM_begin_104 : decode cM_begin 104 = .ok ((.istore_n 3), 1) := by decide +kernel
theorem dM_begin_105 : decode cM_begin 105 = .ok ((.iload_n 3), 1) := by decide +kernel
theorem dM_begin_106 : decode cM_begin 106 = .ok ((.iload_n 2), 1) := by decide +kernel
theorem dM_begin_107 : decode cM_begin 107 = .ok ((.if_icmp .ge 43), 3) := by decide +kernel
theorem dM_begin_110 : decode cM_begin 110 = .ok ((.aload_n 0), 1) := by decide +kernel
theorem dM_begin_111 : decode cM_begin 111 = .ok ((.iload_n 3), 1) := by decide +kernel
theorem dM_begin_112 : decode cM_begin 112 = .ok ((.iload_n 2), 1) := by decide +kernel
theorem dM_begin_113 : decode cM_begin 113 = .ok ((.invokevirtual 132), 3) := by decide +kernel
theorem dM_begin_116 : decode cM_begin 116 = .ok ((.ifCond .eq 28), 3) := by decide +kernel
theorem dM_begin_119 : decode cM_begin 119 = .ok ((.aload_n 0), 1) := by decide +kernel
theorem dM_begin_120 : decode cM_begin 120 = .ok ((.iload_n 3), 1) := by decide +kernel
theorem dM_begin_121 : decode cM_begin 121 = .ok ((.iload_n 2), 1) := by decide +kernel
theorem dM_begin_122 : decode cM_begin 122 = .ok ((.bipush (-2)), 2) := by decide +kernel
theorem dM_begin_124 : decode cM_begin 124 = .ok ((.invokevirtual 148), 3) := by decide +kernel
theorem dM_begin_127 : decode cM_begin 127 = .ok ((.aload_n 0), 1) := by decide +kernel
theorem dM_begin_128 : decode cM_begin 128 = .ok ((.getfield 26), 3) := by decide +kernel
theorem dM_begin_131 : decode cM_begin 131 = .ok ((.iload_n 1), 1) := by decide +kernel
theorem dM_begin_132 : decode cM_begin 132 = .ok ((.iload_n 3), 1) := by decide +kernel
theorem dM_begin_133 : decode cM_begin 133 = .ok (.iastore, 1) := by decide +kernel
theorem dM_begin_134 : decode cM_begin 134 = .ok ((.aload_n 0), 1) := by decide +kernel
theorem dM_begin_135 : decode cM_begin 135 = .ok ((.getfield 29), 3) := by decide +kernel
theorem dM_begin_138 : decode cM_begin 138 = .ok ((.iload_n 1), 1) := by decide +kernel
theorem dM_begin_139 : decode cM_begin 139 = .ok ((.iload_n 2), 1) := by decide +kernel
theorem dM_begin_140 : decode cM_begin 140 = .ok (.iastore, 1) := by decide +kernel
theorem dM_begin_141 : decode cM_begin 141 = .ok ((.iinc 1 1), 3) := by decide +kernel
theorem dM_begin_144 : decode cM_begin 144 = .ok ((.iinc 3 1), 3) := by decide +kernel
theorem dM_begin_147 : decode cM_begin 147 = .ok ((.goto (-42)), 3) := by decide +kernel
theorem dM_begin_150 : decode cM_begin 150 = .ok ((.iinc 2 1), 3) := by decide +kernel
theorem dM_begin_153 : decode cM_begin 153 = .ok ((.goto (-58)), 3) := by decide +kernel
theorem dM_begin_156 : decode cM_begin 156 = .ok ((.iload_n 1), 1) := by decide +kernel
theorem dM_begin_157 : decode cM_begin 157 = .ok (.ireturn, 1) := by decide +kernel
theorem dM_overlap_0 : decode cM_overlap 0 = .ok ((.aload_n 0), 1) := by decide +kernel
theorem dM_overlap_1 : decode cM_overlap 1 = .ok ((.getfield 32), 3) := by decide +kernel
theorem dM_overlap_4 : decode cM_overlap 4 = .ok ((.iload_n 1), 1) := by decide +kernel
theorem dM_overlap_5 : decode cM_overlap 5 = .ok (.iaload, 1) := by decide +kernel
theorem dM_overlap_6 : decode cM_overlap 6 = .ok ((.aload_n 0), 1) := by decide +kernel
theorem dM_overlap_7 : decode cM_overlap 7 = .ok ((.getfield 32), 3) := by decide +kernel
theorem dM_overlap_10 : decode cM_overlap 10 = .ok ((.iload_n 2), 1) := by decide +kernel
theorem dM_overlap_11 : decode cM_overlap 11 = .ok (.iaload, 1) := by decide +kernel
theorem dM_overlap_12 : decode cM_overlap 12 = .ok ((.if_icmp .le 12), 3) := by decide +kernel
theorem dM_overlap_15 : decode cM_overlap 15 = .ok ((.aload_n 0), 1) := by decide +kernel
theorem dM_overlap_16 : decode cM_overlap 16 = .ok ((.getfield 32), 3) := by decide +kernel
theorem dM_overlap_19 : decode cM_overlap 19 = .ok ((.iload_n 1), 1) := by decide +kernel
theorem dM_overlap_20 : decode cM_overlap 20 = .ok (.iaload, 1) := by decide +kernel
theorem dM_overlap_21 : decode cM_overlap 21 = .ok ((.goto 9), 3) := by decide +kernel
theorem dM_overlap_24 : decode cM_overlap 24 = .ok ((.aload_n 0), 1) := by decide +kernel
theorem dM_overlap_25 : decode cM_overlap 25 = .ok ((.getfield 32), 3) := by decide +kernel
theorem dM_overlap_28 : decode cM_overlap 28 = .ok ((.iload_n 2), 1) := by decide +kernel
theorem dM_overlap_29 : decode cM_overlap 29 = .ok (.iaload, 1) := by decide +kernel
theorem dM_overlap_30 : decode cM_overlap 30 = .ok ((.istore_n 3), 1) := by decide +kernel
theorem dM_overlap_31 : decode cM_overlap 31 = .ok ((.aload_n 0), 1) := by decide +kernel
theorem dM_overlap_32 : decode cM_overlap 32 = .ok ((.getfield 35), 3) := by decide +kernel
theorem dM_overlap_35 : decode cM_overlap 35 = .ok ((.iload_n 1), 1) := by decide +kernel
theorem dM_overlap_36 : decode cM_overlap 36 = .ok (.iaload, 1) := by decide +kernel
theorem dM_overlap_37 : decode cM_overlap 37 = .ok ((.aload_n 0), 1) := by decide +kernel
theorem dM_overlap_38 : decode cM_overlap 38 = .ok ((.getfield 35), 3) := by decide +kernel
theorem dM_overlap_41 : decode cM_overlap 41 = .ok ((.iload_n 2), 1) := by decide +kernel
theorem dM_overlap_42 : decode cM_overlap 42 = .ok (.iaload, 1) := by decide +kernel
theorem dM_overlap_43 : decode cM_overlap 43 = .ok ((.if_icmp .ge 12), 3) := by decide +kernel
theorem dM_overlap_46 : decode cM_overlap 46 = .ok ((.aload_n 0), 1) := by decide +kernel
theorem dM_overlap_47 : decode cM_overlap 47 = .ok ((.getfield 35), 3) := by decide +kernel
theorem dM_overlap_50 : decode cM_overlap 50 = .ok ((.iload_n 1), 1) := by decide +kernel
theorem dM_overlap_51 : decode cM_overlap 51 = .ok (.iaload, 1) := by decide +kernel
theorem dM_overlap_52 : decode cM_overlap 52 = .ok ((.goto 9), 3) := by decide +kernel
theorem dM_overlap_55 : decode cM_overlap 55 = .ok ((.aload_n 0), 1) := by decide +kernel
theorem dM_overlap_56 : decode cM_overlap 56 = .ok ((.getfield 35), 3) := by decide +kernel
theorem dM_overlap_59 : decode cM_overlap 59 = .ok ((.iload_n 2), 1) := by decide +kernel
theorem dM_overlap_60 : decode cM_overlap 60 = .ok (.iaload, 1) := by decide +kernel
theorem dM_overlap_61 : decode cM_overlap 61 = .ok ((.istore 4), 2) := by decide +kernel
theorem dM_overlap_63 : decode cM_overlap 63 = .ok ((.iload_n 1), 1) := by decide +kernel
theorem dM_overlap_64 : decode cM_overlap 64 = .ok ((.iload_n 2), 1) := by decide +kernel
theorem dM_overlap_65 : decode cM_overlap 65 = .ok ((.if_icmp .eq 13), 3) := by decide +kernel
theorem dM_overlap_68 : decode cM_overlap 68 = .ok ((.iload_n 3), 1) := by decide +kernel
theorem dM_overlap_69 : decode cM_overlap 69 = .ok ((.iload 4), 2) := by decide +kernel
theorem dM_overlap_71 : decode cM_overlap 71 = .ok ((.if_icmp .ge 7), 3) := by decide +kernel
theorem dM_overlap_74 : decode cM_overlap 74 = .ok ((.iconst 1), 1) := by decide +kernel
theorem dM_overlap_75 : decode cM_overlap 75 = .ok ((.goto 4), 3) := by decide +kernel
theorem dM_overlap_78 : decode cM_overlap 78 = .ok ((.iconst 0), 1) := by decide +kernel
theorem dM_overlap_79 : decode cM_overlap 79 = .ok (.ireturn, 1) := by decide +kernel
theorem dM_set_0 : decode cM_set 0 = .ok ((.aload_n 0), 1) := by decide +kernel
theorem dM_set_1 : decode cM_set 1 = .ok ((.getfield 23), 3) := by decide +kernel
theorem dM_set_4 : decode cM_set 4 = .ok ((.bipush 7), 2) := by decide +kernel
theorem dM_set_6 : decode cM_set 6 = .ok ((.iload_n 1), 1) := by decide +kernel
theorem dM_set_7 : decode cM_set 7 = .ok (.imul, 1) := by decide +kernel
theorem dM_set_8 : decode cM_set 8 = .ok ((.iload_n 2), 1) := by decide +kernel
theorem dM_set_9 : decode cM_set 9 = .ok (.iadd, 1) := by decide +kernel
theorem dM_set_10 : decode cM_set 10 = .ok ((.iload_n 3), 1) := by decide +kernel
theorem dM_set_11 : decode cM_set 11 = .ok (.iastore, 1) := by decide +kernel
theorem dM_set_12 : decode cM_set 12 = .ok ((.aload_n 0), 1) := by decide +kernel
theorem dM_set_13 : decode cM_set 13 = .ok ((.getfield 23), 3) := by decide +kernel
theorem dM_set_16 : decode cM_set 16 = .ok ((.bipush 7), 2) := by decide +kernel
theorem dM_set_18 : decode cM_set 18 = .ok ((.iload_n 2), 1) := by decide +kernel
theorem dM_set_19 : decode cM_set 19 = .ok (.imul, 1) := by decide +kernel
theorem dM_set_20 : decode cM_set 20 = .ok ((.iload_n 1), 1) := by decide +kernel
theorem dM_set_21 : decode cM_set 21 = .ok (.iadd, 1) := by decide +kernel
theorem dM_set_22 : decode cM_set 22 = .ok ((.iload_n 3), 1) := by decide +kernel
theorem dM_set_23 : decode cM_set 23 = .ok ((.ifCond .ge 7), 3) := by decide +kernel
theorem dM_set_26 : decode cM_set 26 = .ok ((.iload_n 3), 1) := by decide +kernel
theorem dM_set_27 : decode cM_set 27 = .ok ((.goto 6), 3) := by decide +kernel
theorem dM_set_30 : decode cM_set 30 = .ok ((.iconst 1), 1) := by decide +kernel
theorem dM_set_31 : decode cM_set 31 = .ok ((.iload_n 3), 1) := by decide +kernel
theorem dM_set_32 : decode cM_set 32 = .ok (.isub, 1) := by decide +kernel
theorem dM_set_33 : decode cM_set 33 = .ok (.iastore, 1) := by decide +kernel
theorem dM_set_34 : decode cM_set 34 = .ok (.return_, 1) := by decide +kernel
theorem dM_get_0 : decode cM_get 0 = .ok ((.aload_n 0), 1) := by decide +kernel
theorem dM_get_1 : decode cM_get 1 = .ok ((.getfield 23), 3) := by decide +kernel
theorem dM_get_4 : decode cM_get 4 = .ok ((.bipush 7), 2) := by decide +kernel
theorem dM_get_6 : decode cM_get 6 = .ok ((.iload_n 1), 1) := by decide +kernel
theorem dM_get_7 : decode cM_get 7 = .ok (.imul, 1) := by decide +kernel
theorem dM_get_8 : decode cM_get 8 = .ok ((.iload_n 2), 1) := by decide +kernel
theorem dM_get_9 : decode cM_get 9 = .ok (.iadd, 1) := by decide +kernel
theorem dM_get_10 : decode cM_get 10 = .ok (.iaload, 1) := by decide +kernel
theorem dM_get_11 : decode cM_get 11 = .ok (.ireturn, 1) := by decide +kernel
theorem dM_holds_0 : decode cM_holds 0 = .ok ((.iconst 1), 1) := by decide +kernel
theorem dM_holds_1 : decode cM_holds 1 = .ok ((.istore_n 1), 1) := by decide +kernel
theorem dM_holds_2 : decode cM_holds 2 = .ok ((.aload_n 0), 1) := by decide +kernel
theorem dM_holds_3 : decode cM_holds 3 = .ok ((.getfield 63), 3) := by decide +kernel
theorem dM_holds_6 : decode cM_holds 6 = .ok ((.iconst 1), 1) := by decide +kernel
theorem dM_holds_7 : decode cM_holds 7 = .ok (.iadd, 1) := by decide +kernel
theorem dM_holds_8 : decode cM_holds 8 = .ok ((.istore_n 2), 1) := by decide +kernel
theorem dM_holds_9 : decode cM_holds 9 = .ok ((.iconst 0), 1) := by decide +kernel
theorem dM_holds_10 : decode cM_holds 10 = .ok ((.istore_n 3), 1) := by decide +kernel
theorem dM_holds_11 : decode cM_holds 11 = .ok ((.iload_n 3), 1) := by decide +kernel
theorem dM_holds_12 : decode cM_holds 12 = .ok ((.iload_n 2), 1) := by decide +kernel
theorem dM_holds_13 : decode cM_holds 13 = .ok ((.if_icmp .ge 97), 3) := by decide +kernel
theorem dM_holds_16 : decode cM_holds 16 = .ok ((.iload_n 3), 1) := by decide +kernel
theorem dM_holds_17 : decode cM_holds 17 = .ok ((.iconst 1), 1) := by decide +kernel
theorem dM_holds_18 : decode cM_holds 18 = .ok (.iadd, 1) := by decide +kernel
theorem dM_holds_19 : decode cM_holds 19 = .ok ((.istore 4), 2) := by decide +kernel
theorem dM_holds_21 : decode cM_holds 21 = .ok ((.iload 4), 2) := by decide +kernel
theorem dM_holds_23 : decode cM_holds 23 = .ok ((.iload_n 2), 1) := by decide +kernel
theorem dM_holds_24 : decode cM_holds 24 = .ok ((.if_icmp .ge 80), 3) := by decide +kernel
theorem dM_holds_27 : decode cM_holds 27 = .ok ((.iload 4), 2) := by decide +kernel
theorem dM_holds_29 : decode cM_holds 29 = .ok ((.iconst 1), 1) := by decide +kernel
theorem dM_holds_30 : decode cM_holds 30 = .ok (.iadd, 1) := by decide +kernel
theorem dM_holds_31 : decode cM_holds 31 = .ok ((.istore 5), 2) := by decide +kernel
theorem dM_holds_33 : decode cM_holds 33 = .ok ((.iload 5), 2) := by decide +kernel
theorem dM_holds_35 : decode cM_holds 35 = .ok ((.iload_n 2), 1) := by decide +kernel
theorem dM_holds_36 : decode cM_holds 36 = .ok ((.if_icmp .ge 62), 3) := by decide +kernel
theorem dM_holds_39 : decode cM_holds 39 = .ok ((.iload_n 1), 1) := by decide +kernel
theorem dM_holds_40 : decode cM_holds 40 = .ok ((.ifCond .eq 50), 3) := by decide +kernel
theorem dM_holds_43 : decode cM_holds 43 = .ok ((.aload_n 0), 1) := by decide +kernel
theorem dM_holds_44 : decode cM_holds 44 = .ok ((.iload_n 3), 1) := by decide +kernel
theorem dM_holds_45 : decode cM_holds 45 = .ok ((.iload 4), 2) := by decide +kernel
theorem dM_holds_47 : decode cM_holds 47 = .ok ((.invokevirtual 132), 3) := by decide +kernel
theorem dM_holds_50 : decode cM_holds 50 = .ok ((.ifCond .eq 36), 3) := by decide +kernel
theorem dM_holds_53 : decode cM_holds 53 = .ok ((.aload_n 0), 1) := by decide +kernel
theorem dM_holds_54 : decode cM_holds 54 = .ok ((.iload 4), 2) := by decide +kernel
theorem dM_holds_56 : decode cM_holds 56 = .ok ((.iload 5), 2) := by decide +kernel
theorem dM_holds_58 : decode cM_holds 58 = .ok ((.invokevirtual 132), 3) := by decide +kernel
theorem dM_holds_61 : decode cM_holds 61 = .ok ((.ifCond .eq 25), 3) := by decide +kernel
theorem dM_holds_64 : decode cM_holds 64 = .ok ((.aload_n 0), 1) := by decide +kernel
theorem dM_holds_65 : decode cM_holds 65 = .ok ((.iload_n 3), 1) := by decide +kernel
theorem dM_holds_66 : decode cM_holds 66 = .ok ((.iload 5), 2) := by decide +kernel
theorem dM_holds_68 : decode cM_holds 68 = .ok ((.invokevirtual 132), 3) := by decide +kernel
theorem dM_holds_71 : decode cM_holds 71 = .ok ((.ifCond .eq 15), 3) := by decide +kernel
theorem dM_holds_74 : decode cM_holds 74 = .ok ((.aload_n 0), 1) := by decide +kernel
theorem dM_holds_75 : decode cM_holds 75 = .ok ((.iload_n 3), 1) := by decide +kernel
theorem dM_holds_76 : decode cM_holds 76 = .ok ((.iload 4), 2) := by decide +kernel
theorem dM_holds_78 : decode cM_holds 78 = .ok ((.iload 5), 2) := by decide +kernel
theorem dM_holds_80 : decode cM_holds 80 = .ok ((.invokevirtual 135), 3) := by decide +kernel
theorem dM_holds_83 : decode cM_holds 83 = .ok ((.ifCond .ne 7), 3) := by decide +kernel
theorem dM_holds_86 : decode cM_holds 86 = .ok ((.iconst 1), 1) := by decide +kernel
theorem dM_holds_87 : decode cM_holds 87 = .ok ((.goto 4), 3) := by decide +kernel
theorem dM_holds_90 : decode cM_holds 90 = .ok ((.iconst 0), 1) := by decide +kernel
theorem dM_holds_91 : decode cM_holds 91 = .ok ((.istore_n 1), 1) := by decide +kernel
theorem dM_holds_92 : decode cM_holds 92 = .ok ((.iinc 5 1), 3) := by decide +kernel
theorem dM_holds_95 : decode cM_holds 95 = .ok ((.goto (-62)), 3) := by decide +kernel
theorem dM_holds_98 : decode cM_holds 98 = .ok ((.iinc 4 1), 3) := by decide +kernel
theorem dM_holds_101 : decode cM_holds 101 = .ok ((.goto (-80)), 3) := by decide +kernel
theorem dM_holds_104 : decode cM_holds 104 = .ok ((.iinc 3 1), 3) := by decide +kernel
theorem dM_holds_107 : decode cM_holds 107 = .ok ((.goto (-96)), 3) := by decide +kernel
theorem dM_holds_110 : decode cM_holds 110 = .ok ((.iconst 0), 1) := by decide +kernel
theorem dM_holds_111 : decode cM_holds 111 = .ok ((.istore_n 3), 1) := by decide +kernel
theorem dM_holds_112 : decode cM_holds 112 = .ok ((.iload_n 3), 1) := by decide +kernel
theorem dM_holds_113 : decode cM_holds 113 = .ok ((.aload_n 0), 1) := by decide +kernel
theorem dM_holds_114 : decode cM_holds 114 = .ok ((.getfield 63), 3) := by decide +kernel
theorem dM_holds_117 : decode cM_holds 117 = .ok ((.if_icmp .ge 79), 3) := by decide +kernel
theorem dM_holds_120 : decode cM_holds 120 = .ok ((.iload_n 1), 1) := by decide +kernel
theorem dM_holds_121 : decode cM_holds 121 = .ok ((.ifCond .eq 75), 3) := by decide +kernel
theorem dM_holds_124 : decode cM_holds 124 = .ok ((.aload_n 0), 1) := by decide +kernel
theorem dM_holds_125 : decode cM_holds 125 = .ok ((.iload_n 3), 1) := by decide +kernel
theorem dM_holds_126 : decode cM_holds 126 = .ok ((.invokevirtual 139), 3) := by decide +kernel
theorem dM_holds_129 : decode cM_holds 129 = .ok ((.ifCond .eq 15), 3) := by decide +kernel
theorem dM_holds_132 : decode cM_holds 132 = .ok ((.aload_n 0), 1) := by decide +kernel
theorem dM_holds_133 : decode cM_holds 133 = .ok ((.iload_n 3), 1) := by decide +kernel
theorem dM_holds_134 : decode cM_holds 134 = .ok ((.invokevirtual 142), 3) := by decide +kernel
theorem dM_holds_137 : decode cM_holds 137 = .ok ((.ifCond .eq 7), 3) := by decide +kernel
theorem dM_holds_140 : decode cM_holds 140 = .ok ((.iconst 1), 1) := by decide +kernel
theorem dM_holds_141 : decode cM_holds 141 = .ok ((.goto 4), 3) := by decide +kernel
theorem dM_holds_144 : decode cM_holds 144 = .ok ((.iconst 0), 1) := by decide +kernel
theorem dM_holds_145 : decode cM_holds 145 = .ok ((.istore_n 1), 1) := by decide +kernel
theorem dM_holds_146 : decode cM_holds 146 = .ok ((.iconst 0), 1) := by decide +kernel
theorem dM_holds_147 : decode cM_holds 147 = .ok ((.istore 4), 2) := by decide +kernel
theorem dM_holds_149 : decode cM_holds 149 = .ok ((.iload 4), 2) := by decide +kernel
theorem dM_holds_151 : decode cM_holds 151 = .ok ((.aload_n 0), 1) := by decide +kernel
theorem dM_holds_152 : decode cM_holds 152 = .ok ((.getfield 63), 3) := by decide +kernel
theorem dM_holds_155 : decode cM_holds 155 = .ok ((.if_icmp .ge 35), 3) := by decide +kernel
theorem dM_holds_158 : decode cM_holds 158 = .ok ((.iload_n 1), 1) := by decide +kernel
theorem dM_holds_159 : decode cM_holds 159 = .ok ((.ifCond .eq 31), 3) := by decide +kernel
theorem dM_holds_162 : decode cM_holds 162 = .ok ((.iload 4), 2) := by decide +kernel
theorem dM_holds_164 : decode cM_holds 164 = .ok ((.iload_n 3), 1) := by decide +kernel
theorem dM_holds_165 : decode cM_holds 165 = .ok ((.if_icmp .eq 13), 3) := by decide +kernel
theorem dM_holds_168 : decode cM_holds 168 = .ok ((.aload_n 0), 1) := by decide +kernel
theorem dM_holds_169 : decode cM_holds 169 = .ok ((.iload_n 3), 1) := by decide +kernel
theorem dM_holds_170 : decode cM_holds 170 = .ok ((.iload 4), 2) := by decide +kernel
theorem dM_holds_172 : decode cM_holds 172 = .ok ((.invokevirtual 145), 3) := by decide +kernel
theorem dM_holds_175 : decode cM_holds 175 = .ok ((.ifCond .eq 7), 3) := by decide +kernel
theorem dM_holds_178 : decode cM_holds 178 = .ok ((.iconst 1), 1) := by decide +kernel
theorem dM_holds_179 : decode cM_holds 179 = .ok ((.goto 4), 3) := by decide +kernel
theorem dM_holds_182 : decode cM_holds 182 = .ok ((.iconst 0), 1) := by decide +kernel
theorem dM_holds_183 : decode cM_holds 183 = .ok ((.istore_n 1), 1) := by decide +kernel
theorem dM_holds_184 : decode cM_holds 184 = .ok ((.iinc 4 1), 3) := by decide +kernel
theorem dM_holds_187 : decode cM_holds 187 = .ok ((.goto (-38)), 3) := by decide +kernel
theorem dM_holds_190 : decode cM_holds 190 = .ok ((.iinc 3 1), 3) := by decide +kernel
theorem dM_holds_193 : decode cM_holds 193 = .ok ((.goto (-81)), 3) := by decide +kernel
theorem dM_holds_196 : decode cM_holds 196 = .ok ((.iload_n 1), 1) := by decide +kernel
theorem dM_holds_197 : decode cM_holds 197 = .ok (.ireturn, 1) := by decide +kernel
theorem dM_turnsRound_0 : decode cM_turnsRound 0 = .ok ((.aload_n 0), 1) := by decide +kernel
theorem dM_turnsRound_1 : decode cM_turnsRound 1 = .ok ((.iload_n 1), 1) := by decide +kernel
theorem dM_turnsRound_2 : decode cM_turnsRound 2 = .ok ((.iload_n 2), 1) := by decide +kernel
theorem dM_turnsRound_3 : decode cM_turnsRound 3 = .ok ((.invokevirtual 124), 3) := by decide +kernel
theorem dM_turnsRound_6 : decode cM_turnsRound 6 = .ok ((.iconst 1), 1) := by decide +kernel
theorem dM_turnsRound_7 : decode cM_turnsRound 7 = .ok ((.if_icmp .ne 23), 3) := by decide +kernel
theorem dM_turnsRound_10 : decode cM_turnsRound 10 = .ok ((.aload_n 0), 1) := by decide +kernel
theorem dM_turnsRound_11 : decode cM_turnsRound 11 = .ok ((.iload_n 2), 1) := by decide +kernel
theorem dM_turnsRound_12 : decode cM_turnsRound 12 = .ok ((.iload_n 3), 1) := by decide +kernel
theorem dM_turnsRound_13 : decode cM_turnsRound 13 = .ok ((.invokevirtual 124), 3) := by decide +kernel
theorem dM_turnsRound_16 : decode cM_turnsRound 16 = .ok ((.iconst 1), 1) := by decide +kernel
theorem dM_turnsRound_17 : decode cM_turnsRound 17 = .ok ((.if_icmp .ne 13), 3) := by decide +kernel
theorem dM_turnsRound_20 : decode cM_turnsRound 20 = .ok ((.aload_n 0), 1) := by decide +kernel
theorem dM_turnsRound_21 : decode cM_turnsRound 21 = .ok ((.iload_n 3), 1) := by decide +kernel
theorem dM_turnsRound_22 : decode cM_turnsRound 22 = .ok ((.iload_n 1), 1) := by decide +kernel
theorem dM_turnsRound_23 : decode cM_turnsRound 23 = .ok ((.invokevirtual 124), 3) := by decide +kernel
theorem dM_turnsRound_26 : decode cM_turnsRound 26 = .ok ((.iconst 1), 1) := by decide +kernel
theorem dM_turnsRound_27 : decode cM_turnsRound 27 = .ok ((.if_icmp .eq 30), 3) := by decide +kernel
theorem dM_turnsRound_30 : decode cM_turnsRound 30 = .ok ((.aload_n 0), 1) := by decide +kernel
theorem dM_turnsRound_31 : decode cM_turnsRound 31 = .ok ((.iload_n 1), 1) := by decide +kernel
theorem dM_turnsRound_32 : decode cM_turnsRound 32 = .ok ((.iload_n 2), 1) := by decide +kernel
theorem dM_turnsRound_33 : decode cM_turnsRound 33 = .ok ((.invokevirtual 124), 3) := by decide +kernel
theorem dM_turnsRound_36 : decode cM_turnsRound 36 = .ok ((.ifCond .ne 25), 3) := by decide +kernel
theorem dM_turnsRound_39 : decode cM_turnsRound 39 = .ok ((.aload_n 0), 1) := by decide +kernel
theorem dM_turnsRound_40 : decode cM_turnsRound 40 = .ok ((.iload_n 2), 1) := by decide +kernel
theorem dM_turnsRound_41 : decode cM_turnsRound 41 = .ok ((.iload_n 3), 1) := by decide +kernel
theorem dM_turnsRound_42 : decode cM_turnsRound 42 = .ok ((.invokevirtual 124), 3) := by decide +kernel
theorem dM_turnsRound_45 : decode cM_turnsRound 45 = .ok ((.ifCond .ne 16), 3) := by decide +kernel
theorem dM_turnsRound_48 : decode cM_turnsRound 48 = .ok ((.aload_n 0), 1) := by decide +kernel
theorem dM_turnsRound_49 : decode cM_turnsRound 49 = .ok ((.iload_n 3), 1) := by decide +kernel
theorem dM_turnsRound_50 : decode cM_turnsRound 50 = .ok ((.iload_n 1), 1) := by decide +kernel
theorem dM_turnsRound_51 : decode cM_turnsRound 51 = .ok ((.invokevirtual 124), 3) := by decide +kernel
theorem dM_turnsRound_54 : decode cM_turnsRound 54 = .ok ((.ifCond .ne 7), 3) := by decide +kernel
theorem dM_turnsRound_57 : decode cM_turnsRound 57 = .ok ((.iconst 1), 1) := by decide +kernel
theorem dM_turnsRound_58 : decode cM_turnsRound 58 = .ok ((.goto 4), 3) := by decide +kernel
theorem dM_turnsRound_61 : decode cM_turnsRound 61 = .ok ((.iconst 0), 1) := by decide +kernel
theorem dM_turnsRound_62 : decode cM_turnsRound 62 = .ok (.ireturn, 1) := by decide +kernel
theorem dM_isMarked_0 : decode cM_isMarked 0 = .ok ((.aload_n 0), 1) := by decide +kernel
theorem dM_isMarked_1 : decode cM_isMarked 1 = .ok ((.iload_n 1), 1) := by decide +kernel
theorem dM_isMarked_2 : decode cM_isMarked 2 = .ok ((.iconst 1), 1) := by decide +kernel
theorem dM_isMarked_3 : decode cM_isMarked 3 = .ok (.iadd, 1) := by decide +kernel
theorem dM_isMarked_4 : decode cM_isMarked 4 = .ok ((.iload_n 1), 1) := by decide +kernel
theorem dM_isMarked_5 : decode cM_isMarked 5 = .ok ((.invokevirtual 124), 3) := by decide +kernel
theorem dM_isMarked_8 : decode cM_isMarked 8 = .ok ((.istore_n 2), 1) := by decide +kernel
theorem dM_isMarked_9 : decode cM_isMarked 9 = .ok ((.aload_n 0), 1) := by decide +kernel
theorem dM_isMarked_10 : decode cM_isMarked 10 = .ok ((.getfield 17), 3) := by decide +kernel
theorem dM_isMarked_13 : decode cM_isMarked 13 = .ok ((.iload_n 1), 1) := by decide +kernel
theorem dM_isMarked_14 : decode cM_isMarked 14 = .ok (.iaload, 1) := by decide +kernel
theorem dM_isMarked_15 : decode cM_isMarked 15 = .ok ((.iconst 2), 1) := by decide +kernel
theorem dM_isMarked_16 : decode cM_isMarked 16 = .ok ((.if_icmp .ne 7), 3) := by decide +kernel
theorem dM_isMarked_19 : decode cM_isMarked 19 = .ok ((.iconst 1), 1) := by decide +kernel
theorem dM_isMarked_20 : decode cM_isMarked 20 = .ok ((.goto 4), 3) := by decide +kernel
theorem dM_isMarked_23 : decode cM_isMarked 23 = .ok ((.iconst 0), 1) := by decide +kernel
theorem dM_isMarked_24 : decode cM_isMarked 24 = .ok ((.istore_n 3), 1) := by decide +kernel
theorem dM_isMarked_25 : decode cM_isMarked 25 = .ok ((.iload_n 2), 1) := by decide +kernel
theorem dM_isMarked_26 : decode cM_isMarked 26 = .ok ((.bipush (-2)), 2) := by decide +kernel
theorem dM_isMarked_28 : decode cM_isMarked 28 = .ok ((.if_icmp .eq 30), 3) := by decide +kernel
theorem dM_isMarked_31 : decode cM_isMarked 31 = .ok ((.aload_n 0), 1) := by decide +kernel
theorem dM_isMarked_32 : decode cM_isMarked 32 = .ok ((.getfield 17), 3) := by decide +kernel
theorem dM_isMarked_35 : decode cM_isMarked 35 = .ok ((.iload_n 1), 1) := by decide +kernel
theorem dM_isMarked_36 : decode cM_isMarked 36 = .ok (.iaload, 1) := by decide +kernel
theorem dM_isMarked_37 : decode cM_isMarked 37 = .ok ((.ifCond .eq 21), 3) := by decide +kernel
theorem dM_isMarked_40 : decode cM_isMarked 40 = .ok ((.iload_n 2), 1) := by decide +kernel
theorem dM_isMarked_41 : decode cM_isMarked 41 = .ok ((.iload_n 3), 1) := by decide +kernel
theorem dM_isMarked_42 : decode cM_isMarked 42 = .ok ((.aload_n 0), 1) := by decide +kernel
theorem dM_isMarked_43 : decode cM_isMarked 43 = .ok ((.iload_n 1), 1) := by decide +kernel
theorem dM_isMarked_44 : decode cM_isMarked 44 = .ok ((.invokevirtual 96), 3) := by decide +kernel
theorem dM_isMarked_47 : decode cM_isMarked 47 = .ok ((.if_icmp .ne 7), 3) := by decide +kernel
theorem dM_isMarked_50 : decode cM_isMarked 50 = .ok ((.iconst 1), 1) := by decide +kernel
theorem dM_isMarked_51 : decode cM_isMarked 51 = .ok ((.goto 4), 3) := by decide +kernel
theorem dM_isMarked_54 : decode cM_isMarked 54 = .ok ((.iconst 0), 1) := by decide +kernel
theorem dM_isMarked_55 : decode cM_isMarked 55 = .ok ((.if_icmp .ne 7), 3) := by decide +kernel
theorem dM_isMarked_58 : decode cM_isMarked 58 = .ok ((.iconst 1), 1) := by decide +kernel
theorem dM_isMarked_59 : decode cM_isMarked 59 = .ok ((.goto 4), 3) := by decide +kernel
theorem dM_isMarked_62 : decode cM_isMarked 62 = .ok ((.iconst 0), 1) := by decide +kernel
theorem dM_isMarked_63 : decode cM_isMarked 63 = .ok (.ireturn, 1) := by decide +kernel
theorem dM_isClear_0 : decode cM_isClear 0 = .ok ((.aload_n 0), 1) := by decide +kernel
theorem dM_isClear_1 : decode cM_isClear 1 = .ok ((.getfield 38), 3) := by decide +kernel
theorem dM_isClear_4 : decode cM_isClear 4 = .ok ((.iload_n 1), 1) := by decide +kernel
theorem dM_isClear_5 : decode cM_isClear 5 = .ok (.iaload, 1) := by decide +kernel
theorem dM_isClear_6 : decode cM_isClear 6 = .ok ((.istore_n 2), 1) := by decide +kernel
theorem dM_isClear_7 : decode cM_isClear 7 = .ok ((.iconst 1), 1) := by decide +kernel
theorem dM_isClear_8 : decode cM_isClear 8 = .ok ((.istore_n 3), 1) := by decide +kernel
theorem dM_isClear_9 : decode cM_isClear 9 = .ok ((.iconst 0), 1) := by decide +kernel
theorem dM_isClear_10 : decode cM_isClear 10 = .ok ((.istore 4), 2) := by decide +kernel
theorem dM_isClear_12 : decode cM_isClear 12 = .ok ((.iload 4), 2) := by decide +kernel
theorem dM_isClear_14 : decode cM_isClear 14 = .ok ((.aload_n 0), 1) := by decide +kernel
theorem dM_isClear_15 : decode cM_isClear 15 = .ok ((.getfield 63), 3) := by decide +kernel
theorem dM_isClear_18 : decode cM_isClear 18 = .ok ((.if_icmp .gt 81), 3) := by decide +kernel
theorem dM_isClear_21 : decode cM_isClear 21 = .ok ((.iload 4), 2) := by decide +kernel
theorem dM_isClear_23 : decode cM_isClear 23 = .ok ((.iload_n 1), 1) := by decide +kernel
theorem dM_isClear_24 : decode cM_isClear 24 = .ok ((.if_icmp .eq 37), 3) := by decide +kernel
theorem dM_isClear_27 : decode cM_isClear 27 = .ok ((.iload 4), 2) := by decide +kernel
theorem dM_isClear_29 : decode cM_isClear 29 = .ok ((.iload_n 1), 1) := by decide +kernel
theorem dM_isClear_30 : decode cM_isClear 30 = .ok ((.iconst 1), 1) := by decide +kernel
theorem dM_isClear_31 : decode cM_isClear 31 = .ok (.iadd, 1) := by decide +kernel
theorem dM_isClear_32 : decode cM_isClear 32 = .ok ((.if_icmp .eq 29), 3) := by decide +kernel
theorem dM_isClear_35 : decode cM_isClear 35 = .ok ((.aload_n 0), 1) := by decide +kernel
theorem dM_isClear_36 : decode cM_isClear 36 = .ok ((.getfield 32), 3) := by decide +kernel
theorem dM_isClear_39 : decode cM_isClear 39 = .ok ((.iload 4), 2) := by decide +kernel
theorem dM_isClear_41 : decode cM_isClear 41 = .ok (.iaload, 1) := by decide +kernel
theorem dM_isClear_42 : decode cM_isClear 42 = .ok ((.iload_n 2), 1) := by decide +kernel
theorem dM_isClear_43 : decode cM_isClear 43 = .ok ((.if_icmp .ge 18), 3) := by decide +kernel
theorem dM_isClear_46 : decode cM_isClear 46 = .ok ((.iload_n 2), 1) := by decide +kernel
theorem dM_isClear_47 : decode cM_isClear 47 = .ok ((.aload_n 0), 1) := by decide +kernel
theorem dM_isClear_48 : decode cM_isClear 48 = .ok ((.getfield 35), 3) := by decide +kernel
theorem dM_isClear_51 : decode cM_isClear 51 = .ok ((.iload 4), 2) := by decide +kernel
theorem dM_isClear_53 : decode cM_isClear 53 = .ok (.iaload, 1) := by decide +kernel
theorem dM_isClear_54 : decode cM_isClear 54 = .ok ((.if_icmp .ge 7), 3) := by decide +kernel
theorem dM_isClear_57 : decode cM_isClear 57 = .ok ((.iconst 1), 1) := by decide +kernel
theorem dM_isClear_58 : decode cM_isClear 58 = .ok ((.goto 4), 3) := by decide +kernel
theorem dM_isClear_61 : decode cM_isClear 61 = .ok ((.iconst 0), 1) := by decide +kernel
theorem dM_isClear_62 : decode cM_isClear 62 = .ok ((.istore 5), 2) := by decide +kernel
theorem dM_isClear_64 : decode cM_isClear 64 = .ok ((.iload_n 3), 1) := by decide +kernel
theorem dM_isClear_65 : decode cM_isClear 65 = .ok ((.ifCond .eq 26), 3) := by decide +kernel
theorem dM_isClear_68 : decode cM_isClear 68 = .ok ((.iload 5), 2) := by decide +kernel
theorem dM_isClear_70 : decode cM_isClear 70 = .ok ((.ifCond .eq 17), 3) := by decide +kernel
theorem dM_isClear_73 : decode cM_isClear 73 = .ok ((.aload_n 0), 1) := by decide +kernel
theorem dM_isClear_74 : decode cM_isClear 74 = .ok ((.iload 4), 2) := by decide +kernel
theorem dM_isClear_76 : decode cM_isClear 76 = .ok ((.iload_n 1), 1) := by decide +kernel
theorem dM_isClear_77 : decode cM_isClear 77 = .ok ((.iload_n 1), 1) := by decide +kernel
theorem dM_isClear_78 : decode cM_isClear 78 = .ok ((.iconst 1), 1) := by decide +kernel
theorem dM_isClear_79 : decode cM_isClear 79 = .ok (.iadd, 1) := by decide +kernel
theorem dM_isClear_80 : decode cM_isClear 80 = .ok ((.invokevirtual 128), 3) := by decide +kernel
theorem dM_isClear_83 : decode cM_isClear 83 = .ok ((.iconst 1), 1) := by decide +kernel
theorem dM_isClear_84 : decode cM_isClear 84 = .ok ((.if_icmp .eq 7), 3) := by decide +kernel
theorem dM_isClear_87 : decode cM_isClear 87 = .ok ((.iconst 1), 1) := by decide +kernel
theorem dM_isClear_88 : decode cM_isClear 88 = .ok ((.goto 4), 3) := by decide +kernel
theorem dM_isClear_91 : decode cM_isClear 91 = .ok ((.iconst 0), 1) := by decide +kernel
theorem dM_isClear_92 : decode cM_isClear 92 = .ok ((.istore_n 3), 1) := by decide +kernel
theorem dM_isClear_93 : decode cM_isClear 93 = .ok ((.iinc 4 1), 3) := by decide +kernel
theorem dM_isClear_96 : decode cM_isClear 96 = .ok ((.goto (-84)), 3) := by decide +kernel
theorem dM_isClear_99 : decode cM_isClear 99 = .ok ((.iload_n 3), 1) := by decide +kernel
theorem dM_isClear_100 : decode cM_isClear 100 = .ok (.ireturn, 1) := by decide +kernel
theorem dM_between_0 : decode cM_between 0 = .ok ((.aload_n 0), 1) := by decide +kernel
theorem dM_between_1 : decode cM_between 1 = .ok ((.iload_n 1), 1) := by decide +kernel
theorem dM_between_2 : decode cM_between 2 = .ok ((.iload_n 2), 1) := by decide +kernel
theorem dM_between_3 : decode cM_between 3 = .ok ((.invokevirtual 124), 3) := by decide +kernel
theorem dM_between_6 : decode cM_between 6 = .ok ((.istore 4), 2) := by decide +kernel
theorem dM_between_8 : decode cM_between 8 = .ok ((.aload_n 0), 1) := by decide +kernel
theorem dM_between_9 : decode cM_between 9 = .ok ((.iload_n 1), 1) := by decide +kernel
theorem dM_between_10 : decode cM_between 10 = .ok ((.iload_n 3), 1) := by decide +kernel
theorem dM_between_11 : decode cM_between 11 = .ok ((.invokevirtual 124), 3) := by decide +kernel
theorem dM_between_14 : decode cM_between 14 = .ok ((.istore 5), 2) := by decide +kernel
theorem dM_between_16 : decode cM_between 16 = .ok ((.iload 4), 2) := by decide +kernel
theorem dM_between_18 : decode cM_between 18 = .ok ((.bipush (-2)), 2) := by decide +kernel
theorem dM_between_20 : decode cM_between 20 = .ok ((.if_icmp .eq 10), 3) := by decide +kernel
theorem dM_between_23 : decode cM_between 23 = .ok ((.iload 5), 2) := by decide +kernel
theorem dM_between_25 : decode cM_between 25 = .ok ((.bipush (-2)), 2) := by decide +kernel
theorem dM_between_27 : decode cM_between 27 = .ok ((.if_icmp .ne 8), 3) := by decide +kernel
theorem dM_between_30 : decode cM_between 30 = .ok ((.bipush (-2)), 2) := by decide +kernel
theorem dM_between_32 : decode cM_between 32 = .ok ((.goto 15), 3) := by decide +kernel
theorem dM_between_35 : decode cM_between 35 = .ok ((.iload 4), 2) := by decide +kernel
theorem dM_between_37 : decode cM_between 37 = .ok ((.iload 5), 2) := by decide +kernel
theorem dM_between_39 : decode cM_between 39 = .ok ((.if_icmp .eq 7), 3) := by decide +kernel
theorem dM_between_42 : decode cM_between 42 = .ok ((.iconst 1), 1) := by decide +kernel
theorem dM_between_43 : decode cM_between 43 = .ok ((.goto 4), 3) := by decide +kernel
theorem dM_between_46 : decode cM_between 46 = .ok ((.iconst 0), 1) := by decide +kernel
theorem dM_between_47 : decode cM_between 47 = .ok (.ireturn, 1) := by decide +kernel
theorem dM_arePeaceful_0 : decode cM_arePeaceful 0 = .ok ((.aload_n 0), 1) := by decide +kernel
theorem dM_arePeaceful_1 : decode cM_arePeaceful 1 = .ok ((.getfield 38), 3) := by decide +kernel
theorem dM_arePeaceful_4 : decode cM_arePeaceful 4 = .ok ((.iload_n 1), 1) := by decide +kernel
theorem dM_arePeaceful_5 : decode cM_arePeaceful 5 = .ok (.iaload, 1) := by decide +kernel
theorem dM_arePeaceful_6 : decode cM_arePeaceful 6 = .ok ((.aload_n 0), 1) := by decide +kernel
theorem dM_arePeaceful_7 : decode cM_arePeaceful 7 = .ok ((.getfield 38), 3) := by decide +kernel
theorem dM_arePeaceful_10 : decode cM_arePeaceful 10 = .ok ((.iload_n 2), 1) := by decide +kernel
theorem dM_arePeaceful_11 : decode cM_arePeaceful 11 = .ok (.iaload, 1) := by decide +kernel
theorem dM_arePeaceful_12 : decode cM_arePeaceful 12 = .ok ((.if_icmp .ne 7), 3) := by decide +kernel
theorem dM_arePeaceful_15 : decode cM_arePeaceful 15 = .ok ((.iconst 1), 1) := by decide +kernel
theorem dM_arePeaceful_16 : decode cM_arePeaceful 16 = .ok ((.goto 4), 3) := by decide +kernel
theorem dM_arePeaceful_19 : decode cM_arePeaceful 19 = .ok ((.iconst 0), 1) := by decide +kernel
theorem dM_arePeaceful_20 : decode cM_arePeaceful 20 = .ok ((.istore_n 3), 1) := by decide +kernel
theorem dM_arePeaceful_21 : decode cM_arePeaceful 21 = .ok ((.iload_n 3), 1) := by decide +kernel
theorem dM_arePeaceful_22 : decode cM_arePeaceful 22 = .ok ((.ifCond .eq 51), 3) := by decide +kernel
theorem dM_arePeaceful_25 : decode cM_arePeaceful 25 = .ok ((.aload_n 0), 1) := by decide +kernel
theorem dM_arePeaceful_26 : decode cM_arePeaceful 26 = .ok ((.iload_n 1), 1) := by decide +kernel
theorem dM_arePeaceful_27 : decode cM_arePeaceful 27 = .ok ((.iload_n 2), 1) := by decide +kernel
theorem dM_arePeaceful_28 : decode cM_arePeaceful 28 = .ok ((.invokevirtual 132), 3) := by decide +kernel
theorem dM_arePeaceful_31 : decode cM_arePeaceful 31 = .ok ((.ifCond .eq 42), 3) := by decide +kernel
theorem dM_arePeaceful_34 : decode cM_arePeaceful 34 = .ok ((.aload_n 0), 1) := by decide +kernel
theorem dM_arePeaceful_35 : decode cM_arePeaceful 35 = .ok ((.iload_n 1), 1) := by decide +kernel
theorem dM_arePeaceful_36 : decode cM_arePeaceful 36 = .ok ((.iload_n 2), 1) := by decide +kernel
theorem dM_arePeaceful_37 : decode cM_arePeaceful 37 = .ok ((.iconst 1), 1) := by decide +kernel
theorem dM_arePeaceful_38 : decode cM_arePeaceful 38 = .ok (.iadd, 1) := by decide +kernel
theorem dM_arePeaceful_39 : decode cM_arePeaceful 39 = .ok ((.invokevirtual 132), 3) := by decide +kernel
theorem dM_arePeaceful_42 : decode cM_arePeaceful 42 = .ok ((.ifCond .eq 31), 3) := by decide +kernel
theorem dM_arePeaceful_45 : decode cM_arePeaceful 45 = .ok ((.aload_n 0), 1) := by decide +kernel
theorem dM_arePeaceful_46 : decode cM_arePeaceful 46 = .ok ((.iload_n 1), 1) := by decide +kernel
theorem dM_arePeaceful_47 : decode cM_arePeaceful 47 = .ok ((.iconst 1), 1) := by decide +kernel
theorem dM_arePeaceful_48 : decode cM_arePeaceful 48 = .ok (.iadd, 1) := by decide +kernel
theorem dM_arePeaceful_49 : decode cM_arePeaceful 49 = .ok ((.iload_n 2), 1) := by decide +kernel
theorem dM_arePeaceful_50 : decode cM_arePeaceful 50 = .ok ((.invokevirtual 132), 3) := by decide +kernel
theorem dM_arePeaceful_53 : decode cM_arePeaceful 53 = .ok ((.ifCond .eq 20), 3) := by decide +kernel
theorem dM_arePeaceful_56 : decode cM_arePeaceful 56 = .ok ((.aload_n 0), 1) := by decide +kernel
theorem dM_arePeaceful_57 : decode cM_arePeaceful 57 = .ok ((.iload_n 1), 1) := by decide +kernel
theorem dM_arePeaceful_58 : decode cM_arePeaceful 58 = .ok ((.iconst 1), 1) := by decide +kernel
theorem dM_arePeaceful_59 : decode cM_arePeaceful 59 = .ok (.iadd, 1) := by decide +kernel
theorem dM_arePeaceful_60 : decode cM_arePeaceful 60 = .ok ((.iload_n 2), 1) := by decide +kernel
theorem dM_arePeaceful_61 : decode cM_arePeaceful 61 = .ok ((.iconst 1), 1) := by decide +kernel
theorem dM_arePeaceful_62 : decode cM_arePeaceful 62 = .ok (.iadd, 1) := by decide +kernel
theorem dM_arePeaceful_63 : decode cM_arePeaceful 63 = .ok ((.invokevirtual 132), 3) := by decide +kernel
theorem dM_arePeaceful_66 : decode cM_arePeaceful 66 = .ok ((.ifCond .eq 7), 3) := by decide +kernel
theorem dM_arePeaceful_69 : decode cM_arePeaceful 69 = .ok ((.iconst 1), 1) := by decide +kernel
theorem dM_arePeaceful_70 : decode cM_arePeaceful 70 = .ok ((.goto 4), 3) := by decide +kernel
theorem dM_arePeaceful_73 : decode cM_arePeaceful 73 = .ok ((.iconst 0), 1) := by decide +kernel
theorem dM_arePeaceful_74 : decode cM_arePeaceful 74 = .ok ((.istore_n 3), 1) := by decide +kernel
theorem dM_arePeaceful_75 : decode cM_arePeaceful 75 = .ok ((.aload_n 0), 1) := by decide +kernel
theorem dM_arePeaceful_76 : decode cM_arePeaceful 76 = .ok ((.iload_n 2), 1) := by decide +kernel
theorem dM_arePeaceful_77 : decode cM_arePeaceful 77 = .ok ((.iload_n 1), 1) := by decide +kernel
theorem dM_arePeaceful_78 : decode cM_arePeaceful 78 = .ok ((.iload_n 1), 1) := by decide +kernel
theorem dM_arePeaceful_79 : decode cM_arePeaceful 79 = .ok ((.iconst 1), 1) := by decide +kernel
theorem dM_arePeaceful_80 : decode cM_arePeaceful 80 = .ok (.iadd, 1) := by decide +kernel
theorem dM_arePeaceful_81 : decode cM_arePeaceful 81 = .ok ((.invokevirtual 128), 3) := by decide +kernel
theorem dM_arePeaceful_84 : decode cM_arePeaceful 84 = .ok ((.istore 4), 2) := by decide +kernel
theorem dM_arePeaceful_86 : decode cM_arePeaceful 86 = .ok ((.aload_n 0), 1) := by decide +kernel
theorem dM_arePeaceful_87 : decode cM_arePeaceful 87 = .ok ((.iload_n 2), 1) := by decide +kernel
theorem dM_arePeaceful_88 : decode cM_arePeaceful 88 = .ok ((.iconst 1), 1) := by decide +kernel
theorem dM_arePeaceful_89 : decode cM_arePeaceful 89 = .ok (.iadd, 1) := by decide +kernel
theorem dM_arePeaceful_90 : decode cM_arePeaceful 90 = .ok ((.iload_n 1), 1) := by decide +kernel
theorem dM_arePeaceful_91 : decode cM_arePeaceful 91 = .ok ((.iload_n 1), 1) := by decide +kernel
theorem dM_arePeaceful_92 : decode cM_arePeaceful 92 = .ok ((.iconst 1), 1) := by decide +kernel
theorem dM_arePeaceful_93 : decode cM_arePeaceful 93 = .ok (.iadd, 1) := by decide +kernel
theorem dM_arePeaceful_94 : decode cM_arePeaceful 94 = .ok ((.invokevirtual 128), 3) := by decide +kernel
theorem dM_arePeaceful_97 : decode cM_arePeaceful 97 = .ok ((.istore 5), 2) := by decide +kernel
theorem dM_arePeaceful_99 : decode cM_arePeaceful 99 = .ok ((.iload_n 3), 1) := by decide +kernel
theorem dM_arePeaceful_100 : decode cM_arePeaceful 100 = .ok ((.ifCond .eq 24), 3) := by decide +kernel
theorem dM_arePeaceful_103 : decode cM_arePeaceful 103 = .ok ((.iload 4), 2) := by decide +kernel
theorem dM_arePeaceful_105 : decode cM_arePeaceful 105 = .ok ((.bipush (-2)), 2) := by decide +kernel
theorem dM_arePeaceful_107 : decode cM_arePeaceful 107 = .ok ((.if_icmp .eq 17), 3) := by decide +kernel
theorem dM_arePeaceful_110 : decode cM_arePeaceful 110 = .ok ((.iload 5), 2) := by decide +kernel
theorem dM_arePeaceful_112 : decode cM_arePeaceful 112 = .ok ((.bipush (-2)), 2) := by decide +kernel
theorem dM_arePeaceful_114 : decode cM_arePeaceful 114 = .ok ((.if_icmp .eq 10), 3) := by decide +kernel
theorem dM_arePeaceful_117 : decode cM_arePeaceful 117 = .ok ((.iload 4), 2) := by decide +kernel
theorem dM_arePeaceful_119 : decode cM_arePeaceful 119 = .ok ((.iload 5), 2) := by decide +kernel
theorem dM_arePeaceful_121 : decode cM_arePeaceful 121 = .ok ((.if_icmp .ne 7), 3) := by decide +kernel
theorem dM_arePeaceful_124 : decode cM_arePeaceful 124 = .ok ((.iconst 1), 1) := by decide +kernel
theorem dM_arePeaceful_125 : decode cM_arePeaceful 125 = .ok ((.goto 4), 3) := by decide +kernel
theorem dM_arePeaceful_128 : decode cM_arePeaceful 128 = .ok ((.iconst 0), 1) := by decide +kernel
theorem dM_arePeaceful_129 : decode cM_arePeaceful 129 = .ok (.ireturn, 1) := by decide +kernel
theorem dM_above_0 : decode cM_above 0 = .ok ((.iload_n 2), 1) := by decide +kernel
theorem dM_above_1 : decode cM_above 1 = .ok ((.ifCond .lt 27), 3) := by decide +kernel
theorem dM_above_4 : decode cM_above 4 = .ok ((.iload_n 2), 1) := by decide +kernel
theorem dM_above_5 : decode cM_above 5 = .ok ((.aload_n 0), 1) := by decide +kernel
theorem dM_above_6 : decode cM_above 6 = .ok ((.getfield 63), 3) := by decide +kernel
theorem dM_above_9 : decode cM_above 9 = .ok ((.if_icmp .gt 19), 3) := by decide +kernel
theorem dM_above_12 : decode cM_above 12 = .ok ((.iload_n 3), 1) := by decide +kernel
theorem dM_above_13 : decode cM_above 13 = .ok ((.ifCond .lt 15), 3) := by decide +kernel
theorem dM_above_16 : decode cM_above 16 = .ok ((.iload_n 3), 1) := by decide +kernel
theorem dM_above_17 : decode cM_above 17 = .ok ((.aload_n 0), 1) := by decide +kernel
theorem dM_above_18 : decode cM_above 18 = .ok ((.getfield 63), 3) := by decide +kernel
theorem dM_above_21 : decode cM_above 21 = .ok ((.if_icmp .gt 7), 3) := by decide +kernel
theorem dM_above_24 : decode cM_above 24 = .ok ((.iconst 1), 1) := by decide +kernel
theorem dM_above_25 : decode cM_above 25 = .ok ((.goto 4), 3) := by decide +kernel
theorem dM_above_28 : decode cM_above 28 = .ok ((.iconst 0), 1) := by decide +kernel
theorem dM_above_29 : decode cM_above 29 = .ok ((.istore 4), 2) := by decide +kernel
theorem dM_above_31 : decode cM_above 31 = .ok ((.aload_n 0), 1) := by decide +kernel
theorem dM_above_32 : decode cM_above 32 = .ok ((.iload 4), 2) := by decide +kernel
theorem dM_above_34 : decode cM_above 34 = .ok ((.ifCond .eq 11), 3) := by decide +kernel
theorem dM_above_37 : decode cM_above 37 = .ok ((.aload_n 0), 1) := by decide +kernel
theorem dM_above_38 : decode cM_above 38 = .ok ((.iload_n 1), 1) := by decide +kernel
theorem dM_above_39 : decode cM_above 39 = .ok ((.invokevirtual 163), 3) := by decide +kernel
theorem dM_above_42 : decode cM_above 42 = .ok ((.ifCond .ne 7), 3) := by decide +kernel
theorem dM_above_45 : decode cM_above 45 = .ok ((.iconst 1), 1) := by decide +kernel
theorem dM_above_46 : decode cM_above 46 = .ok ((.goto 4), 3) := by decide +kernel
theorem dM_above_49 : decode cM_above 49 = .ok ((.iconst 0), 1) := by decide +kernel
theorem dM_above_50 : decode cM_above 50 = .ok ((.iconst 0), 1) := by decide +kernel
theorem dM_above_51 : decode cM_above 51 = .ok ((.invokevirtual 59), 3) := by decide +kernel
theorem dM_above_54 : decode cM_above 54 = .ok ((.ifCond .eq 5), 3) := by decide +kernel
theorem dM_above_57 : decode cM_above 57 = .ok ((.iconst 0), 1) := by decide +kernel
theorem dM_above_58 : decode cM_above 58 = .ok (.ireturn, 1) := by decide +kernel
theorem dM_above_59 : decode cM_above 59 = .ok ((.aload_n 0), 1) := by decide +kernel
theorem dM_above_60 : decode cM_above 60 = .ok ((.iload_n 2), 1) := by decide +kernel
theorem dM_above_61 : decode cM_above 61 = .ok ((.iload_n 3), 1) := by decide +kernel
theorem dM_above_62 : decode cM_above 62 = .ok ((.invokevirtual 124), 3) := by decide +kernel
theorem dM_above_65 : decode cM_above 65 = .ok (.ireturn, 1) := by decide +kernel
theorem dM_layer_0 : decode cM_layer 0 = .ok ((.aload_n 0), 1) := by decide +kernel
theorem dM_layer_1 : decode cM_layer 1 = .ok ((.aload_n 0), 1) := by decide +kernel
theorem dM_layer_2 : decode cM_layer 2 = .ok ((.iload_n 1), 1) := by decide +kernel
theorem dM_layer_3 : decode cM_layer 3 = .ok ((.invokevirtual 163), 3) := by decide +kernel
theorem dM_layer_6 : decode cM_layer 6 = .ok ((.ifCond .ne 7), 3) := by decide +kernel
theorem dM_layer_9 : decode cM_layer 9 = .ok ((.iconst 1), 1) := by decide +kernel
theorem dM_layer_10 : decode cM_layer 10 = .ok ((.goto 4), 3) := by decide +kernel
theorem dM_layer_13 : decode cM_layer 13 = .ok ((.iconst 0), 1) := by decide +kernel
theorem dM_layer_14 : decode cM_layer 14 = .ok ((.iconst 0), 1) := by decide +kernel
theorem dM_layer_15 : decode cM_layer 15 = .ok ((.invokevirtual 59), 3) := by decide +kernel
theorem dM_layer_18 : decode cM_layer 18 = .ok ((.ifCond .eq 5), 3) := by decide +kernel
theorem dM_layer_21 : decode cM_layer 21 = .ok ((.iconst 0), 1) := by decide +kernel
theorem dM_layer_22 : decode cM_layer 22 = .ok (.ireturn, 1) := by decide +kernel
theorem dM_layer_23 : decode cM_layer 23 = .ok ((.iconst 0), 1) := by decide +kernel
theorem dM_layer_24 : decode cM_layer 24 = .ok ((.istore 4), 2) := by decide +kernel
theorem dM_layer_26 : decode cM_layer 26 = .ok ((.iload 4), 2) := by decide +kernel
theorem dM_layer_28 : decode cM_layer 28 = .ok ((.aload_n 0), 1) := by decide +kernel
theorem dM_layer_29 : decode cM_layer 29 = .ok ((.getfield 63), 3) := by decide +kernel
theorem dM_layer_32 : decode cM_layer 32 = .ok ((.if_icmp .gt 91), 3) := by decide +kernel
theorem dM_layer_35 : decode cM_layer 35 = .ok ((.iconst 0), 1) := by decide +kernel
theorem dM_layer_36 : decode cM_layer 36 = .ok ((.istore 5), 2) := by decide +kernel
theorem dM_layer_38 : decode cM_layer 38 = .ok ((.iconst 0), 1) := by decide +kernel
theorem dM_layer_39 : decode cM_layer 39 = .ok ((.istore 6), 2) := by decide +kernel
theorem dM_layer_41 : decode cM_layer 41 = .ok ((.iload 6), 2) := by decide +kernel
theorem dM_layer_43 : decode cM_layer 43 = .ok ((.aload_n 0), 1) := by decide +kernel
theorem dM_layer_44 : decode cM_layer 44 = .ok ((.getfield 63), 3) := by decide +kernel
theorem dM_layer_47 : decode cM_layer 47 = .ok ((.if_icmp .gt 51), 3) := by decide +kernel
theorem dM_layer_50 : decode cM_layer 50 = .ok ((.iload 5), 2) := by decide +kernel
theorem dM_layer_52 : decode cM_layer 52 = .ok ((.aload_n 0), 1) := by decide +kernel
theorem dM_layer_53 : decode cM_layer 53 = .ok ((.iload 4), 2) := by decide +kernel
theorem dM_layer_55 : decode cM_layer 55 = .ok ((.iload_n 2), 1) := by decide +kernel
theorem dM_layer_56 : decode cM_layer 56 = .ok ((.invokevirtual 100), 3) := by decide +kernel
theorem dM_layer_59 : decode cM_layer 59 = .ok ((.ifCond .eq 29), 3) := by decide +kernel
theorem dM_layer_62 : decode cM_layer 62 = .ok ((.aload_n 0), 1) := by decide +kernel
theorem dM_layer_63 : decode cM_layer 63 = .ok ((.iload 6), 2) := by decide +kernel
theorem dM_layer_65 : decode cM_layer 65 = .ok ((.iload_n 2), 1) := by decide +kernel
theorem dM_layer_66 : decode cM_layer 66 = .ok ((.invokevirtual 100), 3) := by decide +kernel
theorem dM_layer_69 : decode cM_layer 69 = .ok ((.ifCond .eq 19), 3) := by decide +kernel
theorem dM_layer_72 : decode cM_layer 72 = .ok ((.aload_n 0), 1) := by decide +kernel
theorem dM_layer_73 : decode cM_layer 73 = .ok ((.iload 4), 2) := by decide +kernel
theorem dM_layer_75 : decode cM_layer 75 = .ok ((.iload 6), 2) := by decide +kernel
theorem dM_layer_77 : decode cM_layer 77 = .ok ((.invokevirtual 124), 3) := by decide +kernel
theorem dM_layer_80 : decode cM_layer 80 = .ok ((.iconst 1), 1) := by decide +kernel
theorem dM_layer_81 : decode cM_layer 81 = .ok ((.if_icmp .ne 7), 3) := by decide +kernel
theorem dM_layer_84 : decode cM_layer 84 = .ok ((.iconst 1), 1) := by decide +kernel
theorem dM_layer_85 : decode cM_layer 85 = .ok ((.goto 4), 3) := by decide +kernel
theorem dM_layer_88 : decode cM_layer 88 = .ok ((.iconst 0), 1) := by decide +kernel
theorem dM_layer_89 : decode cM_layer 89 = .ok (.iadd, 1) := by decide +kernel
theorem dM_layer_90 : decode cM_layer 90 = .ok ((.istore 5), 2) := by decide +kernel
theorem dM_layer_92 : decode cM_layer 92 = .ok ((.iinc 6 1), 3) := by decide +kernel
theorem dM_layer_95 : decode cM_layer 95 = .ok ((.goto (-54)), 3) := by decide +kernel
theorem dM_layer_98 : decode cM_layer 98 = .ok ((.aload_n 0), 1) := by decide +kernel
theorem dM_layer_99 : decode cM_layer 99 = .ok ((.iload 4), 2) := by decide +kernel
theorem dM_layer_101 : decode cM_layer 101 = .ok ((.iload_n 2), 1) := by decide +kernel
theorem dM_layer_102 : decode cM_layer 102 = .ok ((.invokevirtual 100), 3) := by decide +kernel
theorem dM_layer_105 : decode cM_layer 105 = .ok ((.ifCond .eq 12), 3) := by decide +kernel
theorem dM_layer_108 : decode cM_layer 108 = .ok ((.iload 5), 2) := by decide +kernel
theorem dM_layer_110 : decode cM_layer 110 = .ok ((.iload_n 3), 1) := by decide +kernel
theorem dM_layer_111 : decode cM_layer 111 = .ok ((.if_icmp .ne 6), 3) := by decide +kernel
theorem dM_layer_114 : decode cM_layer 114 = .ok ((.iload 4), 2) := by decide +kernel
theorem dM_layer_116 : decode cM_layer 116 = .ok (.ireturn, 1) := by decide +kernel
theorem dM_layer_117 : decode cM_layer 117 = .ok ((.iinc 4 1), 3) := by decide +kernel
theorem dM_layer_120 : decode cM_layer 120 = .ok ((.goto (-94)), 3) := by decide +kernel
theorem dM_layer_123 : decode cM_layer 123 = .ok ((.iconst (-1)), 1) := by decide +kernel
theorem dM_layer_124 : decode cM_layer 124 = .ok (.ireturn, 1) := by decide +kernel
theorem dM_marks_0 : decode cM_marks 0 = .ok ((.aload_n 0), 1) := by decide +kernel
theorem dM_marks_1 : decode cM_marks 1 = .ok ((.iconst 0), 1) := by decide +kernel
theorem dM_marks_2 : decode cM_marks 2 = .ok ((.putfield 56), 3) := by decide +kernel
theorem dM_marks_5 : decode cM_marks 5 = .ok ((.iconst 1), 1) := by decide +kernel
theorem dM_marks_6 : decode cM_marks 6 = .ok ((.aload_n 0), 1) := by decide +kernel
theorem dM_marks_7 : decode cM_marks 7 = .ok ((.invokevirtual 74), 3) := by decide +kernel
theorem dM_marks_10 : decode cM_marks 10 = .ok (.ishl, 1) := by decide +kernel
theorem dM_marks_11 : decode cM_marks 11 = .ok ((.istore_n 1), 1) := by decide +kernel
theorem dM_marks_12 : decode cM_marks 12 = .ok ((.iconst 0), 1) := by decide +kernel
theorem dM_marks_13 : decode cM_marks 13 = .ok ((.istore_n 2), 1) := by decide +kernel
theorem dM_marks_14 : decode cM_marks 14 = .ok ((.iconst 0), 1) := by decide +kernel
theorem dM_marks_15 : decode cM_marks 15 = .ok ((.istore_n 3), 1) := by decide +kernel
theorem dM_marks_16 : decode cM_marks 16 = .ok ((.iload_n 3), 1) := by decide +kernel
theorem dM_marks_17 : decode cM_marks 17 = .ok ((.iload_n 1), 1) := by decide +kernel
theorem dM_marks_18 : decode cM_marks 18 = .ok ((.if_icmp .ge 134), 3) := by decide +kernel
theorem dM_marks_21 : decode cM_marks 21 = .ok ((.iload_n 3), 1) := by decide +kernel
theorem dM_marks_22 : decode cM_marks 22 = .ok ((.istore 4), 2) := by decide +kernel
theorem dM_marks_24 : decode cM_marks 24 = .ok ((.iconst 0), 1) := by decide +kernel
theorem dM_marks_25 : decode cM_marks 25 = .ok ((.istore 5), 2) := by decide +kernel
theorem dM_marks_27 : decode cM_marks 27 = .ok ((.iconst 0), 1) := by decide +kernel
theorem dM_marks_28 : decode cM_marks 28 = .ok ((.istore 6), 2) := by decide +kernel
theorem dM_marks_30 : decode cM_marks 30 = .ok ((.iload 6), 2) := by decide +kernel
theorem dM_marks_32 : decode cM_marks 32 = .ok ((.aload_n 0), 1) := by decide +kernel
theorem dM_marks_33 : decode cM_marks 33 = .ok ((.getfield 63), 3) := by decide +kernel
theorem dM_marks_36 : decode cM_marks 36 = .ok ((.if_icmp .ge 47), 3) := by decide +kernel
theorem dM_marks_39 : decode cM_marks 39 = .ok ((.aload_n 0), 1) := by decide +kernel
theorem dM_marks_40 : decode cM_marks 40 = .ok ((.getfield 17), 3) := by decide +kernel
theorem dM_marks_43 : decode cM_marks 43 = .ok ((.iload 6), 2) := by decide +kernel
theorem dM_marks_45 : decode cM_marks 45 = .ok (.iaload, 1) := by decide +kernel
theorem dM_marks_46 : decode cM_marks 46 = .ok ((.ifCond .ne 31), 3) := by decide +kernel
theorem dM_marks_49 : decode cM_marks 49 = .ok ((.iload 5), 2) := by decide +kernel
theorem dM_marks_51 : decode cM_marks 51 = .ok ((.iconst 1), 1) := by decide +kernel
theorem dM_marks_52 : decode cM_marks 52 = .ok ((.iload 6), 2) := by decide +kernel
theorem dM_marks_54 : decode cM_marks 54 = .ok (.ishl, 1) := by decide +kernel
theorem dM_marks_55 : decode cM_marks 55 = .ok (.ior, 1) := by decide +kernel
theorem dM_marks_56 : decode cM_marks 56 = .ok ((.istore 5), 2) := by decide +kernel
theorem dM_marks_58 : decode cM_marks 58 = .ok ((.aload_n 0), 1) := by decide +kernel
theorem dM_marks_59 : decode cM_marks 59 = .ok ((.getfield 17), 3) := by decide +kernel
theorem dM_marks_62 : decode cM_marks 62 = .ok ((.iload 6), 2) := by decide +kernel
theorem dM_marks_64 : decode cM_marks 64 = .ok ((.iconst 1), 1) := by decide +kernel
theorem dM_marks_65 : decode cM_marks 65 = .ok ((.iload 4), 2) := by decide +kernel
theorem dM_marks_67 : decode cM_marks 67 = .ok ((.iconst 2), 1) := by decide +kernel
theorem dM_marks_68 : decode cM_marks 68 = .ok (.irem, 1) := by decide +kernel
theorem dM_marks_69 : decode cM_marks 69 = .ok (.iadd, 1) := by decide +kernel
theorem dM_marks_70 : decode cM_marks 70 = .ok (.iastore, 1) := by decide +kernel
theorem dM_marks_71 : decode cM_marks 71 = .ok ((.iload 4), 2) := by decide +kernel
theorem dM_marks_73 : decode cM_marks 73 = .ok ((.iconst 2), 1) := by decide +kernel
theorem dM_marks_74 : decode cM_marks 74 = .ok (.idiv, 1) := by decide +kernel
theorem dM_marks_75 : decode cM_marks 75 = .ok ((.istore 4), 2) := by decide +kernel
theorem dM_marks_77 : decode cM_marks 77 = .ok ((.iinc 6 1), 3) := by decide +kernel
theorem dM_marks_80 : decode cM_marks 80 = .ok ((.goto (-50)), 3) := by decide +kernel
theorem dM_marks_83 : decode cM_marks 83 = .ok ((.iload_n 2), 1) := by decide +kernel
theorem dM_marks_84 : decode cM_marks 84 = .ok ((.aload_n 0), 1) := by decide +kernel
theorem dM_marks_85 : decode cM_marks 85 = .ok ((.iconst 0), 1) := by decide +kernel
theorem dM_marks_86 : decode cM_marks 86 = .ok ((.invokevirtual 163), 3) := by decide +kernel
theorem dM_marks_89 : decode cM_marks 89 = .ok ((.ifCond .eq 7), 3) := by decide +kernel
theorem dM_marks_92 : decode cM_marks 92 = .ok ((.iconst 1), 1) := by decide +kernel
theorem dM_marks_93 : decode cM_marks 93 = .ok ((.goto 4), 3) := by decide +kernel
theorem dM_marks_96 : decode cM_marks 96 = .ok ((.iconst 0), 1) := by decide +kernel
theorem dM_marks_97 : decode cM_marks 97 = .ok (.iadd, 1) := by decide +kernel
theorem dM_marks_98 : decode cM_marks 98 = .ok ((.istore_n 2), 1) := by decide +kernel
theorem dM_marks_99 : decode cM_marks 99 = .ok ((.iconst 0), 1) := by decide +kernel
theorem dM_marks_100 : decode cM_marks 100 = .ok ((.istore 6), 2) := by decide +kernel
theorem dM_marks_102 : decode cM_marks 102 = .ok ((.iload 6), 2) := by decide +kernel
theorem dM_marks_104 : decode cM_marks 104 = .ok ((.aload_n 0), 1) := by decide +kernel
theorem dM_marks_105 : decode cM_marks 105 = .ok ((.getfield 63), 3) := by decide +kernel
theorem dM_marks_108 : decode cM_marks 108 = .ok ((.if_icmp .ge 38), 3) := by decide +kernel
theorem dM_marks_111 : decode cM_marks 111 = .ok ((.aload_n 0), 1) := by decide +kernel
theorem dM_marks_112 : decode cM_marks 112 = .ok ((.getfield 17), 3) := by decide +kernel
theorem dM_marks_115 : decode cM_marks 115 = .ok ((.iload 6), 2) := by decide +kernel
theorem dM_marks_117 : decode cM_marks 117 = .ok ((.iload 5), 2) := by decide +kernel
theorem dM_marks_119 : decode cM_marks 119 = .ok ((.iload 6), 2) := by decide +kernel
theorem dM_marks_121 : decode cM_marks 121 = .ok (.ishr, 1) := by decide +kernel
theorem dM_marks_122 : decode cM_marks 122 = .ok ((.iconst 1), 1) := by decide +kernel
theorem dM_marks_123 : decode cM_marks 123 = .ok (.iand, 1) := by decide +kernel
theorem dM_marks_124 : decode cM_marks 124 = .ok ((.iconst 1), 1) := by decide +kernel
theorem dM_marks_125 : decode cM_marks 125 = .ok ((.if_icmp .ne 7), 3) := by decide +kernel
theorem dM_marks_128 : decode cM_marks 128 = .ok ((.iconst 0), 1) := by decide +kernel
theorem dM_marks_129 : decode cM_marks 129 = .ok ((.goto 10), 3) := by decide +kernel
theorem dM_marks_132 : decode cM_marks 132 = .ok ((.aload_n 0), 1) := by decide +kernel
theorem dM_marks_133 : decode cM_marks 133 = .ok ((.getfield 17), 3) := by decide +kernel
theorem dM_marks_136 : decode cM_marks 136 = .ok ((.iload 6), 2) := by decide +kernel
theorem dM_marks_138 : decode cM_marks 138 = .ok (.iaload, 1) := by decide +kernel
theorem dM_marks_139 : decode cM_marks 139 = .ok (.iastore, 1) := by decide +kernel
theorem dM_marks_140 : decode cM_marks 140 = .ok ((.iinc 6 1), 3) := by decide +kernel
theorem dM_marks_143 : decode cM_marks 143 = .ok ((.goto (-41)), 3) := by decide +kernel
theorem dM_marks_146 : decode cM_marks 146 = .ok ((.iinc 3 1), 3) := by decide +kernel
theorem dM_marks_149 : decode cM_marks 149 = .ok ((.goto (-133)), 3) := by decide +kernel
theorem dM_marks_152 : decode cM_marks 152 = .ok ((.iload_n 2), 1) := by decide +kernel
theorem dM_marks_153 : decode cM_marks 153 = .ok (.ireturn, 1) := by decide +kernel
theorem dM_type_0 : decode cM_type 0 = .ok ((.aload_n 0), 1) := by decide +kernel
theorem dM_type_1 : decode cM_type 1 = .ok ((.iload_n 1), 1) := by decide +kernel
theorem dM_type_2 : decode cM_type 2 = .ok ((.bipush 32), 2) := by decide +kernel
theorem dM_type_4 : decode cM_type 4 = .ok ((.if_icmp .lt 9), 3) := by decide +kernel
theorem dM_type_7 : decode cM_type 7 = .ok ((.iload_n 1), 1) := by decide +kernel
theorem dM_type_8 : decode cM_type 8 = .ok ((.bipush 126), 2) := by decide +kernel
theorem dM_type_10 : decode cM_type 10 = .ok ((.if_icmp .le 7), 3) := by decide +kernel
theorem dM_type_13 : decode cM_type 13 = .ok ((.iconst 1), 1) := by decide +kernel
theorem dM_type_14 : decode cM_type 14 = .ok ((.goto 4), 3) := by decide +kernel
theorem dM_type_17 : decode cM_type 17 = .ok ((.iconst 0), 1) := by decide +kernel
theorem dM_type_18 : decode cM_type 18 = .ok ((.aload_n 0), 1) := by decide +kernel
theorem dM_type_19 : decode cM_type 19 = .ok ((.getfield 78), 3) := by decide +kernel
theorem dM_type_22 : decode cM_type 22 = .ok ((.bipush 60), 2) := by decide +kernel
theorem dM_type_24 : decode cM_type 24 = .ok ((.if_icmp .ne 7), 3) := by decide +kernel
theorem dM_type_27 : decode cM_type 27 = .ok ((.iconst 1), 1) := by decide +kernel
theorem dM_type_28 : decode cM_type 28 = .ok ((.goto 4), 3) := by decide +kernel
theorem dM_type_31 : decode cM_type 31 = .ok ((.iconst 0), 1) := by decide +kernel
theorem dM_type_32 : decode cM_type 32 = .ok ((.invokevirtual 59), 3) := by decide +kernel
theorem dM_type_35 : decode cM_type 35 = .ok ((.ifCond .eq 5), 3) := by decide +kernel
theorem dM_type_38 : decode cM_type 38 = .ok ((.iconst 0), 1) := by decide +kernel
theorem dM_type_39 : decode cM_type 39 = .ok (.ireturn, 1) := by decide +kernel
theorem dM_type_40 : decode cM_type 40 = .ok ((.aload_n 0), 1) := by decide +kernel
theorem dM_type_41 : decode cM_type 41 = .ok ((.getfield 20), 3) := by decide +kernel
theorem dM_type_44 : decode cM_type 44 = .ok ((.aload_n 0), 1) := by decide +kernel
theorem dM_type_45 : decode cM_type 45 = .ok ((.getfield 78), 3) := by decide +kernel
theorem dM_type_48 : decode cM_type 48 = .ok ((.iload_n 1), 1) := by decide +kernel
theorem dM_type_49 : decode cM_type 49 = .ok (.iastore, 1) := by decide +kernel
theorem dM_type_50 : decode cM_type 50 = .ok ((.aload_n 0), 1) := by decide +kernel
theorem dM_type_51 : decode cM_type 51 = .ok (.dup, 1) := by decide +kernel
theorem dM_type_52 : decode cM_type 52 = .ok ((.getfield 78), 3) := by decide +kernel
theorem dM_type_55 : decode cM_type 55 = .ok ((.iconst 1), 1) := by decide +kernel
theorem dM_type_56 : decode cM_type 56 = .ok (.iadd, 1) := by decide +kernel
theorem dM_type_57 : decode cM_type 57 = .ok ((.putfield 78), 3) := by decide +kernel
theorem dM_type_60 : decode cM_type 60 = .ok ((.aload_n 0), 1) := by decide +kernel
theorem dM_type_61 : decode cM_type 61 = .ok ((.getfield 78), 3) := by decide +kernel
theorem dM_type_64 : decode cM_type 64 = .ok (.ireturn, 1) := by decide +kernel
theorem dM_run_0 : decode cM_run 0 = .ok ((.aload_n 0), 1) := by decide +kernel
theorem dM_run_1 : decode cM_run 1 = .ok ((.getfield 78), 3) := by decide +kernel
theorem dM_run_4 : decode cM_run 4 = .ok ((.istore_n 1), 1) := by decide +kernel
theorem dM_run_5 : decode cM_run 5 = .ok ((.aload_n 0), 1) := by decide +kernel
theorem dM_run_6 : decode cM_run 6 = .ok ((.iconst 0), 1) := by decide +kernel
theorem dM_run_7 : decode cM_run 7 = .ok ((.putfield 78), 3) := by decide +kernel
theorem dM_run_10 : decode cM_run 10 = .ok ((.iconst 0), 1) := by decide +kernel
theorem dM_run_11 : decode cM_run 11 = .ok ((.istore_n 2), 1) := by decide +kernel
theorem dM_run_12 : decode cM_run 12 = .ok ((.iconst 0), 1) := by decide +kernel
theorem dM_run_13 : decode cM_run 13 = .ok ((.istore_n 3), 1) := by decide +kernel
theorem dM_run_14 : decode cM_run 14 = .ok ((.iconst 0), 1) := by decide +kernel
theorem dM_run_15 : decode cM_run 15 = .ok ((.istore 4), 2) := by decide +kernel
theorem dM_run_17 : decode cM_run 17 = .ok ((.iconst 1), 1) := by decide +kernel
theorem dM_run_18 : decode cM_run 18 = .ok ((.istore 5), 2) := by decide +kernel
theorem dM_run_20 : decode cM_run 20 = .ok ((.iload_n 3), 1) := by decide +kernel
theorem dM_run_21 : decode cM_run 21 = .ok ((.iload_n 1), 1) := by decide +kernel
theorem dM_run_22 : decode cM_run 22 = .ok ((.if_icmp .ge 194), 3) := by decide +kernel
theorem dM_run_25 : decode cM_run 25 = .ok ((.iload 5), 2) := by decide +kernel
theorem dM_run_27 : decode cM_run 27 = .ok ((.ifCond .eq 189), 3) := by decide +kernel
theorem dM_run_30 : decode cM_run 30 = .ok ((.aload_n 0), 1) := by decide +kernel
theorem dM_run_31 : decode cM_run 31 = .ok ((.getfield 20), 3) := by decide +kernel
theorem dM_run_34 : decode cM_run 34 = .ok ((.iload_n 3), 1) := by decide +kernel
theorem dM_run_35 : decode cM_run 35 = .ok (.iaload, 1) := by decide +kernel
theorem dM_run_36 : decode cM_run 36 = .ok ((.istore 6), 2) := by decide +kernel
theorem dM_run_38 : decode cM_run 38 = .ok ((.iconst 0), 1) := by decide +kernel
theorem dM_run_39 : decode cM_run 39 = .ok ((.istore 7), 2) := by decide +kernel
theorem dM_run_41 : decode cM_run 41 = .ok ((.iconst 0), 1) := by decide +kernel
theorem dM_run_42 : decode cM_run 42 = .ok ((.istore 8), 2) := by decide +kernel
theorem dM_run_44 : decode cM_run 44 = .ok ((.iload 7), 2) := by decide +kernel
theorem dM_run_46 : decode cM_run 46 = .ok ((.iconst 4), 1) := by decide +kernel
theorem dM_run_47 : decode cM_run 47 = .ok ((.if_icmp .ge 48), 3) := by decide +kernel
theorem dM_run_50 : decode cM_run 50 = .ok ((.aload_n 0), 1) := by decide +kernel
theorem dM_run_51 : decode cM_run 51 = .ok ((.iload_n 3), 1) := by decide +kernel
theorem dM_run_52 : decode cM_run 52 = .ok ((.iconst 1), 1) := by decide +kernel
theorem dM_run_53 : decode cM_run 53 = .ok (.iadd, 1) := by decide +kernel
theorem dM_run_54 : decode cM_run 54 = .ok ((.iload 7), 2) := by decide +kernel
theorem dM_run_56 : decode cM_run 56 = .ok (.iadd, 1) := by decide +kernel
theorem dM_run_57 : decode cM_run 57 = .ok ((.iload_n 1), 1) := by decide +kernel
theorem dM_run_58 : decode cM_run 58 = .ok ((.invokevirtual 172), 3) := by decide +kernel
theorem dM_run_61 : decode cM_run 61 = .ok ((.invokestatic 175), 3) := by decide +kernel
theorem dM_run_64 : decode cM_run 64 = .ok ((.ifCond .eq 31), 3) := by decide +kernel
theorem dM_run_67 : decode cM_run 67 = .ok ((.bipush 10), 2) := by decide +kernel
theorem dM_run_69 : decode cM_run 69 = .ok ((.iload 8), 2) := by decide +kernel
theorem dM_run_71 : decode cM_run 71 = .ok (.imul, 1) := by decide +kernel
theorem dM_run_72 : decode cM_run 72 = .ok ((.aload_n 0), 1) := by decide +kernel
theorem dM_run_73 : decode cM_run 73 = .ok ((.iload_n 3), 1) := by decide +kernel
theorem dM_run_74 : decode cM_run 74 = .ok ((.iconst 1), 1) := by decide +kernel
theorem dM_run_75 : decode cM_run 75 = .ok (.iadd, 1) := by decide +kernel
theorem dM_run_76 : decode cM_run 76 = .ok ((.iload 7), 2) := by decide +kernel
theorem dM_run_78 : decode cM_run 78 = .ok (.iadd, 1) := by decide +kernel
theorem dM_run_79 : decode cM_run 79 = .ok ((.iload_n 1), 1) := by decide +kernel
theorem dM_run_80 : decode cM_run 80 = .ok ((.invokevirtual 172), 3) := by decide +kernel
theorem dM_run_83 : decode cM_run 83 = .ok (.iadd, 1) := by decide +kernel
theorem dM_run_84 : decode cM_run 84 = .ok ((.bipush 48), 2) := by decide +kernel
theorem dM_run_86 : decode cM_run 86 = .ok (.isub, 1) := by decide +kernel
theorem dM_run_87 : decode cM_run 87 = .ok ((.istore 8), 2) := by decide +kernel
theorem dM_run_89 : decode cM_run 89 = .ok ((.iinc 7 1), 3) := by decide +kernel
theorem dM_run_92 : decode cM_run 92 = .ok ((.goto (-48)), 3) := by decide +kernel
theorem dM_run_95 : decode cM_run 95 = .ok ((.iload 6), 2) := by decide +kernel
theorem dM_run_97 : decode cM_run 97 = .ok ((.bipush 32), 2) := by decide +kernel
theorem dM_run_99 : decode cM_run 99 = .ok ((.if_icmp .ne 9), 3) := by decide +kernel
theorem dM_run_102 : decode cM_run 102 = .ok ((.iinc 3 1), 3) := by decide +kernel
theorem dM_run_105 : decode cM_run 105 = .ok ((.goto 108), 3) := by decide +kernel
theorem dM_run_108 : decode cM_run 108 = .ok ((.iload 6), 2) := by decide +kernel
theorem dM_run_110 : decode cM_run 110 = .ok ((.bipush 116), 2) := by decide +kernel
theorem dM_run_112 : decode cM_run 112 = .ok ((.if_icmp .ne 28), 3) := by decide +kernel
theorem dM_run_115 : decode cM_run 115 = .ok ((.aload_n 0), 1) := by decide +kernel
theorem dM_run_116 : decode cM_run 116 = .ok ((.aload_n 0), 1) := by decide +kernel
theorem dM_run_117 : decode cM_run 117 = .ok ((.getfield 66), 3) := by decide +kernel
theorem dM_run_120 : decode cM_run 120 = .ok ((.ifCond .ne 7), 3) := by decide +kernel
theorem dM_run_123 : decode cM_run 123 = .ok ((.iconst 1), 1) := by decide +kernel
theorem dM_run_124 : decode cM_run 124 = .ok ((.goto 4), 3) := by decide +kernel
theorem dM_run_127 : decode cM_run 127 = .ok ((.iconst 0), 1) := by decide +kernel
theorem dM_run_128 : decode cM_run 128 = .ok ((.putfield 66), 3) := by decide +kernel
theorem dM_run_131 : decode cM_run 131 = .ok ((.iinc 2 1), 3) := by decide +kernel
theorem dM_run_134 : decode cM_run 134 = .ok ((.iinc 3 1), 3) := by decide +kernel
theorem dM_run_137 : decode cM_run 137 = .ok ((.goto 76), 3) := by decide +kernel
theorem dM_run_140 : decode cM_run 140 = .ok ((.iload 6), 2) := by decide +kernel
theorem dM_run_142 : decode cM_run 142 = .ok ((.bipush 115), 2) := by decide +kernel
theorem dM_run_144 : decode cM_run 144 = .ok ((.if_icmp .eq 31), 3) := by decide +kernel
theorem dM_run_147 : decode cM_run 147 = .ok ((.iload 6), 2) := by decide +kernel
theorem dM_run_149 : decode cM_run 149 = .ok ((.bipush 102), 2) := by decide +kernel
theorem dM_run_151 : decode cM_run 151 = .ok ((.if_icmp .eq 24), 3) := by decide +kernel
theorem dM_run_154 : decode cM_run 154 = .ok ((.iload 6), 2) := by decide +kernel
theorem dM_run_156 : decode cM_run 156 = .ok ((.bipush 109), 2) := by decide +kernel
theorem dM_run_158 : decode cM_run 158 = .ok ((.if_icmp .eq 17), 3) := by decide +kernel
theorem dM_run_161 : decode cM_run 161 = .ok ((.iload 6), 2) := by decide +kernel
theorem dM_run_163 : decode cM_run 163 = .ok ((.bipush 118), 2) := by decide +kernel
theorem dM_run_165 : decode cM_run 165 = .ok ((.if_icmp .eq 10), 3) := by decide +kernel
theorem dM_run_168 : decode cM_run 168 = .ok ((.iload 6), 2) := by decide +kernel
theorem dM_run_170 : decode cM_run 170 = .ok ((.bipush 120), 2) := by decide +kernel
theorem dM_run_172 : decode cM_run 172 = .ok ((.if_icmp .ne 23), 3) := by decide +kernel
theorem dM_run_175 : decode cM_run 175 = .ok ((.iload 7), 2) := by decide +kernel
theorem dM_run_177 : decode cM_run 177 = .ok ((.ifCond .le 18), 3) := by decide +kernel
theorem dM_run_180 : decode cM_run 180 = .ok ((.aload_n 0), 1) := by decide +kernel
theorem dM_run_181 : decode cM_run 181 = .ok ((.iload 6), 2) := by decide +kernel
theorem dM_run_183 : decode cM_run 183 = .ok ((.iload 8), 2) := by decide +kernel
theorem dM_run_185 : decode cM_run 185 = .ok ((.invokevirtual 178), 3) := by decide +kernel
theorem dM_run_188 : decode cM_run 188 = .ok ((.ifCond .eq 7), 3) := by decide +kernel
theorem dM_run_191 : decode cM_run 191 = .ok ((.iconst 1), 1) := by decide +kernel
theorem dM_run_192 : decode cM_run 192 = .ok ((.goto 4), 3) := by decide +kernel
theorem dM_run_195 : decode cM_run 195 = .ok ((.iconst 0), 1) := by decide +kernel
theorem dM_run_196 : decode cM_run 196 = .ok ((.istore 5), 2) := by decide +kernel
theorem dM_run_198 : decode cM_run 198 = .ok ((.iconst (-1)), 1) := by decide +kernel
theorem dM_run_199 : decode cM_run 199 = .ok ((.iload_n 3), 1) := by decide +kernel
theorem dM_run_200 : decode cM_run 200 = .ok (.isub, 1) := by decide +kernel
theorem dM_run_201 : decode cM_run 201 = .ok ((.istore 4), 2) := by decide +kernel
theorem dM_run_203 : decode cM_run 203 = .ok ((.iinc 2 1), 3) := by decide +kernel
theorem dM_run_206 : decode cM_run 206 = .ok ((.iload_n 3), 1) := by decide +kernel
theorem dM_run_207 : decode cM_run 207 = .ok ((.iconst 1), 1) := by decide +kernel
theorem dM_run_208 : decode cM_run 208 = .ok (.iadd, 1) := by decide +kernel
theorem dM_run_209 : decode cM_run 209 = .ok ((.iload 7), 2) := by decide +kernel
theorem dM_run_211 : decode cM_run 211 = .ok (.iadd, 1) := by decide +kernel
theorem dM_run_212 : decode cM_run 212 = .ok ((.istore_n 3), 1) := by decide +kernel
theorem dM_run_213 : decode cM_run 213 = .ok ((.goto (-193)), 3) := by decide +kernel
theorem dM_run_216 : decode cM_run 216 = .ok ((.aload_n 0), 1) := by decide +kernel
theorem dM_run_217 : decode cM_run 217 = .ok ((.iconst 0), 1) := by decide +kernel
theorem dM_run_218 : decode cM_run 218 = .ok ((.putfield 56), 3) := by decide +kernel
theorem dM_run_221 : decode cM_run 221 = .ok ((.iload 5), 2) := by decide +kernel
theorem dM_run_223 : decode cM_run 223 = .ok ((.ifCond .eq 7), 3) := by decide +kernel
theorem dM_run_226 : decode cM_run 226 = .ok ((.iload_n 2), 1) := by decide +kernel
theorem dM_run_227 : decode cM_run 227 = .ok ((.goto 5), 3) := by decide +kernel
theorem dM_run_230 : decode cM_run 230 = .ok ((.iload 4), 2) := by decide +kernel
theorem dM_run_232 : decode cM_run 232 = .ok (.ireturn, 1) := by decide +kernel
theorem dM_sign_0 : decode cM_sign 0 = .ok ((.iload_n 1), 1) := by decide +kernel
theorem dM_sign_1 : decode cM_sign 1 = .ok ((.iload_n 2), 1) := by decide +kernel
theorem dM_sign_2 : decode cM_sign 2 = .ok ((.if_icmp .ge 12), 3) := by decide +kernel
theorem dM_sign_5 : decode cM_sign 5 = .ok ((.aload_n 0), 1) := by decide +kernel
theorem dM_sign_6 : decode cM_sign 6 = .ok ((.getfield 20), 3) := by decide +kernel
theorem dM_sign_9 : decode cM_sign 9 = .ok ((.iload_n 1), 1) := by decide +kernel
theorem dM_sign_10 : decode cM_sign 10 = .ok (.iaload, 1) := by decide +kernel
theorem dM_sign_11 : decode cM_sign 11 = .ok ((.goto 4), 3) := by decide +kernel
theorem dM_sign_14 : decode cM_sign 14 = .ok ((.iconst 0), 1) := by decide +kernel
theorem dM_sign_15 : decode cM_sign 15 = .ok (.ireturn, 1) := by decide +kernel
theorem dM_isDigit_0 : decode cM_isDigit 0 = .ok ((.iload_n 0), 1) := by decide +kernel
theorem dM_isDigit_1 : decode cM_isDigit 1 = .ok ((.bipush 48), 2) := by decide +kernel
theorem dM_isDigit_3 : decode cM_isDigit 3 = .ok ((.if_icmp .lt 13), 3) := by decide +kernel
theorem dM_isDigit_6 : decode cM_isDigit 6 = .ok ((.iload_n 0), 1) := by decide +kernel
theorem dM_isDigit_7 : decode cM_isDigit 7 = .ok ((.bipush 57), 2) := by decide +kernel
theorem dM_isDigit_9 : decode cM_isDigit 9 = .ok ((.if_icmp .gt 7), 3) := by decide +kernel
theorem dM_isDigit_12 : decode cM_isDigit 12 = .ok ((.iconst 1), 1) := by decide +kernel
theorem dM_isDigit_13 : decode cM_isDigit 13 = .ok ((.goto 4), 3) := by decide +kernel
theorem dM_isDigit_16 : decode cM_isDigit 16 = .ok ((.iconst 0), 1) := by decide +kernel
theorem dM_isDigit_17 : decode cM_isDigit 17 = .ok (.ireturn, 1) := by decide +kernel
theorem dM_does_0 : decode cM_does 0 = .ok ((.iload_n 1), 1) := by decide +kernel
theorem dM_does_1 : decode cM_does 1 = .ok ((.lookupswitch 127 #[(102, 61), (109, 83), (115, 43), (118, 105)]), 43) := by decide +kernel
theorem dM_does_44 : decode cM_does 44 = .ok ((.aload_n 0), 1) := by decide +kernel
theorem dM_does_45 : decode cM_does 45 = .ok ((.iload_n 2), 1) := by decide +kernel
theorem dM_does_46 : decode cM_does 46 = .ok ((.invokevirtual 166), 3) := by decide +kernel
theorem dM_does_49 : decode cM_does 49 = .ok ((.aload_n 0), 1) := by decide +kernel
theorem dM_does_50 : decode cM_does 50 = .ok ((.getfield 56), 3) := by decide +kernel
theorem dM_does_53 : decode cM_does 53 = .ok ((.ifCond .ne 7), 3) := by decide +kernel
theorem dM_does_56 : decode cM_does 56 = .ok ((.iconst 1), 1) := by decide +kernel
theorem dM_does_57 : decode cM_does 57 = .ok ((.goto 4), 3) := by decide +kernel
theorem dM_does_60 : decode cM_does 60 = .ok ((.iconst 0), 1) := by decide +kernel
theorem dM_does_61 : decode cM_does 61 = .ok (.ireturn, 1) := by decide +kernel
theorem dM_does_62 : decode cM_does 62 = .ok ((.aload_n 0), 1) := by decide +kernel
theorem dM_does_63 : decode cM_does 63 = .ok ((.iload_n 2), 1) := by decide +kernel
theorem dM_does_64 : decode cM_does 64 = .ok ((.iconst 0), 1) := by decide +kernel
theorem dM_does_65 : decode cM_does 65 = .ok ((.invokevirtual 169), 3) := by decide +kernel
theorem dM_does_68 : decode cM_does 68 = .ok ((.ifCond .gt 10), 3) := by decide +kernel
theorem dM_does_71 : decode cM_does 71 = .ok ((.aload_n 0), 1) := by decide +kernel
theorem dM_does_72 : decode cM_does 72 = .ok ((.getfield 56), 3) := by decide +kernel
theorem dM_does_75 : decode cM_does 75 = .ok ((.ifCond .ne 7), 3) := by decide +kernel
theorem dM_does_78 : decode cM_does 78 = .ok ((.iconst 1), 1) := by decide +kernel
theorem dM_does_79 : decode cM_does 79 = .ok ((.goto 4), 3) := by decide +kernel
theorem dM_does_82 : decode cM_does 82 = .ok ((.iconst 0), 1) := by decide +kernel
theorem dM_does_83 : decode cM_does 83 = .ok (.ireturn, 1) := by decide +kernel
theorem dM_does_84 : decode cM_does 84 = .ok ((.aload_n 0), 1) := by decide +kernel
theorem dM_does_85 : decode cM_does 85 = .ok ((.iload_n 2), 1) := by decide +kernel
theorem dM_does_86 : decode cM_does 86 = .ok ((.iconst 1), 1) := by decide +kernel
theorem dM_does_87 : decode cM_does 87 = .ok ((.invokevirtual 169), 3) := by decide +kernel
theorem dM_does_90 : decode cM_does 90 = .ok ((.ifCond .gt 10), 3) := by decide +kernel
theorem dM_does_93 : decode cM_does 93 = .ok ((.aload_n 0), 1) := by decide +kernel
theorem dM_does_94 : decode cM_does 94 = .ok ((.getfield 56), 3) := by decide +kernel
theorem dM_does_97 : decode cM_does 97 = .ok ((.ifCond .ne 7), 3) := by decide +kernel
theorem dM_does_100 : decode cM_does 100 = .ok ((.iconst 1), 1) := by decide +kernel
theorem dM_does_101 : decode cM_does 101 = .ok ((.goto 4), 3) := by decide +kernel
theorem dM_does_104 : decode cM_does 104 = .ok ((.iconst 0), 1) := by decide +kernel
theorem dM_does_105 : decode cM_does 105 = .ok (.ireturn, 1) := by decide +kernel
theorem dM_does_106 : decode cM_does 106 = .ok ((.aload_n 0), 1) := by decide +kernel
theorem dM_does_107 : decode cM_does 107 = .ok ((.iload_n 2), 1) := by decide +kernel
theorem dM_does_108 : decode cM_does 108 = .ok ((.iconst 2), 1) := by decide +kernel
theorem dM_does_109 : decode cM_does 109 = .ok ((.invokevirtual 169), 3) := by decide +kernel
theorem dM_does_112 : decode cM_does 112 = .ok ((.ifCond .gt 10), 3) := by decide +kernel
theorem dM_does_115 : decode cM_does 115 = .ok ((.aload_n 0), 1) := by decide +kernel
theorem dM_does_116 : decode cM_does 116 = .ok ((.getfield 56), 3) := by decide +kernel
theorem dM_does_119 : decode cM_does 119 = .ok ((.ifCond .ne 7), 3) := by decide +kernel
theorem dM_does_122 : decode cM_does 122 = .ok ((.iconst 1), 1) := by decide +kernel
theorem dM_does_123 : decode cM_does 123 = .ok ((.goto 4), 3) := by decide +kernel
theorem dM_does_126 : decode cM_does 126 = .ok ((.iconst 0), 1) := by decide +kernel
theorem dM_does_127 : decode cM_does 127 = .ok (.ireturn, 1) := by decide +kernel
theorem dM_does_128 : decode cM_does 128 = .ok ((.aload_n 0), 1) := by decide +kernel
theorem dM_does_129 : decode cM_does 129 = .ok ((.iload_n 2), 1) := by decide +kernel
theorem dM_does_130 : decode cM_does 130 = .ok ((.iconst 3), 1) := by decide +kernel
theorem dM_does_131 : decode cM_does 131 = .ok ((.invokevirtual 169), 3) := by decide +kernel
theorem dM_does_134 : decode cM_does 134 = .ok ((.ifCond .gt 10), 3) := by decide +kernel
theorem dM_does_137 : decode cM_does 137 = .ok ((.aload_n 0), 1) := by decide +kernel
theorem dM_does_138 : decode cM_does 138 = .ok ((.getfield 56), 3) := by decide +kernel
theorem dM_does_141 : decode cM_does 141 = .ok ((.ifCond .ne 7), 3) := by decide +kernel
theorem dM_does_144 : decode cM_does 144 = .ok ((.iconst 1), 1) := by decide +kernel
theorem dM_does_145 : decode cM_does 145 = .ok ((.goto 4), 3) := by decide +kernel
theorem dM_does_148 : decode cM_does 148 = .ok ((.iconst 0), 1) := by decide +kernel
theorem dM_does_149 : decode cM_does 149 = .ok (.ireturn, 1) := by decide +kernel
end
section
theorem dL_strip_0 : decode cL_strip 0 = .ok ((.aload_n 0), 1) := by decide +kernel
theorem dL_strip_1 : decode cL_strip 1 = .ok ((.iload_n 1), 1) := by decide +kernel
theorem dL_strip_2 : decode cL_strip 2 = .ok ((.invokevirtual 7), 3) := by decide +kernel
theorem dL_strip_5 : decode cL_strip 5 = .ok ((.goto 6), 3) := by decide +kernel
theorem dL_strip_8 : decode cL_strip 8 = .ok ((.astore_n 2), 1) := by decide +kernel
theorem dL_strip_9 : decode cL_strip 9 = .ok ((.iconst 1), 1) := by decide +kernel
theorem dL_strip_10 : decode cL_strip 10 = .ok (.ireturn, 1) := by decide +kernel
theorem dL_strip_11 : decode cL_strip 11 = .ok ((.iconst 0), 1) := by decide +kernel
theorem dL_strip_12 : decode cL_strip 12 = .ok (.ireturn, 1) := by decide +kernel
theorem dL_crease_0 : decode cL_crease 0 = .ok ((.aload_n 3), 1) := by decide +kernel
theorem dL_crease_1 : decode cL_crease 1 = .ok ((.iconst 0), 1) := by decide +kernel
theorem dL_crease_2 : decode cL_crease 2 = .ok ((.aload_n 0), 1) := by decide +kernel
theorem dL_crease_3 : decode cL_crease 3 = .ok ((.iload_n 1), 1) := by decide +kernel
theorem dL_crease_4 : decode cL_crease 4 = .ok ((.iload_n 2), 1) := by decide +kernel
theorem dL_crease_5 : decode cL_crease 5 = .ok ((.invokevirtual 15), 3) := by decide +kernel
theorem dL_crease_8 : decode cL_crease 8 = .ok (.i2l, 1) := by decide +kernel
theorem dL_crease_9 : decode cL_crease 9 = .ok (.lastore, 1) := by decide +kernel
theorem dL_crease_10 : decode cL_crease 10 = .ok ((.goto 11), 3) := by decide +kernel
theorem dL_crease_13 : decode cL_crease 13 = .ok ((.astore 4), 2) := by decide +kernel
theorem dL_crease_15 : decode cL_crease 15 = .ok ((.iconst 1), 1) := by decide +kernel
theorem dL_crease_16 : decode cL_crease 16 = .ok (.ireturn, 1) := by decide +kernel
theorem dL_crease_17 : decode cL_crease 17 = .ok ((.astore 4), 2) := by decide +kernel
theorem dL_crease_19 : decode cL_crease 19 = .ok ((.iconst 2), 1) := by decide +kernel
theorem dL_crease_20 : decode cL_crease 20 = .ok (.ireturn, 1) := by decide +kernel
theorem dL_crease_21 : decode cL_crease 21 = .ok ((.iconst 0), 1) := by decide +kernel
theorem dL_crease_22 : decode cL_crease 22 = .ok (.ireturn, 1) := by decide +kernel
theorem dL_segment_0 : decode cL_segment 0 = .ok ((.aload_n 3), 1) := by decide +kernel
theorem dL_segment_1 : decode cL_segment 1 = .ok ((.iconst 0), 1) := by decide +kernel
theorem dL_segment_2 : decode cL_segment 2 = .ok ((.aload_n 0), 1) := by decide +kernel
theorem dL_segment_3 : decode cL_segment 3 = .ok ((.iload_n 1), 1) := by decide +kernel
theorem dL_segment_4 : decode cL_segment 4 = .ok ((.iload_n 2), 1) := by decide +kernel
theorem dL_segment_5 : decode cL_segment 5 = .ok ((.invokevirtual 21), 3) := by decide +kernel
theorem dL_segment_8 : decode cL_segment 8 = .ok (.i2l, 1) := by decide +kernel
theorem dL_segment_9 : decode cL_segment 9 = .ok (.lastore, 1) := by decide +kernel
theorem dL_segment_10 : decode cL_segment 10 = .ok ((.goto 11), 3) := by decide +kernel
theorem dL_segment_13 : decode cL_segment 13 = .ok ((.astore 4), 2) := by decide +kernel
theorem dL_segment_15 : decode cL_segment 15 = .ok ((.iconst 1), 1) := by decide +kernel
theorem dL_segment_16 : decode cL_segment 16 = .ok (.ireturn, 1) := by decide +kernel
theorem dL_segment_17 : decode cL_segment 17 = .ok ((.astore 4), 2) := by decide +kernel
theorem dL_segment_19 : decode cL_segment 19 = .ok ((.iconst 2), 1) := by decide +kernel
theorem dL_segment_20 : decode cL_segment 20 = .ok (.ireturn, 1) := by decide +kernel
theorem dL_segment_21 : decode cL_segment 21 = .ok ((.iconst 0), 1) := by decide +kernel
theorem dL_segment_22 : decode cL_segment 22 = .ok (.ireturn, 1) := by decide +kernel
theorem dL_whereIs_0 : decode cL_whereIs 0 = .ok ((.aload_n 2), 1) := by decide +kernel
theorem dL_whereIs_1 : decode cL_whereIs 1 = .ok ((.iconst 0), 1) := by decide +kernel
theorem dL_whereIs_2 : decode cL_whereIs 2 = .ok ((.aload_n 0), 1) := by decide +kernel
theorem dL_whereIs_3 : decode cL_whereIs 3 = .ok ((.iload_n 1), 1) := by decide +kernel
theorem dL_whereIs_4 : decode cL_whereIs 4 = .ok ((.invokevirtual 26), 3) := by decide +kernel
theorem dL_whereIs_7 : decode cL_whereIs 7 = .ok (.i2l, 1) := by decide +kernel
theorem dL_whereIs_8 : decode cL_whereIs 8 = .ok (.lastore, 1) := by decide +kernel
theorem dL_whereIs_9 : decode cL_whereIs 9 = .ok ((.goto 6), 3) := by decide +kernel
theorem dL_whereIs_12 : decode cL_whereIs 12 = .ok ((.astore_n 3), 1) := by decide +kernel
theorem dL_whereIs_13 : decode cL_whereIs 13 = .ok ((.iconst 1), 1) := by decide +kernel
theorem dL_whereIs_14 : decode cL_whereIs 14 = .ok (.ireturn, 1) := by decide +kernel
theorem dL_whereIs_15 : decode cL_whereIs 15 = .ok ((.iconst 0), 1) := by decide +kernel
theorem dL_whereIs_16 : decode cL_whereIs 16 = .ok (.ireturn, 1) := by decide +kernel
theorem dL_step_0 : decode cL_step 0 = .ok ((.aload_n 3), 1) := by decide +kernel
theorem dL_step_1 : decode cL_step 1 = .ok ((.iconst 0), 1) := by decide +kernel
theorem dL_step_2 : decode cL_step 2 = .ok ((.aload_n 0), 1) := by decide +kernel
theorem dL_step_3 : decode cL_step 3 = .ok ((.iload_n 1), 1) := by decide +kernel
theorem dL_step_4 : decode cL_step 4 = .ok ((.iload_n 2), 1) := by decide +kernel
theorem dL_step_5 : decode cL_step 5 = .ok ((.invokevirtual 30), 3) := by decide +kernel
theorem dL_step_8 : decode cL_step 8 = .ok (.i2l, 1) := by decide +kernel
theorem dL_step_9 : decode cL_step 9 = .ok (.lastore, 1) := by decide +kernel
theorem dL_step_10 : decode cL_step 10 = .ok ((.goto 11), 3) := by decide +kernel
theorem dL_step_13 : decode cL_step 13 = .ok ((.astore 4), 2) := by decide +kernel
theorem dL_step_15 : decode cL_step 15 = .ok ((.iconst 1), 1) := by decide +kernel
theorem dL_step_16 : decode cL_step 16 = .ok (.ireturn, 1) := by decide +kernel
theorem dL_step_17 : decode cL_step 17 = .ok ((.astore 4), 2) := by decide +kernel
theorem dL_step_19 : decode cL_step 19 = .ok ((.iconst 2), 1) := by decide +kernel
theorem dL_step_20 : decode cL_step 20 = .ok (.ireturn, 1) := by decide +kernel
theorem dL_step_21 : decode cL_step 21 = .ok ((.iconst 0), 1) := by decide +kernel
theorem dL_step_22 : decode cL_step 22 = .ok (.ireturn, 1) := by decide +kernel
theorem dL_above_0 : decode cL_above 0 = .ok ((.aload 4), 2) := by decide +kernel
theorem dL_above_2 : decode cL_above 2 = .ok ((.iconst 0), 1) := by decide +kernel
theorem dL_above_3 : decode cL_above 3 = .ok ((.aload_n 0), 1) := by decide +kernel
theorem dL_above_4 : decode cL_above 4 = .ok ((.iload_n 1), 1) := by decide +kernel
theorem dL_above_5 : decode cL_above 5 = .ok ((.iload_n 2), 1) := by decide +kernel
theorem dL_above_6 : decode cL_above 6 = .ok ((.iload_n 3), 1) := by decide +kernel
theorem dL_above_7 : decode cL_above 7 = .ok ((.invokevirtual 33), 3) := by decide +kernel
theorem dL_above_10 : decode cL_above 10 = .ok (.i2l, 1) := by decide +kernel
theorem dL_above_11 : decode cL_above 11 = .ok (.lastore, 1) := by decide +kernel
theorem dL_above_12 : decode cL_above 12 = .ok ((.goto 7), 3) := by decide +kernel
theorem dL_above_15 : decode cL_above 15 = .ok ((.astore 5), 2) := by decide +kernel
theorem dL_above_17 : decode cL_above 17 = .ok ((.iconst 1), 1) := by decide +kernel
theorem dL_above_18 : decode cL_above 18 = .ok (.ireturn, 1) := by decide +kernel
theorem dL_above_19 : decode cL_above 19 = .ok ((.iconst 0), 1) := by decide +kernel
theorem dL_above_20 : decode cL_above 20 = .ok (.ireturn, 1) := by decide +kernel
theorem dL_layer_0 : decode cL_layer 0 = .ok ((.aload 4), 2) := by decide +kernel
theorem dL_layer_2 : decode cL_layer 2 = .ok ((.iconst 0), 1) := by decide +kernel
theorem dL_layer_3 : decode cL_layer 3 = .ok ((.aload_n 0), 1) := by decide +kernel
theorem dL_layer_4 : decode cL_layer 4 = .ok ((.iload_n 1), 1) := by decide +kernel
theorem dL_layer_5 : decode cL_layer 5 = .ok ((.iload_n 2), 1) := by decide +kernel
theorem dL_layer_6 : decode cL_layer 6 = .ok ((.iload_n 3), 1) := by decide +kernel
theorem dL_layer_7 : decode cL_layer 7 = .ok ((.invokevirtual 37), 3) := by decide +kernel
theorem dL_layer_10 : decode cL_layer 10 = .ok (.i2l, 1) := by decide +kernel
theorem dL_layer_11 : decode cL_layer 11 = .ok (.lastore, 1) := by decide +kernel
theorem dL_layer_12 : decode cL_layer 12 = .ok ((.goto 7), 3) := by decide +kernel
theorem dL_layer_15 : decode cL_layer 15 = .ok ((.astore 5), 2) := by decide +kernel
theorem dL_layer_17 : decode cL_layer 17 = .ok ((.iconst 1), 1) := by decide +kernel
theorem dL_layer_18 : decode cL_layer 18 = .ok (.ireturn, 1) := by decide +kernel
theorem dL_layer_19 : decode cL_layer 19 = .ok ((.iconst 0), 1) := by decide +kernel
theorem dL_layer_20 : decode cL_layer 20 = .ok (.ireturn, 1) := by decide +kernel
theorem dL_type_0 : decode cL_type 0 = .ok ((.aload_n 2), 1) := by decide +kernel
theorem dL_type_1 : decode cL_type 1 = .ok ((.iconst 0), 1) := by decide +kernel
theorem dL_type_2 : decode cL_type 2 = .ok ((.aload_n 0), 1) := by decide +kernel
theorem dL_type_3 : decode cL_type 3 = .ok ((.iload_n 1), 1) := by decide +kernel
theorem dL_type_4 : decode cL_type 4 = .ok ((.invokevirtual 40), 3) := by decide +kernel
theorem dL_type_7 : decode cL_type 7 = .ok (.i2l, 1) := by decide +kernel
theorem dL_type_8 : decode cL_type 8 = .ok (.lastore, 1) := by decide +kernel
theorem dL_type_9 : decode cL_type 9 = .ok ((.goto 9), 3) := by decide +kernel
theorem dL_type_12 : decode cL_type 12 = .ok ((.astore_n 3), 1) := by decide +kernel
theorem dL_type_13 : decode cL_type 13 = .ok ((.iconst 1), 1) := by decide +kernel
theorem dL_type_14 : decode cL_type 14 = .ok (.ireturn, 1) := by decide +kernel
theorem dL_type_15 : decode cL_type 15 = .ok ((.astore_n 3), 1) := by decide +kernel
theorem dL_type_16 : decode cL_type 16 = .ok ((.iconst 2), 1) := by decide +kernel
theorem dL_type_17 : decode cL_type 17 = .ok (.ireturn, 1) := by decide +kernel
theorem dL_type_18 : decode cL_type 18 = .ok ((.iconst 0), 1) := by decide +kernel
theorem dL_type_19 : decode cL_type 19 = .ok (.ireturn, 1) := by decide +kernel
theorem dL_law_0 : decode cL_law 0 = .ok ((.new 8), 3) := by decide +kernel
theorem dL_law_3 : decode cL_law 3 = .ok (.dup, 1) := by decide +kernel
theorem dL_law_4 : decode cL_law 4 = .ok ((.invokespecial 43), 3) := by decide +kernel
theorem dL_law_7 : decode cL_law 7 = .ok ((.astore_n 1), 1) := by decide +kernel
theorem dL_law_8 : decode cL_law 8 = .ok ((.new 44), 3) := by decide +kernel
theorem dL_law_11 : decode cL_law 11 = .ok (.dup, 1) := by decide +kernel
theorem dL_law_12 : decode cL_law 12 = .ok ((.invokespecial 46), 3) := by decide +kernel
theorem dL_law_15 : decode cL_law 15 = .ok ((.astore_n 2), 1) := by decide +kernel
theorem dL_law_16 : decode cL_law 16 = .ok ((.iconst 1), 1) := by decide +kernel
theorem dL_law_17 : decode cL_law 17 = .ok ((.newarray .long), 2) := by decide +kernel
theorem dL_law_19 : decode cL_law 19 = .ok ((.astore_n 3), 1) := by decide +kernel
theorem dL_law_20 : decode cL_law 20 = .ok ((.iconst 0), 1) := by decide +kernel
theorem dL_law_21 : decode cL_law 21 = .ok ((.istore 4), 2) := by decide +kernel
theorem dL_law_23 : decode cL_law 23 = .ok ((.iload 4), 2) := by decide +kernel
theorem dL_law_25 : decode cL_law 25 = .ok ((.aload_n 0), 1) := by decide +kernel
theorem dL_law_26 : decode cL_law 26 = .ok (.arraylength, 1) := by decide +kernel
theorem dL_law_27 : decode cL_law 27 = .ok ((.iconst 4), 1) := by decide +kernel
theorem dL_law_28 : decode cL_law 28 = .ok (.isub, 1) := by decide +kernel
theorem dL_law_29 : decode cL_law 29 = .ok ((.if_icmp .gt 738), 3) := by decide +kernel
theorem dL_law_32 : decode cL_law 32 = .ok ((.aload_n 0), 1) := by decide +kernel
theorem dL_law_33 : decode cL_law 33 = .ok ((.iload 4), 2) := by decide +kernel
theorem dL_law_35 : decode cL_law 35 = .ok (.iaload, 1) := by decide +kernel
theorem dL_law_36 : decode cL_law 36 = .ok ((.bipush 31), 2) := by decide +kernel
theorem dL_law_38 : decode cL_law 38 = .ok (.iand, 1) := by decide +kernel
theorem dL_law_39 : decode cL_law 39 = .ok ((.tableswitch 722 0 16 #[81, 117, 185, 198, 223, 291, 347, 360, 373, 386, 399, 467, 480, 560, 640, 653, 709]), 81) := by decide +kernel
theorem dL_law_120 : decode cL_law 120 = .ok ((.aload_n 1), 1) := by decide +kernel
theorem dL_law_121 : decode cL_law 121 = .ok ((.aload_n 0), 1) := by decide +kernel
theorem dL_law_122 : decode cL_law 122 = .ok ((.iload 4), 2) := by decide +kernel
theorem dL_law_124 : decode cL_law 124 = .ok ((.iconst 1), 1) := by decide +kernel
theorem dL_law_125 : decode cL_law 125 = .ok (.iadd, 1) := by decide +kernel
theorem dL_law_126 : decode cL_law 126 = .ok (.iaload, 1) := by decide +kernel
theorem dL_law_127 : decode cL_law 127 = .ok ((.invokestatic 47), 3) := by decide +kernel
theorem dL_law_130 : decode cL_law 130 = .ok ((.istore 5), 2) := by decide +kernel
theorem dL_law_132 : decode cL_law 132 = .ok ((.aload_n 2), 1) := by decide +kernel
theorem dL_law_133 : decode cL_law 133 = .ok ((.aload_n 0), 1) := by decide +kernel
theorem dL_law_134 : decode cL_law 134 = .ok ((.iload 4), 2) := by decide +kernel
theorem dL_law_136 : decode cL_law 136 = .ok ((.iconst 1), 1) := by decide +kernel
theorem dL_law_137 : decode cL_law 137 = .ok (.iadd, 1) := by decide +kernel
theorem dL_law_138 : decode cL_law 138 = .ok (.iaload, 1) := by decide +kernel
theorem dL_law_139 : decode cL_law 139 = .ok ((.invokevirtual 52), 3) := by decide +kernel
theorem dL_law_142 : decode cL_law 142 = .ok ((.aload_n 2), 1) := by decide +kernel
theorem dL_law_143 : decode cL_law 143 = .ok ((.invokevirtual 53), 3) := by decide +kernel
theorem dL_law_146 : decode cL_law 146 = .ok ((.iload 5), 2) := by decide +kernel
theorem dL_law_148 : decode cL_law 148 = .ok ((.if_icmp .eq 5), 3) := by decide +kernel
theorem dL_law_151 : decode cL_law 151 = .ok ((.iconst 0), 1) := by decide +kernel
theorem dL_law_152 : decode cL_law 152 = .ok (.ireturn, 1) := by decide +kernel
theorem dL_law_153 : decode cL_law 153 = .ok ((.goto 608), 3) := by decide +kernel
theorem dL_law_156 : decode cL_law 156 = .ok ((.aload_n 1), 1) := by decide +kernel
theorem dL_law_157 : decode cL_law 157 = .ok ((.aload_n 0), 1) := by decide +kernel
theorem dL_law_158 : decode cL_law 158 = .ok ((.iload 4), 2) := by decide +kernel
theorem dL_law_160 : decode cL_law 160 = .ok ((.iconst 1), 1) := by decide +kernel
theorem dL_law_161 : decode cL_law 161 = .ok (.iadd, 1) := by decide +kernel
theorem dL_law_162 : decode cL_law 162 = .ok (.iaload, 1) := by decide +kernel
theorem dL_law_163 : decode cL_law 163 = .ok ((.aload_n 0), 1) := by decide +kernel
theorem dL_law_164 : decode cL_law 164 = .ok ((.iload 4), 2) := by decide +kernel
theorem dL_law_166 : decode cL_law 166 = .ok ((.iconst 2), 1) := by decide +kernel
theorem dL_law_167 : decode cL_law 167 = .ok (.iadd, 1) := by decide +kernel
theorem dL_law_168 : decode cL_law 168 = .ok (.iaload, 1) := by decide +kernel
theorem dL_law_169 : decode cL_law 169 = .ok ((.aload_n 3), 1) := by decide +kernel
theorem dL_law_170 : decode cL_law 170 = .ok ((.invokestatic 57), 3) := by decide +kernel
theorem dL_law_173 : decode cL_law 173 = .ok ((.istore 5), 2) := by decide +kernel
theorem dL_law_175 : decode cL_law 175 = .ok ((.aload_n 2), 1) := by decide +kernel
theorem dL_law_176 : decode cL_law 176 = .ok ((.aload_n 0), 1) := by decide +kernel
theorem dL_law_177 : decode cL_law 177 = .ok ((.iload 4), 2) := by decide +kernel
theorem dL_law_179 : decode cL_law 179 = .ok ((.iconst 1), 1) := by decide +kernel
theorem dL_law_180 : decode cL_law 180 = .ok (.iadd, 1) := by decide +kernel
theorem dL_law_181 : decode cL_law 181 = .ok (.iaload, 1) := by decide +kernel
theorem dL_law_182 : decode cL_law 182 = .ok ((.aload_n 0), 1) := by decide +kernel
theorem dL_law_183 : decode cL_law 183 = .ok ((.iload 4), 2) := by decide +kernel
theorem dL_law_185 : decode cL_law 185 = .ok ((.iconst 2), 1) := by decide +kernel
theorem dL_law_186 : decode cL_law 186 = .ok (.iadd, 1) := by decide +kernel
theorem dL_law_187 : decode cL_law 187 = .ok (.iaload, 1) := by decide +kernel
theorem dL_law_188 : decode cL_law 188 = .ok ((.invokevirtual 60), 3) := by decide +kernel
theorem dL_law_191 : decode cL_law 191 = .ok ((.istore 6), 2) := by decide +kernel
theorem dL_law_193 : decode cL_law 193 = .ok ((.aload_n 2), 1) := by decide +kernel
theorem dL_law_194 : decode cL_law 194 = .ok ((.invokevirtual 53), 3) := by decide +kernel
theorem dL_law_197 : decode cL_law 197 = .ok ((.iload 5), 2) := by decide +kernel
theorem dL_law_199 : decode cL_law 199 = .ok ((.if_icmp .eq 5), 3) := by decide +kernel
theorem dL_law_202 : decode cL_law 202 = .ok ((.iconst 0), 1) := by decide +kernel
theorem dL_law_203 : decode cL_law 203 = .ok (.ireturn, 1) := by decide +kernel
theorem dL_law_204 : decode cL_law 204 = .ok ((.iload 5), 2) := by decide +kernel
theorem dL_law_206 : decode cL_law 206 = .ok ((.ifCond .ne 15), 3) := by decide +kernel
theorem dL_law_209 : decode cL_law 209 = .ok ((.aload_n 3), 1) := by decide +kernel
theorem dL_law_210 : decode cL_law 210 = .ok ((.iconst 0), 1) := by decide +kernel
theorem dL_law_211 : decode cL_law 211 = .ok (.laload, 1) := by decide +kernel
theorem dL_law_212 : decode cL_law 212 = .ok ((.iload 6), 2) := by decide +kernel
theorem dL_law_214 : decode cL_law 214 = .ok (.i2l, 1) := by decide +kernel
theorem dL_law_215 : decode cL_law 215 = .ok (.lcmp, 1) := by decide +kernel
theorem dL_law_216 : decode cL_law 216 = .ok ((.ifCond .eq 5), 3) := by decide +kernel
theorem dL_law_219 : decode cL_law 219 = .ok ((.iconst 0), 1) := by decide +kernel
theorem dL_law_220 : decode cL_law 220 = .ok (.ireturn, 1) := by decide +kernel
theorem dL_law_221 : decode cL_law 221 = .ok ((.goto 540), 3) := by decide +kernel
theorem dL_law_224 : decode cL_law 224 = .ok ((.aload_n 1), 1) := by decide +kernel
theorem dL_law_225 : decode cL_law 225 = .ok ((.invokevirtual 61), 3) := by decide +kernel
theorem dL_law_228 : decode cL_law 228 = .ok ((.aload_n 2), 1) := by decide +kernel
theorem dL_law_229 : decode cL_law 229 = .ok ((.invokevirtual 65), 3) := by decide +kernel
theorem dL_law_232 : decode cL_law 232 = .ok ((.if_icmp .eq 529), 3) := by decide +kernel
theorem dL_law_235 : decode cL_law 235 = .ok ((.iconst 0), 1) := by decide +kernel
theorem dL_law_236 : decode cL_law 236 = .ok (.ireturn, 1) := by decide +kernel
theorem dL_law_237 : decode cL_law 237 = .ok ((.aload_n 1), 1) := by decide +kernel
theorem dL_law_238 : decode cL_law 238 = .ok ((.aload_n 0), 1) := by decide +kernel
theorem dL_law_239 : decode cL_law 239 = .ok ((.iload 4), 2) := by decide +kernel
theorem dL_law_241 : decode cL_law 241 = .ok ((.iconst 1), 1) := by decide +kernel
theorem dL_law_242 : decode cL_law 242 = .ok (.iadd, 1) := by decide +kernel
theorem dL_law_243 : decode cL_law 243 = .ok (.iaload, 1) := by decide +kernel
theorem dL_law_244 : decode cL_law 244 = .ok ((.invokevirtual 66), 3) := by decide +kernel
theorem dL_law_247 : decode cL_law 247 = .ok ((.aload_n 2), 1) := by decide +kernel
theorem dL_law_248 : decode cL_law 248 = .ok ((.aload_n 0), 1) := by decide +kernel
theorem dL_law_249 : decode cL_law 249 = .ok ((.iload 4), 2) := by decide +kernel
theorem dL_law_251 : decode cL_law 251 = .ok ((.iconst 1), 1) := by decide +kernel
theorem dL_law_252 : decode cL_law 252 = .ok (.iadd, 1) := by decide +kernel
theorem dL_law_253 : decode cL_law 253 = .ok (.iaload, 1) := by decide +kernel
theorem dL_law_254 : decode cL_law 254 = .ok ((.invokevirtual 69), 3) := by decide +kernel
theorem dL_law_257 : decode cL_law 257 = .ok ((.if_icmp .eq 504), 3) := by decide +kernel
theorem dL_law_260 : decode cL_law 260 = .ok ((.iconst 0), 1) := by decide +kernel
theorem dL_law_261 : decode cL_law 261 = .ok (.ireturn, 1) := by decide +kernel
theorem dL_law_262 : decode cL_law 262 = .ok ((.aload_n 1), 1) := by decide +kernel
theorem dL_law_263 : decode cL_law 263 = .ok ((.aload_n 0), 1) := by decide +kernel
theorem dL_law_264 : decode cL_law 264 = .ok ((.iload 4), 2) := by decide +kernel
theorem dL_law_266 : decode cL_law 266 = .ok ((.iconst 1), 1) := by decide +kernel
theorem dL_law_267 : decode cL_law 267 = .ok (.iadd, 1) := by decide +kernel
theorem dL_law_268 : decode cL_law 268 = .ok (.iaload, 1) := by decide +kernel
theorem dL_law_269 : decode cL_law 269 = .ok ((.aload_n 0), 1) := by decide +kernel
theorem dL_law_270 : decode cL_law 270 = .ok ((.iload 4), 2) := by decide +kernel
theorem dL_law_272 : decode cL_law 272 = .ok ((.iconst 2), 1) := by decide +kernel
theorem dL_law_273 : decode cL_law 273 = .ok (.iadd, 1) := by decide +kernel
theorem dL_law_274 : decode cL_law 274 = .ok (.iaload, 1) := by decide +kernel
theorem dL_law_275 : decode cL_law 275 = .ok ((.aload_n 3), 1) := by decide +kernel
theorem dL_law_276 : decode cL_law 276 = .ok ((.invokestatic 70), 3) := by decide +kernel
theorem dL_law_279 : decode cL_law 279 = .ok ((.istore 5), 2) := by decide +kernel
theorem dL_law_281 : decode cL_law 281 = .ok ((.aload_n 2), 1) := by decide +kernel
theorem dL_law_282 : decode cL_law 282 = .ok ((.aload_n 0), 1) := by decide +kernel
theorem dL_law_283 : decode cL_law 283 = .ok ((.iload 4), 2) := by decide +kernel
theorem dL_law_285 : decode cL_law 285 = .ok ((.iconst 1), 1) := by decide +kernel
theorem dL_law_286 : decode cL_law 286 = .ok (.iadd, 1) := by decide +kernel
theorem dL_law_287 : decode cL_law 287 = .ok (.iaload, 1) := by decide +kernel
theorem dL_law_288 : decode cL_law 288 = .ok ((.aload_n 0), 1) := by decide +kernel
theorem dL_law_289 : decode cL_law 289 = .ok ((.iload 4), 2) := by decide +kernel
theorem dL_law_291 : decode cL_law 291 = .ok ((.iconst 2), 1) := by decide +kernel
theorem dL_law_292 : decode cL_law 292 = .ok (.iadd, 1) := by decide +kernel
theorem dL_law_293 : decode cL_law 293 = .ok (.iaload, 1) := by decide +kernel
theorem dL_law_294 : decode cL_law 294 = .ok ((.invokevirtual 72), 3) := by decide +kernel
theorem dL_law_297 : decode cL_law 297 = .ok ((.istore 6), 2) := by decide +kernel
theorem dL_law_299 : decode cL_law 299 = .ok ((.aload_n 2), 1) := by decide +kernel
theorem dL_law_300 : decode cL_law 300 = .ok ((.invokevirtual 53), 3) := by decide +kernel
theorem dL_law_303 : decode cL_law 303 = .ok ((.iload 5), 2) := by decide +kernel
theorem dL_law_305 : decode cL_law 305 = .ok ((.if_icmp .eq 5), 3) := by decide +kernel
theorem dL_law_308 : decode cL_law 308 = .ok ((.iconst 0), 1) := by decide +kernel
theorem dL_law_309 : decode cL_law 309 = .ok (.ireturn, 1) := by decide +kernel
theorem dL_law_310 : decode cL_law 310 = .ok ((.iload 5), 2) := by decide +kernel
theorem dL_law_312 : decode cL_law 312 = .ok ((.ifCond .ne 15), 3) := by decide +kernel
theorem dL_law_315 : decode cL_law 315 = .ok ((.aload_n 3), 1) := by decide +kernel
theorem dL_law_316 : decode cL_law 316 = .ok ((.iconst 0), 1) := by decide +kernel
theorem dL_law_317 : decode cL_law 317 = .ok (.laload, 1) := by decide +kernel
theorem dL_law_318 : decode cL_law 318 = .ok ((.iload 6), 2) := by decide +kernel
theorem dL_law_320 : decode cL_law 320 = .ok (.i2l, 1) := by decide +kernel
theorem dL_law_321 : decode cL_law 321 = .ok (.lcmp, 1) := by decide +kernel
theorem dL_law_322 : decode cL_law 322 = .ok ((.ifCond .eq 5), 3) := by decide +kernel
theorem dL_law_325 : decode cL_law 325 = .ok ((.iconst 0), 1) := by decide +kernel
theorem dL_law_326 : decode cL_law 326 = .ok (.ireturn, 1) := by decide +kernel
theorem dL_law_327 : decode cL_law 327 = .ok ((.goto 434), 3) := by decide +kernel
theorem dL_law_330 : decode cL_law 330 = .ok ((.aload_n 1), 1) := by decide +kernel
theorem dL_law_331 : decode cL_law 331 = .ok ((.aload_n 0), 1) := by decide +kernel
theorem dL_law_332 : decode cL_law 332 = .ok ((.iload 4), 2) := by decide +kernel
theorem dL_law_334 : decode cL_law 334 = .ok ((.iconst 1), 1) := by decide +kernel
theorem dL_law_335 : decode cL_law 335 = .ok (.iadd, 1) := by decide +kernel
theorem dL_law_336 : decode cL_law 336 = .ok (.iaload, 1) := by decide +kernel
theorem dL_law_337 : decode cL_law 337 = .ok ((.aload_n 3), 1) := by decide +kernel
theorem dL_law_338 : decode cL_law 338 = .ok ((.invokestatic 73), 3) := by decide +kernel
theorem dL_law_341 : decode cL_law 341 = .ok ((.istore 5), 2) := by decide +kernel
theorem dL_law_343 : decode cL_law 343 = .ok ((.aload_n 2), 1) := by decide +kernel
theorem dL_law_344 : decode cL_law 344 = .ok ((.aload_n 0), 1) := by decide +kernel
theorem dL_law_345 : decode cL_law 345 = .ok ((.iload 4), 2) := by decide +kernel
theorem dL_law_347 : decode cL_law 347 = .ok ((.iconst 1), 1) := by decide +kernel
theorem dL_law_348 : decode cL_law 348 = .ok (.iadd, 1) := by decide +kernel
theorem dL_law_349 : decode cL_law 349 = .ok (.iaload, 1) := by decide +kernel
theorem dL_law_350 : decode cL_law 350 = .ok ((.invokevirtual 76), 3) := by decide +kernel
theorem dL_law_353 : decode cL_law 353 = .ok ((.istore 6), 2) := by decide +kernel
theorem dL_law_355 : decode cL_law 355 = .ok ((.aload_n 2), 1) := by decide +kernel
theorem dL_law_356 : decode cL_law 356 = .ok ((.invokevirtual 53), 3) := by decide +kernel
theorem dL_law_359 : decode cL_law 359 = .ok ((.iload 5), 2) := by decide +kernel
theorem dL_law_361 : decode cL_law 361 = .ok ((.if_icmp .eq 5), 3) := by decide +kernel
theorem dL_law_364 : decode cL_law 364 = .ok ((.iconst 0), 1) := by decide +kernel
theorem dL_law_365 : decode cL_law 365 = .ok (.ireturn, 1) := by decide +kernel
theorem dL_law_366 : decode cL_law 366 = .ok ((.iload 5), 2) := by decide +kernel
theorem dL_law_368 : decode cL_law 368 = .ok ((.ifCond .ne 15), 3) := by decide +kernel
theorem dL_law_371 : decode cL_law 371 = .ok ((.aload_n 3), 1) := by decide +kernel
theorem dL_law_372 : decode cL_law 372 = .ok ((.iconst 0), 1) := by decide +kernel
theorem dL_law_373 : decode cL_law 373 = .ok (.laload, 1) := by decide +kernel
theorem dL_law_374 : decode cL_law 374 = .ok ((.iload 6), 2) := by decide +kernel
theorem dL_law_376 : decode cL_law 376 = .ok (.i2l, 1) := by decide +kernel
theorem dL_law_377 : decode cL_law 377 = .ok (.lcmp, 1) := by decide +kernel
theorem dL_law_378 : decode cL_law 378 = .ok ((.ifCond .eq 5), 3) := by decide +kernel
theorem dL_law_381 : decode cL_law 381 = .ok ((.iconst 0), 1) := by decide +kernel
theorem dL_law_382 : decode cL_law 382 = .ok (.ireturn, 1) := by decide +kernel
theorem dL_law_383 : decode cL_law 383 = .ok ((.goto 378), 3) := by decide +kernel
theorem dL_law_386 : decode cL_law 386 = .ok ((.aload_n 1), 1) := by decide +kernel
theorem dL_law_387 : decode cL_law 387 = .ok ((.invokevirtual 77), 3) := by decide +kernel
theorem dL_law_390 : decode cL_law 390 = .ok ((.aload_n 2), 1) := by decide +kernel
theorem dL_law_391 : decode cL_law 391 = .ok ((.invokevirtual 80), 3) := by decide +kernel
theorem dL_law_394 : decode cL_law 394 = .ok ((.if_icmp .eq 367), 3) := by decide +kernel
theorem dL_law_397 : decode cL_law 397 = .ok ((.iconst 0), 1) := by decide +kernel
theorem dL_law_398 : decode cL_law 398 = .ok (.ireturn, 1) := by decide +kernel
theorem dL_law_399 : decode cL_law 399 = .ok ((.aload_n 1), 1) := by decide +kernel
theorem dL_law_400 : decode cL_law 400 = .ok ((.invokevirtual 81), 3) := by decide +kernel
theorem dL_law_403 : decode cL_law 403 = .ok ((.aload_n 2), 1) := by decide +kernel
theorem dL_law_404 : decode cL_law 404 = .ok ((.invokevirtual 84), 3) := by decide +kernel
theorem dL_law_407 : decode cL_law 407 = .ok ((.if_icmp .eq 354), 3) := by decide +kernel
theorem dL_law_410 : decode cL_law 410 = .ok ((.iconst 0), 1) := by decide +kernel
theorem dL_law_411 : decode cL_law 411 = .ok (.ireturn, 1) := by decide +kernel
theorem dL_law_412 : decode cL_law 412 = .ok ((.aload_n 1), 1) := by decide +kernel
theorem dL_law_413 : decode cL_law 413 = .ok ((.invokevirtual 85), 3) := by decide +kernel
theorem dL_law_416 : decode cL_law 416 = .ok ((.aload_n 2), 1) := by decide +kernel
theorem dL_law_417 : decode cL_law 417 = .ok ((.invokevirtual 88), 3) := by decide +kernel
theorem dL_law_420 : decode cL_law 420 = .ok ((.if_icmp .eq 341), 3) := by decide +kernel
theorem dL_law_423 : decode cL_law 423 = .ok ((.iconst 0), 1) := by decide +kernel
theorem dL_law_424 : decode cL_law 424 = .ok (.ireturn, 1) := by decide +kernel
theorem dL_law_425 : decode cL_law 425 = .ok ((.aload_n 1), 1) := by decide +kernel
theorem dL_law_426 : decode cL_law 426 = .ok ((.invokevirtual 89), 3) := by decide +kernel
theorem dL_law_429 : decode cL_law 429 = .ok ((.aload_n 2), 1) := by decide +kernel
theorem dL_law_430 : decode cL_law 430 = .ok ((.invokevirtual 92), 3) := by decide +kernel
theorem dL_law_433 : decode cL_law 433 = .ok ((.if_icmp .eq 328), 3) := by decide +kernel
theorem dL_law_436 : decode cL_law 436 = .ok ((.iconst 0), 1) := by decide +kernel
theorem dL_law_437 : decode cL_law 437 = .ok (.ireturn, 1) := by decide +kernel
theorem dL_law_438 : decode cL_law 438 = .ok ((.aload_n 1), 1) := by decide +kernel
theorem dL_law_439 : decode cL_law 439 = .ok ((.aload_n 0), 1) := by decide +kernel
theorem dL_law_440 : decode cL_law 440 = .ok ((.iload 4), 2) := by decide +kernel
theorem dL_law_442 : decode cL_law 442 = .ok ((.iconst 1), 1) := by decide +kernel
theorem dL_law_443 : decode cL_law 443 = .ok (.iadd, 1) := by decide +kernel
theorem dL_law_444 : decode cL_law 444 = .ok (.iaload, 1) := by decide +kernel
theorem dL_law_445 : decode cL_law 445 = .ok ((.aload_n 0), 1) := by decide +kernel
theorem dL_law_446 : decode cL_law 446 = .ok ((.iload 4), 2) := by decide +kernel
theorem dL_law_448 : decode cL_law 448 = .ok ((.iconst 2), 1) := by decide +kernel
theorem dL_law_449 : decode cL_law 449 = .ok (.iadd, 1) := by decide +kernel
theorem dL_law_450 : decode cL_law 450 = .ok (.iaload, 1) := by decide +kernel
theorem dL_law_451 : decode cL_law 451 = .ok ((.aload_n 3), 1) := by decide +kernel
theorem dL_law_452 : decode cL_law 452 = .ok ((.invokestatic 93), 3) := by decide +kernel
theorem dL_law_455 : decode cL_law 455 = .ok ((.istore 5), 2) := by decide +kernel
theorem dL_law_457 : decode cL_law 457 = .ok ((.aload_n 2), 1) := by decide +kernel
theorem dL_law_458 : decode cL_law 458 = .ok ((.aload_n 0), 1) := by decide +kernel
theorem dL_law_459 : decode cL_law 459 = .ok ((.iload 4), 2) := by decide +kernel
theorem dL_law_461 : decode cL_law 461 = .ok ((.iconst 1), 1) := by decide +kernel
theorem dL_law_462 : decode cL_law 462 = .ok (.iadd, 1) := by decide +kernel
theorem dL_law_463 : decode cL_law 463 = .ok (.iaload, 1) := by decide +kernel
theorem dL_law_464 : decode cL_law 464 = .ok ((.aload_n 0), 1) := by decide +kernel
theorem dL_law_465 : decode cL_law 465 = .ok ((.iload 4), 2) := by decide +kernel
theorem dL_law_467 : decode cL_law 467 = .ok ((.iconst 2), 1) := by decide +kernel
theorem dL_law_468 : decode cL_law 468 = .ok (.iadd, 1) := by decide +kernel
theorem dL_law_469 : decode cL_law 469 = .ok (.iaload, 1) := by decide +kernel
theorem dL_law_470 : decode cL_law 470 = .ok ((.invokevirtual 95), 3) := by decide +kernel
theorem dL_law_473 : decode cL_law 473 = .ok ((.istore 6), 2) := by decide +kernel
theorem dL_law_475 : decode cL_law 475 = .ok ((.aload_n 2), 1) := by decide +kernel
theorem dL_law_476 : decode cL_law 476 = .ok ((.invokevirtual 53), 3) := by decide +kernel
theorem dL_law_479 : decode cL_law 479 = .ok ((.iload 5), 2) := by decide +kernel
theorem dL_law_481 : decode cL_law 481 = .ok ((.if_icmp .eq 5), 3) := by decide +kernel
theorem dL_law_484 : decode cL_law 484 = .ok ((.iconst 0), 1) := by decide +kernel
theorem dL_law_485 : decode cL_law 485 = .ok (.ireturn, 1) := by decide +kernel
theorem dL_law_486 : decode cL_law 486 = .ok ((.iload 5), 2) := by decide +kernel
theorem dL_law_488 : decode cL_law 488 = .ok ((.ifCond .ne 15), 3) := by decide +kernel
theorem dL_law_491 : decode cL_law 491 = .ok ((.aload_n 3), 1) := by decide +kernel
theorem dL_law_492 : decode cL_law 492 = .ok ((.iconst 0), 1) := by decide +kernel
theorem dL_law_493 : decode cL_law 493 = .ok (.laload, 1) := by decide +kernel
theorem dL_law_494 : decode cL_law 494 = .ok ((.iload 6), 2) := by decide +kernel
theorem dL_law_496 : decode cL_law 496 = .ok (.i2l, 1) := by decide +kernel
theorem dL_law_497 : decode cL_law 497 = .ok (.lcmp, 1) := by decide +kernel
theorem dL_law_498 : decode cL_law 498 = .ok ((.ifCond .eq 5), 3) := by decide +kernel
theorem dL_law_501 : decode cL_law 501 = .ok ((.iconst 0), 1) := by decide +kernel
theorem dL_law_502 : decode cL_law 502 = .ok (.ireturn, 1) := by decide +kernel
theorem dL_law_503 : decode cL_law 503 = .ok ((.goto 258), 3) := by decide +kernel
theorem dL_law_506 : decode cL_law 506 = .ok ((.aload_n 1), 1) := by decide +kernel
theorem dL_law_507 : decode cL_law 507 = .ok ((.invokevirtual 96), 3) := by decide +kernel
theorem dL_law_510 : decode cL_law 510 = .ok ((.aload_n 2), 1) := by decide +kernel
theorem dL_law_511 : decode cL_law 511 = .ok ((.invokevirtual 99), 3) := by decide +kernel
theorem dL_law_514 : decode cL_law 514 = .ok ((.if_icmp .eq 247), 3) := by decide +kernel
theorem dL_law_517 : decode cL_law 517 = .ok ((.iconst 0), 1) := by decide +kernel
theorem dL_law_518 : decode cL_law 518 = .ok (.ireturn, 1) := by decide +kernel
theorem dL_law_519 : decode cL_law 519 = .ok ((.aload_n 1), 1) := by decide +kernel
theorem dL_law_520 : decode cL_law 520 = .ok ((.aload_n 0), 1) := by decide +kernel
theorem dL_law_521 : decode cL_law 521 = .ok ((.iload 4), 2) := by decide +kernel
theorem dL_law_523 : decode cL_law 523 = .ok ((.iconst 1), 1) := by decide +kernel
theorem dL_law_524 : decode cL_law 524 = .ok (.iadd, 1) := by decide +kernel
theorem dL_law_525 : decode cL_law 525 = .ok (.iaload, 1) := by decide +kernel
theorem dL_law_526 : decode cL_law 526 = .ok ((.aload_n 0), 1) := by decide +kernel
theorem dL_law_527 : decode cL_law 527 = .ok ((.iload 4), 2) := by decide +kernel
theorem dL_law_529 : decode cL_law 529 = .ok ((.iconst 2), 1) := by decide +kernel
theorem dL_law_530 : decode cL_law 530 = .ok (.iadd, 1) := by decide +kernel
theorem dL_law_531 : decode cL_law 531 = .ok (.iaload, 1) := by decide +kernel
theorem dL_law_532 : decode cL_law 532 = .ok ((.aload_n 0), 1) := by decide +kernel
theorem dL_law_533 : decode cL_law 533 = .ok ((.iload 4), 2) := by decide +kernel
theorem dL_law_535 : decode cL_law 535 = .ok ((.iconst 3), 1) := by decide +kernel
theorem dL_law_536 : decode cL_law 536 = .ok (.iadd, 1) := by decide +kernel
theorem dL_law_537 : decode cL_law 537 = .ok (.iaload, 1) := by decide +kernel
theorem dL_law_538 : decode cL_law 538 = .ok ((.aload_n 3), 1) := by decide +kernel
theorem dL_law_539 : decode cL_law 539 = .ok ((.invokestatic 100), 3) := by decide +kernel
theorem dL_law_542 : decode cL_law 542 = .ok ((.istore 5), 2) := by decide +kernel
theorem dL_law_544 : decode cL_law 544 = .ok ((.aload_n 2), 1) := by decide +kernel
theorem dL_law_545 : decode cL_law 545 = .ok ((.aload_n 0), 1) := by decide +kernel
theorem dL_law_546 : decode cL_law 546 = .ok ((.iload 4), 2) := by decide +kernel
theorem dL_law_548 : decode cL_law 548 = .ok ((.iconst 1), 1) := by decide +kernel
theorem dL_law_549 : decode cL_law 549 = .ok (.iadd, 1) := by decide +kernel
theorem dL_law_550 : decode cL_law 550 = .ok (.iaload, 1) := by decide +kernel
theorem dL_law_551 : decode cL_law 551 = .ok ((.aload_n 0), 1) := by decide +kernel
theorem dL_law_552 : decode cL_law 552 = .ok ((.iload 4), 2) := by decide +kernel
theorem dL_law_554 : decode cL_law 554 = .ok ((.iconst 2), 1) := by decide +kernel
theorem dL_law_555 : decode cL_law 555 = .ok (.iadd, 1) := by decide +kernel
theorem dL_law_556 : decode cL_law 556 = .ok (.iaload, 1) := by decide +kernel
theorem dL_law_557 : decode cL_law 557 = .ok ((.aload_n 0), 1) := by decide +kernel
theorem dL_law_558 : decode cL_law 558 = .ok ((.iload 4), 2) := by decide +kernel
theorem dL_law_560 : decode cL_law 560 = .ok ((.iconst 3), 1) := by decide +kernel
theorem dL_law_561 : decode cL_law 561 = .ok (.iadd, 1) := by decide +kernel
theorem dL_law_562 : decode cL_law 562 = .ok (.iaload, 1) := by decide +kernel
theorem dL_law_563 : decode cL_law 563 = .ok ((.invokevirtual 103), 3) := by decide +kernel
theorem dL_law_566 : decode cL_law 566 = .ok ((.istore 6), 2) := by decide +kernel
theorem dL_law_568 : decode cL_law 568 = .ok ((.aload_n 2), 1) := by decide +kernel
theorem dL_law_569 : decode cL_law 569 = .ok ((.invokevirtual 53), 3) := by decide +kernel
theorem dL_law_572 : decode cL_law 572 = .ok ((.iload 5), 2) := by decide +kernel
theorem dL_law_574 : decode cL_law 574 = .ok ((.if_icmp .eq 5), 3) := by decide +kernel
theorem dL_law_577 : decode cL_law 577 = .ok ((.iconst 0), 1) := by decide +kernel
theorem dL_law_578 : decode cL_law 578 = .ok (.ireturn, 1) := by decide +kernel
theorem dL_law_579 : decode cL_law 579 = .ok ((.iload 5), 2) := by decide +kernel
theorem dL_law_581 : decode cL_law 581 = .ok ((.ifCond .ne 15), 3) := by decide +kernel
theorem dL_law_584 : decode cL_law 584 = .ok ((.aload_n 3), 1) := by decide +kernel
theorem dL_law_585 : decode cL_law 585 = .ok ((.iconst 0), 1) := by decide +kernel
theorem dL_law_586 : decode cL_law 586 = .ok (.laload, 1) := by decide +kernel
theorem dL_law_587 : decode cL_law 587 = .ok ((.iload 6), 2) := by decide +kernel
theorem dL_law_589 : decode cL_law 589 = .ok (.i2l, 1) := by decide +kernel
theorem dL_law_590 : decode cL_law 590 = .ok (.lcmp, 1) := by decide +kernel
theorem dL_law_591 : decode cL_law 591 = .ok ((.ifCond .eq 5), 3) := by decide +kernel
theorem dL_law_594 : decode cL_law 594 = .ok ((.iconst 0), 1) := by decide +kernel
theorem dL_law_595 : decode cL_law 595 = .ok (.ireturn, 1) := by decide +kernel
theorem dL_law_596 : decode cL_law 596 = .ok ((.goto 165), 3) := by decide +kernel
theorem dL_law_599 : decode cL_law 599 = .ok ((.aload_n 1), 1) := by decide +kernel
theorem dL_law_600 : decode cL_law 600 = .ok ((.aload_n 0), 1) := by decide +kernel
theorem dL_law_601 : decode cL_law 601 = .ok ((.iload 4), 2) := by decide +kernel
theorem dL_law_603 : decode cL_law 603 = .ok ((.iconst 1), 1) := by decide +kernel
theorem dL_law_604 : decode cL_law 604 = .ok (.iadd, 1) := by decide +kernel
theorem dL_law_605 : decode cL_law 605 = .ok (.iaload, 1) := by decide +kernel
theorem dL_law_606 : decode cL_law 606 = .ok ((.aload_n 0), 1) := by decide +kernel
theorem dL_law_607 : decode cL_law 607 = .ok ((.iload 4), 2) := by decide +kernel
theorem dL_law_609 : decode cL_law 609 = .ok ((.iconst 2), 1) := by decide +kernel
theorem dL_law_610 : decode cL_law 610 = .ok (.iadd, 1) := by decide +kernel
theorem dL_law_611 : decode cL_law 611 = .ok (.iaload, 1) := by decide +kernel
theorem dL_law_612 : decode cL_law 612 = .ok ((.aload_n 0), 1) := by decide +kernel
theorem dL_law_613 : decode cL_law 613 = .ok ((.iload 4), 2) := by decide +kernel
theorem dL_law_615 : decode cL_law 615 = .ok ((.iconst 3), 1) := by decide +kernel
theorem dL_law_616 : decode cL_law 616 = .ok (.iadd, 1) := by decide +kernel
theorem dL_law_617 : decode cL_law 617 = .ok (.iaload, 1) := by decide +kernel
theorem dL_law_618 : decode cL_law 618 = .ok ((.aload_n 3), 1) := by decide +kernel
theorem dL_law_619 : decode cL_law 619 = .ok ((.invokestatic 104), 3) := by decide +kernel
theorem dL_law_622 : decode cL_law 622 = .ok ((.istore 5), 2) := by decide +kernel
theorem dL_law_624 : decode cL_law 624 = .ok ((.aload_n 2), 1) := by decide +kernel
theorem dL_law_625 : decode cL_law 625 = .ok ((.aload_n 0), 1) := by decide +kernel
theorem dL_law_626 : decode cL_law 626 = .ok ((.iload 4), 2) := by decide +kernel
theorem dL_law_628 : decode cL_law 628 = .ok ((.iconst 1), 1) := by decide +kernel
theorem dL_law_629 : decode cL_law 629 = .ok (.iadd, 1) := by decide +kernel
theorem dL_law_630 : decode cL_law 630 = .ok (.iaload, 1) := by decide +kernel
theorem dL_law_631 : decode cL_law 631 = .ok ((.aload_n 0), 1) := by decide +kernel
theorem dL_law_632 : decode cL_law 632 = .ok ((.iload 4), 2) := by decide +kernel
theorem dL_law_634 : decode cL_law 634 = .ok ((.iconst 2), 1) := by decide +kernel
theorem dL_law_635 : decode cL_law 635 = .ok (.iadd, 1) := by decide +kernel
theorem dL_law_636 : decode cL_law 636 = .ok (.iaload, 1) := by decide +kernel
theorem dL_law_637 : decode cL_law 637 = .ok ((.aload_n 0), 1) := by decide +kernel
theorem dL_law_638 : decode cL_law 638 = .ok ((.iload 4), 2) := by decide +kernel
theorem dL_law_640 : decode cL_law 640 = .ok ((.iconst 3), 1) := by decide +kernel
theorem dL_law_641 : decode cL_law 641 = .ok (.iadd, 1) := by decide +kernel
theorem dL_law_642 : decode cL_law 642 = .ok (.iaload, 1) := by decide +kernel
theorem dL_law_643 : decode cL_law 643 = .ok ((.invokevirtual 106), 3) := by decide +kernel
theorem dL_law_646 : decode cL_law 646 = .ok ((.istore 6), 2) := by decide +kernel
theorem dL_law_648 : decode cL_law 648 = .ok ((.aload_n 2), 1) := by decide +kernel
theorem dL_law_649 : decode cL_law 649 = .ok ((.invokevirtual 53), 3) := by decide +kernel
theorem dL_law_652 : decode cL_law 652 = .ok ((.iload 5), 2) := by decide +kernel
theorem dL_law_654 : decode cL_law 654 = .ok ((.if_icmp .eq 5), 3) := by decide +kernel
theorem dL_law_657 : decode cL_law 657 = .ok ((.iconst 0), 1) := by decide +kernel
theorem dL_law_658 : decode cL_law 658 = .ok (.ireturn, 1) := by decide +kernel
theorem dL_law_659 : decode cL_law 659 = .ok ((.iload 5), 2) := by decide +kernel
theorem dL_law_661 : decode cL_law 661 = .ok ((.ifCond .ne 15), 3) := by decide +kernel
theorem dL_law_664 : decode cL_law 664 = .ok ((.aload_n 3), 1) := by decide +kernel
theorem dL_law_665 : decode cL_law 665 = .ok ((.iconst 0), 1) := by decide +kernel
theorem dL_law_666 : decode cL_law 666 = .ok (.laload, 1) := by decide +kernel
theorem dL_law_667 : decode cL_law 667 = .ok ((.iload 6), 2) := by decide +kernel
theorem dL_law_669 : decode cL_law 669 = .ok (.i2l, 1) := by decide +kernel
theorem dL_law_670 : decode cL_law 670 = .ok (.lcmp, 1) := by decide +kernel
theorem dL_law_671 : decode cL_law 671 = .ok ((.ifCond .eq 5), 3) := by decide +kernel
theorem dL_law_674 : decode cL_law 674 = .ok ((.iconst 0), 1) := by decide +kernel
theorem dL_law_675 : decode cL_law 675 = .ok (.ireturn, 1) := by decide +kernel
theorem dL_law_676 : decode cL_law 676 = .ok ((.goto 85), 3) := by decide +kernel
theorem dL_law_679 : decode cL_law 679 = .ok ((.aload_n 1), 1) := by decide +kernel
theorem dL_law_680 : decode cL_law 680 = .ok ((.invokevirtual 107), 3) := by decide +kernel
theorem dL_law_683 : decode cL_law 683 = .ok ((.aload_n 2), 1) := by decide +kernel
theorem dL_law_684 : decode cL_law 684 = .ok ((.invokevirtual 110), 3) := by decide +kernel
theorem dL_law_687 : decode cL_law 687 = .ok ((.if_icmp .eq 74), 3) := by decide +kernel
theorem dL_law_690 : decode cL_law 690 = .ok ((.iconst 0), 1) := by decide +kernel
theorem dL_law_691 : decode cL_law 691 = .ok (.ireturn, 1) := by decide +kernel
theorem dL_law_692 : decode cL_law 692 = .ok ((.aload_n 1), 1) := by decide +kernel
theorem dL_law_693 : decode cL_law 693 = .ok ((.aload_n 0), 1) := by decide +kernel
theorem dL_law_694 : decode cL_law 694 = .ok ((.iload 4), 2) := by decide +kernel
theorem dL_law_696 : decode cL_law 696 = .ok ((.iconst 1), 1) := by decide +kernel
theorem dL_law_697 : decode cL_law 697 = .ok (.iadd, 1) := by decide +kernel
theorem dL_law_698 : decode cL_law 698 = .ok (.iaload, 1) := by decide +kernel
theorem dL_law_699 : decode cL_law 699 = .ok ((.aload_n 3), 1) := by decide +kernel
theorem dL_law_700 : decode cL_law 700 = .ok ((.invokestatic 111), 3) := by decide +kernel
theorem dL_law_703 : decode cL_law 703 = .ok ((.istore 5), 2) := by decide +kernel
theorem dL_law_705 : decode cL_law 705 = .ok ((.aload_n 2), 1) := by decide +kernel
theorem dL_law_706 : decode cL_law 706 = .ok ((.aload_n 0), 1) := by decide +kernel
theorem dL_law_707 : decode cL_law 707 = .ok ((.iload 4), 2) := by decide +kernel
theorem dL_law_709 : decode cL_law 709 = .ok ((.iconst 1), 1) := by decide +kernel
theorem dL_law_710 : decode cL_law 710 = .ok (.iadd, 1) := by decide +kernel
theorem dL_law_711 : decode cL_law 711 = .ok (.iaload, 1) := by decide +kernel
theorem dL_law_712 : decode cL_law 712 = .ok ((.invokevirtual 113), 3) := by decide +kernel
theorem dL_law_715 : decode cL_law 715 = .ok ((.istore 6), 2) := by decide +kernel
theorem dL_law_717 : decode cL_law 717 = .ok ((.aload_n 2), 1) := by decide +kernel
theorem dL_law_718 : decode cL_law 718 = .ok ((.invokevirtual 53), 3) := by decide +kernel
theorem dL_law_721 : decode cL_law 721 = .ok ((.iload 5), 2) := by decide +kernel
theorem dL_law_723 : decode cL_law 723 = .ok ((.if_icmp .eq 5), 3) := by decide +kernel
theorem dL_law_726 : decode cL_law 726 = .ok ((.iconst 0), 1) := by decide +kernel
theorem dL_law_727 : decode cL_law 727 = .ok (.ireturn, 1) := by decide +kernel
theorem dL_law_728 : decode cL_law 728 = .ok ((.iload 5), 2) := by decide +kernel
theorem dL_law_730 : decode cL_law 730 = .ok ((.ifCond .ne 15), 3) := by decide +kernel
theorem dL_law_733 : decode cL_law 733 = .ok ((.aload_n 3), 1) := by decide +kernel
theorem dL_law_734 : decode cL_law 734 = .ok ((.iconst 0), 1) := by decide +kernel
theorem dL_law_735 : decode cL_law 735 = .ok (.laload, 1) := by decide +kernel
theorem dL_law_736 : decode cL_law 736 = .ok ((.iload 6), 2) := by decide +kernel
theorem dL_law_738 : decode cL_law 738 = .ok (.i2l, 1) := by decide +kernel
theorem dL_law_739 : decode cL_law 739 = .ok (.lcmp, 1) := by decide +kernel
theorem dL_law_740 : decode cL_law 740 = .ok ((.ifCond .eq 5), 3) := by decide +kernel
theorem dL_law_743 : decode cL_law 743 = .ok ((.iconst 0), 1) := by decide +kernel
theorem dL_law_744 : decode cL_law 744 = .ok (.ireturn, 1) := by decide +kernel
theorem dL_law_745 : decode cL_law 745 = .ok ((.goto 16), 3) := by decide +kernel
theorem dL_law_748 : decode cL_law 748 = .ok ((.aload_n 1), 1) := by decide +kernel
theorem dL_law_749 : decode cL_law 749 = .ok ((.invokevirtual 114), 3) := by decide +kernel
theorem dL_law_752 : decode cL_law 752 = .ok ((.aload_n 2), 1) := by decide +kernel
theorem dL_law_753 : decode cL_law 753 = .ok ((.invokevirtual 117), 3) := by decide +kernel
theorem dL_law_756 : decode cL_law 756 = .ok ((.if_icmp .eq 5), 3) := by decide +kernel
theorem dL_law_759 : decode cL_law 759 = .ok ((.iconst 0), 1) := by decide +kernel
theorem dL_law_760 : decode cL_law 760 = .ok (.ireturn, 1) := by decide +kernel
theorem dL_law_761 : decode cL_law 761 = .ok ((.iinc 4 4), 3) := by decide +kernel
theorem dL_law_764 : decode cL_law 764 = .ok ((.goto (-741)), 3) := by decide +kernel
theorem dL_law_767 : decode cL_law 767 = .ok ((.iconst 1), 1) := by decide +kernel
theorem dL_law_768 : decode cL_law 768 = .ok (.ireturn, 1) := by decide +kernel
end
section
theorem dJA_copyOf_0 : decode cJA_copyOf 0 = .ok ((.iload_n 1), 1) := by decide +kernel
theorem dJA_copyOf_1 : decode cJA_copyOf 1 = .ok ((.aload_n 0), 1) := by decide +kernel
theorem dJA_copyOf_2 : decode cJA_copyOf 2 = .ok (.arraylength, 1) := by decide +kernel
theorem dJA_copyOf_3 : decode cJA_copyOf 3 = .ok ((.if_icmp .ne 11), 3) := by decide +kernel
theorem dJA_copyOf_6 : decode cJA_copyOf 6 = .ok ((.aload_n 0), 1) := by decide +kernel
theorem dJA_copyOf_7 : decode cJA_copyOf 7 = .ok ((.invokevirtual 316), 3) := by decide +kernel
theorem dJA_copyOf_10 : decode cJA_copyOf 10 = .ok ((.checkcast 317), 3) := by decide +kernel
theorem dJA_copyOf_13 : decode cJA_copyOf 13 = .ok (.areturn, 1) := by decide +kernel
theorem dJA_copyOf_14 : decode cJA_copyOf 14 = .ok ((.iload_n 1), 1) := by decide +kernel
theorem dJA_copyOf_15 : decode cJA_copyOf 15 = .ok ((.newarray .int), 2) := by decide +kernel
theorem dJA_copyOf_17 : decode cJA_copyOf 17 = .ok ((.astore_n 2), 1) := by decide +kernel
theorem dJA_copyOf_18 : decode cJA_copyOf 18 = .ok ((.aload_n 0), 1) := by decide +kernel
theorem dJA_copyOf_19 : decode cJA_copyOf 19 = .ok ((.iconst 0), 1) := by decide +kernel
theorem dJA_copyOf_20 : decode cJA_copyOf 20 = .ok ((.aload_n 2), 1) := by decide +kernel
theorem dJA_copyOf_21 : decode cJA_copyOf 21 = .ok ((.iconst 0), 1) := by decide +kernel
theorem dJA_copyOf_22 : decode cJA_copyOf 22 = .ok ((.aload_n 0), 1) := by decide +kernel
theorem dJA_copyOf_23 : decode cJA_copyOf 23 = .ok (.arraylength, 1) := by decide +kernel
theorem dJA_copyOf_24 : decode cJA_copyOf 24 = .ok ((.iload_n 1), 1) := by decide +kernel
theorem dJA_copyOf_25 : decode cJA_copyOf 25 = .ok ((.invokestatic 304), 3) := by decide +kernel
theorem dJA_copyOf_28 : decode cJA_copyOf 28 = .ok ((.invokestatic 150), 3) := by decide +kernel
theorem dJA_copyOf_31 : decode cJA_copyOf 31 = .ok ((.aload_n 2), 1) := by decide +kernel
theorem dJA_copyOf_32 : decode cJA_copyOf 32 = .ok (.areturn, 1) := by decide +kernel
theorem dJL_bitCount_0 : decode cJL_bitCount 0 = .ok ((.lload_n 0), 1) := by decide +kernel
theorem dJL_bitCount_1 : decode cJL_bitCount 1 = .ok ((.lload_n 0), 1) := by decide +kernel
theorem dJL_bitCount_2 : decode cJL_bitCount 2 = .ok ((.iconst 1), 1) := by decide +kernel
theorem dJL_bitCount_3 : decode cJL_bitCount 3 = .ok (.lushr, 1) := by decide +kernel
theorem dJL_bitCount_4 : decode cJL_bitCount 4 = .ok ((.ldc2_w 314), 3) := by decide +kernel
theorem dJL_bitCount_7 : decode cJL_bitCount 7 = .ok (.land, 1) := by decide +kernel
theorem dJL_bitCount_8 : decode cJL_bitCount 8 = .ok (.lsub, 1) := by decide +kernel
theorem dJL_bitCount_9 : decode cJL_bitCount 9 = .ok ((.lstore_n 0), 1) := by decide +kernel
theorem dJL_bitCount_10 : decode cJL_bitCount 10 = .ok ((.lload_n 0), 1) := by decide +kernel
theorem dJL_bitCount_11 : decode cJL_bitCount 11 = .ok ((.ldc2_w 316), 3) := by decide +kernel
theorem dJL_bitCount_14 : decode cJL_bitCount 14 = .ok (.land, 1) := by decide +kernel
theorem dJL_bitCount_15 : decode cJL_bitCount 15 = .ok ((.lload_n 0), 1) := by decide +kernel
theorem dJL_bitCount_16 : decode cJL_bitCount 16 = .ok ((.iconst 2), 1) := by decide +kernel
theorem dJL_bitCount_17 : decode cJL_bitCount 17 = .ok (.lushr, 1) := by decide +kernel
theorem dJL_bitCount_18 : decode cJL_bitCount 18 = .ok ((.ldc2_w 316), 3) := by decide +kernel
theorem dJL_bitCount_21 : decode cJL_bitCount 21 = .ok (.land, 1) := by decide +kernel
theorem dJL_bitCount_22 : decode cJL_bitCount 22 = .ok (.ladd, 1) := by decide +kernel
theorem dJL_bitCount_23 : decode cJL_bitCount 23 = .ok ((.lstore_n 0), 1) := by decide +kernel
theorem dJL_bitCount_24 : decode cJL_bitCount 24 = .ok ((.lload_n 0), 1) := by decide +kernel
theorem dJL_bitCount_25 : decode cJL_bitCount 25 = .ok ((.lload_n 0), 1) := by decide +kernel
theorem dJL_bitCount_26 : decode cJL_bitCount 26 = .ok ((.iconst 4), 1) := by decide +kernel
theorem dJL_bitCount_27 : decode cJL_bitCount 27 = .ok (.lushr, 1) := by decide +kernel
theorem dJL_bitCount_28 : decode cJL_bitCount 28 = .ok (.ladd, 1) := by decide +kernel
theorem dJL_bitCount_29 : decode cJL_bitCount 29 = .ok ((.ldc2_w 318), 3) := by decide +kernel
theorem dJL_bitCount_32 : decode cJL_bitCount 32 = .ok (.land, 1) := by decide +kernel
theorem dJL_bitCount_33 : decode cJL_bitCount 33 = .ok ((.lstore_n 0), 1) := by decide +kernel
theorem dJL_bitCount_34 : decode cJL_bitCount 34 = .ok ((.lload_n 0), 1) := by decide +kernel
theorem dJL_bitCount_35 : decode cJL_bitCount 35 = .ok ((.lload_n 0), 1) := by decide +kernel
theorem dJL_bitCount_36 : decode cJL_bitCount 36 = .ok ((.bipush 8), 2) := by decide +kernel
theorem dJL_bitCount_38 : decode cJL_bitCount 38 = .ok (.lushr, 1) := by decide +kernel
theorem dJL_bitCount_39 : decode cJL_bitCount 39 = .ok (.ladd, 1) := by decide +kernel
theorem dJL_bitCount_40 : decode cJL_bitCount 40 = .ok ((.lstore_n 0), 1) := by decide +kernel
theorem dJL_bitCount_41 : decode cJL_bitCount 41 = .ok ((.lload_n 0), 1) := by decide +kernel
theorem dJL_bitCount_42 : decode cJL_bitCount 42 = .ok ((.lload_n 0), 1) := by decide +kernel
theorem dJL_bitCount_43 : decode cJL_bitCount 43 = .ok ((.bipush 16), 2) := by decide +kernel
theorem dJL_bitCount_45 : decode cJL_bitCount 45 = .ok (.lushr, 1) := by decide +kernel
theorem dJL_bitCount_46 : decode cJL_bitCount 46 = .ok (.ladd, 1) := by decide +kernel
theorem dJL_bitCount_47 : decode cJL_bitCount 47 = .ok ((.lstore_n 0), 1) := by decide +kernel
theorem dJL_bitCount_48 : decode cJL_bitCount 48 = .ok ((.lload_n 0), 1) := by decide +kernel
theorem dJL_bitCount_49 : decode cJL_bitCount 49 = .ok ((.lload_n 0), 1) := by decide +kernel
theorem dJL_bitCount_50 : decode cJL_bitCount 50 = .ok ((.bipush 32), 2) := by decide +kernel
theorem dJL_bitCount_52 : decode cJL_bitCount 52 = .ok (.lushr, 1) := by decide +kernel
theorem dJL_bitCount_53 : decode cJL_bitCount 53 = .ok (.ladd, 1) := by decide +kernel
theorem dJL_bitCount_54 : decode cJL_bitCount 54 = .ok ((.lstore_n 0), 1) := by decide +kernel
theorem dJL_bitCount_55 : decode cJL_bitCount 55 = .ok ((.lload_n 0), 1) := by decide +kernel
theorem dJL_bitCount_56 : decode cJL_bitCount 56 = .ok (.l2i, 1) := by decide +kernel
theorem dJL_bitCount_57 : decode cJL_bitCount 57 = .ok ((.bipush 127), 2) := by decide +kernel
theorem dJL_bitCount_59 : decode cJL_bitCount 59 = .ok (.iand, 1) := by decide +kernel
theorem dJL_bitCount_60 : decode cJL_bitCount 60 = .ok (.ireturn, 1) := by decide +kernel
end
section
/-! The machine in few words of mine: ONE abstract heap (a list of cells; cell i lies at the address z + i), the same for all methods; 'ev_E' is the walk, 'ev_C' a method's contract. -/
abbrev ev_AC : Type := vp_A ⊕ (Nat × List Value)
abbrev ev_G : Type := Launch × Nat × Nat × Nat × (Nat → Int32) × Heap × va_G × ClassId × ClassId
abbrev ev_l (g : ev_G) : Launch := g.1
abbrev ev_z (g : ev_G) : Nat := g.2.1
abbrev ev_sb (g : ev_G) : Nat := g.2.2.1
abbrev ev_sL (g : ev_G) : Nat := g.2.2.2.1
abbrev ev_sx (g : ev_G) : Nat → Int32 := g.2.2.2.2.1
abbrev ev_H0 (g : ev_G) : Heap := g.2.2.2.2.2.1
abbrev ev_Dg (g : ev_G) : va_G := g.2.2.2.2.2.2.1
abbrev ev_I (g : ev_G) : ClassId := g.2.2.2.2.2.2.2.1
abbrev ev_J (g : ev_G) : ClassId := g.2.2.2.2.2.2.2.2
/-- an int as an integer -/
def ev_i (z : Int) : Value := .int (Int32.ofInt z)
/-- a value of mine as the machine has it: a number of a cell is an address; '.float' stands for the script -/
def ev_rv (g : ev_G) : Value → Value
  | .ref i => .ref (ev_z g + i)
  | .float _ => .ref (ev_sb g)
  | v => v
theorem ev_rv_cat (g : ev_G) (v : Value) : (ev_rv g v).category = v.category := by cases v <;> rfl
theorem ev_rv_sum (g : ev_G) (st : List Value) : ((st.map (ev_rv g)).map fun v => v.category).sum = (st.map fun v => v.category).sum := by
  induction st with
  | nil => rfl
  | cons a l ih => simp only [List.map_cons, List.sum_cons, ev_rv_cat, ih]
def ev_rc (g : ev_G) : ev_AC → va_E
  | .inl (n, .inr (.inl f)) => .inl (ev_J g, n, .inr (.inl f))
  | .inl a => .inl (ev_I g, a)
  | .inr (ci, fs) => .inr (ci, fs.map (ev_rv g))
def ev_rl (g : ev_G) (h : List ev_AC) : va_W := h.mapIdx (fun i c => (ev_z g + i, ev_rc g c))
theorem ev_rl_at {g : ev_G} {h : List ev_AC} {k : Nat} {c : ev_AC} (e : h[k]? = some c) : (ev_rl g h)[k]? = some (ev_z g + k, ev_rc g c) := by
  simp [ev_rl, List.getElem?_mapIdx, e]
theorem ev_rl_inv {g : ev_G} {h : List ev_AC} {k : Nat} {q : Nat × va_E} (e : (ev_rl g h)[k]? = some q) : ∃ c, h[k]? = some c ∧ q = (ev_z g + k, ev_rc g c) := by
  rw [ev_rl, List.getElem?_mapIdx] at e
  cases hk : h[k]? with
  | none => rw [hk] at e; cases e
  | some c => rw [hk] at e; exact ⟨c, rfl, (Option.some.inj e).symm⟩
theorem ev_rl_set {g : ev_G} {h : List ev_AC} {k : Nat} {c : ev_AC} : (ev_rl g h).set k (ev_z g + k, ev_rc g c) = ev_rl g (h.set k c) := by
  apply List.ext_getElem?
  intro i
  simp only [ev_rl, List.getElem?_set, List.getElem?_mapIdx, List.length_mapIdx]
  by_cases hi : k = i
  · subst hi
    by_cases hl : k < h.length <;> simp [hl]
  · simp [hi]
theorem ev_rl_app {g : ev_G} {h : List ev_AC} {c : ev_AC} : ev_rl g (h ++ [c]) = ev_rl g h ++ [(ev_z g + h.length, ev_rc g c)] := by
  simp [ev_rl, List.mapIdx_concat]
theorem ev_rl_D (g : ev_G) (h : List ev_AC) : va_D (fun q => ev_z g ≤ q) (ev_rl g h) := by
  refine ⟨fun i j p q hi hj e => ?_, fun k q hk => ?_⟩
  · obtain ⟨_, -, rfl⟩ := ev_rl_inv hi
    obtain ⟨_, -, rfl⟩ := ev_rl_inv hj
    have e' : ev_z g + i = ev_z g + j := e
    omega
  · obtain ⟨_, -, rfl⟩ := ev_rl_inv hk
    exact Nat.le_add_right _ _
/-- the machine's heap is mine -/
def ev_HR (g : ev_G) (h : List ev_AC) (H : Heap) : Prop :=
  H.size = ev_z g + h.length ∧ (∀ q : Nat, q < ev_z g → H[q]? = (ev_H0 g)[q]?) ∧ va_P (ev_Dg g) ev_CL (ev_rl g h) H
theorem ev_HR.set {g : ev_G} {h : List ev_AC} {H H' : Heap} {k : Nat} {c0 c : ev_AC} (hH : ev_HR g h H) (hk : h[k]? = some c0)
    (hat : va_at (ev_Dg g) ev_CL (ev_z g + k, ev_rc g c) H') (hs : H'.size = H.size) (ho : ∀ q : Nat, q ≠ ev_z g + k → H'[q]? = H[q]?) : ev_HR g (h.set k c) H' := by
  refine ⟨by rw [hs, hH.1, List.length_set], fun q hq => by rw [ho q (by omega)]; exact hH.2.1 q hq, ?_⟩
  rw [← ev_rl_set]
  exact hH.2.2.set (ev_rl_D g h) (ev_rl_at hk) hat ho
theorem ev_HR.push {g : ev_G} {h : List ev_AC} {H H' : Heap} {c : ev_AC} (hH : ev_HR g h H) (hs : H'.size = H.size + 1) (ho : ∀ q : Nat, q < H.size → H'[q]? = H[q]?)
    (hat : va_at (ev_Dg g) ev_CL (H.size, ev_rc g c) H') : ev_HR g (h ++ [c]) H' := by
  refine ⟨by rw [hs, hH.1, List.length_append]; rfl, fun q hq => by rw [ho q (by rw [hH.1]; omega)]; exact hH.2.1 q hq, ?_⟩
  rw [ev_rl_app]
  refine (hH.2.2.kept (fun k q hk => ho q.1 (hH.2.2 k q hk).lt)).app (fun k q hk => ?_)
  have hz : k < 1 := (List.getElem?_eq_some_iff.mp hk).1
  rw [show k = 0 by omega] at hk
  cases hk
  rw [← hH.1]
  exact hat
/-- what a throw needs of the start: no traces; the words that are no good words; two statics that nobody writes -/
def ev_XA : List Cond := [.declares ⟨"java/lang/RuntimeException", "<init>", "(Ljava/lang/String;)V"⟩, .declares ⟨"java/lang/Exception", "<init>", "(Ljava/lang/String;)V"⟩, .declares ⟨"java/lang/Throwable", "<init>", "(Ljava/lang/String;)V"⟩,
  .castable "java/lang/IllegalArgumentException" "java/lang/IllegalArgumentException", .castable "java/lang/UnsupportedOperationException" "java/lang/UnsupportedOperationException", .castable "java/lang/IndexOutOfBoundsException" "java/lang/IndexOutOfBoundsException"]
def ev_ST (z : Nat) (n d : String) (s : State) : Prop :=
  (∀ a, (Cond.laysStatic "java/lang/Throwable" n d).before a s = true) ∧ (∀ a, (Cond.isRef (.static "java/lang/Throwable" n d)).before a s = true) ∧
  ∀ (c : Nat) (k : Class) (i : Nat) (f : Field) (a : Nat), s.fieldFound? "java/lang/Throwable" n d = some (c, k, i, f) → k.statics = some a → a < z
theorem ev_ST_mv {z : Nat} {n d : String} {s U : State} (hA : s.vm.Alike U.vm) (hh : ∀ a : Nat, a < z → U.heap[a]? = s.heap[a]?) (h : ev_ST z n d s) : ev_ST z n d U := by
  obtain ⟨h1, h2, h3⟩ := h
  obtain ⟨c, k, i, f, a, cell, hc, hi, hst, ha, hcell, hs, hcls, hlt, hty⟩ := Cond.laysStatic_spec (h1 #[])
  obtain ⟨k', hi', hek⟩ := State.fieldFound?_setVm hA hi
  have hi2 : U.fieldFound? "java/lang/Throwable" n d = some (c, k', i, f) := hi'
  have ha' : k'.statics = some a := by rw [hek]; exact ha
  have hz := h3 c k i f a hi ha
  have hcell' : U.heap[a]? = some cell := by rw [hh a hz]; exact hcell
  refine ⟨fun A => Cond.laysStatic_of (s := U) (by rw [hA.findClass]; exact hc) hi2 hst ha' hcell' hs hcls hlt (by rw [hek]; exact hty), fun A => ?_, fun c2 k2 i2 f2 a2 e1 e2 => ?_⟩
  · obtain ⟨v, hv, hr⟩ := Cond.isRef_spec (h2 A)
    obtain ⟨-, a', cell', q1, q2, -, q3⟩ := Term.static_spec hi hv
    cases ha.symm.trans q1
    cases hcell.symm.trans q2
    cases v <;> first | (cases hr; done) | simp [Cond.before, Cond.holds, Cond.value, Term.eval, State.fieldNamed?, hi2, hst, ha', hcell', hs, q3]
  · rw [hi2] at e1
    cases e1
    rw [ha'] at e2
    cases e2
    exact hz
/-- the entries of the texts -/
def ev_SR : List Nat := [46, 55, 59, 88, 109, 111, 134, 136, 150, 163, 179, 181]
/-- pairs of classes: the first is not the second's -/
def ev_XN : List (String × String) := [("java/lang/UnsupportedOperationException", "java/lang/IllegalArgumentException"), ("java/lang/IllegalArgumentException", "java/lang/IndexOutOfBoundsException")]
def ev_XS (g : ev_G) (s : State) : Prop :=
  (ev_l g).stackTraces = false ∧ (∀ w ∈ ev_XA, ∀ a, w.before a s = true) ∧ ev_ST (ev_z g) "UNASSIGNED_STACK" "[Ljava/lang/StackTraceElement;" s ∧ ev_ST (ev_z g) "SUPPRESSED_SENTINEL" "Ljava/util/List;" s ∧ (∀ k ∈ ev_SR, ∃ tx a, vk_R RF k tx a s) ∧
  ∀ q ∈ ev_XN, ∃ a b, s.vm.findClass q.1 = some a ∧ s.vm.findClass q.2 = some b ∧ s.vm.assignable a b = false
theorem ev_XS_mv {g : ev_G} {s U : State} (hA : s.vm.Alike U.vm) (hh : ∀ a : Nat, a < ev_z g → U.heap[a]? = s.heap[a]?) (hr : ∀ k tx a, vk_R RF k tx a s → vk_R RF k tx a U) (h : ev_XS g s) : ev_XS g U := by
  refine ⟨h.1, fun w hw a => ?_, ev_ST_mv hA hh h.2.2.1, ev_ST_mv hA hh h.2.2.2.1, fun k hk => ?_, fun q hq => ?_⟩
  · have h1 : w.onTables = true ∧ w.faceAtom = true := by
      simp only [ev_XA, List.mem_cons, List.not_mem_nil, or_false] at hw
      rcases hw with rfl | rfl | rfl | rfl | rfl | rfl <;> exact ⟨rfl, rfl⟩
    have h2 := Cond.faceAtom_setVm (vm' := U.vm) hA w h1.2 (h.2.1 w hw a)
    exact (Cond.onTables_vm (A := a) (A' := a) (U := U) (U' := s) U.vm w h1.1).trans h2
  · obtain ⟨tx, a, q⟩ := h.2.2.2.2.1 k hk
    exact ⟨tx, a, hr k tx a q⟩
  · obtain ⟨a, b, q1, q2, q3⟩ := h.2.2.2.2.2 q hq
    exact ⟨a, b, by rw [hA.findClass]; exact q1, by rw [hA.findClass]; exact q2, by rw [hA.assignable]; exact q3⟩
theorem ev_XS_same {g : ev_G} {u U : State} (hv : u.vm = U.vm) (hh : u.heap = U.heap) (h : ev_XS g u) : ev_XS g U := ev_XS_mv (by rw [hv]; exact Vm.Alike.refl _) (fun a _ => by rw [hh]) (fun _ _ _ q => vk_R.same hv.symm q) h
theorem ev_XS_warm {g : ev_G} {s U : State} {h : List ev_AC} {H : Heap} (hW : s.WarmedH U.vm) (hH : ev_HR g h H) (hU : U.heap = H) (h0 : ∃ h0, ev_HR g h0 s.heap) (hX : ev_XS g s) : ev_XS g U := by
  obtain ⟨h1, q⟩ := h0
  exact ev_XS_mv hW.alike (fun a ha => by rw [hU, hH.2.1 a ha, q.2.1 a ha]) (fun _ _ _ q => vk_R.warm hW q) hX
/-- locals -/
def ev_lv (g : ev_G) (ls : List (Option Value)) : List (Nat × Value) := ls.zipIdx.filterMap (fun q => q.1.map (fun v => (q.2, ev_rv g v)))
theorem ev_lv_mem {g : ev_G} {ls : List (Option Value)} {q : Nat × Value} : q ∈ ev_lv g ls ↔ ∃ v, ls[q.1]? = some (some v) ∧ q.2 = ev_rv g v := by
  unfold ev_lv
  rw [List.mem_filterMap]
  constructor
  · rintro ⟨⟨o, i⟩, hm, he⟩
    rw [List.mem_zipIdx_iff_getElem?] at hm
    cases o with
    | none => cases he
    | some v =>
      cases he
      exact ⟨v, hm, rfl⟩
  · rintro ⟨v, h1, h2⟩
    refine ⟨(some v, q.1), List.mem_zipIdx_iff_getElem?.mpr h1, ?_⟩
    show some (q.1, ev_rv g v) = some q
    rw [← h2]
def ev_LH (g : ev_G) (rls : Array Slot) (n : Nat) (ls : List (Option Value)) : Prop :=
  ls.length = n ∧ lv_has rls n (ev_lv g ls) ∧ ∀ (i : Nat) (v : Value), ls[i]? = some (some v) → v.category = 1
theorem ev_LH.get {g : ev_G} {rls : Array Slot} {n : Nat} {ls : List (Option Value)} (h : ev_LH g rls n ls) {i : Nat} {v : Value} (e : ls[i]? = some (some v)) : rls[i]? = some (.val (ev_rv g v)) :=
  h.2.1.2.2 (i, ev_rv g v) (ev_lv_mem.mpr ⟨v, e, rfl⟩)
theorem ev_LH.put {g : ev_G} {rls rls' : Array Slot} {n : Nat} {ls : List (Option Value)} (h : ev_LH g rls n ls) {i : Nat} {v : Value} (hc : v.category = 1)
    (h' : lv_has rls' n ((i, ev_rv g v) :: (ev_lv g ls).filter (fun q => !(q.1 == i) && !(q.1 + 1 == i && q.2.category == 2)))) : ev_LH g rls' n (ls.set i (some v)) := by
  refine ⟨by rw [List.length_set]; exact h.1, ⟨h'.1, h'.2.1, fun q hq => ?_⟩, fun j w hj => ?_⟩
  · obtain ⟨w, h1, h2⟩ := ev_lv_mem.mp hq
    by_cases hi : q.1 = i
    · rw [hi] at h1
      have hl : i < (ls.set i (some v)).length := (List.getElem?_eq_some_iff.mp h1).1
      rw [List.length_set] at hl
      rw [List.getElem?_set_self hl] at h1
      cases h1
      have := h'.2.2 (i, ev_rv g v) List.mem_cons_self
      rw [hi, h2]
      exact this
    · rw [List.getElem?_set_ne (fun e => hi e.symm)] at h1
      refine h'.2.2 q (List.mem_cons_of_mem _ (List.mem_filter.mpr ⟨ev_lv_mem.mpr ⟨w, h1, h2⟩, ?_⟩))
      have hw := h.2.2 _ _ h1
      have hq2 : q.2.category = 1 := by rw [h2, ev_rv_cat]; exact hw
      simp [hi, hq2]
  · by_cases hi : j = i
    · subst hi
      have hl : j < (ls.set j (some v)).length := (List.getElem?_eq_some_iff.mp hj).1
      rw [List.length_set] at hl
      rw [List.getElem?_set_self hl] at hj
      cases hj
      exact hc
    · rw [List.getElem?_set_ne (fun e => hi e.symm)] at hj
      exact h.2.2 j w hj
theorem ev_lg_sl {vs : List Value} (h : ∀ v ∈ vs, v.category = 1) : lg_sl vs = vs.map Slot.val := by
  induction vs with
  | nil => rfl
  | cons a l ih =>
    have h1 : ¬ a.category = 2 := by rw [h a List.mem_cons_self]; decide
    show (if a.category = 2 then [Slot.val a, .second] else [.val a]) ++ lg_sl l = _
    rw [if_neg h1, ih (fun v hv => h v (List.mem_cons_of_mem _ hv))]
    rfl
theorem ev_lv_args {vs : List Value} (h : ∀ v ∈ vs, v.category = 1) : ∀ (k i : Nat) (v : Value), vs[i]? = some v → (k + i, v) ∈ lv_args k vs := by
  induction vs with
  | nil => intro k i v hi; simp at hi
  | cons a l ih =>
    intro k i v hi
    have h1 : ¬ a.category = 2 := by rw [h a List.mem_cons_self]; decide
    show (k + i, v) ∈ (k, a) :: lv_args (if a.category = 2 then k + 2 else k + 1) l
    rw [if_neg h1]
    cases i with
    | zero =>
      rw [List.getElem?_cons_zero] at hi
      cases hi
      exact List.mem_cons_self
    | succ i =>
      rw [List.getElem?_cons_succ] at hi
      have := ih (fun v hv => h v (List.mem_cons_of_mem _ hv)) (k + 1) i v hi
      rw [show k + (i + 1) = k + 1 + i by omega]
      exact List.mem_cons_of_mem _ this
theorem ev_LH.entry {g : ev_G} {as : List Value} {n : Nat} (hn : as.length ≤ n) (hc : ∀ v ∈ as, v.category = 1) :
    ev_LH g ((lg_sl (as.map (ev_rv g)) ++ List.replicate (n - (lg_sl (as.map (ev_rv g))).length) Slot.unset).toArray) n (as.map some ++ List.replicate (n - as.length) none) := by
  have hc' : ∀ v ∈ as.map (ev_rv g), v.category = 1 := by
    intro v hv
    obtain ⟨w, hw, rfl⟩ := List.mem_map.mp hv
    rw [ev_rv_cat]; exact hc w hw
  have hlen : (lg_sl (as.map (ev_rv g))).length = as.length := by rw [ev_lg_sl hc']; simp
  have he := lv_entry (as.map (ev_rv g)) (n := n) (by rw [hlen]; exact hn)
  have key : ∀ (i : Nat) (v : Value), (as.map some ++ List.replicate (n - as.length) none)[i]? = some (some v) → as[i]? = some v := by
    intro i v hi
    by_cases hl : i < as.length
    · rw [List.getElem?_append_left (by simpa using hl), List.getElem?_map] at hi
      cases ha : as[i]? with
      | none => rw [ha] at hi; cases hi
      | some w => rw [ha] at hi; cases hi; rfl
    · rw [List.getElem?_append_right (by simpa using Nat.not_lt.mp hl), List.getElem?_replicate] at hi
      split at hi <;> cases hi
  refine ⟨by simp; omega, ⟨he.1, he.2.1, fun q hq => ?_⟩, fun i v hi => hc v (List.mem_of_getElem? (key i v hi))⟩
  obtain ⟨v, h1, h2⟩ := ev_lv_mem.mp hq
  have h3 := ev_lv_args hc' 0 q.1 (ev_rv g v) (by rw [List.getElem?_map, key _ _ h1]; rfl)
  rw [Nat.zero_add, ← h2] at h3
  exact he.2.2 q h3
/-- what a frame of the method M knows -/
def ev_Fx (g : ev_G) (M : ev_M) (p : Program) (s : State) (m : MethodId) (args : Array Value) (meth : Method) (c : Code) : Prop :=
  p.tables.exec = Jvm.exec ∧ c.code = M.2.1 ∧ c.maxLocals = M.2.2.1 ∧ s.vm.findClass M.1.cls = some m.cls ∧
  (∀ w ∈ ev_WS, w.before args s = true) ∧ va_K (ev_Dg g) ev_CL [(ev_I g, .int), (ev_J g, .long)] s ∧ (∀ w ∈ ev_NW, va_Nw w s) ∧
  meth.sig.returnType = M.2.2.2.1 ∧ meth.locks = false ∧ meth.name = M.1.name ∧ c.exceptionTable.toList = tableOf M.2.2.2.2 ∧ (∃ h0, ev_HR g h0 s.heap) ∧ ev_XS g s
def ev_FE (X : Bool) (first : State) (o : Outcome) (t : State) (L : List Loc) (k n : Nat) : Prop :=
  (X = true ∨ ∃ v, o = .returned v) ∧ first.WarmedH t.vm ∧ first.sameButNew ({ t with vm := first.vm } : State) L k n
def ev_MQ (X : Bool) (below : List Frame) (Qc : Array Value → State → Outcome → State → Prop) (a : Array Value) (s : State) (mc ms : Nat) (free : Addr → Prop) : State → Prop := fun t =>
  ∃ o, t.status = .running ∧ Ended t below o ∧ Qc a s o t ∧ ∃ L, ev_FE X s o t L mc ms ∧ ∀ q ∈ L, free q.base
/-- an end: an answer, or the number of the cell that is thrown -/
abbrev ev_O : Type := Option Value ⊕ Nat
def ev_ro (g : ev_G) : ev_O → Outcome
  | .inl v => .returned (v.map (ev_rv g))
  | .inr i => .threw (ev_z g + i)
def ev_QX (g : ev_G) (Q : ev_O → List ev_AC → Prop) : Array Value → State → Outcome → State → Prop := fun _ _ o t =>
  ∃ (out : ev_O) (h' : List ev_AC), o = ev_ro g out ∧ Q out h' ∧ ev_HR g h' t.heap
def ev_Cx (g : ev_G) (M : ev_M) (d : Nat) (ls : List (Option Value)) (h : List ev_AC) (kc ks : Nat) (p : Program) (R : Room) (s : State) (m : MethodId) (args : Array Value) (meth : Method) (c : Code) (H : Heap) (locs : List Loc) (cells slots : Nat) (rls : Array Slot) : Prop :=
  ev_Fx g M p s m args meth c ∧ (d ≤ R.frames ∧ 40 * d ≤ R.locals) ∧ ev_HR g h H ∧ (∀ q ∈ locs, ev_z g ≤ q.base) ∧ (cells + kc ≤ R.cells ∧ slots + ks ≤ R.slots) ∧ ev_LH g rls M.2.2.1 ls
/-- the walk -/
def ev_E (g : ev_G) (X : Bool) (M : ev_M) (d pc : Nat) (ls : List (Option Value)) (st : List Value) (h : List ev_AC) (kc ks : Nat) (Q : ev_O → List ev_AC → Prop) : Prop :=
  ∀ (p : Program) (e : Env) (R : Room) (s : State) (m : MethodId) (args : Array Value) (below : List Frame) (meth : Method) (c : Code) (H : Heap) (locs : List Loc) (cells slots : Nat) (rls : Array Slot),
    ev_Cx g M d ls h kc ks p R s m args meth c H locs cells slots rls →
    W p (ev_l g) e R s m args below meth c H locs cells slots (ev_MQ X below (ev_QX g Q) args s R.cells R.slots (fun q => ev_z g ≤ q)) (F0 m pc rls (st.map (ev_rv g)))
def ev_Pc (g : ev_G) (as : List Value) (h : List ev_AC) : Array Value → State → Prop := fun v U =>
  v = (as.map (ev_rv g)).toArray ∧ ev_HR g h U.heap ∧ va_K (ev_Dg g) ev_CL [(ev_I g, .int), (ev_J g, .long)] U ∧ (∀ w ∈ ev_NW, va_Nw w U) ∧ ev_XS g U
def ev_ws (M : ev_M) : List Cond := Cond.code M.1 M.2.1 M.2.2.1 M.2.2.2.1 :: ev_WS
/-- a method's contract -/
def ev_C (g : ev_G) (M : ev_M) (d : Nat) (as : List Value) (h : List ev_AC) (kc ks : Nat) (Q : ev_O → List ev_AC → Prop) : Prop :=
  Met (ev_l g) M.1 (ev_ws M) { frames := d, cells := kc, slots := ks, locals := 40 * d } (ev_Pc g as h) (ev_QX g Q) kc ks (fun q => ev_z g ≤ q)
end
section
section EVR
variable {g : ev_G} {X : Bool} {M : ev_M} {d pc : Nat} {ls : List (Option Value)} {st : List Value} {h : List ev_AC} {kc ks : Nat} {Q : ev_O → List ev_AC → Prop}
theorem ev_mono {p : Program} {l : Launch} {e : Env} {R : Room} {s : State} {m : MethodId} {args : Array Value} {below : List Frame} {meth : Method} {c : Code} {H : Heap} {locs : List Loc} {cells slots mc ms : Nat} {Qc : Array Value → State → Outcome → State → Prop} {free : Addr → Prop} {fr : JFrame}
    (k : W p l e R s m args below meth c H locs cells slots (MQ below Qc args s mc ms free) fr) : W p l e R s m args below meth c H locs cells slots (ev_MQ X below Qc args s mc ms free) fr := by
  intro T hT S
  obtain ⟨t, a, o, b1, b2, b3, L, b4, b5⟩ := k T hT S
  exact ⟨t, a, o, b1, b2, b3, L, ⟨Or.inr b4.1, b4.2⟩, b5⟩
-- numbers
theorem ev_toInt {z : Int} (h1 : -2147483648 ≤ z) (h2 : z < 2147483648) : (Int32.ofInt z).toInt = z := Int32.toInt_ofInt_of_le (by simpa using h1) (by simpa using h2)
theorem ev_lt {a b : Int} (a1 : -2147483648 ≤ a) (a2 : a < 2147483648) (b1 : -2147483648 ≤ b) (b2 : b < 2147483648) : Int32.ofInt a < Int32.ofInt b ↔ a < b := by
  rw [Int32.lt_iff_toInt_lt, ev_toInt a1 a2, ev_toInt b1 b2]
theorem ev_le {a b : Int} (a1 : -2147483648 ≤ a) (a2 : a < 2147483648) (b1 : -2147483648 ≤ b) (b2 : b < 2147483648) : Int32.ofInt a ≤ Int32.ofInt b ↔ a ≤ b := by
  rw [Int32.le_iff_toInt_le, ev_toInt a1 a2, ev_toInt b1 b2]
theorem ev_eq {a b : Int} (a1 : -2147483648 ≤ a) (a2 : a < 2147483648) (b1 : -2147483648 ≤ b) (b2 : b < 2147483648) : Int32.ofInt a = Int32.ofInt b ↔ a = b := by
  rw [← Int32.toInt_inj, ev_toInt a1 a2, ev_toInt b1 b2]
theorem ev_zero : (0 : Int32) = Int32.ofInt 0 := rfl
theorem ev_ofi (x : Int32) : .int x = ev_i x.toInt := by simp [ev_i]
-- constants and locals
theorem ev_iconst {n : Int} (hd : decode M.2.1 pc = .ok (.iconst n, 1)) (k : ev_E g X M d (pc + 1) ls (ev_i n :: st) h kc ks Q) : ev_E g X M d pc ls st h kc ks Q :=
  fun p e R s m args below meth c H locs cells slots rls C => lv_iconst C.1.1 C.1.2.1 hd rfl (k p e R s m args below meth c H locs cells slots rls C)
theorem ev_bipush {n : Int} (hd : decode M.2.1 pc = .ok (.bipush n, 2)) (hn : (Int8.ofInt n).toInt32 = Int32.ofInt n) (k : ev_E g X M d (pc + 2) ls (ev_i n :: st) h kc ks Q) : ev_E g X M d pc ls st h kc ks Q :=
  fun p e R s m args below meth c H locs cells slots rls C => lv_bipush C.1.1 C.1.2.1 hd hn (k p e R s m args below meth c H locs cells slots rls C)
theorem ev_sipush {n : Int} (hd : decode M.2.1 pc = .ok (.sipush n, 3)) (hn : (Int16.ofInt n).toInt32 = Int32.ofInt n) (k : ev_E g X M d (pc + 3) ls (ev_i n :: st) h kc ks Q) : ev_E g X M d pc ls st h kc ks Q :=
  fun p e R s m args below meth c H locs cells slots rls C => lv_sipush C.1.1 C.1.2.1 hd hn (k p e R s m args below meth c H locs cells slots rls C)
theorem ev_lconst {n : Fin 2} (hd : decode M.2.1 pc = .ok (.lconst n, 1)) (k : ev_E g X M d (pc + 1) ls (.long (Int64.ofNat (n : Nat)) :: st) h kc ks Q) : ev_E g X M d pc ls st h kc ks Q :=
  fun p e R s m args below meth c H locs cells slots rls C => lv_lconst C.1.1 C.1.2.1 hd rfl (k p e R s m args below meth c H locs cells slots rls C)
theorem ev_iload {i : Nat} {z : Int} (hd : decode M.2.1 pc = .ok (.iload i, 2)) (hl : ls[i]? = some (some (ev_i z))) (k : ev_E g X M d (pc + 2) ls (ev_i z :: st) h kc ks Q) : ev_E g X M d pc ls st h kc ks Q :=
  fun p e R s m args below meth c H locs cells slots rls C => lv_iload C.1.1 C.1.2.1 hd (C.2.2.2.2.2.get hl) (k p e R s m args below meth c H locs cells slots rls C)
theorem ev_iload_n {i : Fin 4} {z : Int} (hd : decode M.2.1 pc = .ok (.iload_n i, 1)) (hl : ls[(i : Nat)]? = some (some (ev_i z))) (k : ev_E g X M d (pc + 1) ls (ev_i z :: st) h kc ks Q) : ev_E g X M d pc ls st h kc ks Q :=
  fun p e R s m args below meth c H locs cells slots rls C => lv_iload_n C.1.1 C.1.2.1 hd rfl (C.2.2.2.2.2.get hl) (k p e R s m args below meth c H locs cells slots rls C)
theorem ev_aload {i : Nat} {a : Nat} (hd : decode M.2.1 pc = .ok (.aload i, 2)) (hl : ls[i]? = some (some (.ref a))) (k : ev_E g X M d (pc + 2) ls (.ref a :: st) h kc ks Q) : ev_E g X M d pc ls st h kc ks Q :=
  fun p e R s m args below meth c H locs cells slots rls C => lv_aload C.1.1 C.1.2.1 hd (C.2.2.2.2.2.get hl) (k p e R s m args below meth c H locs cells slots rls C)
theorem ev_aload_n {i : Fin 4} {a : Nat} (hd : decode M.2.1 pc = .ok (.aload_n i, 1)) (hl : ls[(i : Nat)]? = some (some (.ref a))) (k : ev_E g X M d (pc + 1) ls (.ref a :: st) h kc ks Q) : ev_E g X M d pc ls st h kc ks Q :=
  fun p e R s m args below meth c H locs cells slots rls C => lv_aload_n C.1.1 C.1.2.1 hd rfl (C.2.2.2.2.2.get hl) (k p e R s m args below meth c H locs cells slots rls C)
/-- the script -/
theorem ev_sload_n {i : Fin 4} {u : UInt32} (hd : decode M.2.1 pc = .ok (.aload_n i, 1)) (hl : ls[(i : Nat)]? = some (some (.float u))) (k : ev_E g X M d (pc + 1) ls (.float u :: st) h kc ks Q) : ev_E g X M d pc ls st h kc ks Q :=
  fun p e R s m args below meth c H locs cells slots rls C => lv_aload_n C.1.1 C.1.2.1 hd rfl (C.2.2.2.2.2.get hl) (k p e R s m args below meth c H locs cells slots rls C)
theorem ev_Cx.locals {p : Program} {R : Room} {s : State} {m : MethodId} {args : Array Value} {meth : Method} {c : Code} {H : Heap} {locs : List Loc} {cells slots : Nat} {rls rls' : Array Slot} {ls' : List (Option Value)} (C : ev_Cx g M d ls h kc ks p R s m args meth c H locs cells slots rls) (hL : ev_LH g rls' M.2.2.1 ls') : ev_Cx g M d ls' h kc ks p R s m args meth c H locs cells slots rls' :=
  ⟨C.1, C.2.1, C.2.2.1, C.2.2.2.1, C.2.2.2.2.1, hL⟩
theorem ev_istore {i : Nat} {z : Int} (hd : decode M.2.1 pc = .ok (.istore i, 2)) (hi : i < ls.length) (k : ev_E g X M d (pc + 2) (ls.set i (some (ev_i z))) st h kc ks Q) : ev_E g X M d pc ls (ev_i z :: st) h kc ks Q :=
  fun p e R s m args below meth c H locs cells slots rls C => lv_istore C.1.1 C.1.2.1 hd C.2.2.2.2.2.2.1 (by rw [← C.2.2.2.2.2.1]; exact hi) rfl (fun rls' h' => k p e R s m args below meth c H locs cells slots rls' (C.locals (C.2.2.2.2.2.put rfl h')))
theorem ev_istore_n {i : Fin 4} {z : Int} (hd : decode M.2.1 pc = .ok (.istore_n i, 1)) (hi : (i : Nat) < ls.length) (k : ev_E g X M d (pc + 1) (ls.set (i : Nat) (some (ev_i z))) st h kc ks Q) : ev_E g X M d pc ls (ev_i z :: st) h kc ks Q :=
  fun p e R s m args below meth c H locs cells slots rls C => lv_istore_n C.1.1 C.1.2.1 hd rfl C.2.2.2.2.2.2.1 (by rw [← C.2.2.2.2.2.1]; exact hi) rfl (fun rls' h' => k p e R s m args below meth c H locs cells slots rls' (C.locals (C.2.2.2.2.2.put rfl h')))
theorem ev_astore {i : Nat} {a : Nat} (hd : decode M.2.1 pc = .ok (.astore i, 2)) (hi : i < ls.length) (k : ev_E g X M d (pc + 2) (ls.set i (some (.ref a))) st h kc ks Q) : ev_E g X M d pc ls (.ref a :: st) h kc ks Q :=
  fun p e R s m args below meth c H locs cells slots rls C => lv_astore C.1.1 C.1.2.1 hd C.2.2.2.2.2.2.1 (by rw [← C.2.2.2.2.2.1]; exact hi) rfl (fun rls' h' => k p e R s m args below meth c H locs cells slots rls' (C.locals (C.2.2.2.2.2.put (v := .ref a) rfl h')))
theorem ev_astore_n {i : Fin 4} {a : Nat} (hd : decode M.2.1 pc = .ok (.astore_n i, 1)) (hi : (i : Nat) < ls.length) (k : ev_E g X M d (pc + 1) (ls.set (i : Nat) (some (.ref a))) st h kc ks Q) : ev_E g X M d pc ls (.ref a :: st) h kc ks Q :=
  fun p e R s m args below meth c H locs cells slots rls C => lv_astore_n C.1.1 C.1.2.1 hd rfl C.2.2.2.2.2.2.1 (by rw [← C.2.2.2.2.2.1]; exact hi) rfl (fun rls' h' => k p e R s m args below meth c H locs cells slots rls' (C.locals (C.2.2.2.2.2.put (v := .ref a) rfl h')))
theorem ev_lv_idx {n : Nat} {rls : Array Slot} {i : Nat} {v : Value} (hL : ev_LH g rls n ls) (hl : ls[i]? = some (some v)) : ∃ k : Nat, (ev_lv g ls)[k]? = some (i, ev_rv g v) :=
  List.getElem?_of_mem (ev_lv_mem.mpr ⟨v, hl, rfl⟩)
theorem ev_iinc {i : Nat} {n z : Int} (hd : decode M.2.1 pc = .ok (.iinc i n, 3)) (hl : ls[i]? = some (some (ev_i z))) (k : ev_E g X M d (pc + 3) (ls.set i (some (ev_i (z + n)))) st h kc ks Q) : ev_E g X M d pc ls st h kc ks Q := by
  intro p e R s m args below meth c H locs cells slots rls C
  have hlen : i < ls.length := (List.getElem?_eq_some_iff.mp hl).1
  obtain ⟨j, hj⟩ := ev_lv_idx C.2.2.2.2.2 hl
  refine lv_iinc (x := Int32.ofInt z) (v := Int32.ofInt (z + n)) C.1.1 C.1.2.1 hd C.2.2.2.2.2.2.1 hj ?_ (by rw [← C.2.2.2.2.2.1]; exact hlen) rfl (fun rls' h' => k p e R s m args below meth c H locs cells slots rls' (C.locals (C.2.2.2.2.2.put rfl h')))
  rw [Int32.ofInt_add]
-- arithmetic
theorem ev_iadd {a b : Int} (hd : decode M.2.1 pc = .ok (.iadd, 1)) (k : ev_E g X M d (pc + 1) ls (ev_i (a + b) :: st) h kc ks Q) : ev_E g X M d pc ls (ev_i b :: ev_i a :: st) h kc ks Q := by
  intro p e R s m args below meth c H locs cells slots rls C
  have k := k p e R s m args below meth c H locs cells slots rls C
  refine lv_iadd (x := Int32.ofInt a) (y := Int32.ofInt b) C.1.1 C.1.2.1 hd ?_
  rw [← Int32.ofInt_add]; exact k
theorem ev_isub {a b : Int} (hd : decode M.2.1 pc = .ok (.isub, 1)) (k : ev_E g X M d (pc + 1) ls (ev_i (a - b) :: st) h kc ks Q) : ev_E g X M d pc ls (ev_i b :: ev_i a :: st) h kc ks Q := by
  intro p e R s m args below meth c H locs cells slots rls C
  have k := k p e R s m args below meth c H locs cells slots rls C
  refine lv_isub (x := Int32.ofInt a) (y := Int32.ofInt b) C.1.1 C.1.2.1 hd ?_
  rw [← Int32.ofInt_sub]; exact k
theorem ev_imul {a b : Int} (hd : decode M.2.1 pc = .ok (.imul, 1)) (k : ev_E g X M d (pc + 1) ls (ev_i (a * b) :: st) h kc ks Q) : ev_E g X M d pc ls (ev_i b :: ev_i a :: st) h kc ks Q := by
  intro p e R s m args below meth c H locs cells slots rls C
  have k := k p e R s m args below meth c H locs cells slots rls C
  refine lv_imul (x := Int32.ofInt a) (y := Int32.ofInt b) C.1.1 C.1.2.1 hd ?_
  rw [← Int32.ofInt_mul]; exact k
/-- any int that comes out: by its number -/
theorem ev_op2 {x y r : Int32} {i : Instr} {a b : Int} (hx : Int32.ofInt a = x) (hy : Int32.ofInt b = y) {z : Int} (hr : r = Int32.ofInt z)
    (row : ∀ (p : Program) (e : Env) (R : Room) (s : State) (m : MethodId) (args : Array Value) (below : List Frame) (meth : Method) (c : Code) (H : Heap) (locs : List Loc) (cells slots : Nat) (rls : Array Slot) (Q : State → Prop) (rest : List Value), p.tables.exec = Jvm.exec → c.code = M.2.1 → W p (ev_l g) e R s m args below meth c H locs cells slots Q (F0 m (pc + 1) rls (.int r :: rest)) → W p (ev_l g) e R s m args below meth c H locs cells slots Q (F0 m pc rls (.int y :: .int x :: rest)))
    (k : ev_E g X M d (pc + 1) ls (ev_i z :: st) h kc ks Q) : ev_E g X M d pc ls (ev_i b :: ev_i a :: st) h kc ks Q := by
  intro p e R s m args below meth c H locs cells slots rls C
  subst hx hy hr
  exact row _ _ _ _ _ _ _ _ _ _ _ _ _ _ _ _ C.1.1 C.1.2.1 (k p e R s m args below meth c H locs cells slots rls C)
theorem ev_idiv {a b z : Int} (hd : decode M.2.1 pc = .ok (.idiv, 1)) (hne : ¬ Int32.ofInt b = 0) (hz : Int32.ofInt a / Int32.ofInt b = Int32.ofInt z) (k : ev_E g X M d (pc + 1) ls (ev_i z :: st) h kc ks Q) : ev_E g X M d pc ls (ev_i b :: ev_i a :: st) h kc ks Q :=
  ev_op2 (i := .idiv) rfl rfl hz (fun _ _ _ _ _ _ _ _ _ _ _ _ _ _ _ _ h1 h2 k => lv_idiv h1 h2 hd hne k) k
theorem ev_irem {a b z : Int} (hd : decode M.2.1 pc = .ok (.irem, 1)) (hne : ¬ Int32.ofInt b = 0) (hz : Int32.ofInt a - Int32.ofInt a / Int32.ofInt b * Int32.ofInt b = Int32.ofInt z) (k : ev_E g X M d (pc + 1) ls (ev_i z :: st) h kc ks Q) : ev_E g X M d pc ls (ev_i b :: ev_i a :: st) h kc ks Q :=
  ev_op2 (i := .irem) rfl rfl hz (fun _ _ _ _ _ _ _ _ _ _ _ _ _ _ _ _ h1 h2 k => lv_irem h1 h2 hd hne k) k
theorem ev_ishl {a b z : Int} (hd : decode M.2.1 pc = .ok (.ishl, 1)) (hz : Int32.ofInt a <<< (Int32.ofInt b &&& 31) = Int32.ofInt z) (k : ev_E g X M d (pc + 1) ls (ev_i z :: st) h kc ks Q) : ev_E g X M d pc ls (ev_i b :: ev_i a :: st) h kc ks Q :=
  ev_op2 (i := .ishl) rfl rfl hz (fun _ _ _ _ _ _ _ _ _ _ _ _ _ _ _ _ h1 h2 k => lv_ishl h1 h2 hd k) k
theorem ev_ishr {a b z : Int} (hd : decode M.2.1 pc = .ok (.ishr, 1)) (hz : Int32.ofInt a >>> (Int32.ofInt b &&& 31) = Int32.ofInt z) (k : ev_E g X M d (pc + 1) ls (ev_i z :: st) h kc ks Q) : ev_E g X M d pc ls (ev_i b :: ev_i a :: st) h kc ks Q :=
  ev_op2 (i := .ishr) rfl rfl hz (fun _ _ _ _ _ _ _ _ _ _ _ _ _ _ _ _ h1 h2 k => lv_ishr h1 h2 hd k) k
theorem ev_iand {a b z : Int} (hd : decode M.2.1 pc = .ok (.iand, 1)) (hz : Int32.ofInt a &&& Int32.ofInt b = Int32.ofInt z) (k : ev_E g X M d (pc + 1) ls (ev_i z :: st) h kc ks Q) : ev_E g X M d pc ls (ev_i b :: ev_i a :: st) h kc ks Q :=
  ev_op2 (i := .iand) rfl rfl hz (fun _ _ _ _ _ _ _ _ _ _ _ _ _ _ _ _ h1 h2 k => lv_iand h1 h2 hd k) k
theorem ev_ior {a b z : Int} (hd : decode M.2.1 pc = .ok (.ior, 1)) (hz : Int32.ofInt a ||| Int32.ofInt b = Int32.ofInt z) (k : ev_E g X M d (pc + 1) ls (ev_i z :: st) h kc ks Q) : ev_E g X M d pc ls (ev_i b :: ev_i a :: st) h kc ks Q :=
  ev_op2 (i := .ior) rfl rfl hz (fun _ _ _ _ _ _ _ _ _ _ _ _ _ _ _ _ h1 h2 k => lv_ior h1 h2 hd k) k
theorem ev_i2l {a : Int} (hd : decode M.2.1 pc = .ok (.i2l, 1)) (k : ev_E g X M d (pc + 1) ls (.long (Int32.ofInt a).toInt64 :: st) h kc ks Q) : ev_E g X M d pc ls (ev_i a :: st) h kc ks Q :=
  fun p e R s m args below meth c H locs cells slots rls C => lv_i2l C.1.1 C.1.2.1 hd rfl (k p e R s m args below meth c H locs cells slots rls C)
theorem ev_lshl {x : Int64} {b : Int} (hd : decode M.2.1 pc = .ok (.lshl, 1)) (k : ev_E g X M d (pc + 1) ls (.long (x <<< ((Int32.ofInt b).toInt64 &&& 63)) :: st) h kc ks Q) : ev_E g X M d pc ls (ev_i b :: .long x :: st) h kc ks Q :=
  fun p e R s m args below meth c H locs cells slots rls C => lv_lshl C.1.1 C.1.2.1 hd rfl (k p e R s m args below meth c H locs cells slots rls C)
theorem ev_lor {x y : Int64} (hd : decode M.2.1 pc = .ok (.lor, 1)) (k : ev_E g X M d (pc + 1) ls (.long (x ||| y) :: st) h kc ks Q) : ev_E g X M d pc ls (.long y :: .long x :: st) h kc ks Q :=
  fun p e R s m args below meth c H locs cells slots rls C => lv_lor C.1.1 C.1.2.1 hd (k p e R s m args below meth c H locs cells slots rls C)
theorem ev_lcmp {x y : Int64} {z : Int} (hd : decode M.2.1 pc = .ok (.lcmp, 1)) (hz : lg_cmp x y = Int32.ofInt z) (k : ev_E g X M d (pc + 1) ls (ev_i z :: st) h kc ks Q) : ev_E g X M d pc ls (.long y :: .long x :: st) h kc ks Q := by
  intro p e R s m args below meth c H locs cells slots rls C
  refine W.lcmp C.1.1 C.1.2.1 hd ?_
  rw [hz]
  exact k p e R s m args below meth c H locs cells slots rls C
theorem ev_dup {v : Value} (hd : decode M.2.1 pc = .ok (.dup, 1)) (hv : v.category = 1) (k : ev_E g X M d (pc + 1) ls (v :: v :: st) h kc ks Q) : ev_E g X M d pc ls (v :: st) h kc ks Q :=
  fun p e R s m args below meth c H locs cells slots rls C => lv_dup C.1.1 C.1.2.1 hd ((ev_rv_cat g v).trans hv) (k p e R s m args below meth c H locs cells slots rls C)
theorem ev_pop {v : Value} (hd : decode M.2.1 pc = .ok (.pop, 1)) (hv : v.category = 1) (k : ev_E g X M d (pc + 1) ls st h kc ks Q) : ev_E g X M d pc ls (v :: st) h kc ks Q :=
  fun p e R s m args below meth c H locs cells slots rls C => lv_pop C.1.1 C.1.2.1 hd ((ev_rv_cat g v).trans hv) (k p e R s m args below meth c H locs cells slots rls C)
-- jumps
theorem ev_goto {off : Int} {tgt : Nat} (hd : decode M.2.1 pc = .ok (.goto off, 3)) (ht : (pc : Int) + off = (tgt : Int)) (k : ev_E g X M d tgt ls st h kc ks Q) : ev_E g X M d pc ls st h kc ks Q :=
  fun p e R s m args below meth c H locs cells slots rls C => lv_goto C.1.1 C.1.2.1 hd ht (k p e R s m args below meth c H locs cells slots rls C)
theorem ev_icmp_eq {a b off : Int} {tgt : Nat} (hd : decode M.2.1 pc = .ok (.if_icmp .eq off, 3)) (ht : (pc : Int) + off = (tgt : Int)) (a1 : -2147483648 ≤ a) (a2 : a < 2147483648) (b1 : -2147483648 ≤ b) (b2 : b < 2147483648) (kt : a = b → ev_E g X M d tgt ls st h kc ks Q) (kf : a ≠ b → ev_E g X M d (pc + 3) ls st h kc ks Q) : ev_E g X M d pc ls (ev_i b :: ev_i a :: st) h kc ks Q := by
  intro p e R s m args below meth c H locs cells slots rls C
  refine lv_icmp_eq (x := Int32.ofInt a) (y := Int32.ofInt b) C.1.1 C.1.2.1 hd ht (fun hh => kt ?_ p e R s m args below meth c H locs cells slots rls C) (fun hh => kf ?_ p e R s m args below meth c H locs cells slots rls C)
  · exact (ev_eq a1 a2 b1 b2).mp hh
  · exact fun q => hh ((ev_eq a1 a2 b1 b2).mpr q)
theorem ev_if_eq {a off : Int} {tgt : Nat} (hd : decode M.2.1 pc = .ok (.ifCond .eq off, 3)) (ht : (pc : Int) + off = (tgt : Int)) (a1 : -2147483648 ≤ a) (a2 : a < 2147483648) (kt : a = 0 → ev_E g X M d tgt ls st h kc ks Q) (kf : a ≠ 0 → ev_E g X M d (pc + 3) ls st h kc ks Q) : ev_E g X M d pc ls (ev_i a :: st) h kc ks Q := by
  intro p e R s m args below meth c H locs cells slots rls C
  have b1 : (-2147483648 : Int) ≤ 0 := by decide
  have b2 : (0 : Int) < 2147483648 := by decide
  refine lv_if_eq (x := Int32.ofInt a) C.1.1 C.1.2.1 hd ht (fun hh => kt ?_ p e R s m args below meth c H locs cells slots rls C) (fun hh => kf ?_ p e R s m args below meth c H locs cells slots rls C)
  · exact (ev_eq a1 a2 b1 b2).mp hh
  · exact fun q => hh ((ev_eq a1 a2 b1 b2).mpr q)
theorem ev_icmp_ne {a b off : Int} {tgt : Nat} (hd : decode M.2.1 pc = .ok (.if_icmp .ne off, 3)) (ht : (pc : Int) + off = (tgt : Int)) (a1 : -2147483648 ≤ a) (a2 : a < 2147483648) (b1 : -2147483648 ≤ b) (b2 : b < 2147483648) (kt : a ≠ b → ev_E g X M d tgt ls st h kc ks Q) (kf : a = b → ev_E g X M d (pc + 3) ls st h kc ks Q) : ev_E g X M d pc ls (ev_i b :: ev_i a :: st) h kc ks Q := by
  intro p e R s m args below meth c H locs cells slots rls C
  refine lv_icmp_ne (x := Int32.ofInt a) (y := Int32.ofInt b) C.1.1 C.1.2.1 hd ht (fun hh => kt ?_ p e R s m args below meth c H locs cells slots rls C) (fun hh => kf ?_ p e R s m args below meth c H locs cells slots rls C)
  · exact fun q => hh ((ev_eq a1 a2 b1 b2).mpr q)
  · exact (ev_eq a1 a2 b1 b2).mp hh
theorem ev_if_ne {a off : Int} {tgt : Nat} (hd : decode M.2.1 pc = .ok (.ifCond .ne off, 3)) (ht : (pc : Int) + off = (tgt : Int)) (a1 : -2147483648 ≤ a) (a2 : a < 2147483648) (kt : a ≠ 0 → ev_E g X M d tgt ls st h kc ks Q) (kf : a = 0 → ev_E g X M d (pc + 3) ls st h kc ks Q) : ev_E g X M d pc ls (ev_i a :: st) h kc ks Q := by
  intro p e R s m args below meth c H locs cells slots rls C
  have b1 : (-2147483648 : Int) ≤ 0 := by decide
  have b2 : (0 : Int) < 2147483648 := by decide
  refine lv_if_ne (x := Int32.ofInt a) C.1.1 C.1.2.1 hd ht (fun hh => kt ?_ p e R s m args below meth c H locs cells slots rls C) (fun hh => kf ?_ p e R s m args below meth c H locs cells slots rls C)
  · exact fun q => hh ((ev_eq a1 a2 b1 b2).mpr q)
  · exact (ev_eq a1 a2 b1 b2).mp hh
theorem ev_icmp_lt {a b off : Int} {tgt : Nat} (hd : decode M.2.1 pc = .ok (.if_icmp .lt off, 3)) (ht : (pc : Int) + off = (tgt : Int)) (a1 : -2147483648 ≤ a) (a2 : a < 2147483648) (b1 : -2147483648 ≤ b) (b2 : b < 2147483648) (kt : a < b → ev_E g X M d tgt ls st h kc ks Q) (kf : b ≤ a → ev_E g X M d (pc + 3) ls st h kc ks Q) : ev_E g X M d pc ls (ev_i b :: ev_i a :: st) h kc ks Q := by
  intro p e R s m args below meth c H locs cells slots rls C
  refine lv_icmp_lt (x := Int32.ofInt a) (y := Int32.ofInt b) C.1.1 C.1.2.1 hd ht (fun hh => kt ?_ p e R s m args below meth c H locs cells slots rls C) (fun hh => kf ?_ p e R s m args below meth c H locs cells slots rls C)
  · exact (ev_lt a1 a2 b1 b2).mp hh
  · exact Int.not_lt.mp (fun q => hh ((ev_lt a1 a2 b1 b2).mpr q))
theorem ev_if_lt {a off : Int} {tgt : Nat} (hd : decode M.2.1 pc = .ok (.ifCond .lt off, 3)) (ht : (pc : Int) + off = (tgt : Int)) (a1 : -2147483648 ≤ a) (a2 : a < 2147483648) (kt : a < 0 → ev_E g X M d tgt ls st h kc ks Q) (kf : 0 ≤ a → ev_E g X M d (pc + 3) ls st h kc ks Q) : ev_E g X M d pc ls (ev_i a :: st) h kc ks Q := by
  intro p e R s m args below meth c H locs cells slots rls C
  have b1 : (-2147483648 : Int) ≤ 0 := by decide
  have b2 : (0 : Int) < 2147483648 := by decide
  refine lv_if_lt (x := Int32.ofInt a) C.1.1 C.1.2.1 hd ht (fun hh => kt ?_ p e R s m args below meth c H locs cells slots rls C) (fun hh => kf ?_ p e R s m args below meth c H locs cells slots rls C)
  · exact (ev_lt a1 a2 b1 b2).mp hh
  · exact Int.not_lt.mp (fun q => hh ((ev_lt a1 a2 b1 b2).mpr q))
theorem ev_icmp_ge {a b off : Int} {tgt : Nat} (hd : decode M.2.1 pc = .ok (.if_icmp .ge off, 3)) (ht : (pc : Int) + off = (tgt : Int)) (a1 : -2147483648 ≤ a) (a2 : a < 2147483648) (b1 : -2147483648 ≤ b) (b2 : b < 2147483648) (kt : b ≤ a → ev_E g X M d tgt ls st h kc ks Q) (kf : a < b → ev_E g X M d (pc + 3) ls st h kc ks Q) : ev_E g X M d pc ls (ev_i b :: ev_i a :: st) h kc ks Q := by
  intro p e R s m args below meth c H locs cells slots rls C
  refine lv_icmp_ge (x := Int32.ofInt a) (y := Int32.ofInt b) C.1.1 C.1.2.1 hd ht (fun hh => kt ?_ p e R s m args below meth c H locs cells slots rls C) (fun hh => kf ?_ p e R s m args below meth c H locs cells slots rls C)
  · exact (ev_le b1 b2 a1 a2).mp hh
  · exact Int.not_le.mp (fun q => hh ((ev_le b1 b2 a1 a2).mpr q))
theorem ev_if_ge {a off : Int} {tgt : Nat} (hd : decode M.2.1 pc = .ok (.ifCond .ge off, 3)) (ht : (pc : Int) + off = (tgt : Int)) (a1 : -2147483648 ≤ a) (a2 : a < 2147483648) (kt : 0 ≤ a → ev_E g X M d tgt ls st h kc ks Q) (kf : a < 0 → ev_E g X M d (pc + 3) ls st h kc ks Q) : ev_E g X M d pc ls (ev_i a :: st) h kc ks Q := by
  intro p e R s m args below meth c H locs cells slots rls C
  have b1 : (-2147483648 : Int) ≤ 0 := by decide
  have b2 : (0 : Int) < 2147483648 := by decide
  refine lv_if_ge (x := Int32.ofInt a) C.1.1 C.1.2.1 hd ht (fun hh => kt ?_ p e R s m args below meth c H locs cells slots rls C) (fun hh => kf ?_ p e R s m args below meth c H locs cells slots rls C)
  · exact (ev_le b1 b2 a1 a2).mp hh
  · exact Int.not_le.mp (fun q => hh ((ev_le b1 b2 a1 a2).mpr q))
theorem ev_icmp_gt {a b off : Int} {tgt : Nat} (hd : decode M.2.1 pc = .ok (.if_icmp .gt off, 3)) (ht : (pc : Int) + off = (tgt : Int)) (a1 : -2147483648 ≤ a) (a2 : a < 2147483648) (b1 : -2147483648 ≤ b) (b2 : b < 2147483648) (kt : b < a → ev_E g X M d tgt ls st h kc ks Q) (kf : a ≤ b → ev_E g X M d (pc + 3) ls st h kc ks Q) : ev_E g X M d pc ls (ev_i b :: ev_i a :: st) h kc ks Q := by
  intro p e R s m args below meth c H locs cells slots rls C
  refine lv_icmp_gt (x := Int32.ofInt a) (y := Int32.ofInt b) C.1.1 C.1.2.1 hd ht (fun hh => kt ?_ p e R s m args below meth c H locs cells slots rls C) (fun hh => kf ?_ p e R s m args below meth c H locs cells slots rls C)
  · exact (ev_lt b1 b2 a1 a2).mp hh
  · exact Int.not_lt.mp (fun q => hh ((ev_lt b1 b2 a1 a2).mpr q))
theorem ev_if_gt {a off : Int} {tgt : Nat} (hd : decode M.2.1 pc = .ok (.ifCond .gt off, 3)) (ht : (pc : Int) + off = (tgt : Int)) (a1 : -2147483648 ≤ a) (a2 : a < 2147483648) (kt : 0 < a → ev_E g X M d tgt ls st h kc ks Q) (kf : a ≤ 0 → ev_E g X M d (pc + 3) ls st h kc ks Q) : ev_E g X M d pc ls (ev_i a :: st) h kc ks Q := by
  intro p e R s m args below meth c H locs cells slots rls C
  have b1 : (-2147483648 : Int) ≤ 0 := by decide
  have b2 : (0 : Int) < 2147483648 := by decide
  refine lv_if_gt (x := Int32.ofInt a) C.1.1 C.1.2.1 hd ht (fun hh => kt ?_ p e R s m args below meth c H locs cells slots rls C) (fun hh => kf ?_ p e R s m args below meth c H locs cells slots rls C)
  · exact (ev_lt b1 b2 a1 a2).mp hh
  · exact Int.not_lt.mp (fun q => hh ((ev_lt b1 b2 a1 a2).mpr q))
theorem ev_icmp_le {a b off : Int} {tgt : Nat} (hd : decode M.2.1 pc = .ok (.if_icmp .le off, 3)) (ht : (pc : Int) + off = (tgt : Int)) (a1 : -2147483648 ≤ a) (a2 : a < 2147483648) (b1 : -2147483648 ≤ b) (b2 : b < 2147483648) (kt : a ≤ b → ev_E g X M d tgt ls st h kc ks Q) (kf : b < a → ev_E g X M d (pc + 3) ls st h kc ks Q) : ev_E g X M d pc ls (ev_i b :: ev_i a :: st) h kc ks Q := by
  intro p e R s m args below meth c H locs cells slots rls C
  refine lv_icmp_le (x := Int32.ofInt a) (y := Int32.ofInt b) C.1.1 C.1.2.1 hd ht (fun hh => kt ?_ p e R s m args below meth c H locs cells slots rls C) (fun hh => kf ?_ p e R s m args below meth c H locs cells slots rls C)
  · exact (ev_le a1 a2 b1 b2).mp hh
  · exact Int.not_le.mp (fun q => hh ((ev_le a1 a2 b1 b2).mpr q))
theorem ev_if_le {a off : Int} {tgt : Nat} (hd : decode M.2.1 pc = .ok (.ifCond .le off, 3)) (ht : (pc : Int) + off = (tgt : Int)) (a1 : -2147483648 ≤ a) (a2 : a < 2147483648) (kt : a ≤ 0 → ev_E g X M d tgt ls st h kc ks Q) (kf : 0 < a → ev_E g X M d (pc + 3) ls st h kc ks Q) : ev_E g X M d pc ls (ev_i a :: st) h kc ks Q := by
  intro p e R s m args below meth c H locs cells slots rls C
  have b1 : (-2147483648 : Int) ≤ 0 := by decide
  have b2 : (0 : Int) < 2147483648 := by decide
  refine lv_if_le (x := Int32.ofInt a) C.1.1 C.1.2.1 hd ht (fun hh => kt ?_ p e R s m args below meth c H locs cells slots rls C) (fun hh => kf ?_ p e R s m args below meth c H locs cells slots rls C)
  · exact (ev_le a1 a2 b1 b2).mp hh
  · exact Int.not_le.mp (fun q => hh ((ev_le a1 a2 b1 b2).mpr q))
theorem ev_lookup {dflt : Int} {ps : Array (Int × Int)} {len : Nat} {x off : Int} {tgt : Nat} (hd : decode M.2.1 pc = .ok (.lookupswitch dflt ps, len)) (hp : (ps.toList.zip (ps.toList.drop 1)).all (fun (a, next) => a.1 < next.1) = true) (x1 : -2147483648 ≤ x) (x2 : x < 2147483648) (ho : Op.lookupswitch.offset ps.toList dflt x = off) (ht : (pc : Int) + off = (tgt : Int))
    (k : ev_E g X M d tgt ls st h kc ks Q) : ev_E g X M d pc ls (ev_i x :: st) h kc ks Q :=
  fun p e R s m args below meth c H locs cells slots rls C => lv_lookup C.1.1 C.1.2.1 hd hp (by rw [ev_toInt x1 x2]; exact ho) ht (k p e R s m args below meth c H locs cells slots rls C)
theorem ev_tableIn {dflt lo hi : Int} {offs : Array Int} {len : Nat} {x off : Int} {tgt : Nat} (hd : decode M.2.1 pc = .ok (.tableswitch dflt lo hi offs, len)) (x1 : -2147483648 ≤ x) (x2 : x < 2147483648) (h1 : lo ≤ x) (h2 : x ≤ hi) (ho : offs[(x - lo).toNat]? = some off) (ht : (pc : Int) + off = (tgt : Int))
    (k : ev_E g X M d tgt ls st h kc ks Q) : ev_E g X M d pc ls (ev_i x :: st) h kc ks Q :=
  fun p e R s m args below meth c H locs cells slots rls C => lv_tableIn C.1.1 C.1.2.1 hd (by rw [ev_toInt x1 x2]; omega) (by rw [ev_toInt x1 x2]; omega) (by rw [ev_toInt x1 x2]; exact ho) ht (k p e R s m args below meth c H locs cells slots rls C)
theorem ev_tableOut {dflt lo hi : Int} {offs : Array Int} {len : Nat} {x : Int} {tgt : Nat} (hd : decode M.2.1 pc = .ok (.tableswitch dflt lo hi offs, len)) (x1 : -2147483648 ≤ x) (x2 : x < 2147483648) (h1 : x < lo ∨ hi < x) (ht : (pc : Int) + dflt = (tgt : Int))
    (k : ev_E g X M d tgt ls st h kc ks Q) : ev_E g X M d pc ls (ev_i x :: st) h kc ks Q :=
  fun p e R s m args below meth c H locs cells slots rls C => lv_tableOut C.1.1 C.1.2.1 hd (by rw [ev_toInt x1 x2]; exact h1) ht (k p e R s m args below meth c H locs cells slots rls C)
-- ends
theorem ev_ireturn {z : Int} (hd : decode M.2.1 pc = .ok (.ireturn, 1)) (hr : M.2.2.2.1 = some .int) (hq : Q (.inl (some (ev_i z))) h) : ev_E g X M d pc ls [ev_i z] h kc ks Q := by
  intro p e R s m args below meth c H locs cells slots rls C
  refine W.widen (k := R.cells) (n := R.slots) (by have := C.2.2.2.2.1.1; omega) (by have := C.2.2.2.2.1.2; omega) ?_
  exact ev_mono (W.iret C.1.1 C.1.2.1 (C.1.2.2.2.2.2.2.2.1.trans hr) (fun t ht _ => ⟨.inl (some (ev_i z)), h, rfl, hq, by rw [ht]; exact C.2.2.1⟩) C.2.2.2.1 hd C.1.2.2.2.2.2.2.2.2.1)
theorem ev_zreturn {z : Int} (hd : decode M.2.1 pc = .ok (.ireturn, 1)) (hr : M.2.2.2.1 = some .boolean) (hz : z = 0 ∨ z = 1) (hq : Q (.inl (some (ev_i z))) h) : ev_E g X M d pc ls [ev_i z] h kc ks Q := by
  intro p e R s m args below meth c H locs cells slots rls C
  refine W.widen (k := R.cells) (n := R.slots) (by have := C.2.2.2.2.1.1; omega) (by have := C.2.2.2.2.1.2; omega) ?_
  have hn : narrow .boolean (.int (Int32.ofInt z)) = .int (Int32.ofInt z) := by rcases hz with rfl | rfl <;> decide
  exact ev_mono (W.zret C.1.1 C.1.2.1 (C.1.2.2.2.2.2.2.2.1.trans hr) hn (fun t ht _ => ⟨.inl (some (ev_i z)), h, rfl, hq, by rw [ht]; exact C.2.2.1⟩) C.2.2.2.1 hd C.1.2.2.2.2.2.2.2.2.1)
theorem ev_return (hd : decode M.2.1 pc = .ok (.return_, 1)) (hr : M.2.2.2.1 = none) (hq : Q (.inl none) h) : ev_E g X M d pc ls [] h kc ks Q := by
  intro p e R s m args below meth c H locs cells slots rls C
  refine W.widen (k := R.cells) (n := R.slots) (by have := C.2.2.2.2.1.1; omega) (by have := C.2.2.2.2.1.2; omega) ?_
  exact ev_mono (W.vret C.1.1 C.1.2.1 (C.1.2.2.2.2.2.2.2.1.trans hr) (fun t ht _ => ⟨.inl none, h, rfl, hq, by rw [ht]; exact C.2.2.1⟩) C.2.2.2.1 hd C.1.2.2.2.2.2.2.2.2.1)
theorem ev_areturn {a : Nat} {t0 : FieldType} (hd : decode M.2.1 pc = .ok (.areturn, 1)) (hr : M.2.2.2.1 = some (.array t0)) (hq : Q (.inl (some (.ref a))) h) : ev_E g X M d pc ls [.ref a] h kc ks Q := by
  intro p e R s m args below meth c H locs cells slots rls C
  refine W.widen (k := R.cells) (n := R.slots) (by have := C.2.2.2.2.1.1; omega) (by have := C.2.2.2.2.1.2; omega) ?_
  exact ev_mono (W.aret C.1.1 C.1.2.1 (C.1.2.2.2.2.2.2.2.1.trans hr) (Or.inr ⟨_, rfl⟩) (Or.inr ⟨_, rfl⟩) (fun t ht _ => ⟨.inl (some (.ref a)), h, rfl, hq, by rw [ht]; exact C.2.2.1⟩) C.2.2.2.1 hd C.1.2.2.2.2.2.2.2.2.1)
end EVR
end
section
/-! fields, arrays, new cells -/
/-- a class of the list: its words, its fields' types, its fields' names -/
def ev_CF (ci : Nat) (C : String) (T : u_T) (N : Nat) : Prop :=
  ev_CL[ci]? = some (C, T, N) ∧ (∀ w ∈ u_ws C T N, w ∈ ev_WS) ∧ (∃ ty0 : Nat → FieldType, ∀ k, k < N → parseFieldDescriptor (T k).2.2.1 = some (ty0 k)) ∧ (∀ a, a < N → ∀ b, b < N → a ≠ b → (T a).2.1 ≠ (T b).2.1)
/-- entry idx of the class own is field k of class ci -/
def ev_FL (own : String) (idx ci k : Nat) : Prop :=
  ∃ (C : String) (T : u_T) (N : Nat), ev_CF ci C T N ∧ k < N ∧ (Cond.fieldLink own idx (T k).1 (T k).2.1 (T k).2.2.1 ∈ ev_WS ∨ ∃ host, Cond.fieldLinkNest own idx (T k).1 (T k).2.1 (T k).2.2.1 host ∈ ev_NW)
/-- .. that may be written: its type; fin: a final one, in its own constructor -/
def ev_FP (own : String) (idx ci k : Nat) (ty : FieldType) (fin : Bool) : Prop :=
  ∃ (C : String) (T : u_T) (N : Nat), ev_CF ci C T N ∧ k < N ∧ Cond.fieldLink own idx (T k).1 (T k).2.1 (T k).2.2.1 ∈ ev_WS ∧ parseFieldDescriptor (T k).2.2.1 = some ty ∧ (T k).2.2.2 = fin ∧ (T k).1 = own
def ev_ia (n : Nat) (F : Int → Int) : ev_AC := .inl (n, .inl (fun i => Int32.ofInt (F (i : Int))))
def ev_la (n : Nat) (F : Nat → Int64) : ev_AC := .inl (n, .inr (.inl F))
def ev_up (F : Int → Int) (k : Int) (z : Int) : Int → Int := fun j => if j = k then z else F j
theorem ev_upd (F : Int → Int) (k : Nat) (z : Int) : upd (fun i => Int32.ofInt (F (i : Int))) k (Int32.ofInt z) = fun i : Nat => Int32.ofInt (ev_up F k z (i : Int)) := by
  funext j
  by_cases hj : j = k
  · simp [upd, ev_up, hj]
  · have : ¬ (j : Int) = (k : Int) := by omega
    simp [upd, ev_up, hj, this]
section EVH
variable {g : ev_G} {X : Bool} {M : ev_M} {d pc : Nat} {ls : List (Option Value)} {st : List Value} {h : List ev_AC} {kc ks : Nat} {Q : ev_O → List ev_AC → Prop}
theorem ev_get {idx a ci k : Nat} {fs : List Value} {v : Value} (hd : decode M.2.1 pc = .ok (.getfield idx, 3)) (F : ev_FL M.1.cls idx ci k) (hc : h[a]? = some (.inr (ci, fs))) (hv : fs[k]? = some v)
    (kk : ev_E g X M d (pc + 3) ls (v :: st) h kc ks Q) : ev_E g X M d pc ls (.ref a :: st) h kc ks Q := by
  intro p e R s m args below meth c H locs cells slots rls C
  have kk := kk p e R s m args below meth c H locs cells slots rls C
  obtain ⟨hx, hb, hml, hown, hts, hK, hN, -⟩ := C.1
  obtain ⟨Cn, T, N, ⟨hcl, hin, -, -⟩, hk, hl⟩ := F
  have hv' : (fs.map (ev_rv g))[k]? = some (ev_rv g v) := by rw [List.getElem?_map, hv]; rfl
  rcases hl with hl | ⟨host, hl⟩
  · exact va_get hx hb hts hin hown hK C.2.2.1.2.2 a (ev_rl_at hc) hcl k hk (hts _ hl) (fun x hx => hx) hv' hd kk
  · exact va_getN hx hb hts hin hown hK C.2.2.1.2.2 a (ev_rl_at hc) hcl k hk (va_Nw.use rfl (hN _ hl)) (fun x hx => hx) hv' hd kk
theorem ev_Cx.heap {p : Program} {R : Room} {s : State} {m : MethodId} {args : Array Value} {meth : Method} {c : Code} {H H' : Heap} {locs locs' : List Loc} {cells slots cells' slots' kc' ks' : Nat} {rls : Array Slot} {h' : List ev_AC} (C : ev_Cx g M d ls h kc ks p R s m args meth c H locs cells slots rls) (hH : ev_HR g h' H') (hl : ∀ q ∈ locs', ev_z g ≤ q.base) (hc : cells' + kc' ≤ R.cells ∧ slots' + ks' ≤ R.slots) : ev_Cx g M d ls h' kc' ks' p R s m args meth c H' locs' cells' slots' rls :=
  ⟨C.1, C.2.1, hH, hl, hc, C.2.2.2.2.2⟩
theorem ev_locs {locs : List Loc} {a i : Nat} (hl : ∀ q ∈ locs, ev_z g ≤ q.base) (ha : ev_z g ≤ a) : ∀ q ∈ locs ++ [(⟨a, i⟩ : Loc)], ev_z g ≤ q.base := by
  intro q hq
  rcases List.mem_append.mp hq with h1 | h1
  · exact hl q h1
  · rw [List.mem_singleton.mp h1]; exact ha
theorem ev_put {idx a ci k : Nat} {fs : List Value} {v : Value} {ty : FieldType} {fin : Bool} (hd : decode M.2.1 pc = .ok (.putfield idx, 3)) (F : ev_FP M.1.cls idx ci k ty fin) (hini : fin = true → M.1.name = "<init>") (hc : h[a]? = some (.inr (ci, fs))) (hk' : k < fs.length) (hn : narrow ty (ev_rv g v) = ev_rv g v) (hfit : fits ty (ev_rv g v) = true)
    (kk : ev_E g X M d (pc + 3) ls st (h.set a (.inr (ci, fs.set k v))) kc ks Q) : ev_E g X M d pc ls (v :: .ref a :: st) h kc ks Q := by
  intro p e R s m args below meth c H locs cells slots rls C
  obtain ⟨hx, hb, hml, hown, hts, hK, hN, hrt, hlk, hnm, -⟩ := C.1
  obtain ⟨Cn, T, N, ⟨hcl, hin, ⟨ty0, hty⟩, hnms⟩, hk, hl, hdt, hfin, hdecl⟩ := F
  have hap := va_apart (own := M.1.cls) hts hin ty0 hty hnms hK hcl
  obtain ⟨r, h1, cell, q1, q2, q3, q4⟩ := C.2.2.1.2.2 a _ (ev_rl_at hc)
  have hr : r = (Cn, T, N) := Option.some.inj (h1.symm.trans hcl)
  subst hr
  obtain ⟨hS, hfc, kC, hkC, hkind⟩ := hK.1 ci _ hcl
  obtain ⟨cf, kf, fi, f, hi, hsl⟩ := hS k hk
  have hst := (u_facts hfc hkC (u_lays hts hin hk) hi).1
  have hlay := hts _ (hin _ (u_in_lay hk))
  unfold u_lay at hlay
  have kk2 : ∀ H' : Heap, H'[ev_z g + a]? = some (cell.setSlot ((ev_Dg g).2 ci k) (ev_rv g v)) → H'.size = H.size → (∀ q, q ≠ ev_z g + a → H'[q]? = H[q]?) →
      W p (ev_l g) e R s m args below meth c H' (locs ++ [⟨ev_z g + a, (ev_Dg g).2 ci k⟩]) cells slots (ev_MQ X below (ev_QX g Q) args s R.cells R.slots (fun q => ev_z g ≤ q)) (F0 m (pc + 3) rls (st.map (ev_rv g))) := by
    intro H' e1 e2 e3
    refine kk p e R s m args below meth c H' _ cells slots rls (C.heap (C.2.2.1.set hc ⟨_, hcl, t_OB.to (V := updV (vp_V (fs.map (ev_rv g))) k (ev_rv g v)) ⟨_, e1, q2, q3, t_set q4 hap hk _⟩ (fun j _ => ?_)⟩ e2 e3) (ev_locs C.2.2.2.1 (Nat.le_add_right _ _)) C.2.2.2.2.1)
    rw [vp_updV_set (by simpa using hk'), ← List.map_set]
  cases fin with
  | false =>
    rw [if_neg (by rw [hfin]; decide)] at hlay
    have h6 := u_store hfc hkC hkind hlay hi hdt hn hfit
    refine W.putK hx hb (f := f) ⟨hown, hts _ hl, ⟨_, _, _, hi⟩, hst⟩ (by rw [q2]; exact h6) q1 q3 (by rw [hsl]; exact k2_hasslot (q4 k hk)) rfl rfl hd fun H' e1 e2 e3 => ?_
    rw [hsl] at e1 ⊢
    exact kk2 H' e1 e2 e3
  | true =>
    rw [if_pos hfin] at hlay
    have hcf : m.cls = cf := by
      obtain ⟨_, _, c', _, _, _, -, -, hf', -, -, -, hown2, -⟩ := Cond.laysFinal_spec hlay
      have e1 : c' = cf := by have := hi.symm.trans hf'; simp at this; exact this.1.symm
      rw [hdecl] at hown2
      rw [← e1]; exact Option.some.inj (hown.symm.trans hown2)
    have h6 := u_fits hfc hkC hkind (Or.inr hlay) hi hdt hn hfit
    refine W.putFinK hx hb hown (hts _ hl) hi hst hcf (hnm.trans (hini rfl)) (by rw [q2]; exact h6) q1 q3 (by rw [hsl]; exact k2_hasslot (q4 k hk)) rfl rfl hd fun H' e1 e2 e3 => ?_
    rw [hsl] at e1 ⊢
    exact kk2 H' e1 e2 e3
theorem ev_vpin {i : Int} {n : Nat} (h0 : 0 ≤ i) (h1 : i < n) (hn : n < 2147483648) : vp_in (Int32.ofInt i) n := by
  rw [vp_in_iff, ev_toInt (by omega) (by omega)]
  exact ⟨h0, h1⟩
theorem ev_clamp {i : Int} (h0 : 0 ≤ i) (h1 : i < 2147483648) : (Int32.ofInt i).toNatClampNeg = i.toNat := by
  show (Int32.ofInt i).toInt.toNat = i.toNat
  rw [ev_toInt (by omega) h1]
theorem ev_iald {a n : Nat} {F : Int → Int} {i : Int} (hd : decode M.2.1 pc = .ok (.iaload, 1)) (hc : h[a]? = some (ev_ia n F)) (h0 : 0 ≤ i) (h1 : i < n) (hn : n < 2147483648)
    (kk : ev_E g X M d (pc + 1) ls (ev_i (F i) :: st) h kc ks Q) : ev_E g X M d pc ls (ev_i i :: .ref a :: st) h kc ks Q := by
  intro p e R s m args below meth c H locs cells slots rls C
  have kk := kk p e R s m args below meth c H locs cells slots rls C
  refine va_iald C.1.1 C.1.2.1 C.1.2.2.2.2.2.1 C.2.2.1.2.2 a 0 (ev_rl_at hc) rfl (ev_vpin h0 h1 hn) hd ?_
  rw [ev_clamp h0 (by omega), Int.toNat_of_nonneg h0]
  exact kk
theorem ev_lald {a n : Nat} {F : Nat → Int64} {i : Int} (hd : decode M.2.1 pc = .ok (.laload, 1)) (hc : h[a]? = some (ev_la n F)) (h0 : 0 ≤ i) (h1 : i < n) (hn : n < 2147483648)
    (kk : ev_E g X M d (pc + 1) ls (.long (F i.toNat) :: st) h kc ks Q) : ev_E g X M d pc ls (ev_i i :: .ref a :: st) h kc ks Q := by
  intro p e R s m args below meth c H locs cells slots rls C
  have kk := kk p e R s m args below meth c H locs cells slots rls C
  refine va_lald C.1.1 C.1.2.1 C.1.2.2.2.2.2.1 C.2.2.1.2.2 a 1 (ev_rl_at hc) rfl (ev_vpin h0 h1 hn) hd ?_
  rw [ev_clamp h0 (by omega)]
  exact kk
theorem ev_iast {a n : Nat} {F : Int → Int} {i z : Int} (hd : decode M.2.1 pc = .ok (.iastore, 1)) (hc : h[a]? = some (ev_ia n F)) (h0 : 0 ≤ i) (h1 : i < n) (hn : n < 2147483648)
    (kk : ev_E g X M d (pc + 1) ls st (h.set a (ev_ia n (ev_up F i z))) kc ks Q) : ev_E g X M d pc ls (ev_i z :: ev_i i :: .ref a :: st) h kc ks Q := by
  intro p e R s m args below meth c H locs cells slots rls C
  have hat := C.2.2.1.2.2 a _ (ev_rl_at hc)
  have hA := (C.1.2.2.2.2.2.1.2 0 _ rfl).1 n (fun j => .int (Int32.ofInt (F (j : Int))))
  refine W.iast (j := Int32.ofInt i) (x := Int32.ofInt z) C.1.1 C.1.2.1 hat hA (fun q => by cases q) (by show ¬ (_ ∨ (arrV _ _ _).slots.size ≤ _); rw [arrV_size]; exact ev_vpin h0 h1 hn) rfl rfl hd fun H1 e1 z1 oq => ?_
  refine kk p e R s m args below meth c H1 _ cells slots rls (C.heap (C.2.2.1.set hc ?_ z1 oq) (ev_locs C.2.2.2.1 (Nat.le_add_right _ _)) C.2.2.2.2.1)
  show H1[ev_z g + a]? = some (vp_cell (ev_I g) (n, .inl (fun j => Int32.ofInt (ev_up F i z (j : Int)))))
  have hi : i = ((Int32.ofInt i).toNatClampNeg : Int) := by rw [ev_clamp h0 (by omega), Int.toNat_of_nonneg h0]
  have hu : (fun j : Nat => Int32.ofInt (ev_up F i z (j : Int))) = upd (fun i => Int32.ofInt (F (i : Int))) (Int32.ofInt i).toNatClampNeg (Int32.ofInt z) := by rw [ev_upd, ← hi]
  rw [e1, hu]
  show some ((vp_cell (ev_I g) (n, .inl (fun i => Int32.ofInt (F (i : Int))))).setSlot _ _) = _
  rw [vp_cell_i, vp_cell_i, arrV_store]
  congr 2
  funext q
  by_cases hq : q = (Int32.ofInt i).toNatClampNeg <;> simp [upd, updV, hq]
theorem ev_last {a n : Nat} {F : Nat → Int64} {i : Int} {x : Int64} (hd : decode M.2.1 pc = .ok (.lastore, 1)) (hc : h[a]? = some (ev_la n F)) (h0 : 0 ≤ i) (h1 : i < n) (hn : n < 2147483648)
    (kk : ev_E g X M d (pc + 1) ls st (h.set a (ev_la n (vp_updL F i.toNat x))) kc ks Q) : ev_E g X M d pc ls (.long x :: ev_i i :: .ref a :: st) h kc ks Q := by
  intro p e R s m args below meth c H locs cells slots rls C
  have hat := C.2.2.1.2.2 a _ (ev_rl_at hc)
  have hA := (C.1.2.2.2.2.2.1.2 1 _ rfl).1 n (fun j => .long (F j))
  refine W.last (j := Int32.ofInt i) (x := x) C.1.1 C.1.2.1 hat hA (fun q => by cases q) (by show ¬ (_ ∨ (arrV _ _ _).slots.size ≤ _); rw [arrV_size]; exact ev_vpin h0 h1 hn) rfl rfl hd fun H1 e1 z1 oq => ?_
  refine kk p e R s m args below meth c H1 _ cells slots rls (C.heap (C.2.2.1.set hc ?_ z1 oq) (ev_locs C.2.2.2.1 (Nat.le_add_right _ _)) C.2.2.2.2.1)
  show H1[ev_z g + a]? = some (vp_cell (ev_J g) (n, .inr (.inl (vp_updL F i.toNat x))))
  rw [e1, ← ev_clamp h0 (by omega)]
  show some ((vp_cell (ev_J g) (n, .inr (.inl F))).setSlot _ _) = _
  rw [vp_cell_l, vp_cell_l, arrV_store]
  congr 2
  funext q
  by_cases hq : q = (Int32.ofInt i).toNatClampNeg <;> simp [vp_updL, updV, hq]
theorem ev_alen {a n : Nat} {F : Int → Int} (hd : decode M.2.1 pc = .ok (.arraylength, 1)) (hc : h[a]? = some (ev_ia n F))
    (kk : ev_E g X M d (pc + 1) ls (ev_i n :: st) h kc ks Q) : ev_E g X M d pc ls (.ref a :: st) h kc ks Q := by
  intro p e R s m args below meth c H locs cells slots rls C
  have kk := kk p e R s m args below meth c H locs cells slots rls C
  exact va_alen C.1.1 C.1.2.1 C.1.2.2.2.2.2.1 C.2.2.1.2.2 a 0 (ev_rl_at hc) rfl (v := Int32.ofInt n) (by show Int32.ofNat n = Int32.ofInt n; first | exact Int32.ofInt_eq_ofNat.symm | rfl | simp [Int32.ofInt, Int32.ofNat]) hd kk
end EVH
end
section
/-! new cells, calls, a method's contract out of its walk -/
/-- class ci may be made at entry idx of own; its fields begin so -/
def ev_NC (own : String) (idx ci : Nat) (fs : List Value) (N : Nat) : Prop :=
  ∃ (C : String) (T : u_T) (ty0 : Nat → FieldType), ev_CF ci C T N ∧ (∀ k, k < N → parseFieldDescriptor (T k).2.2.1 = some (ty0 k)) ∧ Cond.classLink own idx C ∈ ev_WS ∧ Cond.instantiable C N ∈ ev_WS ∧ Cond.initialized C ∈ ev_WS ∧ (∀ k, k < N → defaultValue (ty0 k) = vp_V fs k) ∧ (∀ v ∈ fs, ∀ g : ev_G, ev_rv g v = v)
/-- a call of M' from own at entry idx -/
def ev_CB (own : String) (idx : Nat) (M' : ev_M) : Prop :=
  (Cond.methodLink own idx M'.1 ∈ ev_WS ∨ ∃ host, Cond.methodLinkNest own idx M'.1 host ∈ ev_NW) ∧ Cond.initialized M'.1.cls ∈ ev_WS ∧ Cond.code M'.1 M'.2.1 M'.2.2.1 M'.2.2.2.1 ∈ ev_WS ∧
  (M'.1.cls ≠ "java/lang/invoke/MethodHandle" ∧ M'.1.cls ≠ "java/lang/invoke/VarHandle") ∧ M'.2.2.1 ≤ 21
def ev_CI (own : String) (idx : Nat) (M' : ev_M) (n : Nat) : Prop :=
  ev_CB own idx M' ∧ Cond.instanceMethod M'.1 ∈ ev_WS ∧ (parseMethodDescriptor M'.1.desc).map (fun d => d.parameters.length) = some n
def ev_CV (own : String) (idx : Nat) (M' : ev_M) (n ci : Nat) : Prop :=
  ev_CI own idx M' n ∧ Cond.selects M'.1.cls M'.1 M'.1 ∈ ev_WS ∧ (ev_CL[ci]?).map (·.1) = some M'.1.cls
def ev_CS (own : String) (idx : Nat) (M' : ev_M) (n : Nat) : Prop :=
  ev_CB own idx M' ∧ Cond.static M'.1 ∈ ev_WS ∧ (parseMethodDescriptor M'.1.desc).map (fun d => d.parameters.length) = some n
section EVC
variable {g : ev_G} {X : Bool} {M : ev_M} {d pc : Nat} {ls : List (Option Value)} {st : List Value} {h : List ev_AC} {kc ks : Nat} {Q : ev_O → List ev_AC → Prop}
theorem ev_newI {n : Nat} (hd : decode M.2.1 pc = .ok (.newarray .int, 2)) (hw : Cond.arrayClass .int ∈ ev_WS) (hn : n < 8388608)
    (kk : ev_E g X M d (pc + 2) ls (.ref h.length :: st) (h ++ [ev_ia n (fun _ => 0)]) kc ks Q) : ev_E g X M d pc ls (ev_i n :: st) h (kc + 1) (ks + n) Q := by
  intro p e R s m args below meth c H locs cells slots rls C
  obtain ⟨hx, hb, hml, hown, hts, hK, -⟩ := C.1
  obtain ⟨hc1, hc2⟩ := C.2.2.2.2.1
  refine va_newaK (atype := .int) (N := n) hx hb (hts _ hw) rfl hd rfl (by rw [ev_zero, ev_lt (by omega) (by omega) (by omega) (by omega)]; omega) (by rw [ev_clamp (by omega) (by omega)]; rfl) (by show n * 4 ≤ _; omega) (by omega) (by omega) rfl fun H1 cA e1 z1 o1 hAr hNm => ?_
  have hI : cA = ev_I g := by
    have h2 : s.vm.findClass ("[" ++ FieldType.int.toString) = some (ev_I g) := (hK.2 0 _ rfl).2
    exact Option.some.inj (hNm.symm.trans h2)
  subst hI
  have := kk p e R s m args below meth c H1 locs (cells + 1) (slots + n) rls (C.heap (C.2.2.1.push z1 o1 e1) C.2.2.2.1 ⟨by omega, by omega⟩)
  rw [C.2.2.1.1]
  exact this
theorem ev_newL {n : Nat} (hd : decode M.2.1 pc = .ok (.newarray .long, 2)) (hw : Cond.arrayClass .long ∈ ev_WS) (hn : n < 8388608)
    (kk : ev_E g X M d (pc + 2) ls (.ref h.length :: st) (h ++ [ev_la n (fun _ => 0)]) kc ks Q) : ev_E g X M d pc ls (ev_i n :: st) h (kc + 1) (ks + n) Q := by
  intro p e R s m args below meth c H locs cells slots rls C
  obtain ⟨hx, hb, hml, hown, hts, hK, -⟩ := C.1
  obtain ⟨hc1, hc2⟩ := C.2.2.2.2.1
  refine va_newaK (atype := .long) (N := n) hx hb (hts _ hw) rfl hd rfl (by rw [ev_zero, ev_lt (by omega) (by omega) (by omega) (by omega)]; omega) (by rw [ev_clamp (by omega) (by omega)]; rfl) (by show n * 8 ≤ _; omega) (by omega) (by omega) rfl fun H1 cA e1 z1 o1 hAr hNm => ?_
  have hI : cA = ev_J g := by
    have h2 : s.vm.findClass ("[" ++ FieldType.long.toString) = some (ev_J g) := (hK.2 1 _ rfl).2
    exact Option.some.inj (hNm.symm.trans h2)
  subst hI
  have := kk p e R s m args below meth c H1 locs (cells + 1) (slots + n) rls (C.heap (C.2.2.1.push z1 o1 e1) C.2.2.2.1 ⟨by omega, by omega⟩)
  rw [C.2.2.1.1]
  exact this
theorem ev_new {idx ci N : Nat} {fs : List Value} (hd : decode M.2.1 pc = .ok (.new idx, 3)) (F : ev_NC M.1.cls idx ci fs N)
    (kk : ev_E g X M d (pc + 3) ls (.ref h.length :: st) (h ++ [.inr (ci, fs)]) kc ks Q) : ev_E g X M d pc ls st h (kc + 1) (ks + N) Q := by
  intro p e R s m args below meth c H locs cells slots rls C
  obtain ⟨hx, hb, hml, hown, hts, hK, -⟩ := C.1
  obtain ⟨hc1, hc2⟩ := C.2.2.2.2.1
  obtain ⟨Cn, T, ty0, ⟨hcl, hin, -, -⟩, hty, w1, w2, w3, hfs, hrv⟩ := F
  have hKn := hK.1 ci _ hcl
  have hfs' : fs.map (ev_rv g) = fs := by
    refine (List.map_congr_left (fun v hv => hrv v hv g)).trans ?_
    exact List.map_id _
  refine W.newcK hx hb hown (hts _ w1) (hts _ w2) (hts _ w3) rfl hd (by omega) (by omega) hKn.2.1 rfl fun H1 kC hkC e1 z1 o1 => ?_
  have hat : va_at (ev_Dg g) ev_CL (H.size, ev_rc g (.inr (ci, fs))) H1 := by
    refine ⟨_, hcl, ?_⟩
    show t_OB _ _ _ _ _ (vp_V (fs.map (ev_rv g)))
    rw [hfs']
    exact (u_born ty0 hts hin hKn hkC e1 hty).to hfs
  have := kk p e R s m args below meth c H1 locs (cells + 1) (slots + N) rls (C.heap (C.2.2.1.push z1 o1 hat) C.2.2.2.1 ⟨by omega, by omega⟩)
  rw [C.2.2.1.1]
  exact this
/-- Object.<init> -/
theorem ev_obj {idx a : Nat} (hd : decode M.2.1 pc = .ok (.invokespecial idx, 3)) (w1 : Cond.methodLink M.1.cls idx Lib.objectInit ∈ ev_WS) (w2 : Cond.instanceMethod Lib.objectInit ∈ ev_WS) (w3 : Cond.code Lib.objectInit ⟨#[0xb1]⟩ 1 none ∈ ev_WS) (hs : (st.map fun v => v.category).sum ≤ 8)
    (kk : ev_E g X M (d + 1) (pc + 3) ls st h kc ks Q) : ev_E g X M (d + 1) pc ls (.ref a :: st) h kc ks Q := by
  intro p e R s m args below meth c H locs cells slots rls C
  obtain ⟨hx, hb, hml, hown, hts, -⟩ := C.1
  have hs' := ev_rv_sum g st
  refine W.objInit hx hb hown (hts _ w1) (hts _ w2) (hts _ w3) rfl (by rw [hml]; exact C.2.2.2.2.2.2.1.1) rfl hd (by have := C.2.1.1; omega) (by show 2 * 0 + _ + 12 ≤ _; have := C.2.1.2; omega) (kk p e R s m args below meth c H locs cells slots rls C)
/-- a call comes back -/
theorem ev_back {p : Program} {e : Env} {R : Room} {s : State} {m : MethodId} {args a : Array Value} {below : List Frame} {meth : Method} {c : Code} {H : Heap} {locs : List Loc} {cells slots mc ms : Nat} {rls : Array Slot} {st0 : List Value} {rest : List Value} {Qc : ev_O → List ev_AC → Prop}
    (hr : va_Run p (ev_l g) e R s m args below meth c H locs cells slots mc ms (F0 m pc rls st0) (rest.map (ev_rv g)) (ev_QX g Qc a) (fun q => ev_z g ≤ q))
    (C : ev_Cx g M d ls h kc ks p R s m args meth c H locs cells slots rls) (hmc : mc ≤ kc) (hms : ms ≤ ks)
    (kk : ∀ v h', Qc (.inl v) h' → ev_E g X M d (pc + 3) ls (v.toList ++ rest) h' (kc - mc) (ks - ms) Q) :
    W p (ev_l g) e R s m args below meth c H locs cells slots (ev_MQ X below (ev_QX g Q) args s R.cells R.slots (fun q => ev_z g ≤ q)) (F0 m pc rls st0) := by
  intro T hT S
  obtain ⟨v, st₀, t, T', L, h0, S', hL, e1, e2, ⟨out, h', ho, hq, hH⟩, go⟩ := hr T hT S
  cases out with
  | inr i => cases ho
  | inl w =>
    cases ho
    have hc := C.2.2.2.2.1
    obtain ⟨t2, a1, b1⟩ := kk w h' hq p e R s m args below meth c T'.heap (locs ++ L) (cells + mc) (slots + ms) rls (C.heap (by rw [e1]; exact hH) (fun q hq => by
      rcases List.mem_append.mp hq with h1 | h1
      · exact C.2.2.2.1 q h1
      · exact hL q h1) ⟨by omega, by omega⟩) T' rfl S'
    refine ⟨t2, go t2 ?_, b1⟩
    have hst : (w.toList ++ rest).map (ev_rv g) = (w.map (ev_rv g)).toList ++ rest.map (ev_rv g) := by cases w <;> simp
    rw [hst] at a1
    exact a1
theorem ev_blind {as : List Value} : FrameBlind (ev_Pc g as h) := fun a U fr mk q =>
  ⟨q.1, q.2.1, va_K.moved (u := U) (U := U.calling fr mk a) (Vm.Alike.refl U.vm) q.2.2.1, fun w hw => va_Nw.same (ev_NW_tab w hw) (u := U) (U := U.calling fr mk a) rfl (q.2.2.2.1 w hw), ev_XS_same (u := U) (U := U.calling fr mk a) rfl rfl q.2.2.2.2⟩
theorem ev_Pc.of {p : Program} {R : Room} {s : State} {m : MethodId} {args : Array Value} {meth : Method} {c : Code} {H : Heap} {locs : List Loc} {cells slots : Nat} {rls : Array Slot} {as : List Value} (C : ev_Cx g M d ls h kc ks p R s m args meth c H locs cells slots rls) : ∀ U : State, U.heap = H → s.WarmedH U.vm → ev_Pc g as h ((as.map (ev_rv g)).toArray) U := by
  intro U hU hW
  obtain ⟨hx, hb, hml, hown, hts, hK, hN, -, -, -, -, h0, hX⟩ := C.1
  exact ⟨rfl, by rw [hU]; exact C.2.2.1, va_K.moved hW.alike hK, fun w hw => ev_NW_warm hw hW (hN w hw), ev_XS_warm hW C.2.2.1 hU h0 hX⟩
theorem ev_GoodIn {M' : ev_M} (hc : Cond.code M'.1 M'.2.1 M'.2.2.1 M'.2.2.2.1 ∈ ev_WS) : GoodIn ev_WS (ev_ws M') := by
  intro w hw
  rcases List.mem_cons.mp hw with h1 | h1
  · subst h1; exact ⟨hc, good_of_word (ev_good _ hc)⟩
  · exact ⟨h1, good_of_word (ev_good _ h1)⟩
theorem ev_callV {M' : ev_M} {idx n ci b mc ms : Nat} {as rest : List Value} {fs : List Value} {Qc : ev_O → List ev_AC → Prop} (hd : decode M.2.1 pc = .ok (.invokevirtual idx, 3)) (F : ev_CV M.1.cls idx M' n ci) (hn : as.length = n) (hc : h[b]? = some (.inr (ci, fs))) (hs : (rest.map fun v => v.category).sum ≤ 8)
    (hC : ev_C g M' d (.ref b :: as) h mc ms Qc) (hmc : mc ≤ kc) (hms : ms ≤ ks) (hst : as.reverse ++ .ref b :: rest = st)
    (kk : ∀ v h', Qc (.inl v) h' → ev_E g X M (d + 1) (pc + 3) ls (v.toList ++ rest) h' (kc - mc) (ks - ms) Q) : ev_E g X M (d + 1) pc ls st h kc ks Q := by
  intro p e R s m args below meth c H locs cells slots rls C
  subst hst
  obtain ⟨hx, hb, hml, hown, hts, hK, hN, -⟩ := C.1
  obtain ⟨⟨⟨hl, wi, wc, wd, wl⟩, win, wp⟩, wsel, wci⟩ := F
  obtain ⟨q, hq, hqc⟩ : ∃ q, ev_CL[ci]? = some q ∧ q.1 = M'.1.cls := by
    cases hz : ev_CL[ci]? with
    | none => rw [hz] at wci; cases wci
    | some q => rw [hz] at wci; exact ⟨q, rfl, Option.some.inj wci⟩
  obtain ⟨cell, g1, g2, g3⟩ := va_recv hK C.2.2.1.2.2 hq (ev_rl_at hc)
  rw [hqc] at g3
  have hR := C.2.1
  have hroom : d + 1 ≤ R.frames ∧ 8 + (M'.2.2.1 + 11) + 40 * d ≤ R.locals := ⟨hR.1, by omega⟩
  have hpre : PreV s H M'.1.cls (ev_z g + b) (ev_Pc g (.ref b :: as) h) (as.map (ev_rv g)) := ⟨ev_blind, ⟨cell, g1, g2, g3⟩, fun U h1 h2 => ev_Pc.of (as := .ref b :: as) C U h1 h2⟩
  have hstk : (as.reverse ++ .ref b :: rest).map (ev_rv g) = (as.map (ev_rv g)).reverse ++ .ref (ev_z g + b) :: rest.map (ev_rv g) := by simp [ev_rv]
  have hcc := C.2.2.2.2.1
  rcases hl with hl | ⟨host, hl⟩
  · refine ev_back (mc := mc) (ms := ms) (rest := rest) (Qc := Qc) (va_runV (n := n) ⟨hx, hb, hml, hown, hts⟩ hC ⟨callB_of n hts (ev_GoodIn wc) rfl rfl rfl (hts _ wi) (hts _ hl) ⟨wd.1, wd.2, wp⟩ hroom, hts _ win, hts _ wsel⟩ hpre rfl (by simpa using hn) C.2.2.2.2.2.2.1.1 hstk (by show 2 * 0 + _ ≤ 8; rw [ev_rv_sum]; omega) hd ⟨by omega, by omega⟩) C hmc hms kk
  · refine ev_back (mc := mc) (ms := ms) (rest := rest) (Qc := Qc) (va_runVN (n := n) ⟨hx, hb, hml, hown, hts⟩ hC ⟨va_cnB n hts (ev_GoodIn wc) rfl rfl rfl (hN _ hl) (hts _ wi) ⟨wd.1, wd.2, wp⟩ hroom, hts _ win, hts _ wsel⟩ hpre rfl (by simpa using hn) C.2.2.2.2.2.2.1.1 hstk (by show 2 * 0 + _ ≤ 8; rw [ev_rv_sum]; omega) hd ⟨by omega, by omega⟩) C hmc hms kk
theorem ev_callS {M' : ev_M} {idx n mc ms : Nat} {as rest : List Value} {Qc : ev_O → List ev_AC → Prop} (hd : decode M.2.1 pc = .ok (.invokestatic idx, 3)) (F : ev_CS M.1.cls idx M' n) (hn : as.length = n) (hs : (rest.map fun v => v.category).sum ≤ 8)
    (hC : ev_C g M' d as h mc ms Qc) (hmc : mc ≤ kc) (hms : ms ≤ ks) (hst : as.reverse ++ rest = st)
    (kk : ∀ v h', Qc (.inl v) h' → ev_E g X M (d + 1) (pc + 3) ls (v.toList ++ rest) h' (kc - mc) (ks - ms) Q) : ev_E g X M (d + 1) pc ls st h kc ks Q := by
  intro p e R s m args below meth c H locs cells slots rls C
  subst hst
  obtain ⟨hx, hb, hml, hown, hts, hK, hN, -⟩ := C.1
  obtain ⟨⟨hl, wi, wc, wd, wl⟩, wst, wp⟩ := F
  have hR := C.2.1
  have hroom : d + 1 ≤ R.frames ∧ 8 + (M'.2.2.1 + 11) + 40 * d ≤ R.locals := ⟨hR.1, by omega⟩
  have hpre : PreS s H (ev_Pc g as h) (as.map (ev_rv g)) := ⟨ev_blind, fun U h1 h2 => ev_Pc.of (as := as) C U h1 h2⟩
  have hstk : (as.reverse ++ rest).map (ev_rv g) = (as.map (ev_rv g)).reverse ++ rest.map (ev_rv g) := by simp
  have hcc := C.2.2.2.2.1
  rcases hl with hl | ⟨host, hl⟩
  · refine ev_back (mc := mc) (ms := ms) (rest := rest) (Qc := Qc) (va_runS (n := n) ⟨hx, hb, hml, hown, hts⟩ hC ⟨callB_of n hts (ev_GoodIn wc) rfl rfl rfl (hts _ wi) (hts _ hl) ⟨wd.1, wd.2, wp⟩ hroom, hts _ wst⟩ hpre rfl (by simpa using hn) C.2.2.2.2.2.2.1.1 hstk (by show 2 * 0 + _ ≤ 8; rw [ev_rv_sum]; omega) hd ⟨by omega, by omega⟩) C hmc hms kk
  · refine ev_back (mc := mc) (ms := ms) (rest := rest) (Qc := Qc) (va_runSN (n := n) ⟨hx, hb, hml, hown, hts⟩ hC ⟨va_cnB n hts (ev_GoodIn wc) rfl rfl rfl (hN _ hl) (hts _ wi) ⟨wd.1, wd.2, wp⟩ hroom, hts _ wst, trivial⟩ hpre rfl (by simpa using hn) C.2.2.2.2.2.2.1.1 hstk (by show 2 * 0 + _ ≤ 8; rw [ev_rv_sum]; omega) hd ⟨by omega, by omega⟩) C hmc hms kk
theorem ev_callI {M' : ev_M} {idx n b mc ms : Nat} {as rest : List Value} {Qc : ev_O → List ev_AC → Prop} (hd : decode M.2.1 pc = .ok (.invokespecial idx, 3)) (F : ev_CI M.1.cls idx M' n) (hini : M'.1.name = "<init>") (hret : M'.2.2.2.1 = none) (hn : as.length = n) (hs : (rest.map fun v => v.category).sum ≤ 8)
    (hC : ev_C g M' d (.ref b :: as) h mc ms Qc) (hmc : mc ≤ kc) (hms : ms ≤ ks) (hst : as.reverse ++ .ref b :: rest = st)
    (kk : ∀ v h', Qc (.inl v) h' → ev_E g X M (d + 1) (pc + 3) ls (v.toList ++ rest) h' (kc - mc) (ks - ms) Q) : ev_E g X M (d + 1) pc ls st h kc ks Q := by
  intro p e R s m args below meth c H locs cells slots rls C
  subst hst
  obtain ⟨hx, hb, hml, hown, hts, hK, hN, -⟩ := C.1
  obtain ⟨⟨hl, wi, wc, wd, wl⟩, win, wp⟩ := F
  have hR := C.2.1
  have hroom : d + 1 ≤ R.frames ∧ 8 + (M'.2.2.1 + 11) + 40 * d ≤ R.locals := ⟨hR.1, by omega⟩
  have hpre : PreS s H (ev_Pc g (.ref b :: as) h) (.ref (ev_z g + b) :: as.map (ev_rv g)) := ⟨ev_blind, fun U h1 h2 => ev_Pc.of (as := .ref b :: as) C U h1 h2⟩
  have hstk : (as.reverse ++ .ref b :: rest).map (ev_rv g) = (as.map (ev_rv g)).reverse ++ .ref (ev_z g + b) :: rest.map (ev_rv g) := by simp [ev_rv]
  have hcc := C.2.2.2.2.1
  rw [hret] at wc
  have hw : ev_ws M' = Cond.code M'.1 M'.2.1 M'.2.2.1 none :: ev_WS := by rw [ev_ws, hret]
  have hG : GoodIn ev_WS (ev_ws M') := ev_GoodIn (by rw [hret]; exact wc)
  rcases hl with hl | ⟨host, hl⟩
  · refine ev_back (mc := mc) (ms := ms) (rest := rest) (Qc := Qc) (va_runI (n := n) ⟨hx, hb, hml, hown, hts⟩ hC ⟨callB_of n hts hG hw rfl rfl (hts _ wi) (hts _ hl) ⟨wd.1, wd.2, wp⟩ hroom, hini, hts _ win⟩ hpre rfl (by simpa using hn) C.2.2.2.2.2.2.1.1 hstk (by show 2 * 0 + _ ≤ 8; rw [ev_rv_sum]; omega) hd ⟨by omega, by omega⟩) C hmc hms kk
  · refine ev_back (mc := mc) (ms := ms) (rest := rest) (Qc := Qc) (va_runIN (n := n) ⟨hx, hb, hml, hown, hts⟩ hC ⟨va_cnB n hts hG hw rfl rfl (hN _ hl) (hts _ wi) ⟨wd.1, wd.2, wp⟩ hroom, hini, hts _ win⟩ hpre rfl (by simpa using hn) C.2.2.2.2.2.2.1.1 hstk (by show 2 * 0 + _ ≤ 8; rw [ev_rv_sum]; omega) hd ⟨by omega, by omega⟩) C hmc hms kk
/-- a contract out of the walk -/
theorem ev_ofE {as : List Value} (hpl : plainName M.1.cls = true) (hhh : M.2.2.2.2 = []) (hn : as.length ≤ M.2.2.1) (hcat : as.all (fun v => v.category == 1) = true) (hls : as.map some ++ List.replicate (M.2.2.1 - as.length) none = ls)
    (k : ev_E g false M d 0 ls [] h kc ks Q) : ev_C g M d as h kc ks Q := by
  subst hls
  refine Met.ofW (cc := M.2.1) (maxL := M.2.2.1) (ret := M.2.2.2.1) hpl rfl ?_
  intro p e s m args below meth c s₁ B hml hv
  obtain ⟨rfl, hH, hK, hN, hX⟩ := hv
  have hts := atoms_spec (ws := ev_ws M) B.pre
  have hcat' : ∀ v ∈ as, v.category = 1 := fun v hv => by simpa using List.all_eq_true.mp hcat v hv
  rw [lg_entry_eq]
  have htab : c.exceptionTable.toList = tableOf M.2.2.2.2 := by
    have h1 := B.noHandlers (hts _ List.mem_cons_self)
    rw [hhh]
    have h2 : c.exceptionTable = #[] := by simpa using h1
    rw [h2]; rfl
  have := k p e { frames := d, cells := kc, slots := ks, locals := 40 * d } s m _ below meth c s.heap [] 0 0 _
    ⟨⟨B.exec, B.bytes, hml, findClass_of_methodNamed B.named, fun w hw => hts w (List.mem_cons_of_mem _ hw), hK, hN, B.returns, B.notSynchronized, (name_of_methodNamed B.named B.method).1, htab, ⟨h, hH⟩, hX⟩,
      ⟨Nat.le_refl _, Nat.le_refl _⟩, hH, (fun q hq => by cases hq), ⟨by simp, by simp⟩, ev_LH.entry hn hcat'⟩
  intro T hT S
  obtain ⟨t, a, o, b1, b2, b3, L, b4, b5⟩ := this T hT S
  exact ⟨t, a, o, b1, b2, b3, L, ⟨b4.1.resolve_left (by decide), b4.2⟩, b5⟩
end EVC
end
section
/-! facts of the tables: fields, calls, new objects -/
theorem cf_F : ev_CF 0 RF TF 5 := ⟨rfl, wl_F, ⟨tF, tF_ok⟩, nF⟩
theorem cf_P : ev_CF 1 RP TP 8 := ⟨rfl, wl_P, ⟨tP, tP_ok⟩, nP⟩
theorem cf_R : ev_CF 2 RR TR 8 := ⟨rfl, wl_R, ⟨tR, tR_ok⟩, nR⟩
theorem cf_O : ev_CF 3 RO TO 5 := ⟨rfl, wl_O, ⟨tO, tO_ok⟩, nO⟩
theorem cf_M : ev_CF 4 RM TM 22 := ⟨rfl, wl_M, ⟨tM, tM_ok⟩, nM⟩
theorem fl_F_12 : ev_FL RF 12 0 0 := ⟨RF, TF, 5, cf_F, by decide, Or.inl wf_F_12⟩
theorem fl_F_21 : ev_FL RF 21 0 1 := ⟨RF, TF, 5, cf_F, by decide, Or.inl wf_F_21⟩
theorem fl_F_28 : ev_FL RF 28 0 2 := ⟨RF, TF, 5, cf_F, by decide, Or.inl wf_F_28⟩
theorem fl_F_32 : ev_FL RF 32 0 3 := ⟨RF, TF, 5, cf_F, by decide, Or.inl wf_F_32⟩
theorem fl_F_36 : ev_FL RF 36 0 4 := ⟨RF, TF, 5, cf_F, by decide, Or.inl wf_F_36⟩
theorem fl_F_62 : ev_FL RF 62 1 1 := ⟨RP, TP, 8, cf_P, by decide, Or.inl wf_F_62⟩
theorem fl_F_71 : ev_FL RF 71 1 2 := ⟨RP, TP, 8, cf_P, by decide, Or.inl wf_F_71⟩
theorem fl_F_75 : ev_FL RF 75 1 0 := ⟨RP, TP, 8, cf_P, by decide, Or.inl wf_F_75⟩
theorem fl_F_97 : ev_FL RF 97 1 6 := ⟨RP, TP, 8, cf_P, by decide, Or.inl wf_F_97⟩
theorem fl_F_100 : ev_FL RF 100 1 7 := ⟨RP, TP, 8, cf_P, by decide, Or.inl wf_F_100⟩
theorem fl_F_106 : ev_FL RF 106 1 4 := ⟨RP, TP, 8, cf_P, by decide, Or.inl wf_F_106⟩
theorem fl_F_125 : ev_FL RF 125 2 4 := ⟨RR, TR, 8, cf_R, by decide, Or.inl wf_F_125⟩
theorem fl_F_128 : ev_FL RF 128 2 5 := ⟨RR, TR, 8, cf_R, by decide, Or.inl wf_F_128⟩
theorem fl_F_138 : ev_FL RF 138 2 6 := ⟨RR, TR, 8, cf_R, by decide, Or.inl wf_F_138⟩
theorem fl_F_141 : ev_FL RF 141 2 7 := ⟨RR, TR, 8, cf_R, by decide, Or.inl wf_F_141⟩
theorem fl_F_147 : ev_FL RF 147 3 2 := ⟨RO, TO, 5, cf_O, by decide, Or.inl wf_F_147⟩
theorem fl_F_156 : ev_FL RF 156 3 3 := ⟨RO, TO, 5, cf_O, by decide, Or.inl wf_F_156⟩
theorem fl_F_169 : ev_FL RF 169 3 4 := ⟨RO, TO, 5, cf_O, by decide, Or.inl wf_F_169⟩
theorem fl_O_9 : ev_FL RO 9 3 0 := ⟨RO, TO, 5, cf_O, by decide, Or.inl wf_O_9⟩
theorem fl_O_15 : ev_FL RO 15 3 3 := ⟨RO, TO, 5, cf_O, by decide, Or.inl wf_O_15⟩
theorem fl_O_19 : ev_FL RO 19 3 1 := ⟨RO, TO, 5, cf_O, by decide, Or.inl wf_O_19⟩
theorem fl_O_23 : ev_FL RO 23 3 2 := ⟨RO, TO, 5, cf_O, by decide, Or.inl wf_O_23⟩
theorem fl_O_27 : ev_FL RO 27 3 4 := ⟨RO, TO, 5, cf_O, by decide, Or.inl wf_O_27⟩
theorem fl_O_35 : ev_FL RO 35 1 1 := ⟨RP, TP, 8, cf_P, by decide, Or.inl wf_O_35⟩
theorem fl_O_78 : ev_FL RO 78 1 4 := ⟨RP, TP, 8, cf_P, by decide, Or.inl wf_O_78⟩
theorem fl_P_9 : ev_FL RP 9 1 3 := ⟨RP, TP, 8, cf_P, by decide, Or.inl wf_P_9⟩
theorem fl_P_15 : ev_FL RP 15 1 4 := ⟨RP, TP, 8, cf_P, by decide, Or.inl wf_P_15⟩
theorem fl_P_18 : ev_FL RP 18 1 5 := ⟨RP, TP, 8, cf_P, by decide, Or.inl wf_P_18⟩
theorem fl_P_21 : ev_FL RP 21 1 6 := ⟨RP, TP, 8, cf_P, by decide, Or.inl wf_P_21⟩
theorem fl_P_24 : ev_FL RP 24 1 7 := ⟨RP, TP, 8, cf_P, by decide, Or.inl wf_P_24⟩
theorem fl_P_31 : ev_FL RP 31 1 0 := ⟨RP, TP, 8, cf_P, by decide, Or.inl wf_P_31⟩
theorem fl_P_35 : ev_FL RP 35 1 1 := ⟨RP, TP, 8, cf_P, by decide, Or.inl wf_P_35⟩
theorem fl_P_38 : ev_FL RP 38 1 2 := ⟨RP, TP, 8, cf_P, by decide, Or.inl wf_P_38⟩
theorem fl_R_9 : ev_FL RR 9 2 0 := ⟨RR, TR, 8, cf_R, by decide, Or.inl wf_R_9⟩
theorem fl_R_15 : ev_FL RR 15 2 1 := ⟨RR, TR, 8, cf_R, by decide, Or.inl wf_R_15⟩
theorem fl_R_19 : ev_FL RR 19 2 2 := ⟨RR, TR, 8, cf_R, by decide, Or.inl wf_R_19⟩
theorem fl_R_22 : ev_FL RR 22 2 3 := ⟨RR, TR, 8, cf_R, by decide, Or.inl wf_R_22⟩
theorem fl_R_25 : ev_FL RR 25 2 6 := ⟨RR, TR, 8, cf_R, by decide, Or.inl wf_R_25⟩
theorem fl_R_28 : ev_FL RR 28 2 7 := ⟨RR, TR, 8, cf_R, by decide, Or.inl wf_R_28⟩
theorem fl_R_34 : ev_FL RR 34 2 4 := ⟨RR, TR, 8, cf_R, by decide, Or.inl wf_R_34⟩
theorem fl_R_42 : ev_FL RR 42 2 5 := ⟨RR, TR, 8, cf_R, by decide, Or.inl wf_R_42⟩
theorem fl_R_55 : ev_FL RR 55 1 1 := ⟨RP, TP, 8, cf_P, by decide, Or.inl wf_R_55⟩
theorem fl_R_58 : ev_FL RR 58 1 3 := ⟨RP, TP, 8, cf_P, by decide, Or.inl wf_R_58⟩
theorem fl_R_61 : ev_FL RR 61 1 4 := ⟨RP, TP, 8, cf_P, by decide, Or.inl wf_R_61⟩
theorem fl_M_7 : ev_FL RM 7 4 1 := ⟨RM, TM, 22, cf_M, by decide, Or.inl wf_M_7⟩
theorem fl_M_13 : ev_FL RM 13 4 3 := ⟨RM, TM, 22, cf_M, by decide, Or.inl wf_M_13⟩
theorem fl_M_17 : ev_FL RM 17 4 4 := ⟨RM, TM, 22, cf_M, by decide, Or.inl wf_M_17⟩
theorem fl_M_20 : ev_FL RM 20 4 6 := ⟨RM, TM, 22, cf_M, by decide, Or.inl wf_M_20⟩
theorem fl_M_23 : ev_FL RM 23 4 8 := ⟨RM, TM, 22, cf_M, by decide, Or.inl wf_M_23⟩
theorem fl_M_26 : ev_FL RM 26 4 9 := ⟨RM, TM, 22, cf_M, by decide, Or.inl wf_M_26⟩
theorem fl_M_29 : ev_FL RM 29 4 10 := ⟨RM, TM, 22, cf_M, by decide, Or.inl wf_M_29⟩
theorem fl_M_32 : ev_FL RM 32 4 11 := ⟨RM, TM, 22, cf_M, by decide, Or.inl wf_M_32⟩
theorem fl_M_35 : ev_FL RM 35 4 12 := ⟨RM, TM, 22, cf_M, by decide, Or.inl wf_M_35⟩
theorem fl_M_38 : ev_FL RM 38 4 13 := ⟨RM, TM, 22, cf_M, by decide, Or.inl wf_M_38⟩
theorem fl_M_41 : ev_FL RM 41 4 15 := ⟨RM, TM, 22, cf_M, by decide, Or.inl wf_M_41⟩
theorem fl_M_44 : ev_FL RM 44 4 16 := ⟨RM, TM, 22, cf_M, by decide, Or.inl wf_M_44⟩
theorem fl_M_47 : ev_FL RM 47 4 17 := ⟨RM, TM, 22, cf_M, by decide, Or.inl wf_M_47⟩
theorem fl_M_50 : ev_FL RM 50 4 19 := ⟨RM, TM, 22, cf_M, by decide, Or.inl wf_M_50⟩
theorem fl_M_53 : ev_FL RM 53 4 20 := ⟨RM, TM, 22, cf_M, by decide, Or.inl wf_M_53⟩
theorem fl_M_56 : ev_FL RM 56 4 0 := ⟨RM, TM, 22, cf_M, by decide, Or.inl wf_M_56⟩
theorem fl_M_63 : ev_FL RM 63 4 5 := ⟨RM, TM, 22, cf_M, by decide, Or.inl wf_M_63⟩
theorem fl_M_66 : ev_FL RM 66 4 2 := ⟨RM, TM, 22, cf_M, by decide, Or.inl wf_M_66⟩
theorem fl_M_78 : ev_FL RM 78 4 7 := ⟨RM, TM, 22, cf_M, by decide, Or.inl wf_M_78⟩
theorem fl_M_104 : ev_FL RM 104 4 18 := ⟨RM, TM, 22, cf_M, by decide, Or.inl wf_M_104⟩
theorem fl_M_107 : ev_FL RM 107 4 21 := ⟨RM, TM, 22, cf_M, by decide, Or.inl wf_M_107⟩
theorem fl_M_155 : ev_FL RM 155 4 14 := ⟨RM, TM, 22, cf_M, by decide, Or.inl wf_M_155⟩
theorem fp_F_12 : ev_FP RF 12 0 0 (.object "FoldLaboratory$Paper") true := ⟨RF, TF, 5, cf_F, by decide, wf_F_12, tF_ok 0 (by decide), rfl, rfl⟩
theorem fp_F_21 : ev_FP RF 21 0 1 (.object "FoldLaboratory$Reductions") true := ⟨RF, TF, 5, cf_F, by decide, wf_F_21, tF_ok 1 (by decide), rfl, rfl⟩
theorem fp_F_28 : ev_FP RF 28 0 2 (.object "FoldLaboratory$LayerOrders") true := ⟨RF, TF, 5, cf_F, by decide, wf_F_28, tF_ok 2 (by decide), rfl, rfl⟩
theorem fp_F_32 : ev_FP RF 32 0 3 (.array .int) true := ⟨RF, TF, 5, cf_F, by decide, wf_F_32, tF_ok 3 (by decide), rfl, rfl⟩
theorem fp_F_36 : ev_FP RF 36 0 4 (.int) false := ⟨RF, TF, 5, cf_F, by decide, wf_F_36, tF_ok 4 (by decide), rfl, rfl⟩
theorem fp_O_9 : ev_FP RO 9 3 0 (.object "FoldLaboratory$Paper") true := ⟨RO, TO, 5, cf_O, by decide, wf_O_9, tO_ok 0 (by decide), rfl, rfl⟩
theorem fp_O_15 : ev_FP RO 15 3 3 (.array .int) false := ⟨RO, TO, 5, cf_O, by decide, wf_O_15, tO_ok 3 (by decide), rfl, rfl⟩
theorem fp_O_19 : ev_FP RO 19 3 1 (.boolean) false := ⟨RO, TO, 5, cf_O, by decide, wf_O_19, tO_ok 1 (by decide), rfl, rfl⟩
theorem fp_O_23 : ev_FP RO 23 3 2 (.int) false := ⟨RO, TO, 5, cf_O, by decide, wf_O_23, tO_ok 2 (by decide), rfl, rfl⟩
theorem fp_O_27 : ev_FP RO 27 3 4 (.long) false := ⟨RO, TO, 5, cf_O, by decide, wf_O_27, tO_ok 4 (by decide), rfl, rfl⟩
theorem fp_P_9 : ev_FP RP 9 1 3 (.array .int) true := ⟨RP, TP, 8, cf_P, by decide, wf_P_9, tP_ok 3 (by decide), rfl, rfl⟩
theorem fp_P_15 : ev_FP RP 15 1 4 (.array .int) true := ⟨RP, TP, 8, cf_P, by decide, wf_P_15, tP_ok 4 (by decide), rfl, rfl⟩
theorem fp_P_18 : ev_FP RP 18 1 5 (.array .int) true := ⟨RP, TP, 8, cf_P, by decide, wf_P_18, tP_ok 5 (by decide), rfl, rfl⟩
theorem fp_P_21 : ev_FP RP 21 1 6 (.array .int) true := ⟨RP, TP, 8, cf_P, by decide, wf_P_21, tP_ok 6 (by decide), rfl, rfl⟩
theorem fp_P_24 : ev_FP RP 24 1 7 (.array .int) true := ⟨RP, TP, 8, cf_P, by decide, wf_P_24, tP_ok 7 (by decide), rfl, rfl⟩
theorem fp_P_31 : ev_FP RP 31 1 0 (.int) false := ⟨RP, TP, 8, cf_P, by decide, wf_P_31, tP_ok 0 (by decide), rfl, rfl⟩
theorem fp_P_35 : ev_FP RP 35 1 1 (.int) false := ⟨RP, TP, 8, cf_P, by decide, wf_P_35, tP_ok 1 (by decide), rfl, rfl⟩
theorem fp_P_38 : ev_FP RP 38 1 2 (.boolean) false := ⟨RP, TP, 8, cf_P, by decide, wf_P_38, tP_ok 2 (by decide), rfl, rfl⟩
theorem fp_R_9 : ev_FP RR 9 2 0 (.object "FoldLaboratory$Paper") true := ⟨RR, TR, 8, cf_R, by decide, wf_R_9, tR_ok 0 (by decide), rfl, rfl⟩
theorem fp_R_15 : ev_FP RR 15 2 1 (.array .int) true := ⟨RR, TR, 8, cf_R, by decide, wf_R_15, tR_ok 1 (by decide), rfl, rfl⟩
theorem fp_R_19 : ev_FP RR 19 2 2 (.array .int) true := ⟨RR, TR, 8, cf_R, by decide, wf_R_19, tR_ok 2 (by decide), rfl, rfl⟩
theorem fp_R_22 : ev_FP RR 22 2 3 (.array .int) true := ⟨RR, TR, 8, cf_R, by decide, wf_R_22, tR_ok 3 (by decide), rfl, rfl⟩
theorem fp_R_25 : ev_FP RR 25 2 6 (.array .int) true := ⟨RR, TR, 8, cf_R, by decide, wf_R_25, tR_ok 6 (by decide), rfl, rfl⟩
theorem fp_R_28 : ev_FP RR 28 2 7 (.array .int) true := ⟨RR, TR, 8, cf_R, by decide, wf_R_28, tR_ok 7 (by decide), rfl, rfl⟩
theorem fp_R_34 : ev_FP RR 34 2 4 (.int) false := ⟨RR, TR, 8, cf_R, by decide, wf_R_34, tR_ok 4 (by decide), rfl, rfl⟩
theorem fp_R_42 : ev_FP RR 42 2 5 (.int) false := ⟨RR, TR, 8, cf_R, by decide, wf_R_42, tR_ok 5 (by decide), rfl, rfl⟩
theorem fp_M_7 : ev_FP RM 7 4 1 (.int) false := ⟨RM, TM, 22, cf_M, by decide, wf_M_7, tM_ok 1 (by decide), rfl, rfl⟩
theorem fp_M_13 : ev_FP RM 13 4 3 (.array .int) true := ⟨RM, TM, 22, cf_M, by decide, wf_M_13, tM_ok 3 (by decide), rfl, rfl⟩
theorem fp_M_17 : ev_FP RM 17 4 4 (.array .int) true := ⟨RM, TM, 22, cf_M, by decide, wf_M_17, tM_ok 4 (by decide), rfl, rfl⟩
theorem fp_M_20 : ev_FP RM 20 4 6 (.array .int) true := ⟨RM, TM, 22, cf_M, by decide, wf_M_20, tM_ok 6 (by decide), rfl, rfl⟩
theorem fp_M_23 : ev_FP RM 23 4 8 (.array .int) true := ⟨RM, TM, 22, cf_M, by decide, wf_M_23, tM_ok 8 (by decide), rfl, rfl⟩
theorem fp_M_26 : ev_FP RM 26 4 9 (.array .int) true := ⟨RM, TM, 22, cf_M, by decide, wf_M_26, tM_ok 9 (by decide), rfl, rfl⟩
theorem fp_M_29 : ev_FP RM 29 4 10 (.array .int) true := ⟨RM, TM, 22, cf_M, by decide, wf_M_29, tM_ok 10 (by decide), rfl, rfl⟩
theorem fp_M_32 : ev_FP RM 32 4 11 (.array .int) true := ⟨RM, TM, 22, cf_M, by decide, wf_M_32, tM_ok 11 (by decide), rfl, rfl⟩
theorem fp_M_35 : ev_FP RM 35 4 12 (.array .int) true := ⟨RM, TM, 22, cf_M, by decide, wf_M_35, tM_ok 12 (by decide), rfl, rfl⟩
theorem fp_M_38 : ev_FP RM 38 4 13 (.array .int) true := ⟨RM, TM, 22, cf_M, by decide, wf_M_38, tM_ok 13 (by decide), rfl, rfl⟩
theorem fp_M_41 : ev_FP RM 41 4 15 (.array .int) true := ⟨RM, TM, 22, cf_M, by decide, wf_M_41, tM_ok 15 (by decide), rfl, rfl⟩
theorem fp_M_44 : ev_FP RM 44 4 16 (.array .int) true := ⟨RM, TM, 22, cf_M, by decide, wf_M_44, tM_ok 16 (by decide), rfl, rfl⟩
theorem fp_M_47 : ev_FP RM 47 4 17 (.array .int) true := ⟨RM, TM, 22, cf_M, by decide, wf_M_47, tM_ok 17 (by decide), rfl, rfl⟩
theorem fp_M_50 : ev_FP RM 50 4 19 (.array .int) true := ⟨RM, TM, 22, cf_M, by decide, wf_M_50, tM_ok 19 (by decide), rfl, rfl⟩
theorem fp_M_53 : ev_FP RM 53 4 20 (.array .int) true := ⟨RM, TM, 22, cf_M, by decide, wf_M_53, tM_ok 20 (by decide), rfl, rfl⟩
theorem fp_M_56 : ev_FP RM 56 4 0 (.int) false := ⟨RM, TM, 22, cf_M, by decide, wf_M_56, tM_ok 0 (by decide), rfl, rfl⟩
theorem fp_M_63 : ev_FP RM 63 4 5 (.int) false := ⟨RM, TM, 22, cf_M, by decide, wf_M_63, tM_ok 5 (by decide), rfl, rfl⟩
theorem fp_M_66 : ev_FP RM 66 4 2 (.boolean) false := ⟨RM, TM, 22, cf_M, by decide, wf_M_66, tM_ok 2 (by decide), rfl, rfl⟩
theorem fp_M_78 : ev_FP RM 78 4 7 (.int) false := ⟨RM, TM, 22, cf_M, by decide, wf_M_78, tM_ok 7 (by decide), rfl, rfl⟩
theorem fp_M_104 : ev_FP RM 104 4 18 (.int) false := ⟨RM, TM, 22, cf_M, by decide, wf_M_104, tM_ok 18 (by decide), rfl, rfl⟩
theorem fp_M_107 : ev_FP RM 107 4 21 (.int) false := ⟨RM, TM, 22, cf_M, by decide, wf_M_107, tM_ok 21 (by decide), rfl, rfl⟩
theorem fp_M_155 : ev_FP RM 155 4 14 (.int) false := ⟨RM, TM, 22, cf_M, by decide, wf_M_155, tM_ok 14 (by decide), rfl, rfl⟩
theorem ci_F_11 : ev_CI RF 11 mP_init 0 := ⟨⟨Or.inl wm_F_11, wi_P, wc_P_init, ⟨by decide +kernel, by decide +kernel⟩, by decide⟩, wv_P_init, by decide +kernel⟩
theorem ci_F_18 : ev_CI RF 18 mR_init 1 := ⟨⟨Or.inl wm_F_18, wi_R, wc_R_init, ⟨by decide +kernel, by decide +kernel⟩, by decide⟩, wv_R_init, by decide +kernel⟩
theorem ci_F_27 : ev_CI RF 27 mO_init 1 := ⟨⟨Or.inl wm_F_27, wi_O, wc_O_init, ⟨by decide +kernel, by decide +kernel⟩, by decide⟩, wv_O_init, by decide +kernel⟩
theorem ci_L_43 : ev_CI RL 43 mF_init 0 := ⟨⟨Or.inl wm_L_43, wi_F, wc_F_init, ⟨by decide +kernel, by decide +kernel⟩, by decide⟩, wv_F_init, by decide +kernel⟩
theorem ci_L_46 : ev_CI RL 46 mM_init 0 := ⟨⟨Or.inl wm_L_46, wi_M, wc_M_init, ⟨by decide +kernel, by decide +kernel⟩, by decide⟩, wv_M_init, by decide +kernel⟩
theorem cs_F_159 : ev_CS RF 159 mO_isAbove 3 := ⟨⟨Or.inl wm_F_159, wi_O, wc_O_isAbove, ⟨by decide +kernel, by decide +kernel⟩, by decide⟩, ws_O_isAbove, by decide +kernel⟩
theorem cs_F_173 : ev_CS RF 173 mJL_bitCount 1 := ⟨⟨Or.inl wm_F_173, wi_JL, wc_JL_bitCount, ⟨by decide +kernel, by decide +kernel⟩, by decide⟩, ws_JL_bitCount, by decide +kernel⟩
theorem cs_F_183 : ev_CS RF 183 mF_takesNumber 1 := ⟨⟨Or.inl wm_F_183, wi_F, wc_F_takesNumber, ⟨by decide +kernel, by decide +kernel⟩, by decide⟩, ws_F_takesNumber, by decide +kernel⟩
theorem cs_F_192 : ev_CS RF 192 mF_markOf 1 := ⟨⟨Or.inl wm_F_192, wi_F, wc_F_markOf, ⟨by decide +kernel, by decide +kernel⟩, by decide⟩, ws_F_markOf, by decide +kernel⟩
theorem cs_F_195 : ev_CS RF 195 mF_isDigit 1 := ⟨⟨Or.inl wm_F_195, wi_F, wc_F_isDigit, ⟨by decide +kernel, by decide +kernel⟩, by decide⟩, ws_F_isDigit, by decide +kernel⟩
theorem cs_O_48 : ev_CS RO 48 mO_bit 2 := ⟨⟨Or.inl wm_O_48, wi_O, wc_O_bit, ⟨by decide +kernel, by decide +kernel⟩, by decide⟩, ws_O_bit, by decide +kernel⟩
theorem cs_O_65 : ev_CS RO 65 mJA_copyOf 2 := ⟨⟨Or.inl wm_O_65, wi_JA, wc_JA_copyOf, ⟨by decide +kernel, by decide +kernel⟩, by decide⟩, ws_JA_copyOf, by decide +kernel⟩
theorem cs_O_75 : ev_CS RO 75 mO_isAbove 3 := ⟨⟨Or.inl wm_O_75, wi_O, wc_O_isAbove, ⟨by decide +kernel, by decide +kernel⟩, by decide⟩, ws_O_isAbove, by decide +kernel⟩
theorem cs_O_91 : ev_CS RO 91 mO_isBetween 4 := ⟨⟨Or.inl wm_O_91, wi_O, wc_O_isBetween, ⟨by decide +kernel, by decide +kernel⟩, by decide⟩, ws_O_isBetween, by decide +kernel⟩
theorem cs_P_60 : ev_CS RP 60 mP_direction 1 := ⟨⟨Or.inl wm_P_60, wi_P, wc_P_direction, ⟨by decide +kernel, by decide +kernel⟩, by decide⟩, ws_P_direction, by decide +kernel⟩
theorem cs_M_175 : ev_CS RM 175 mM_isDigit 1 := ⟨⟨Or.inl wm_M_175, wi_M, wc_M_isDigit, ⟨by decide +kernel, by decide +kernel⟩, by decide⟩, ws_M_isDigit, by decide +kernel⟩
theorem cv_F_40 : ev_CV RF 40 mF_tryStrip 1 0 := ⟨⟨⟨Or.inl wm_F_40, wi_F, wc_F_tryStrip, ⟨by decide +kernel, by decide +kernel⟩, by decide⟩, wv_F_tryStrip, by decide +kernel⟩, wx_F_tryStrip, rfl⟩
theorem cv_F_51 : ev_CV RF 51 mF_tryCrease 2 0 := ⟨⟨⟨Or.inl wm_F_51, wi_F, wc_F_tryCrease, ⟨by decide +kernel, by decide +kernel⟩, by decide⟩, wv_F_tryCrease, by decide +kernel⟩, wx_F_tryCrease, rfl⟩
theorem cv_F_65 : ev_CV RF 65 mP_turnOver 0 1 := ⟨⟨⟨Or.inl wm_F_65, wi_P, wc_P_turnOver, ⟨by decide +kernel, by decide +kernel⟩, by decide⟩, wv_P_turnOver, by decide +kernel⟩, wx_P_turnOver, rfl⟩
theorem cv_F_68 : ev_CV RF 68 mO_forget 0 3 := ⟨⟨⟨Or.inl wm_F_68, wi_O, wc_O_forget, ⟨by decide +kernel, by decide +kernel⟩, by decide⟩, wv_O_forget, by decide +kernel⟩, wx_O_forget, rfl⟩
theorem cv_F_78 : ev_CV RF 78 mP_freeCreases 0 1 := ⟨⟨⟨Or.inl wm_F_78, wi_P, wc_P_freeCreases, ⟨by decide +kernel, by decide +kernel⟩, by decide⟩, wv_P_freeCreases, by decide +kernel⟩, wx_P_freeCreases, rfl⟩
theorem cv_F_82 : ev_CV RF 82 mP_hasSegment 1 1 := ⟨⟨⟨Or.inl wm_F_82, wi_P, wc_P_hasSegment, ⟨by decide +kernel, by decide +kernel⟩, by decide⟩, wv_P_hasSegment, by decide +kernel⟩, wx_P_hasSegment, rfl⟩
theorem cv_F_91 : ev_CV RF 91 mP_leftEnd 1 1 := ⟨⟨⟨Or.inl wm_F_91, wi_P, wc_P_leftEnd, ⟨by decide +kernel, by decide +kernel⟩, by decide⟩, wv_P_leftEnd, by decide +kernel⟩, wx_P_leftEnd, rfl⟩
theorem cv_F_94 : ev_CV RF 94 mP_rightEnd 1 1 := ⟨⟨⟨Or.inl wm_F_94, wi_P, wc_P_rightEnd, ⟨by decide +kernel, by decide +kernel⟩, by decide⟩, wv_P_rightEnd, by decide +kernel⟩, wx_P_rightEnd, rfl⟩
theorem cv_F_103 : ev_CV RF 103 mP_frontUp 1 1 := ⟨⟨⟨Or.inl wm_F_103, wi_P, wc_P_frontUp, ⟨by decide +kernel, by decide +kernel⟩, by decide⟩, wv_P_frontUp, by decide +kernel⟩, wx_P_frontUp, rfl⟩
theorem cv_F_113 : ev_CV RF 113 mP_foldedPlace 1 1 := ⟨⟨⟨Or.inl wm_F_113, wi_P, wc_P_foldedPlace, ⟨by decide +kernel, by decide +kernel⟩, by decide⟩, wv_P_foldedPlace, by decide +kernel⟩, wx_P_foldedPlace, rfl⟩
theorem cv_F_116 : ev_CV RF 116 mP_reach 0 1 := ⟨⟨⟨Or.inl wm_F_116, wi_P, wc_P_reach, ⟨by decide +kernel, by decide +kernel⟩, by decide⟩, wv_P_reach, by decide +kernel⟩, wx_P_reach, rfl⟩
theorem cv_F_119 : ev_CV RF 119 mP_mostImages 0 1 := ⟨⟨⟨Or.inl wm_F_119, wi_P, wc_P_mostImages, ⟨by decide +kernel, by decide +kernel⟩, by decide⟩, wv_P_mostImages, by decide +kernel⟩, wx_P_mostImages, rfl⟩
theorem cv_F_122 : ev_CV RF 122 mR_reduce 0 2 := ⟨⟨⟨Or.inl wm_F_122, wi_R, wc_R_reduce, ⟨by decide +kernel, by decide +kernel⟩, by decide⟩, wv_R_reduce, by decide +kernel⟩, wx_R_reduce, rfl⟩
theorem cv_F_131 : ev_CV RF 131 mF_steps 0 0 := ⟨⟨⟨Or.inl wm_F_131, wi_F, wc_F_steps, ⟨by decide +kernel, by decide +kernel⟩, by decide⟩, wv_F_steps, by decide +kernel⟩, wx_F_steps, rfl⟩
theorem cv_F_144 : ev_CV RF 144 mO_findAll 0 3 := ⟨⟨⟨Or.inl wm_F_144, wi_O, wc_O_findAll, ⟨by decide +kernel, by decide +kernel⟩, by decide⟩, wv_O_findAll, by decide +kernel⟩, wx_O_findAll, rfl⟩
theorem cv_F_152 : ev_CV RF 152 mP_overlap 2 1 := ⟨⟨⟨Or.inl wm_F_152, wi_P, wc_P_overlap, ⟨by decide +kernel, by decide +kernel⟩, by decide⟩, wv_P_overlap, by decide +kernel⟩, wx_P_overlap, rfl⟩
theorem cv_F_165 : ev_CV RF 165 mO_segmentAt 3 3 := ⟨⟨⟨Or.inl wm_F_165, wi_O, wc_O_segmentAt, ⟨by decide +kernel, by decide +kernel⟩, by decide⟩, wv_O_segmentAt, by decide +kernel⟩, wx_O_segmentAt, rfl⟩
theorem cv_F_186 : ev_CV RF 186 mF_digitsFrom 2 0 := ⟨⟨⟨Or.inl wm_F_186, wi_F, wc_F_digitsFrom, ⟨by decide +kernel, by decide +kernel⟩, by decide⟩, wv_F_digitsFrom, by decide +kernel⟩, wx_F_digitsFrom, rfl⟩
theorem cv_F_189 : ev_CV RF 189 mF_operate 3 0 := ⟨⟨⟨Or.inl wm_F_189, wi_F, wc_F_operate, ⟨by decide +kernel, by decide +kernel⟩, by decide⟩, wv_F_operate, by decide +kernel⟩, wx_F_operate, rfl⟩
theorem cv_F_198 : ev_CV RF 198 mF_turn 0 0 := ⟨⟨⟨Or.inl wm_F_198, wi_F, wc_F_turn, ⟨by decide +kernel, by decide +kernel⟩, by decide⟩, wv_F_turn, by decide +kernel⟩, wx_F_turn, rfl⟩
theorem cv_F_202 : ev_CV RF 202 mF_numberAt 2 0 := ⟨⟨⟨Or.inl wm_F_202, wi_F, wc_F_numberAt, ⟨by decide +kernel, by decide +kernel⟩, by decide⟩, wv_F_numberAt, by decide +kernel⟩, wx_F_numberAt, rfl⟩
theorem cv_F_205 : ev_CV RF 205 mP_renew 1 1 := ⟨⟨⟨Or.inl wm_F_205, wi_P, wc_P_renew, ⟨by decide +kernel, by decide +kernel⟩, by decide⟩, wv_P_renew, by decide +kernel⟩, wx_P_renew, rfl⟩
theorem cv_F_209 : ev_CV RF 209 mP_judgeCrease 2 1 := ⟨⟨⟨Or.inl wm_F_209, wi_P, wc_P_judgeCrease, ⟨by decide +kernel, by decide +kernel⟩, by decide⟩, wv_P_judgeCrease, by decide +kernel⟩, wx_P_judgeCrease, rfl⟩
theorem cv_F_212 : ev_CV RF 212 mP_setCrease 2 1 := ⟨⟨⟨Or.inl wm_F_212, wi_P, wc_P_setCrease, ⟨by decide +kernel, by decide +kernel⟩, by decide⟩, wv_P_setCrease, by decide +kernel⟩, wx_P_setCrease, rfl⟩
theorem cv_O_31 : ev_CV RO 31 mO_decide 3 3 := ⟨⟨⟨Or.inl wm_O_31, wi_O, wc_O_decide, ⟨by decide +kernel, by decide +kernel⟩, by decide⟩, wv_O_decide, by decide +kernel⟩, wx_O_decide, rfl⟩
theorem cv_O_40 : ev_CV RO 40 mO_keep 1 3 := ⟨⟨⟨Or.inl wm_O_40, wi_O, wc_O_keep, ⟨by decide +kernel, by decide +kernel⟩, by decide⟩, wv_O_keep, by decide +kernel⟩, wx_O_keep, rfl⟩
theorem cv_O_44 : ev_CV RO 44 mP_overlap 2 1 := ⟨⟨⟨Or.inl wm_O_44, wi_P, wc_P_overlap, ⟨by decide +kernel, by decide +kernel⟩, by decide⟩, wv_P_overlap, by decide +kernel⟩, wx_P_overlap, rfl⟩
theorem cv_O_52 : ev_CV RO 52 mO_keepsMark 3 3 := ⟨⟨⟨Or.inl wm_O_52, wi_O, wc_O_keepsMark, ⟨by decide +kernel, by decide +kernel⟩, by decide⟩, wv_O_keepsMark, by decide +kernel⟩, wx_O_keepsMark, rfl⟩
theorem cv_O_56 : ev_CV RO 56 mO_makesNoRound 3 3 := ⟨⟨⟨Or.inl wm_O_56, wi_O, wc_O_makesNoRound, ⟨by decide +kernel, by decide +kernel⟩, by decide⟩, wv_O_makesNoRound, by decide +kernel⟩, wx_O_makesNoRound, rfl⟩
theorem cv_O_59 : ev_CV RO 59 mO_crossesNoCrease 3 3 := ⟨⟨⟨Or.inl wm_O_59, wi_O, wc_O_crossesNoCrease, ⟨by decide +kernel, by decide +kernel⟩, by decide⟩, wv_O_crossesNoCrease, by decide +kernel⟩, wx_O_crossesNoCrease, rfl⟩
theorem cv_O_62 : ev_CV RO 62 mO_creasesNest 3 3 := ⟨⟨⟨Or.inl wm_O_62, wi_O, wc_O_creasesNest, ⟨by decide +kernel, by decide +kernel⟩, by decide⟩, wv_O_creasesNest, by decide +kernel⟩, wx_O_creasesNest, rfl⟩
theorem cv_O_71 : ev_CV RO 71 mO_markingOf 1 3 := ⟨⟨⟨Or.inl wm_O_71, wi_O, wc_O_markingOf, ⟨by decide +kernel, by decide +kernel⟩, by decide⟩, wv_O_markingOf, by decide +kernel⟩, wx_O_markingOf, rfl⟩
theorem cv_O_81 : ev_CV RO 81 mP_frontUp 1 1 := ⟨⟨⟨Or.inl wm_O_81, wi_P, wc_P_frontUp, ⟨by decide +kernel, by decide +kernel⟩, by decide⟩, wv_P_frontUp, by decide +kernel⟩, wx_P_frontUp, rfl⟩
theorem cv_O_85 : ev_CV RO 85 mP_foldedCrease 1 1 := ⟨⟨⟨Or.inl wm_O_85, wi_P, wc_P_foldedCrease, ⟨by decide +kernel, by decide +kernel⟩, by decide⟩, wv_P_foldedCrease, by decide +kernel⟩, wx_P_foldedCrease, rfl⟩
theorem cv_O_88 : ev_CV RO 88 mP_hasInside 2 1 := ⟨⟨⟨Or.inl wm_O_88, wi_P, wc_P_hasInside, ⟨by decide +kernel, by decide +kernel⟩, by decide⟩, wv_P_hasInside, by decide +kernel⟩, wx_P_hasInside, rfl⟩
theorem cv_O_95 : ev_CV RO 95 mP_liesOver 2 1 := ⟨⟨⟨Or.inl wm_O_95, wi_P, wc_P_liesOver, ⟨by decide +kernel, by decide +kernel⟩, by decide⟩, wv_P_liesOver, by decide +kernel⟩, wx_P_liesOver, rfl⟩
theorem cv_O_98 : ev_CV RO 98 mO_below 3 3 := ⟨⟨⟨Or.inl wm_O_98, wi_O, wc_O_below, ⟨by decide +kernel, by decide +kernel⟩, by decide⟩, wv_O_below, by decide +kernel⟩, wx_O_below, rfl⟩
theorem cv_P_27 : ev_CV RP 27 mP_renew 1 1 := ⟨⟨⟨Or.inl wm_P_27, wi_P, wc_P_renew, ⟨by decide +kernel, by decide +kernel⟩, by decide⟩, wv_P_renew, by decide +kernel⟩, wx_P_renew, rfl⟩
theorem cv_P_42 : ev_CV RP 42 mP_fold 0 1 := ⟨⟨⟨Or.inl wm_P_42, wi_P, wc_P_fold, ⟨by decide +kernel, by decide +kernel⟩, by decide⟩, wv_P_fold, by decide +kernel⟩, wx_P_fold, rfl⟩
theorem cv_P_45 : ev_CV RP 45 mP_hasCreaseAt 1 1 := ⟨⟨⟨Or.inl wm_P_45, wi_P, wc_P_hasCreaseAt, ⟨by decide +kernel, by decide +kernel⟩, by decide⟩, wv_P_hasCreaseAt, by decide +kernel⟩, wx_P_hasCreaseAt, rfl⟩
theorem cv_P_49 : ev_CV RP 49 mP_creasesBefore 1 1 := ⟨⟨⟨Or.inl wm_P_49, wi_P, wc_P_creasesBefore, ⟨by decide +kernel, by decide +kernel⟩, by decide⟩, wv_P_creasesBefore, by decide +kernel⟩, wx_P_creasesBefore, rfl⟩
theorem cv_P_53 : ev_CV RP 53 mP_removeCrease 1 1 := ⟨⟨⟨Or.inl wm_P_53, wi_P, wc_P_removeCrease, ⟨by decide +kernel, by decide +kernel⟩, by decide⟩, wv_P_removeCrease, by decide +kernel⟩, wx_P_removeCrease, rfl⟩
theorem cv_P_56 : ev_CV RP 56 mP_insertCrease 3 1 := ⟨⟨⟨Or.inl wm_P_56, wi_P, wc_P_insertCrease, ⟨by decide +kernel, by decide +kernel⟩, by decide⟩, wv_P_insertCrease, by decide +kernel⟩, wx_P_insertCrease, rfl⟩
theorem cv_P_63 : ev_CV RP 63 mP_segmentLength 1 1 := ⟨⟨⟨Or.inl wm_P_63, wi_P, wc_P_segmentLength, ⟨by decide +kernel, by decide +kernel⟩, by decide⟩, wv_P_segmentLength, by decide +kernel⟩, wx_P_segmentLength, rfl⟩
theorem cv_P_75 : ev_CV RP 75 mP_rightEnd 1 1 := ⟨⟨⟨Or.inl wm_P_75, wi_P, wc_P_rightEnd, ⟨by decide +kernel, by decide +kernel⟩, by decide⟩, wv_P_rightEnd, by decide +kernel⟩, wx_P_rightEnd, rfl⟩
theorem cv_P_78 : ev_CV RP 78 mP_leftEnd 1 1 := ⟨⟨⟨Or.inl wm_P_78, wi_P, wc_P_leftEnd, ⟨by decide +kernel, by decide +kernel⟩, by decide⟩, wv_P_leftEnd, by decide +kernel⟩, wx_P_leftEnd, rfl⟩
theorem cv_P_81 : ev_CV RP 81 mP_segments 0 1 := ⟨⟨⟨Or.inl wm_P_81, wi_P, wc_P_segments, ⟨by decide +kernel, by decide +kernel⟩, by decide⟩, wv_P_segments, by decide +kernel⟩, wx_P_segments, rfl⟩
theorem cv_P_85 : ev_CV RP 85 mP_imagesOver 1 1 := ⟨⟨⟨Or.inl wm_P_85, wi_P, wc_P_imagesOver, ⟨by decide +kernel, by decide +kernel⟩, by decide⟩, wv_P_imagesOver, by decide +kernel⟩, wx_P_imagesOver, rfl⟩
theorem cv_P_88 : ev_CV RP 88 mP_liesOver 2 1 := ⟨⟨⟨Or.inl wm_P_88, wi_P, wc_P_liesOver, ⟨by decide +kernel, by decide +kernel⟩, by decide⟩, wv_P_liesOver, by decide +kernel⟩, wx_P_liesOver, rfl⟩
theorem cv_R_31 : ev_CV RR 31 mR_copyPattern 0 2 := ⟨⟨⟨Or.inl wm_R_31, wi_R, wc_R_copyPattern, ⟨by decide +kernel, by decide +kernel⟩, by decide⟩, wv_R_copyPattern, by decide +kernel⟩, wx_R_copyPattern, rfl⟩
theorem cv_R_38 : ev_CV RR 38 mR_reduceOnce 0 2 := ⟨⟨⟨Or.inl wm_R_38, wi_R, wc_R_reduceOnce, ⟨by decide +kernel, by decide +kernel⟩, by decide⟩, wv_R_reduceOnce, by decide +kernel⟩, wx_R_reduceOnce, rfl⟩
theorem cv_R_45 : ev_CV RR 45 mP_segments 0 1 := ⟨⟨⟨Or.inl wm_R_45, wi_P, wc_P_segments, ⟨by decide +kernel, by decide +kernel⟩, by decide⟩, wv_P_segments, by decide +kernel⟩, wx_P_segments, rfl⟩
theorem cv_R_51 : ev_CV RR 51 mP_segmentLength 1 1 := ⟨⟨⟨Or.inl wm_R_51, wi_P, wc_P_segmentLength, ⟨by decide +kernel, by decide +kernel⟩, by decide⟩, wv_P_segmentLength, by decide +kernel⟩, wx_P_segmentLength, rfl⟩
theorem cv_R_62 : ev_CV RR 62 mR_note 2 2 := ⟨⟨⟨Or.inl wm_R_62, wi_R, wc_R_note, ⟨by decide +kernel, by decide +kernel⟩, by decide⟩, wv_R_note, by decide +kernel⟩, wx_R_note, rfl⟩
theorem cv_R_66 : ev_CV RR 66 mR_removeLengths 2 2 := ⟨⟨⟨Or.inl wm_R_66, wi_R, wc_R_removeLengths, ⟨by decide +kernel, by decide +kernel⟩, by decide⟩, wv_R_removeLengths, by decide +kernel⟩, wx_R_removeLengths, rfl⟩
theorem cv_R_69 : ev_CV RR 69 mR_removeCreases 2 2 := ⟨⟨⟨Or.inl wm_R_69, wi_R, wc_R_removeCreases, ⟨by decide +kernel, by decide +kernel⟩, by decide⟩, wv_R_removeCreases, by decide +kernel⟩, wx_R_removeCreases, rfl⟩
theorem cv_R_72 : ev_CV RR 72 mR_leftmostPleat 0 2 := ⟨⟨⟨Or.inl wm_R_72, wi_R, wc_R_leftmostPleat, ⟨by decide +kernel, by decide +kernel⟩, by decide⟩, wv_R_leftmostPleat, by decide +kernel⟩, wx_R_leftmostPleat, rfl⟩
theorem cv_R_75 : ev_CV RR 75 mR_flatten 1 2 := ⟨⟨⟨Or.inl wm_R_75, wi_R, wc_R_flatten, ⟨by decide +kernel, by decide +kernel⟩, by decide⟩, wv_R_flatten, by decide +kernel⟩, wx_R_flatten, rfl⟩
theorem cv_L_7 : ev_CV RL 7 mF_strip 1 0 := ⟨⟨⟨Or.inl wm_L_7, wi_F, wc_F_strip, ⟨by decide +kernel, by decide +kernel⟩, by decide⟩, wv_F_strip, by decide +kernel⟩, wx_F_strip, rfl⟩
theorem cv_L_15 : ev_CV RL 15 mF_crease 2 0 := ⟨⟨⟨Or.inl wm_L_15, wi_F, wc_F_crease, ⟨by decide +kernel, by decide +kernel⟩, by decide⟩, wv_F_crease, by decide +kernel⟩, wx_F_crease, rfl⟩
theorem cv_L_21 : ev_CV RL 21 mF_segment 2 0 := ⟨⟨⟨Or.inl wm_L_21, wi_F, wc_F_segment, ⟨by decide +kernel, by decide +kernel⟩, by decide⟩, wv_F_segment, by decide +kernel⟩, wx_F_segment, rfl⟩
theorem cv_L_26 : ev_CV RL 26 mF_whereIs 1 0 := ⟨⟨⟨Or.inl wm_L_26, wi_F, wc_F_whereIs, ⟨by decide +kernel, by decide +kernel⟩, by decide⟩, wv_F_whereIs, by decide +kernel⟩, wx_F_whereIs, rfl⟩
theorem cv_L_30 : ev_CV RL 30 mF_step 2 0 := ⟨⟨⟨Or.inl wm_L_30, wi_F, wc_F_step, ⟨by decide +kernel, by decide +kernel⟩, by decide⟩, wv_F_step, by decide +kernel⟩, wx_F_step, rfl⟩
theorem cv_L_33 : ev_CV RL 33 mF_above 3 0 := ⟨⟨⟨Or.inl wm_L_33, wi_F, wc_F_above, ⟨by decide +kernel, by decide +kernel⟩, by decide⟩, wv_F_above, by decide +kernel⟩, wx_F_above, rfl⟩
theorem cv_L_37 : ev_CV RL 37 mF_layer 3 0 := ⟨⟨⟨Or.inl wm_L_37, wi_F, wc_F_layer, ⟨by decide +kernel, by decide +kernel⟩, by decide⟩, wv_F_layer, by decide +kernel⟩, wx_F_layer, rfl⟩
theorem cv_L_40 : ev_CV RL 40 mF_type 1 0 := ⟨⟨⟨Or.inl wm_L_40, wi_F, wc_F_type, ⟨by decide +kernel, by decide +kernel⟩, by decide⟩, wv_F_type, by decide +kernel⟩, wx_F_type, rfl⟩
theorem cv_L_52 : ev_CV RL 52 mM_strip 1 4 := ⟨⟨⟨Or.inl wm_L_52, wi_M, wc_M_strip, ⟨by decide +kernel, by decide +kernel⟩, by decide⟩, wv_M_strip, by decide +kernel⟩, wx_M_strip, rfl⟩
theorem cv_L_53 : ev_CV RL 53 mM_thrown 0 4 := ⟨⟨⟨Or.inl wm_L_53, wi_M, wc_M_thrown, ⟨by decide +kernel, by decide +kernel⟩, by decide⟩, wv_M_thrown, by decide +kernel⟩, wx_M_thrown, rfl⟩
theorem cv_L_60 : ev_CV RL 60 mM_crease 2 4 := ⟨⟨⟨Or.inl wm_L_60, wi_M, wc_M_crease, ⟨by decide +kernel, by decide +kernel⟩, by decide⟩, wv_M_crease, by decide +kernel⟩, wx_M_crease, rfl⟩
theorem cv_L_61 : ev_CV RL 61 mF_turn 0 0 := ⟨⟨⟨Or.inl wm_L_61, wi_F, wc_F_turn, ⟨by decide +kernel, by decide +kernel⟩, by decide⟩, wv_F_turn, by decide +kernel⟩, wx_F_turn, rfl⟩
theorem cv_L_65 : ev_CV RL 65 mM_turn 0 4 := ⟨⟨⟨Or.inl wm_L_65, wi_M, wc_M_turn, ⟨by decide +kernel, by decide +kernel⟩, by decide⟩, wv_M_turn, by decide +kernel⟩, wx_M_turn, rfl⟩
theorem cv_L_66 : ev_CV RL 66 mF_count 1 0 := ⟨⟨⟨Or.inl wm_L_66, wi_F, wc_F_count, ⟨by decide +kernel, by decide +kernel⟩, by decide⟩, wv_F_count, by decide +kernel⟩, wx_F_count, rfl⟩
theorem cv_L_69 : ev_CV RL 69 mM_count 1 4 := ⟨⟨⟨Or.inl wm_L_69, wi_M, wc_M_count, ⟨by decide +kernel, by decide +kernel⟩, by decide⟩, wv_M_count, by decide +kernel⟩, wx_M_count, rfl⟩
theorem cv_L_72 : ev_CV RL 72 mM_segment 2 4 := ⟨⟨⟨Or.inl wm_L_72, wi_M, wc_M_segment, ⟨by decide +kernel, by decide +kernel⟩, by decide⟩, wv_M_segment, by decide +kernel⟩, wx_M_segment, rfl⟩
theorem cv_L_76 : ev_CV RL 76 mM_whereIs 1 4 := ⟨⟨⟨Or.inl wm_L_76, wi_M, wc_M_whereIs, ⟨by decide +kernel, by decide +kernel⟩, by decide⟩, wv_M_whereIs, by decide +kernel⟩, wx_M_whereIs, rfl⟩
theorem cv_L_77 : ev_CV RL 77 mF_width 0 0 := ⟨⟨⟨Or.inl wm_L_77, wi_F, wc_F_width, ⟨by decide +kernel, by decide +kernel⟩, by decide⟩, wv_F_width, by decide +kernel⟩, wx_F_width, rfl⟩
theorem cv_L_80 : ev_CV RL 80 mM_width 0 4 := ⟨⟨⟨Or.inl wm_L_80, wi_M, wc_M_width, ⟨by decide +kernel, by decide +kernel⟩, by decide⟩, wv_M_width, by decide +kernel⟩, wx_M_width, rfl⟩
theorem cv_L_81 : ev_CV RL 81 mF_thickness 0 0 := ⟨⟨⟨Or.inl wm_L_81, wi_F, wc_F_thickness, ⟨by decide +kernel, by decide +kernel⟩, by decide⟩, wv_F_thickness, by decide +kernel⟩, wx_F_thickness, rfl⟩
theorem cv_L_84 : ev_CV RL 84 mM_thickness 0 4 := ⟨⟨⟨Or.inl wm_L_84, wi_M, wc_M_thickness, ⟨by decide +kernel, by decide +kernel⟩, by decide⟩, wv_M_thickness, by decide +kernel⟩, wx_M_thickness, rfl⟩
theorem cv_L_85 : ev_CV RL 85 mF_foldable 0 0 := ⟨⟨⟨Or.inl wm_L_85, wi_F, wc_F_foldable, ⟨by decide +kernel, by decide +kernel⟩, by decide⟩, wv_F_foldable, by decide +kernel⟩, wx_F_foldable, rfl⟩
theorem cv_L_88 : ev_CV RL 88 mM_foldable 0 4 := ⟨⟨⟨Or.inl wm_L_88, wi_M, wc_M_foldable, ⟨by decide +kernel, by decide +kernel⟩, by decide⟩, wv_M_foldable, by decide +kernel⟩, wx_M_foldable, rfl⟩
theorem cv_L_89 : ev_CV RL 89 mF_steps 0 0 := ⟨⟨⟨Or.inl wm_L_89, wi_F, wc_F_steps, ⟨by decide +kernel, by decide +kernel⟩, by decide⟩, wv_F_steps, by decide +kernel⟩, wx_F_steps, rfl⟩
theorem cv_L_92 : ev_CV RL 92 mM_steps 0 4 := ⟨⟨⟨Or.inl wm_L_92, wi_M, wc_M_steps, ⟨by decide +kernel, by decide +kernel⟩, by decide⟩, wv_M_steps, by decide +kernel⟩, wx_M_steps, rfl⟩
theorem cv_L_95 : ev_CV RL 95 mM_step 2 4 := ⟨⟨⟨Or.inl wm_L_95, wi_M, wc_M_step, ⟨by decide +kernel, by decide +kernel⟩, by decide⟩, wv_M_step, by decide +kernel⟩, wx_M_step, rfl⟩
theorem cv_L_96 : ev_CV RL 96 mF_orders 0 0 := ⟨⟨⟨Or.inl wm_L_96, wi_F, wc_F_orders, ⟨by decide +kernel, by decide +kernel⟩, by decide⟩, wv_F_orders, by decide +kernel⟩, wx_F_orders, rfl⟩
theorem cv_L_99 : ev_CV RL 99 mM_orders 0 4 := ⟨⟨⟨Or.inl wm_L_99, wi_M, wc_M_orders, ⟨by decide +kernel, by decide +kernel⟩, by decide⟩, wv_M_orders, by decide +kernel⟩, wx_M_orders, rfl⟩
theorem cv_L_103 : ev_CV RL 103 mM_above 3 4 := ⟨⟨⟨Or.inl wm_L_103, wi_M, wc_M_above, ⟨by decide +kernel, by decide +kernel⟩, by decide⟩, wv_M_above, by decide +kernel⟩, wx_M_above, rfl⟩
theorem cv_L_106 : ev_CV RL 106 mM_layer 3 4 := ⟨⟨⟨Or.inl wm_L_106, wi_M, wc_M_layer, ⟨by decide +kernel, by decide +kernel⟩, by decide⟩, wv_M_layer, by decide +kernel⟩, wx_M_layer, rfl⟩
theorem cv_L_107 : ev_CV RL 107 mF_marks 0 0 := ⟨⟨⟨Or.inl wm_L_107, wi_F, wc_F_marks, ⟨by decide +kernel, by decide +kernel⟩, by decide⟩, wv_F_marks, by decide +kernel⟩, wx_F_marks, rfl⟩
theorem cv_L_110 : ev_CV RL 110 mM_marks 0 4 := ⟨⟨⟨Or.inl wm_L_110, wi_M, wc_M_marks, ⟨by decide +kernel, by decide +kernel⟩, by decide⟩, wv_M_marks, by decide +kernel⟩, wx_M_marks, rfl⟩
theorem cv_L_113 : ev_CV RL 113 mM_type 1 4 := ⟨⟨⟨Or.inl wm_L_113, wi_M, wc_M_type, ⟨by decide +kernel, by decide +kernel⟩, by decide⟩, wv_M_type, by decide +kernel⟩, wx_M_type, rfl⟩
theorem cv_L_114 : ev_CV RL 114 mF_run 0 0 := ⟨⟨⟨Or.inl wm_L_114, wi_F, wc_F_run, ⟨by decide +kernel, by decide +kernel⟩, by decide⟩, wv_F_run, by decide +kernel⟩, wx_F_run, rfl⟩
theorem cv_L_117 : ev_CV RL 117 mM_run 0 4 := ⟨⟨⟨Or.inl wm_L_117, wi_M, wc_M_run, ⟨by decide +kernel, by decide +kernel⟩, by decide⟩, wv_M_run, by decide +kernel⟩, wx_M_run, rfl⟩
theorem cv_M_59 : ev_CV RM 59 mM_refuse 2 4 := ⟨⟨⟨Or.inl wm_M_59, wi_M, wc_M_refuse, ⟨by decide +kernel, by decide +kernel⟩, by decide⟩, wv_M_refuse, by decide +kernel⟩, wx_M_refuse, rfl⟩
theorem cv_M_70 : ev_CV RM 70 mM_before 1 4 := ⟨⟨⟨Or.inl wm_M_70, wi_M, wc_M_before, ⟨by decide +kernel, by decide +kernel⟩, by decide⟩, wv_M_before, by decide +kernel⟩, wx_M_before, rfl⟩
theorem cv_M_74 : ev_CV RM 74 mM_free 0 4 := ⟨⟨⟨Or.inl wm_M_74, wi_M, wc_M_free, ⟨by decide +kernel, by decide +kernel⟩, by decide⟩, wv_M_free, by decide +kernel⟩, wx_M_free, rfl⟩
theorem cv_M_81 : ev_CV RM 81 mM_leftEnd 1 4 := ⟨⟨⟨Or.inl wm_M_81, wi_M, wc_M_leftEnd, ⟨by decide +kernel, by decide +kernel⟩, by decide⟩, wv_M_leftEnd, by decide +kernel⟩, wx_M_leftEnd, rfl⟩
theorem cv_M_84 : ev_CV RM 84 mM_fold 1 4 := ⟨⟨⟨Or.inl wm_M_84, wi_M, wc_M_fold, ⟨by decide +kernel, by decide +kernel⟩, by decide⟩, wv_M_fold, by decide +kernel⟩, wx_M_fold, rfl⟩
theorem cv_M_87 : ev_CV RM 87 mM_rightEnd 1 4 := ⟨⟨⟨Or.inl wm_M_87, wi_M, wc_M_rightEnd, ⟨by decide +kernel, by decide +kernel⟩, by decide⟩, wv_M_rightEnd, by decide +kernel⟩, wx_M_rightEnd, rfl⟩
theorem cv_M_90 : ev_CV RM 90 mM_low 1 4 := ⟨⟨⟨Or.inl wm_M_90, wi_M, wc_M_low, ⟨by decide +kernel, by decide +kernel⟩, by decide⟩, wv_M_low, by decide +kernel⟩, wx_M_low, rfl⟩
theorem cv_M_93 : ev_CV RM 93 mM_high 1 4 := ⟨⟨⟨Or.inl wm_M_93, wi_M, wc_M_high, ⟨by decide +kernel, by decide +kernel⟩, by decide⟩, wv_M_high, by decide +kernel⟩, wx_M_high, rfl⟩
theorem cv_M_96 : ev_CV RM 96 mM_isUp 1 4 := ⟨⟨⟨Or.inl wm_M_96, wi_M, wc_M_isUp, ⟨by decide +kernel, by decide +kernel⟩, by decide⟩, wv_M_isUp, by decide +kernel⟩, wx_M_isUp, rfl⟩
theorem cv_M_100 : ev_CV RM 100 mM_covers 2 4 := ⟨⟨⟨Or.inl wm_M_100, wi_M, wc_M_covers, ⟨by decide +kernel, by decide +kernel⟩, by decide⟩, wv_M_covers, by decide +kernel⟩, wx_M_covers, rfl⟩
theorem cv_M_110 : ev_CV RM 110 mM_middle 0 4 := ⟨⟨⟨Or.inl wm_M_110, wi_M, wc_M_middle, ⟨by decide +kernel, by decide +kernel⟩, by decide⟩, wv_M_middle, by decide +kernel⟩, wx_M_middle, rfl⟩
theorem cv_M_113 : ev_CV RM 113 mM_note 2 4 := ⟨⟨⟨Or.inl wm_M_113, wi_M, wc_M_note, ⟨by decide +kernel, by decide +kernel⟩, by decide⟩, wv_M_note, by decide +kernel⟩, wx_M_note, rfl⟩
theorem cv_M_117 : ev_CV RM 117 mM_drop 1 4 := ⟨⟨⟨Or.inl wm_M_117, wi_M, wc_M_drop, ⟨by decide +kernel, by decide +kernel⟩, by decide⟩, wv_M_drop, by decide +kernel⟩, wx_M_drop, rfl⟩
theorem cv_M_121 : ev_CV RM 121 mM_reduce 0 4 := ⟨⟨⟨Or.inl wm_M_121, wi_M, wc_M_reduce, ⟨by decide +kernel, by decide +kernel⟩, by decide⟩, wv_M_reduce, by decide +kernel⟩, wx_M_reduce, rfl⟩
theorem cv_M_124 : ev_CV RM 124 mM_get 2 4 := ⟨⟨⟨Or.inl wm_M_124, wi_M, wc_M_get, ⟨by decide +kernel, by decide +kernel⟩, by decide⟩, wv_M_get, by decide +kernel⟩, wx_M_get, rfl⟩
theorem cv_M_128 : ev_CV RM 128 mM_between 3 4 := ⟨⟨⟨Or.inl wm_M_128, wi_M, wc_M_between, ⟨by decide +kernel, by decide +kernel⟩, by decide⟩, wv_M_between, by decide +kernel⟩, wx_M_between, rfl⟩
theorem cv_M_132 : ev_CV RM 132 mM_overlap 2 4 := ⟨⟨⟨Or.inl wm_M_132, wi_M, wc_M_overlap, ⟨by decide +kernel, by decide +kernel⟩, by decide⟩, wv_M_overlap, by decide +kernel⟩, wx_M_overlap, rfl⟩
theorem cv_M_135 : ev_CV RM 135 mM_turnsRound 3 4 := ⟨⟨⟨Or.inl wm_M_135, wi_M, wc_M_turnsRound, ⟨by decide +kernel, by decide +kernel⟩, by decide⟩, wv_M_turnsRound, by decide +kernel⟩, wx_M_turnsRound, rfl⟩
theorem cv_M_139 : ev_CV RM 139 mM_isMarked 1 4 := ⟨⟨⟨Or.inl wm_M_139, wi_M, wc_M_isMarked, ⟨by decide +kernel, by decide +kernel⟩, by decide⟩, wv_M_isMarked, by decide +kernel⟩, wx_M_isMarked, rfl⟩
theorem cv_M_142 : ev_CV RM 142 mM_isClear 1 4 := ⟨⟨⟨Or.inl wm_M_142, wi_M, wc_M_isClear, ⟨by decide +kernel, by decide +kernel⟩, by decide⟩, wv_M_isClear, by decide +kernel⟩, wx_M_isClear, rfl⟩
theorem cv_M_145 : ev_CV RM 145 mM_arePeaceful 2 4 := ⟨⟨⟨Or.inl wm_M_145, wi_M, wc_M_arePeaceful, ⟨by decide +kernel, by decide +kernel⟩, by decide⟩, wv_M_arePeaceful, by decide +kernel⟩, wx_M_arePeaceful, rfl⟩
theorem cv_M_148 : ev_CV RM 148 mM_set 3 4 := ⟨⟨⟨Or.inl wm_M_148, wi_M, wc_M_set, ⟨by decide +kernel, by decide +kernel⟩, by decide⟩, wv_M_set, by decide +kernel⟩, wx_M_set, rfl⟩
theorem cv_M_152 : ev_CV RM 152 mM_begin 0 4 := ⟨⟨⟨Or.inl wm_M_152, wi_M, wc_M_begin, ⟨by decide +kernel, by decide +kernel⟩, by decide⟩, wv_M_begin, by decide +kernel⟩, wx_M_begin, rfl⟩
theorem cv_M_158 : ev_CV RM 158 mM_holds 0 4 := ⟨⟨⟨Or.inl wm_M_158, wi_M, wc_M_holds, ⟨by decide +kernel, by decide +kernel⟩, by decide⟩, wv_M_holds, by decide +kernel⟩, wx_M_holds, rfl⟩
theorem cv_M_163 : ev_CV RM 163 mM_look 1 4 := ⟨⟨⟨Or.inl wm_M_163, wi_M, wc_M_look, ⟨by decide +kernel, by decide +kernel⟩, by decide⟩, wv_M_look, by decide +kernel⟩, wx_M_look, rfl⟩
theorem cv_M_166 : ev_CV RM 166 mM_strip 1 4 := ⟨⟨⟨Or.inl wm_M_166, wi_M, wc_M_strip, ⟨by decide +kernel, by decide +kernel⟩, by decide⟩, wv_M_strip, by decide +kernel⟩, wx_M_strip, rfl⟩
theorem cv_M_169 : ev_CV RM 169 mM_crease 2 4 := ⟨⟨⟨Or.inl wm_M_169, wi_M, wc_M_crease, ⟨by decide +kernel, by decide +kernel⟩, by decide⟩, wv_M_crease, by decide +kernel⟩, wx_M_crease, rfl⟩
theorem cv_M_172 : ev_CV RM 172 mM_sign 2 4 := ⟨⟨⟨Or.inl wm_M_172, wi_M, wc_M_sign, ⟨by decide +kernel, by decide +kernel⟩, by decide⟩, wv_M_sign, by decide +kernel⟩, wx_M_sign, rfl⟩
theorem cv_M_178 : ev_CV RM 178 mM_does 2 4 := ⟨⟨⟨Or.inl wm_M_178, wi_M, wc_M_does, ⟨by decide +kernel, by decide +kernel⟩, by decide⟩, wv_M_does, by decide +kernel⟩, wx_M_does, rfl⟩
theorem nc_L_8 : ev_NC RL 8 0 [.null, .null, .null, .null, ev_i 0] 5 := ⟨RF, TF, tF, cf_F, tF_ok, wk_L_8, wn_F, wi_F, by decide +kernel, (List.forall_mem_cons.mpr ⟨fun _ => rfl, (List.forall_mem_cons.mpr ⟨fun _ => rfl, (List.forall_mem_cons.mpr ⟨fun _ => rfl, (List.forall_mem_cons.mpr ⟨fun _ => rfl, (List.forall_mem_cons.mpr ⟨fun _ => rfl, (fun _ h => absurd h List.not_mem_nil)⟩)⟩)⟩)⟩)⟩)⟩
theorem nc_F_9 : ev_NC RF 9 1 [ev_i 0, ev_i 0, ev_i 0, .null, .null, .null, .null, .null] 8 := ⟨RP, TP, tP, cf_P, tP_ok, wk_F_9, wn_P, wi_P, by decide +kernel, (List.forall_mem_cons.mpr ⟨fun _ => rfl, (List.forall_mem_cons.mpr ⟨fun _ => rfl, (List.forall_mem_cons.mpr ⟨fun _ => rfl, (List.forall_mem_cons.mpr ⟨fun _ => rfl, (List.forall_mem_cons.mpr ⟨fun _ => rfl, (List.forall_mem_cons.mpr ⟨fun _ => rfl, (List.forall_mem_cons.mpr ⟨fun _ => rfl, (List.forall_mem_cons.mpr ⟨fun _ => rfl, (fun _ h => absurd h List.not_mem_nil)⟩)⟩)⟩)⟩)⟩)⟩)⟩)⟩)⟩
theorem nc_F_16 : ev_NC RF 16 2 [.null, .null, .null, .null, ev_i 0, ev_i 0, .null, .null] 8 := ⟨RR, TR, tR, cf_R, tR_ok, wk_F_16, wn_R, wi_R, by decide +kernel, (List.forall_mem_cons.mpr ⟨fun _ => rfl, (List.forall_mem_cons.mpr ⟨fun _ => rfl, (List.forall_mem_cons.mpr ⟨fun _ => rfl, (List.forall_mem_cons.mpr ⟨fun _ => rfl, (List.forall_mem_cons.mpr ⟨fun _ => rfl, (List.forall_mem_cons.mpr ⟨fun _ => rfl, (List.forall_mem_cons.mpr ⟨fun _ => rfl, (List.forall_mem_cons.mpr ⟨fun _ => rfl, (fun _ h => absurd h List.not_mem_nil)⟩)⟩)⟩)⟩)⟩)⟩)⟩)⟩)⟩
theorem nc_F_25 : ev_NC RF 25 3 [.null, ev_i 0, ev_i 0, .null, .long 0] 5 := ⟨RO, TO, tO, cf_O, tO_ok, wk_F_25, wn_O, wi_O, by decide +kernel, (List.forall_mem_cons.mpr ⟨fun _ => rfl, (List.forall_mem_cons.mpr ⟨fun _ => rfl, (List.forall_mem_cons.mpr ⟨fun _ => rfl, (List.forall_mem_cons.mpr ⟨fun _ => rfl, (List.forall_mem_cons.mpr ⟨fun _ => rfl, (fun _ h => absurd h List.not_mem_nil)⟩)⟩)⟩)⟩)⟩)⟩
theorem nc_L_44 : ev_NC RL 44 4 [ev_i 0, ev_i 0, ev_i 0, .null, .null, ev_i 0, .null, ev_i 0, .null, .null, .null, .null, .null, .null, ev_i 0, .null, .null, .null, ev_i 0, .null, .null, ev_i 0] 22 := ⟨RM, TM, tM, cf_M, tM_ok, wk_L_44, wn_M, wi_M, by decide +kernel, (List.forall_mem_cons.mpr ⟨fun _ => rfl, (List.forall_mem_cons.mpr ⟨fun _ => rfl, (List.forall_mem_cons.mpr ⟨fun _ => rfl, (List.forall_mem_cons.mpr ⟨fun _ => rfl, (List.forall_mem_cons.mpr ⟨fun _ => rfl, (List.forall_mem_cons.mpr ⟨fun _ => rfl, (List.forall_mem_cons.mpr ⟨fun _ => rfl, (List.forall_mem_cons.mpr ⟨fun _ => rfl, (List.forall_mem_cons.mpr ⟨fun _ => rfl, (List.forall_mem_cons.mpr ⟨fun _ => rfl, (List.forall_mem_cons.mpr ⟨fun _ => rfl, (List.forall_mem_cons.mpr ⟨fun _ => rfl, (List.forall_mem_cons.mpr ⟨fun _ => rfl, (List.forall_mem_cons.mpr ⟨fun _ => rfl, (List.forall_mem_cons.mpr ⟨fun _ => rfl, (List.forall_mem_cons.mpr ⟨fun _ => rfl, (List.forall_mem_cons.mpr ⟨fun _ => rfl, (List.forall_mem_cons.mpr ⟨fun _ => rfl, (List.forall_mem_cons.mpr ⟨fun _ => rfl, (List.forall_mem_cons.mpr ⟨fun _ => rfl, (List.forall_mem_cons.mpr ⟨fun _ => rfl, (List.forall_mem_cons.mpr ⟨fun _ => rfl, (fun _ h => absurd h List.not_mem_nil)⟩)⟩)⟩)⟩)⟩)⟩)⟩)⟩)⟩)⟩)⟩)⟩)⟩)⟩)⟩)⟩)⟩)⟩)⟩)⟩)⟩)⟩)⟩
end
section
/-! an end that is one: the answer w, the heap h1; calls of such methods; truth values -/
def ev_V (w : Option Value) (h1 : List ev_AC) : ev_O → List ev_AC → Prop := fun o h' => o = .inl w ∧ h' = h1
def ev_b (b : Bool) : Int := if b then 1 else 0
theorem ev_b01 (b : Bool) : ev_b b = 0 ∨ ev_b b = 1 := by cases b <;> simp [ev_b]
theorem ev_b_t : ev_b true = 1 := rfl
theorem ev_b_f : ev_b false = 0 := rfl
section EVP
variable {g : ev_G} {X : Bool} {M : ev_M} {d pc : Nat} {ls : List (Option Value)} {st : List Value} {h : List ev_AC} {kc ks : Nat} {Q : ev_O → List ev_AC → Prop}
theorem ev_cV {M' : ev_M} {idx n ci b mc ms : Nat} {as rest : List Value} {fs : List Value} {w : Value} {h1 : List ev_AC} (hd : decode M.2.1 pc = .ok (.invokevirtual idx, 3)) (F : ev_CV M.1.cls idx M' n ci) (hC : ev_C g M' d (.ref b :: as) h mc ms (ev_V (some w) h1)) (hn : as.length = n) (hc : h[b]? = some (.inr (ci, fs))) (hst : as.reverse ++ .ref b :: rest = st) (hs : (rest.map fun v => v.category).sum ≤ 8)
    (hmc : mc ≤ kc) (hms : ms ≤ ks) (kk : ev_E g X M (d + 1) (pc + 3) ls (w :: rest) h1 (kc - mc) (ks - ms) Q) : ev_E g X M (d + 1) pc ls st h kc ks Q :=
  ev_callV hd F hn hc hs hC hmc hms hst (fun v h' q => by obtain ⟨q1, q2⟩ := q; cases q1; subst q2; exact kk)
theorem ev_cVv {M' : ev_M} {idx n ci b mc ms : Nat} {as rest : List Value} {fs : List Value} {h1 : List ev_AC} (hd : decode M.2.1 pc = .ok (.invokevirtual idx, 3)) (F : ev_CV M.1.cls idx M' n ci) (hC : ev_C g M' d (.ref b :: as) h mc ms (ev_V none h1)) (hn : as.length = n) (hc : h[b]? = some (.inr (ci, fs))) (hst : as.reverse ++ .ref b :: rest = st) (hs : (rest.map fun v => v.category).sum ≤ 8)
    (hmc : mc ≤ kc) (hms : ms ≤ ks) (kk : ev_E g X M (d + 1) (pc + 3) ls rest h1 (kc - mc) (ks - ms) Q) : ev_E g X M (d + 1) pc ls st h kc ks Q :=
  ev_callV hd F hn hc hs hC hmc hms hst (fun v h' q => by obtain ⟨q1, q2⟩ := q; cases q1; subst q2; exact kk)
theorem ev_cS {M' : ev_M} {idx n mc ms : Nat} {as rest : List Value} {w : Value} {h1 : List ev_AC} (hd : decode M.2.1 pc = .ok (.invokestatic idx, 3)) (F : ev_CS M.1.cls idx M' n) (hC : ev_C g M' d as h mc ms (ev_V (some w) h1)) (hn : as.length = n) (hst : as.reverse ++ rest = st) (hs : (rest.map fun v => v.category).sum ≤ 8)
    (hmc : mc ≤ kc) (hms : ms ≤ ks) (kk : ev_E g X M (d + 1) (pc + 3) ls (w :: rest) h1 (kc - mc) (ks - ms) Q) : ev_E g X M (d + 1) pc ls st h kc ks Q :=
  ev_callS hd F hn hs hC hmc hms hst (fun v h' q => by obtain ⟨q1, q2⟩ := q; cases q1; subst q2; exact kk)
theorem ev_cI {M' : ev_M} {idx n b mc ms : Nat} {as rest : List Value} {h1 : List ev_AC} (hd : decode M.2.1 pc = .ok (.invokespecial idx, 3)) (F : ev_CI M.1.cls idx M' n) (hC : ev_C g M' d (.ref b :: as) h mc ms (ev_V none h1)) (hini : M'.1.name = "<init>") (hret : M'.2.2.2.1 = none) (hn : as.length = n) (hst : as.reverse ++ .ref b :: rest = st) (hs : (rest.map fun v => v.category).sum ≤ 8)
    (hmc : mc ≤ kc) (hms : ms ≤ ks) (kk : ev_E g X M (d + 1) (pc + 3) ls rest h1 (kc - mc) (ks - ms) Q) : ev_E g X M (d + 1) pc ls st h kc ks Q :=
  ev_callI hd F hini hret hn hs hC hmc hms hst (fun v h' q => by obtain ⟨q1, q2⟩ := q; cases q1; subst q2; exact kk)
/-- ifeq, ifne on a truth value -/
theorem ev_bz {b : Bool} {off : Int} {tgt : Nat} (hd : decode M.2.1 pc = .ok (.ifCond .eq off, 3)) (ht : (pc : Int) + off = (tgt : Int)) (kt : b = false → ev_E g X M d tgt ls st h kc ks Q) (kf : b = true → ev_E g X M d (pc + 3) ls st h kc ks Q) : ev_E g X M d pc ls (ev_i (ev_b b) :: st) h kc ks Q := by
  refine ev_if_eq hd ht (by rcases ev_b01 b with q | q <;> omega) (by rcases ev_b01 b with q | q <;> omega) (fun hz => kt ?_) (fun hz => kf ?_)
  · cases b
    · rfl
    · exact absurd hz (by decide)
  · cases b
    · exact absurd rfl hz
    · rfl
theorem ev_bn {b : Bool} {off : Int} {tgt : Nat} (hd : decode M.2.1 pc = .ok (.ifCond .ne off, 3)) (ht : (pc : Int) + off = (tgt : Int)) (kt : b = true → ev_E g X M d tgt ls st h kc ks Q) (kf : b = false → ev_E g X M d (pc + 3) ls st h kc ks Q) : ev_E g X M d pc ls (ev_i (ev_b b) :: st) h kc ks Q := by
  refine ev_if_ne hd ht (by rcases ev_b01 b with q | q <;> omega) (by rcases ev_b01 b with q | q <;> omega) (fun hz => kt ?_) (fun hz => kf ?_)
  · cases b
    · exact absurd rfl hz
    · rfl
  · cases b
    · rfl
    · exact absurd hz (by decide)
/-- the same, less room -/
theorem ev_room {kc' ks' : Nat} (h1 : kc' ≤ kc) (h2 : ks' ≤ ks) (k : ev_E g X M d pc ls st h kc' ks' Q) : ev_E g X M d pc ls st h kc ks Q := fun p e R s m args below meth c H locs cells slots rls C =>
  k p e R s m args below meth c H locs cells slots rls ⟨C.1, C.2.1, C.2.2.1, C.2.2.2.1, ⟨by have := C.2.2.2.2.1.1; omega, by have := C.2.2.2.2.1.2; omega⟩, C.2.2.2.2.2⟩
theorem ev_deep {d' : Nat} (h1 : d' ≤ d) (k : ev_E g X M d' pc ls st h kc ks Q) : ev_E g X M d pc ls st h kc ks Q := fun p e R s m args below meth c H locs cells slots rls C =>
  k p e R s m args below meth c H locs cells slots rls ⟨C.1, ⟨by have := C.2.1.1; omega, by have := C.2.1.2; omega⟩, C.2.2.1, C.2.2.2.1, C.2.2.2.2.1, C.2.2.2.2.2⟩
/-- Math.max, Math.min -/
theorem ev_max {idx : Nat} {a b : Int} (hd : decode M.2.1 pc = .ok (.invokestatic idx, 3)) (w1 : Cond.methodLink M.1.cls idx Lib.Math.max.name ∈ ev_WS) (w2 : Cond.static Lib.Math.max.name ∈ ev_WS) (w3 : Cond.code Lib.Math.max.name Lib.Math.max.code 2 (some .int) ∈ ev_WS) (hs : (st.map fun v => v.category).sum ≤ 8)
    (a1 : -2147483648 ≤ a) (a2 : a < 2147483648) (b1 : -2147483648 ≤ b) (b2 : b < 2147483648) (kk : ev_E g X M (d + 1) (pc + 3) ls (ev_i (if a < b then b else a) :: st) h kc ks Q) : ev_E g X M (d + 1) pc ls (ev_i b :: ev_i a :: st) h kc ks Q := by
  intro p e R s m args below meth c H locs cells slots rls C
  have kk := kk p e R s m args below meth c H locs cells slots rls C
  obtain ⟨hx, hb, hml, hown, hts, -⟩ := C.1
  have hs' := ev_rv_sum g st
  have hcc := C.2.2.2.2.1
  refine va_mmax (x := Int32.ofInt a) (y := Int32.ofInt b) hx hb (by rw [hml]; exact C.2.2.2.2.2.2.1.1.symm) hown (hts _ w1) (hts _ w2) (hts _ wi_Math) (hts _ w3) (by have := C.2.1.1; omega) (by have := C.2.1.2; omega) (by omega) (by omega) hd ?_
  have : (if Int32.ofInt a < Int32.ofInt b then Int32.ofInt b else Int32.ofInt a) = Int32.ofInt (if a < b then b else a) := by
    by_cases hab : a < b
    · rw [if_pos hab, if_pos ((ev_lt a1 a2 b1 b2).mpr hab)]
    · rw [if_neg hab, if_neg (fun q => hab ((ev_lt a1 a2 b1 b2).mp q))]
  rw [this]
  exact kk
theorem ev_min {idx : Nat} {a b : Int} (hd : decode M.2.1 pc = .ok (.invokestatic idx, 3)) (w1 : Cond.methodLink M.1.cls idx Lib.Math.min.name ∈ ev_WS) (w2 : Cond.static Lib.Math.min.name ∈ ev_WS) (w3 : Cond.code Lib.Math.min.name Lib.Math.min.code 2 (some .int) ∈ ev_WS) (hs : (st.map fun v => v.category).sum ≤ 8)
    (a1 : -2147483648 ≤ a) (a2 : a < 2147483648) (b1 : -2147483648 ≤ b) (b2 : b < 2147483648) (kk : ev_E g X M (d + 1) (pc + 3) ls (ev_i (if b < a then b else a) :: st) h kc ks Q) : ev_E g X M (d + 1) pc ls (ev_i b :: ev_i a :: st) h kc ks Q := by
  intro p e R s m args below meth c H locs cells slots rls C
  have kk := kk p e R s m args below meth c H locs cells slots rls C
  obtain ⟨hx, hb, hml, hown, hts, -⟩ := C.1
  have hs' := ev_rv_sum g st
  have hcc := C.2.2.2.2.1
  refine va_mmin (x := Int32.ofInt a) (y := Int32.ofInt b) hx hb (by rw [hml]; exact C.2.2.2.2.2.2.1.1.symm) hown (hts _ w1) (hts _ w2) (hts _ wi_Math) (hts _ w3) (by have := C.2.1.1; omega) (by have := C.2.1.2; omega) (by omega) (by omega) hd ?_
  have : (if Int32.ofInt b < Int32.ofInt a then Int32.ofInt b else Int32.ofInt a) = Int32.ofInt (if b < a then b else a) := by
    by_cases hab : b < a
    · rw [if_pos hab, if_pos ((ev_lt b1 b2 a1 a2).mpr hab)]
    · rw [if_neg hab, if_neg (fun q => hab ((ev_lt b1 b2 a1 a2).mp q))]
  rw [this]
  exact kk
end EVP
end
section
/-! further rules -/
section EVQ
variable {g : ev_G} {X : Bool} {M : ev_M} {d pc : Nat} {ls : List (Option Value)} {st : List Value} {h : List ev_AC} {kc ks : Nat} {Q : ev_O → List ev_AC → Prop}
theorem ev_ofN (n : Nat) : Int32.ofInt n = nI n := Int32.ofInt_eq_ofNat
theorem ev_rem {a b : Int} (hd : decode M.2.1 pc = .ok (.irem, 1)) (a1 : 0 ≤ a) (a2 : a < 2147483648) (b1 : 0 < b) (b2 : b < 2147483648) (k : ev_E g X M d (pc + 1) ls (ev_i (a % b) :: st) h kc ks Q) : ev_E g X M d pc ls (ev_i b :: ev_i a :: st) h kc ks Q := by
  obtain ⟨x, rfl⟩ := Int.eq_ofNat_of_zero_le a1
  obtain ⟨y, rfl⟩ := Int.eq_ofNat_of_zero_le (Int.le_of_lt b1)
  refine ev_irem hd ?_ ?_ k
  · rw [ev_ofN]; exact nI_ne0 (by omega) (by omega)
  · rw [ev_ofN, ev_ofN, pk_rem (by omega) (by omega) (by omega), ← ev_ofN]; rfl
theorem ev_div {a b : Int} (hd : decode M.2.1 pc = .ok (.idiv, 1)) (a1 : 0 ≤ a) (a2 : a < 2147483648) (b1 : 0 < b) (b2 : b < 2147483648) (k : ev_E g X M d (pc + 1) ls (ev_i (a / b) :: st) h kc ks Q) : ev_E g X M d pc ls (ev_i b :: ev_i a :: st) h kc ks Q := by
  obtain ⟨x, rfl⟩ := Int.eq_ofNat_of_zero_le a1
  obtain ⟨y, rfl⟩ := Int.eq_ofNat_of_zero_le (Int.le_of_lt b1)
  refine ev_idiv hd ?_ ?_ k
  · rw [ev_ofN]; exact nI_ne0 (by omega) (by omega)
  · rw [ev_ofN, ev_ofN, pk_div (by omega) (by omega) (by omega), ← ev_ofN]; rfl
theorem ev_nI {n : Nat} {z : Int} (hd : decode M.2.1 pc = .ok (.newarray .int, 2)) (hz : z = (n : Int)) (hn : n < 8388608)
    (kk : ev_E g X M d (pc + 2) ls (.ref h.length :: st) (h ++ [ev_ia n (fun _ => 0)]) kc ks Q) : ev_E g X M d pc ls (ev_i z :: st) h (kc + 1) (ks + n) Q := by
  subst hz
  exact ev_newI hd wa_int hn kk
theorem ev_nL {n : Nat} {z : Int} (hd : decode M.2.1 pc = .ok (.newarray .long, 2)) (hz : z = (n : Int)) (hn : n < 8388608)
    (kk : ev_E g X M d (pc + 2) ls (.ref h.length :: st) (h ++ [ev_la n (fun _ => 0)]) kc ks Q) : ev_E g X M d pc ls (ev_i z :: st) h (kc + 1) (ks + n) Q := by
  subst hz
  exact ev_newL hd wa_long hn kk
end EVQ
/-- the first k places of F laid over G -/
def ev_ov (F G : Int → Int) (k : Int) : Int → Int := fun j => if 0 ≤ j ∧ j < k then F j else G j
theorem ev_ov_0 (F G : Int → Int) {k : Int} (h : k ≤ 0) : ev_ov F G k = G := by
  funext j
  exact if_neg (by omega)
theorem ev_ov_s {F G : Int → Int} {k z : Int} (h : 0 ≤ k) (hz : z = F k) : ev_up (ev_ov F G k) k z = ev_ov F G (k + 1) := by
  funext j
  subst hz
  unfold ev_up ev_ov
  by_cases hj : j = k
  · subst hj; rw [if_pos rfl, if_pos (by omega)]
  · rw [if_neg hj]
    by_cases h1 : 0 ≤ j ∧ j < k
    · rw [if_pos h1, if_pos (by omega)]
    · rw [if_neg h1, if_neg (by omega)]
theorem ev_ov_in {F G : Int → Int} {k j : Int} (h0 : 0 ≤ j) (h1 : j < k) : ev_ov F G k j = F j := if_pos ⟨h0, h1⟩
theorem ev_ov_out {F G : Int → Int} {k j : Int} (h : j < 0 ∨ k ≤ j) : ev_ov F G k j = G j := if_neg (by omega)
theorem ev_up_s {F : Int → Int} {k z : Int} : ev_up F k z k = z := if_pos rfl
theorem ev_up_n {F : Int → Int} {k z j : Int} (h : j ≠ k) : ev_up F k z j = F j := if_neg h
theorem ev_nbz {g : ev_G} {z : Int} (h : z = 0 ∨ z = 1) : narrow .boolean (ev_rv g (ev_i z)) = ev_rv g (ev_i z) := by
  rcases h with rfl | rfl
  · show narrow .boolean (.int (Int32.ofInt 0)) = .int (Int32.ofInt 0); decide
  · show narrow .boolean (.int (Int32.ofInt 1)) = .int (Int32.ofInt 1); decide
theorem ev_fbz {g : ev_G} {z : Int} (h : z = 0 ∨ z = 1) : fits .boolean (ev_rv g (ev_i z)) = true := by
  rcases h with rfl | rfl
  · show fits .boolean (.int (Int32.ofInt 0)) = true; decide
  · show fits .boolean (.int (Int32.ofInt 1)) = true; decide
end
section
/-! truth values compared; bits of a small number -/
section EVB
variable {g : ev_G} {X : Bool} {M : ev_M} {d pc : Nat} {ls : List (Option Value)} {st : List Value} {h : List ev_AC} {kc ks : Nat} {Q : ev_O → List ev_AC → Prop}
theorem ev_b_inj {x y : Bool} (h : ev_b x = ev_b y) : x = y := by cases x <;> cases y <;> first | rfl | exact absurd h (by decide)
theorem ev_qeq {x y : Bool} {off : Int} {tgt : Nat} (hd : decode M.2.1 pc = .ok (.if_icmp .eq off, 3)) (ht : (pc : Int) + off = (tgt : Int)) (kt : x = y → ev_E g X M d tgt ls st h kc ks Q) (kf : x ≠ y → ev_E g X M d (pc + 3) ls st h kc ks Q) : ev_E g X M d pc ls (ev_i (ev_b y) :: ev_i (ev_b x) :: st) h kc ks Q := by
  have h1 := ev_b01 x
  have h2 := ev_b01 y
  exact ev_icmp_eq hd ht (by omega) (by omega) (by omega) (by omega) (fun q => kt (ev_b_inj q)) (fun q => kf (fun e => q (by rw [e])))
theorem ev_qne {x y : Bool} {off : Int} {tgt : Nat} (hd : decode M.2.1 pc = .ok (.if_icmp .ne off, 3)) (ht : (pc : Int) + off = (tgt : Int)) (kt : x ≠ y → ev_E g X M d tgt ls st h kc ks Q) (kf : x = y → ev_E g X M d (pc + 3) ls st h kc ks Q) : ev_E g X M d pc ls (ev_i (ev_b y) :: ev_i (ev_b x) :: st) h kc ks Q := by
  have h1 := ev_b01 x
  have h2 := ev_b01 y
  exact ev_icmp_ne hd ht (by omega) (by omega) (by omega) (by omega) (fun q => kt (fun e => q (by rw [e]))) (fun q => kf (ev_b_inj q))
theorem ev_orN (a b : Nat) : Int32.ofInt a ||| Int32.ofInt b = Int32.ofInt ((a ||| b : Nat) : Int) := by
  rw [Int32.ofInt_eq_ofNat, Int32.ofInt_eq_ofNat, Int32.ofInt_eq_ofNat]
  apply Int32.toBitVec_inj.mp
  show BitVec.ofNat 32 a ||| BitVec.ofNat 32 b = BitVec.ofNat 32 (a ||| b)
  rw [BitVec.ofNat_or]
theorem ev_andN (a b : Nat) : Int32.ofInt a &&& Int32.ofInt b = Int32.ofInt ((a &&& b : Nat) : Int) := by
  rw [Int32.ofInt_eq_ofNat, Int32.ofInt_eq_ofNat, Int32.ofInt_eq_ofNat]
  apply Int32.toBitVec_inj.mp
  show BitVec.ofNat 32 a &&& BitVec.ofNat 32 b = BitVec.ofNat 32 (a &&& b)
  rw [BitVec.ofNat_and]
theorem ev_or {a b : Nat} (hd : decode M.2.1 pc = .ok (.ior, 1)) (k : ev_E g X M d (pc + 1) ls (ev_i ((a ||| b : Nat) : Int) :: st) h kc ks Q) : ev_E g X M d pc ls (ev_i (b : Int) :: ev_i (a : Int) :: st) h kc ks Q := ev_ior hd (ev_orN a b) k
theorem ev_and {a b : Nat} (hd : decode M.2.1 pc = .ok (.iand, 1)) (k : ev_E g X M d (pc + 1) ls (ev_i ((a &&& b : Nat) : Int) :: st) h kc ks Q) : ev_E g X M d pc ls (ev_i (b : Int) :: ev_i (a : Int) :: st) h kc ks Q := ev_iand hd (ev_andN a b) k
theorem ev_sh1 : ∀ k : Nat, k < 31 → Int32.ofInt 1 <<< (Int32.ofInt (k : Int) &&& 31) = Int32.ofInt ((2 ^ k : Nat) : Int) := by decide +kernel
theorem ev_shl1 {z : Int} {k : Nat} (hd : decode M.2.1 pc = .ok (.ishl, 1)) (hz : z = (k : Int)) (hk : k < 31) (kk : ev_E g X M d (pc + 1) ls (ev_i ((2 ^ k : Nat) : Int) :: st) h kc ks Q) : ev_E g X M d pc ls (ev_i z :: ev_i 1 :: st) h kc ks Q := by
  subst hz
  exact ev_ishl hd (ev_sh1 k hk) kk
end EVB
theorem ev_bit0 (o k : Nat) : o &&& 2 ^ k = if o.testBit k then 2 ^ k else 0 := by
  apply Nat.eq_of_testBit_eq
  intro i
  rw [Nat.testBit_and, Nat.testBit_two_pow]
  by_cases hi : k = i
  · subst hi
    cases h : o.testBit k <;> simp [Nat.testBit_two_pow_self]
  · cases h : o.testBit k <;> simp [hi, Nat.testBit_two_pow]
end
section
/-! System.arraycopy from the start of one int array to the start of another -/
section EVA
variable {g : ev_G} {X : Bool} {M : ev_M} {d pc : Nat} {ls : List (Option Value)} {st : List Value} {h : List ev_AC} {kc ks : Nat} {Q : ev_O → List ev_AC → Prop}
theorem ev_acopy {idx a b n0 n1 m : Nat} {F G : Int → Int} (hd : decode M.2.1 pc = .ok (.invokestatic idx, 3)) (w1 : Cond.methodLink M.1.cls idx arraycopyName ∈ ev_WS) (ha : h[a]? = some (ev_ia n0 F)) (hb : h[b]? = some (ev_ia n1 G)) (h0 : m ≤ n0) (h1 : m ≤ n1) (hm : m < 2147483648) (hs : (st.map fun v => v.category).sum ≤ 8)
    (kk : ev_E g X M (d + 1) (pc + 3) ls st (h.set b (ev_ia n1 (ev_ov F G m))) kc ks Q) : ev_E g X M (d + 1) pc ls (ev_i m :: ev_i 0 :: .ref b :: ev_i 0 :: .ref a :: st) h kc ks Q := by
  intro p e R s mm args below meth c H locs cells slots rls C
  obtain ⟨hx, hbb, hml, hown, hts, hK, -⟩ := C.1
  have hs' := ev_rv_sum g st
  have hR := C.2.1
  have z0 : (Int32.ofInt 0).toNatClampNeg = 0 := by decide
  have zm : (Int32.ofInt m).toNatClampNeg = m := by rw [ev_clamp (by omega) (by omega)]; rfl
  have i0 : (Int32.ofInt 0).toInt = 0 := by decide
  have im : (Int32.ofInt m).toInt = m := ev_toInt (by omega) (by omega)
  have n0' : ¬ Int32.ofInt 0 < 0 := by decide
  have nm' : ¬ Int32.ofInt m < 0 := by rw [ev_zero, ev_lt (by omega) (by omega) (by omega) (by omega)]; omega
  intro T hT S
  have hc0 : H[ev_z g + a]? = some (vp_cell (ev_I g) (n0, .inl (fun j => Int32.ofInt (F (j : Int))))) := C.2.2.1.2.2 a _ (ev_rl_at ha)
  have hc1 : H[ev_z g + b]? = some (vp_cell (ev_I g) (n1, .inl (fun j => Int32.ofInt (G (j : Int))))) := C.2.2.1.2.2 b _ (ev_rl_at hb)
  obtain ⟨-, k0, hk0, cm0, hkk0⟩ := (hK.2 0 _ rfl).1 n0 (fun j => .int (Int32.ofInt (F (j : Int))))
  obtain ⟨-, k1, hk1, cm1, hkk1⟩ := (hK.2 0 _ rfl).1 n1 (fun j => .int (Int32.ofInt (G (j : Int))))
  obtain ⟨vm', S', step⟩ := S.arraycopy hx hown (hts _ w1) (hts _ wcopy_n) (hts _ wcopy_s) (hts _ wi_System) (src := ev_z g + a) (dst := ev_z g + b) (cs := vp_cell (ev_I g) (n0, .inl (fun j => Int32.ofInt (F (j : Int))))) (cd := vp_cell (ev_I g) (n1, .inl (fun j => Int32.ofInt (G (j : Int))))) (srcPos := Int32.ofInt 0) (destPos := Int32.ofInt 0) (n := Int32.ofInt m) (by rw [hT]; exact hc0) (by rw [hT]; exact hc1)
    (fun _ q => by cases q) (fun _ q => by cases q) (fun q => by cases q) (fun q => by cases q) hk0 hk1 hkk0 hkk1 rfl n0' n0' nm'
    (by rw [i0, im]; show ¬ _ > ((arrV _ n0 _).slots.size : Int); rw [arrV_size]; omega)
    (by rw [i0, im]; show ¬ _ > ((arrV _ n1 _).slots.size : Int); rw [arrV_size]; omega)
    (fun vm₁ _ i hi => by
      rw [zm] at hi
      have e : (vp_cell (ev_I g) (n0, .inl (fun j => Int32.ofInt (F (j : Int))))).slots.getD ((Int32.ofInt 0).toNatClampNeg + i) .null = .int (Int32.ofInt (F (i : Int))) := by
        rw [z0, Nat.zero_add]
        show (arrV _ n0 (fun j => .int (Int32.ofInt (F (j : Int))))).slots.getD _ _ = _
        rw [Array.getD_eq_getD_getElem?, arrV_read _ _ (by omega)]
        rfl
      rw [e]
      exact ⟨rfl, trivial⟩)
    (g := F0 mm pc rls ((ev_i m :: ev_i 0 :: .ref b :: ev_i 0 :: .ref a :: st).map (ev_rv g))) rfl (by rw [hml]; exact C.2.2.2.2.2.2.1.1) (rest := st.map (ev_rv g)) rfl (by rw [hbb]; exact hd) (by omega) (by show 2 * 0 + _ + (nativeFrameWords "java/lang/System" "arraycopy" 5 + 11) ≤ _; rw [show nativeFrameWords "java/lang/System" "arraycopy" 5 = 7 by decide +kernel]; omega)
  have e1 : copied (vp_cell (ev_I g) (n0, .inl (fun j => Int32.ofInt (F (j : Int))))) (vp_cell (ev_I g) (n1, .inl (fun j => Int32.ofInt (G (j : Int))))) (Int32.ofInt 0) (Int32.ofInt 0) (Int32.ofInt m) = vp_cell (ev_I g) (n1, .inl (va_cpy (fun j => Int32.ofInt (F (j : Int))) (fun j => Int32.ofInt (G (j : Int))) (Int32.ofInt 0).toNatClampNeg (Int32.ofInt 0).toNatClampNeg (Int32.ofInt m).toNatClampNeg)) :=
    va_copied (fun z => .int z) (ev_I g) (ev_I g) (fun j => Int32.ofInt (F (j : Int))) (fun j => Int32.ofInt (G (j : Int))) (by rw [z0, zm]; omega)
  have e2 : va_cpy (fun j => Int32.ofInt (F (j : Int))) (fun j => Int32.ofInt (G (j : Int))) (Int32.ofInt 0).toNatClampNeg (Int32.ofInt 0).toNatClampNeg (Int32.ofInt m).toNatClampNeg = fun j : Nat => Int32.ofInt (ev_ov F G m (j : Int)) := by
    funext j
    rw [z0, zm]
    unfold va_cpy ev_ov
    by_cases hj : j < m
    · rw [if_pos (by omega), if_pos (by omega)]
      rw [show 0 + (j - 0) = j by omega]
    · rw [if_neg (by omega), if_neg (by omega)]
  rw [e1, e2] at S' step
  have hl : ev_z g + b < H.size := (Array.getElem?_eq_some_iff.mp hc1).1
  have hHR : ev_HR g (h.set b (ev_ia n1 (ev_ov F G m))) ((T.setVm vm').setCell (ev_z g + b) (vp_cell (ev_I g) (n1, .inl (fun j : Nat => Int32.ofInt (ev_ov F G m (j : Int)))))).heap := by
    refine C.2.2.1.set hb ?_ ?_ ?_
    · show (T.heap.setIfInBounds _ _)[ev_z g + b]? = some _
      rw [hT]
      simp [Array.getElem?_setIfInBounds, hl]
    · show (T.heap.setIfInBounds _ _).size = _
      rw [hT]
      simp
    · intro q hq
      show (T.heap.setIfInBounds _ _)[q]? = _
      rw [hT]
      simp [Array.getElem?_setIfInBounds, Ne.symm hq]
  obtain ⟨t, a1, b1⟩ := kk p e R s mm args below meth c _ _ cells slots rls (C.heap hHR (fun q hq => by
      rcases List.mem_append.mp hq with q1 | q1
      · exact C.2.2.2.1 q q1
      · obtain ⟨z, -, hz⟩ := List.mem_map.mp q1
        rw [← hz]
        exact Nat.le_add_right _ _) C.2.2.2.2.1) _ rfl S'
  exact ⟨t, step t a1, b1⟩
theorem ev_app {a : Nat} {x c : ev_AC} (ha : h[a]? = some c) : (h ++ [x])[a]? = some c := by
  rw [List.getElem?_append_left (List.getElem?_eq_some_iff.mp ha).1]
  exact ha
theorem ev_app_l {x : ev_AC} : (h ++ [x])[h.length]? = some x := by simp
theorem ev_app_s {x y : ev_AC} : (h ++ [x]).set h.length y = h ++ [y] := by simp
/-- Arrays.copyOf to a greater length -/
theorem ct_copyOf {a n0 m : Nat} {F : Int → Int} (ha : h[a]? = some (ev_ia n0 F)) (h0 : n0 < m) (hm : m < 8388608) :
    ev_C g mJA_copyOf (d + 1) [.ref a, ev_i m] h 1 m (ev_V (some (.ref h.length)) (h ++ [ev_ia m (ev_ov F (fun _ => 0) n0)])) := by
  refine ev_ofE (by decide +kernel) rfl (Nat.le_of_ble_eq_true rfl) rfl rfl ?_
  refine ev_iload_n dJA_copyOf_0 rfl ?_
  refine ev_aload_n dJA_copyOf_1 rfl ?_
  refine ev_alen dJA_copyOf_2 ha ?_
  refine ev_icmp_ne (tgt := 14) dJA_copyOf_3 rfl (by omega) (by omega) (by omega) (by omega) (fun hb => ?_) (fun hb => ?_)
  · refine ev_iload_n dJA_copyOf_14 rfl ?_
    refine ev_room (kc' := 0 + 1) (ks' := 0 + m) (by omega) (by omega) ?_
    refine ev_nI dJA_copyOf_15 rfl hm ?_
    refine ev_astore_n dJA_copyOf_17 (Nat.le_of_ble_eq_true rfl) ?_
    refine ev_aload_n dJA_copyOf_18 rfl ?_
    refine ev_iconst dJA_copyOf_19 ?_
    refine ev_aload_n dJA_copyOf_20 rfl ?_
    refine ev_iconst dJA_copyOf_21 ?_
    refine ev_aload_n dJA_copyOf_22 rfl ?_
    refine ev_alen dJA_copyOf_23 (ev_app ha) ?_
    refine ev_iload_n dJA_copyOf_24 rfl ?_
    refine ev_min dJA_copyOf_25 wm_JA_304 ws_min wc_min (Nat.le_of_ble_eq_true rfl) (by omega) (by omega) (by omega) (by omega) ?_
    rw [if_neg (by omega)]
    refine ev_acopy dJA_copyOf_28 wm_JA_150 (ev_app ha) ev_app_l (Nat.le_refl _) (by omega) (by omega) (by decide) ?_
    rw [ev_app_s]
    refine ev_aload_n dJA_copyOf_31 rfl ?_
    refine ev_areturn dJA_copyOf_32 rfl ?_
    exact ⟨rfl, rfl⟩
  · omega
end EVA
end
section
/-! The strip, in numbers: L its length, n creases at P 0 < P 1 < .. with the marks K. -/
def sp_ok (L n : Int) (P K : Int → Int) : Prop :=
  1 ≤ L ∧ L ≤ 60 ∧ 0 ≤ n ∧ n ≤ 6 ∧ (∀ i, 0 ≤ i → i < n → 1 ≤ P i ∧ P i < L ∧ 0 ≤ K i ∧ K i ≤ 2) ∧ ∀ i j, 0 ≤ i → i < j → j < n → P i < P j
def sp_le (P : Int → Int) (i : Int) : Int := if i = 0 then 0 else P (i - 1)
def sp_re (L n : Int) (P : Int → Int) (i : Int) : Int := if i < n then P i else L
def sp_dir (i : Int) : Int := if i % 2 = 0 then 1 else -1
def sp_BN (L n : Int) (P : Int → Int) : Nat → Int
  | 0 => 0
  | i + 1 => sp_BN L n P i + sp_dir i * (sp_re L n P i - sp_le P i)
def sp_B (L n : Int) (P : Int → Int) (i : Int) : Int := sp_BN L n P i.toNat
def sp_lo (L n : Int) (P : Int → Int) (i : Int) : Int := if sp_B L n P (i + 1) < sp_B L n P i then sp_B L n P (i + 1) else sp_B L n P i
def sp_hi (L n : Int) (P : Int → Int) (i : Int) : Int := if sp_B L n P i < sp_B L n P (i + 1) then sp_B L n P (i + 1) else sp_B L n P i
/-- how many of the first k creases lie at q or before -/
def sp_cnt (P : Int → Int) (q : Int) : Nat → Int
  | 0 => 0
  | k + 1 => sp_cnt P q k + (if P k ≤ q then 1 else 0)
/-- the folded place of p -/
def sp_F (n : Int) (P : Int → Int) : Nat → Int
  | 0 => 0
  | p + 1 => sp_F n P p + (if sp_cnt P p n.toNat % 2 = 0 then 1 else -1)
theorem sp_B_0 {L n : Int} {P : Int → Int} : sp_B L n P 0 = 0 := rfl
theorem sp_B_s {L n : Int} {P : Int → Int} {i : Int} (h : 0 ≤ i) : sp_B L n P (i + 1) = sp_B L n P i + sp_dir i * (sp_re L n P i - sp_le P i) := by
  obtain ⟨k, rfl⟩ := Int.eq_ofNat_of_zero_le h
  rfl
theorem sp_dir_or (i : Int) : sp_dir i = 1 ∨ sp_dir i = -1 := by
  unfold sp_dir
  split
  · exact Or.inl rfl
  · exact Or.inr rfl
theorem sp_cnt_min {P : Int → Int} {q i : Int} (hi : 0 ≤ i) : ∀ m : Nat, (∀ k : Int, 0 ≤ k → k < m → (P k ≤ q ↔ k < i)) → sp_cnt P q m = if (m : Int) < i then (m : Int) else i
  | 0, _ => by
    show (0 : Int) = _
    split <;> omega
  | m + 1, h => by
    have ih := sp_cnt_min hi m (fun k h0 hk => h k h0 (by omega))
    have hm := h m (by omega) (by omega)
    unfold sp_cnt
    rw [ih]
    by_cases hi : (m : Int) < i
    · rw [if_pos (hm.mpr hi), if_pos hi]
      split <;> omega
    · rw [if_neg (fun q => hi (hm.mp q)), if_neg hi, if_neg (by omega)]; omega
section SP
variable {L n : Int} {P K : Int → Int}
theorem sp_mono (ok : sp_ok L n P K) {i j : Int} (h0 : 0 ≤ i) (hij : i ≤ j) (hj : j < n) : P i ≤ P j := by
  by_cases h : i = j
  · rw [h]; exact Int.le_refl _
  · exact Int.le_of_lt (ok.2.2.2.2.2 i j h0 (by omega) hj)
theorem sp_cnt_seg (ok : sp_ok L n P K) {i : Int} (h0 : 0 ≤ i) (hi : i ≤ n) {q : Int} (h1 : sp_le P i ≤ q) (h2 : q < sp_re L n P i) : sp_cnt P q n.toNat = i := by
  have hn := ok.2.2.1
  rw [sp_cnt_min h0 n.toNat]
  · rw [Int.toNat_of_nonneg hn]; split <;> omega
  · intro k hk0 hk
    rw [Int.toNat_of_nonneg hn] at hk
    constructor
    · intro hP
      refine Int.not_le.mp (fun hik => ?_)
      have h3 : sp_re L n P i = P i := if_pos (by omega)
      have := sp_mono ok h0 hik hk
      omega
    · intro hki
      have h3 : sp_le P i = P (i - 1) := if_neg (by omega)
      have := sp_mono ok (i := k) (j := i - 1) hk0 (by omega) (by omega)
      omega
theorem sp_le_nonneg (ok : sp_ok L n P K) {i : Int} (h0 : 0 ≤ i) (hi : i ≤ n) : 0 ≤ sp_le P i := by
  unfold sp_le
  split
  · exact Int.le_refl _
  · have := (ok.2.2.2.2.1 (i - 1) (by omega) (by omega)).1; omega
theorem sp_le_lt_re (ok : sp_ok L n P K) {i : Int} (h0 : 0 ≤ i) (hi : i ≤ n) : sp_le P i < sp_re L n P i := by
  unfold sp_le sp_re
  have h00 := ok.1
  by_cases h1 : i = 0 <;> by_cases h2 : i < n
  · rw [if_pos h1, if_pos h2]; have := (ok.2.2.2.2.1 i h0 h2).1; omega
  · rw [if_pos h1, if_neg h2]; omega
  · rw [if_neg h1, if_pos h2]; exact ok.2.2.2.2.2 (i - 1) i (by omega) (by omega) h2
  · rw [if_neg h1, if_neg h2]; exact (ok.2.2.2.2.1 (i - 1) (by omega) (by omega)).2.1
theorem sp_re_le (ok : sp_ok L n P K) {i : Int} (h0 : 0 ≤ i) : sp_re L n P i ≤ L := by
  unfold sp_re
  split
  · rename_i h; have := (ok.2.2.2.2.1 i h0 h).2.1; omega
  · exact Int.le_refl _
theorem sp_le_s {i : Int} (h0 : 0 ≤ i) (hi : i < n) : sp_le P (i + 1) = sp_re L n P i := by
  unfold sp_le sp_re
  rw [if_neg (by omega), if_pos hi]
  congr 1
  omega
/-- the folded places lie near -/
theorem sp_B_bd (ok : sp_ok L n P K) : ∀ i : Nat, (i : Int) ≤ n → - sp_le P i ≤ sp_B L n P i ∧ sp_B L n P i ≤ sp_le P i
  | 0, _ => by simp [sp_le, sp_B, sp_BN]
  | i + 1, hi => by
    have ih := sp_B_bd ok i (by omega)
    have h1 := sp_le_lt_re ok (i := i) (by omega) (by omega)
    have h2 := sp_le_s (P := P) (L := L) (i := i) (n := n) (by omega) (by omega)
    have h3 := sp_B_s (L := L) (n := n) (P := P) (i := i) (by omega)
    push_cast
    rw [h2, h3]
    rcases sp_dir_or i with h | h <;> rw [h] <;> omega
theorem sp_B_60 (ok : sp_ok L n P K) {i : Int} (h0 : 0 ≤ i) (hi : i ≤ n + 1) : -60 ≤ sp_B L n P i ∧ sp_B L n P i ≤ 60 := by
  have hL := ok.2.1
  have key : ∀ j : Int, 0 ≤ j → j ≤ n → - sp_le P j ≤ sp_B L n P j ∧ sp_B L n P j ≤ sp_le P j := by
    intro j hj0 hj
    have := sp_B_bd ok j.toNat (by omega)
    rwa [Int.toNat_of_nonneg hj0] at this
  by_cases hn : i ≤ n
  · have h1 := key i h0 hn
    have h2 := sp_le_lt_re ok h0 hn
    have h3 := sp_re_le ok h0
    omega
  · have h1 := key n ok.2.2.1 (Int.le_refl _)
    have h2 := sp_le_lt_re ok ok.2.2.1 (Int.le_refl _)
    have h3 := sp_re_le ok ok.2.2.1
    have h4 := sp_B_s (L := L) (n := n) (P := P) (i := n) ok.2.2.1
    have h5 := sp_le_nonneg ok ok.2.2.1 (Int.le_refl _)
    rw [show i = n + 1 by omega, h4]
    rcases sp_dir_or n with h | h <;> rw [h] <;> omega
/-- inside a segment the folded place runs straight -/
theorem sp_run (ok : sp_ok L n P K) {i : Int} (hi0 : 0 ≤ i) (hi : i ≤ n) {v : Int} (h0 : sp_F n P (sp_le P i).toNat = v) :
    ∀ k : Nat, sp_le P i + k ≤ sp_re L n P i → sp_F n P ((sp_le P i).toNat + k) = v + sp_dir i * k
  | 0, _ => by simpa using h0
  | k + 1, h => by
    have ih := sp_run ok hi0 hi h0 k (by omega)
    have hn := sp_le_nonneg ok hi0 hi
    show sp_F n P ((sp_le P i).toNat + k) + (if sp_cnt P (((sp_le P i).toNat + k : Nat) : Int) n.toNat % 2 = 0 then 1 else -1) = _
    rw [ih, sp_cnt_seg ok hi0 hi (by omega) (by omega)]
    unfold sp_dir
    split <;> push_cast <;> omega
theorem sp_F_leN (ok : sp_ok L n P K) : ∀ i : Nat, (i : Int) ≤ n → sp_F n P (sp_le P i).toNat = sp_B L n P i
  | 0, _ => by simp [sp_le, sp_F, sp_B, sp_BN]
  | i + 1, hi => by
    have ih := sp_F_leN ok i (by omega)
    have h1 := sp_le_s (P := P) (L := L) (i := i) (n := n) (by omega) (by omega)
    have h2 := sp_le_lt_re ok (i := i) (by omega) (by omega)
    have h3 := sp_le_nonneg ok (i := i) (by omega) (by omega)
    have h4 := sp_run ok (i := i) (by omega) (by omega) ih (sp_re L n P i - sp_le P i).toNat (by omega)
    have h5 := sp_B_s (L := L) (n := n) (P := P) (i := i) (by omega)
    push_cast
    rw [h1, h5, show (sp_re L n P i).toNat = (sp_le P i).toNat + (sp_re L n P i - sp_le P i).toNat by omega, h4]
    rw [Int.toNat_of_nonneg (by omega)]
theorem sp_F_le (ok : sp_ok L n P K) {i : Int} (h0 : 0 ≤ i) (hi : i ≤ n) : sp_F n P (sp_le P i).toNat = sp_B L n P i := by
  have := sp_F_leN ok i.toNat (by omega)
  rwa [Int.toNat_of_nonneg h0] at this
theorem sp_F_in (ok : sp_ok L n P K) {i : Int} (h0 : 0 ≤ i) (hi : i ≤ n) {p : Nat} (h1 : sp_le P i ≤ p) (h2 : (p : Int) ≤ sp_re L n P i) : sp_F n P p = sp_B L n P i + sp_dir i * (p - sp_le P i) := by
  have h3 := sp_le_nonneg ok h0 hi
  have h4 := sp_run ok h0 hi (sp_F_le ok h0 hi) (p - (sp_le P i).toNat) (by omega)
  rw [show (sp_le P i).toNat + (p - (sp_le P i).toNat) = p by omega] at h4
  rw [h4]
  congr 2
  omega
theorem sp_F_re (ok : sp_ok L n P K) {i : Int} (h0 : 0 ≤ i) (hi : i ≤ n) : sp_F n P (sp_re L n P i).toNat = sp_B L n P (i + 1) := by
  have h2 := sp_le_lt_re ok h0 hi
  have h3 := sp_le_nonneg ok h0 hi
  rw [sp_F_in ok h0 hi (by omega) (by omega), sp_B_s h0, Int.toNat_of_nonneg (by omega)]
end SP
end
section
/-! Paper: its cells, its readers -/
/-- the paper's cells: the laboratory's own cell c0 ahead, all others behind -/
def pw (L n : Int) (tn : Bool) (P K B lo hi : Int → Int) (c0 : ev_AC) (t : List ev_AC) : List ev_AC :=
  c0 :: .inr (1, [ev_i L, ev_i n, ev_i (ev_b tn), .ref 2, .ref 3, .ref 4, .ref 5, .ref 6]) :: ev_ia 6 P :: ev_ia 6 K :: ev_ia 8 B :: ev_ia 7 lo :: ev_ia 7 hi :: t
section PA
variable {g : ev_G} {d : Nat} {L n : Int} {tn : Bool} {P K B lo hi : Int → Int} {c0 : ev_AC} {t : List ev_AC} {h : List ev_AC}
theorem ct_dir {i : Int} (h0 : 0 ≤ i) (h1 : i < 2147483648) : ev_C g mP_direction d [ev_i i] h 0 0 (ev_V (some (ev_i (sp_dir i))) h) := by
  refine ev_ofE (by decide +kernel) rfl (Nat.le_of_ble_eq_true rfl) rfl rfl ?_
  refine ev_iload_n dP_direction_0 rfl ?_
  refine ev_iconst dP_direction_1 ?_
  refine ev_rem dP_direction_2 h0 h1 (by decide) (by decide) ?_
  refine ev_if_ne (tgt := 10) dP_direction_3 rfl (by omega) (by omega) (fun hb => ?_) (fun hb => ?_)
  · refine ev_iconst dP_direction_10 ?_
    refine ev_ireturn dP_direction_11 rfl ?_
    exact ⟨by rw [sp_dir, if_neg hb], rfl⟩
  · refine ev_iconst dP_direction_6 ?_
    refine ev_goto (tgt := 11) dP_direction_7 rfl ?_
    refine ev_ireturn dP_direction_11 rfl ?_
    exact ⟨by rw [sp_dir, if_pos hb], rfl⟩
theorem ct_leftEnd {i : Int} (h0 : 0 ≤ i) (h1 : i ≤ 6) : ev_C g mP_leftEnd d [.ref 1, ev_i i] (pw L n tn P K B lo hi c0 t) 0 0 (ev_V (some (ev_i (sp_le P i))) (pw L n tn P K B lo hi c0 t)) := by
  refine ev_ofE (by decide +kernel) rfl (Nat.le_of_ble_eq_true rfl) rfl rfl ?_
  refine ev_iload_n dP_leftEnd_0 rfl ?_
  refine ev_if_ne (tgt := 8) dP_leftEnd_1 rfl (by omega) (by omega) (fun hb => ?_) (fun hb => ?_)
  · refine ev_aload_n dP_leftEnd_8 rfl ?_
    refine ev_get dP_leftEnd_9 fl_P_9 rfl rfl ?_
    refine ev_iload_n dP_leftEnd_12 rfl ?_
    refine ev_iconst dP_leftEnd_13 ?_
    refine ev_isub dP_leftEnd_14 ?_
    refine ev_iald dP_leftEnd_15 rfl (by omega) (by omega) (by decide) ?_
    refine ev_ireturn dP_leftEnd_16 rfl ?_
    exact ⟨by rw [sp_le, if_neg hb], rfl⟩
  · refine ev_iconst dP_leftEnd_4 ?_
    refine ev_goto (tgt := 16) dP_leftEnd_5 rfl ?_
    refine ev_ireturn dP_leftEnd_16 rfl ?_
    exact ⟨by rw [sp_le, if_pos hb], rfl⟩
theorem ct_rightEnd {i : Int} (h0 : 0 ≤ i) (h1 : i ≤ 6) (hn0 : 0 ≤ n) (hn : n ≤ 6) : ev_C g mP_rightEnd d [.ref 1, ev_i i] (pw L n tn P K B lo hi c0 t) 0 0 (ev_V (some (ev_i (sp_re L n P i))) (pw L n tn P K B lo hi c0 t)) := by
  refine ev_ofE (by decide +kernel) rfl (Nat.le_of_ble_eq_true rfl) rfl rfl ?_
  refine ev_iload_n dP_rightEnd_0 rfl ?_
  refine ev_aload_n dP_rightEnd_1 rfl ?_
  refine ev_get dP_rightEnd_2 fl_P_35 rfl rfl ?_
  refine ev_icmp_ge (tgt := 17) dP_rightEnd_5 rfl (by omega) (by omega) (by omega) (by omega) (fun hb => ?_) (fun hb => ?_)
  · refine ev_aload_n dP_rightEnd_17 rfl ?_
    refine ev_get dP_rightEnd_18 fl_P_31 rfl rfl ?_
    refine ev_ireturn dP_rightEnd_21 rfl ?_
    exact ⟨by rw [sp_re, if_neg (by omega)], rfl⟩
  · refine ev_aload_n dP_rightEnd_8 rfl ?_
    refine ev_get dP_rightEnd_9 fl_P_9 rfl rfl ?_
    refine ev_iload_n dP_rightEnd_12 rfl ?_
    refine ev_iald dP_rightEnd_13 rfl (by omega) (by omega) (by decide) ?_
    refine ev_goto (tgt := 21) dP_rightEnd_14 rfl ?_
    refine ev_ireturn dP_rightEnd_21 rfl ?_
    exact ⟨by rw [sp_re, if_pos hb], rfl⟩
theorem ct_segLen {i : Int} (h0 : 0 ≤ i) (h1 : i ≤ 6) (hn0 : 0 ≤ n) (hn : n ≤ 6) : ev_C g mP_segmentLength (d + 1) [.ref 1, ev_i i] (pw L n tn P K B lo hi c0 t) 0 0 (ev_V (some (ev_i (sp_re L n P i - sp_le P i))) (pw L n tn P K B lo hi c0 t)) := by
  refine ev_ofE (by decide +kernel) rfl (Nat.le_of_ble_eq_true rfl) rfl rfl ?_
  refine ev_aload_n dP_segmentLength_0 rfl ?_
  refine ev_iload_n dP_segmentLength_1 rfl ?_
  refine ev_cV dP_segmentLength_2 cv_P_75 (ct_rightEnd h0 h1 hn0 hn) rfl rfl rfl (Nat.le_of_ble_eq_true rfl) (Nat.le_of_ble_eq_true rfl) (Nat.le_of_ble_eq_true rfl) ?_
  refine ev_aload_n dP_segmentLength_5 rfl ?_
  refine ev_iload_n dP_segmentLength_6 rfl ?_
  refine ev_cV dP_segmentLength_7 cv_P_78 (ct_leftEnd h0 h1) rfl rfl rfl (Nat.le_of_ble_eq_true rfl) (Nat.le_of_ble_eq_true rfl) (Nat.le_of_ble_eq_true rfl) ?_
  refine ev_isub dP_segmentLength_10 ?_
  refine ev_ireturn dP_segmentLength_11 rfl ?_
  exact ⟨rfl, rfl⟩
end PA
end
section
/-! Paper: loops that read -/
/-- how many creases lie before p -/
def sp_bfN (n : Int) (P : Int → Int) (p : Int) : Nat → Int → Int
  | 0, i => i
  | k + 1, i => if P i < p then sp_bfN n P p k (i + 1) else i
def sp_bef (n : Int) (P : Int → Int) (p : Int) : Int := sp_bfN n P p n.toNat 0
def sp_fr (K : Int → Int) : Nat → Int
  | 0 => 0
  | k + 1 => sp_fr K k + (if K k = 0 then 1 else 0)
def sp_im (lo hi : Int → Int) (q : Int) : Nat → Int
  | 0 => 0
  | k + 1 => sp_im lo hi q k + (if lo k ≤ q ∧ q < hi k then 1 else 0)
def sp_mo (f : Int → Int) : Nat → Int
  | 0 => 0
  | k + 1 => if sp_mo f k < f k then f k else sp_mo f k
def sp_mi (B : Int → Int) : Nat → Int
  | 0 => B 0
  | k + 1 => if B (k + 1) < sp_mi B k then B (k + 1) else sp_mi B k
def sp_mx (B : Int → Int) : Nat → Int
  | 0 => B 0
  | k + 1 => if sp_mx B k < B (k + 1) then B (k + 1) else sp_mx B k
def sp_up (tn : Bool) (i : Int) : Bool := decide (i % 2 = 0) != tn
section PB
variable {g : ev_G} {d : Nat} {L n : Int} {tn : Bool} {P K B lo hi : Int → Int} {c0 : ev_AC} {t : List ev_AC} {h : List ev_AC}
theorem sp_bfN_spec {p : Int} : ∀ (k : Nat) (i : Int), i + k = n → i ≤ sp_bfN n P p k i ∧ sp_bfN n P p k i ≤ n ∧ (∀ j, i ≤ j → j < sp_bfN n P p k i → P j < p) ∧ (sp_bfN n P p k i < n → p ≤ P (sp_bfN n P p k i))
  | 0, i, h => by
    refine ⟨Int.le_refl _, by show i ≤ n; omega, fun j h1 h2 => ?_, fun h1 => ?_⟩
    · have h2 : j < i := h2; omega
    · have h1 : i < n := h1; omega
  | k + 1, i, h => by
    have ih := sp_bfN_spec (p := p) k (i + 1) (by omega)
    unfold sp_bfN
    by_cases hp : P i < p
    · rw [if_pos hp]
      refine ⟨by omega, ih.2.1, fun j h1 h2 => ?_, ih.2.2.2⟩
      by_cases hj : j = i
      · rw [hj]; exact hp
      · exact ih.2.2.1 j (by omega) h2
    · rw [if_neg hp]
      exact ⟨Int.le_refl _, by omega, fun j h1 h2 => by omega, fun _ => by omega⟩
theorem sp_bef_spec {p : Int} (hn : 0 ≤ n) : 0 ≤ sp_bef n P p ∧ sp_bef n P p ≤ n ∧ (∀ j, 0 ≤ j → j < sp_bef n P p → P j < p) ∧ (sp_bef n P p < n → p ≤ P (sp_bef n P p)) := sp_bfN_spec n.toNat 0 (by omega)
theorem ct_before {p : Int} (p1 : -2147483648 ≤ p) (p2 : p < 2147483648) (hn0 : 0 ≤ n) (hn : n ≤ 6) (hP : ∀ i, 0 ≤ i → i < n → 0 ≤ P i ∧ P i ≤ 60) :
    ev_C g mP_creasesBefore d [.ref 1, ev_i p] (pw L n tn P K B lo hi c0 t) 0 0 (ev_V (some (ev_i (sp_bef n P p))) (pw L n tn P K B lo hi c0 t)) := by
  refine ev_ofE (by decide +kernel) rfl (Nat.le_of_ble_eq_true rfl) rfl rfl ?_
  refine ev_iconst dP_creasesBefore_0 ?_
  refine ev_istore_n dP_creasesBefore_1 (Nat.le_of_ble_eq_true rfl) ?_
  have loop : ∀ (k : Nat) (i : Int), 0 ≤ i → i + k = n → ev_E g false mP_creasesBefore d 2 [some (.ref 1), some (ev_i p), some (ev_i i)] [] (pw L n tn P K B lo hi c0 t) 0 0 (ev_V (some (ev_i (sp_bfN n P p k i))) (pw L n tn P K B lo hi c0 t)) := by
    intro k
    induction k with
    | zero =>
      intro i h0 hk
      refine ev_iload_n dP_creasesBefore_2 rfl ?_
      refine ev_aload_n dP_creasesBefore_3 rfl ?_
      refine ev_get dP_creasesBefore_4 fl_P_35 rfl rfl ?_
      refine ev_icmp_ge (tgt := 26) dP_creasesBefore_7 rfl (by omega) (by omega) (by omega) (by omega) (fun hb => ?_) (fun hb => ?_)
      · refine ev_iload_n dP_creasesBefore_26 rfl ?_
        refine ev_ireturn dP_creasesBefore_27 rfl ?_
        exact ⟨rfl, rfl⟩
      · omega
    | succ k ih =>
      intro i h0 hk
      refine ev_iload_n dP_creasesBefore_2 rfl ?_
      refine ev_aload_n dP_creasesBefore_3 rfl ?_
      refine ev_get dP_creasesBefore_4 fl_P_35 rfl rfl ?_
      refine ev_icmp_ge (tgt := 26) dP_creasesBefore_7 rfl (by omega) (by omega) (by omega) (by omega) (fun hb => ?_) (fun hb => ?_)
      · omega
      · refine ev_aload_n dP_creasesBefore_10 rfl ?_
        refine ev_get dP_creasesBefore_11 fl_P_9 rfl rfl ?_
        refine ev_iload_n dP_creasesBefore_14 rfl ?_
        refine ev_iald dP_creasesBefore_15 rfl (by omega) (by omega) (by decide) ?_
        refine ev_iload_n dP_creasesBefore_16 rfl ?_
        have hPi := hP i h0 hb
        refine ev_icmp_ge (tgt := 26) dP_creasesBefore_17 rfl (by omega) (by omega) (by omega) (by omega) (fun hb2 => ?_) (fun hb2 => ?_)
        · refine ev_iload_n dP_creasesBefore_26 rfl ?_
          refine ev_ireturn dP_creasesBefore_27 rfl ?_
          exact ⟨by rw [sp_bfN, if_neg (by omega)], rfl⟩
        · refine ev_iinc dP_creasesBefore_20 rfl ?_
          refine ev_goto (tgt := 2) dP_creasesBefore_23 rfl ?_
          have := ih (i + 1) (by omega) (by omega)
          rw [sp_bfN, if_pos hb2]
          exact this
  exact loop n.toNat 0 (by omega) (by omega)
theorem ct_hasCrease {p : Int} (p1 : -2147483648 ≤ p) (p2 : p < 2147483648) (hn0 : 0 ≤ n) (hn : n ≤ 6) (hP : ∀ i, 0 ≤ i → i < n → 0 ≤ P i ∧ P i ≤ 60) :
    ev_C g mP_hasCreaseAt (d + 1) [.ref 1, ev_i p] (pw L n tn P K B lo hi c0 t) 0 0 (ev_V (some (ev_i (ev_b (decide (sp_bef n P p < n ∧ P (sp_bef n P p) = p))))) (pw L n tn P K B lo hi c0 t)) := by
  have hs := sp_bef_spec (n := n) (P := P) (p := p) hn0
  refine ev_ofE (by decide +kernel) rfl (Nat.le_of_ble_eq_true rfl) rfl rfl ?_
  refine ev_aload_n dP_hasCreaseAt_0 rfl ?_
  refine ev_iload_n dP_hasCreaseAt_1 rfl ?_
  refine ev_cV dP_hasCreaseAt_2 cv_P_49 (ct_before p1 p2 hn0 hn hP) rfl rfl rfl (Nat.le_of_ble_eq_true rfl) (Nat.le_of_ble_eq_true rfl) (Nat.le_of_ble_eq_true rfl) ?_
  refine ev_istore_n dP_hasCreaseAt_5 (Nat.le_of_ble_eq_true rfl) ?_
  refine ev_iload_n dP_hasCreaseAt_6 rfl ?_
  refine ev_aload_n dP_hasCreaseAt_7 rfl ?_
  refine ev_get dP_hasCreaseAt_8 fl_P_35 rfl rfl ?_
  refine ev_icmp_ge (tgt := 28) dP_hasCreaseAt_11 rfl (by omega) (by omega) (by omega) (by omega) (fun hb => ?_) (fun hb => ?_)
  · refine ev_iconst dP_hasCreaseAt_28 ?_
    refine ev_zreturn dP_hasCreaseAt_29 rfl ?_ ?_
    · decide
    · exact ⟨by rw [decide_eq_false (by omega)]; rfl, rfl⟩
  · refine ev_aload_n dP_hasCreaseAt_14 rfl ?_
    refine ev_get dP_hasCreaseAt_15 fl_P_9 rfl rfl ?_
    refine ev_iload_n dP_hasCreaseAt_18 rfl ?_
    refine ev_iald dP_hasCreaseAt_19 rfl (by omega) (by omega) (by decide) ?_
    refine ev_iload_n dP_hasCreaseAt_20 rfl ?_
    have hPi := hP _ hs.1 hb
    refine ev_icmp_ne (tgt := 28) dP_hasCreaseAt_21 rfl (by omega) (by omega) (by omega) (by omega) (fun hb2 => ?_) (fun hb2 => ?_)
    · refine ev_iconst dP_hasCreaseAt_28 ?_
      refine ev_zreturn dP_hasCreaseAt_29 rfl ?_ ?_
      · decide
      · exact ⟨by rw [decide_eq_false (by omega)]; rfl, rfl⟩
    · refine ev_iconst dP_hasCreaseAt_24 ?_
      refine ev_goto (tgt := 29) dP_hasCreaseAt_25 rfl ?_
      refine ev_zreturn dP_hasCreaseAt_29 rfl ?_ ?_
      · decide
      · exact ⟨by rw [decide_eq_true ⟨hb, hb2⟩]; rfl, rfl⟩
theorem ct_free (hn0 : 0 ≤ n) (hn : n ≤ 6) (hK : ∀ i, 0 ≤ i → i < n → 0 ≤ K i ∧ K i ≤ 2) :
    ev_C g mP_freeCreases d [.ref 1] (pw L n tn P K B lo hi c0 t) 0 0 (ev_V (some (ev_i (sp_fr K n.toNat))) (pw L n tn P K B lo hi c0 t)) := by
  refine ev_ofE (by decide +kernel) rfl (Nat.le_of_ble_eq_true rfl) rfl rfl ?_
  refine ev_iconst dP_freeCreases_0 ?_
  refine ev_istore_n dP_freeCreases_1 (Nat.le_of_ble_eq_true rfl) ?_
  refine ev_iconst dP_freeCreases_2 ?_
  refine ev_istore_n dP_freeCreases_3 (Nat.le_of_ble_eq_true rfl) ?_
  have loop : ∀ (k i : Nat), (i : Int) + k = n → ev_E g false mP_freeCreases d 4 [some (.ref 1), some (ev_i (sp_fr K i)), some (ev_i i)] [] (pw L n tn P K B lo hi c0 t) 0 0 (ev_V (some (ev_i (sp_fr K n.toNat))) (pw L n tn P K B lo hi c0 t)) := by
    intro k
    induction k with
    | zero =>
      intro i hk
      refine ev_iload_n dP_freeCreases_4 rfl ?_
      refine ev_aload_n dP_freeCreases_5 rfl ?_
      refine ev_get dP_freeCreases_6 fl_P_35 rfl rfl ?_
      refine ev_icmp_ge (tgt := 30) dP_freeCreases_9 rfl (by omega) (by omega) (by omega) (by omega) (fun hb => ?_) (fun hb => ?_)
      · refine ev_iload_n dP_freeCreases_30 rfl ?_
        refine ev_ireturn dP_freeCreases_31 rfl ?_
        exact ⟨by rw [show n.toNat = i by omega], rfl⟩
      · omega
    | succ k ih =>
      intro i hk
      refine ev_iload_n dP_freeCreases_4 rfl ?_
      refine ev_aload_n dP_freeCreases_5 rfl ?_
      refine ev_get dP_freeCreases_6 fl_P_35 rfl rfl ?_
      refine ev_icmp_ge (tgt := 30) dP_freeCreases_9 rfl (by omega) (by omega) (by omega) (by omega) (fun hb => ?_) (fun hb => ?_)
      · omega
      · refine ev_aload_n dP_freeCreases_12 rfl ?_
        refine ev_get dP_freeCreases_13 fl_P_15 rfl rfl ?_
        refine ev_iload_n dP_freeCreases_16 rfl ?_
        refine ev_iald dP_freeCreases_17 rfl (by omega) (by omega) (by decide) ?_
        have hKi := hK i (by omega) hb
        have := ih (i + 1) (by omega)
        refine ev_if_ne (tgt := 24) dP_freeCreases_18 rfl (by omega) (by omega) (fun hb2 => ?_) (fun hb2 => ?_)
        · refine ev_iinc dP_freeCreases_24 rfl ?_
          refine ev_goto (tgt := 4) dP_freeCreases_27 rfl ?_
          rw [sp_fr, if_neg hb2, Int.add_zero] at this
          exact this
        · refine ev_iinc dP_freeCreases_21 rfl ?_
          refine ev_iinc dP_freeCreases_24 rfl ?_
          refine ev_goto (tgt := 4) dP_freeCreases_27 rfl ?_
          rw [sp_fr, if_pos hb2] at this
          exact this
  exact loop n.toNat 0 (by omega)
theorem ct_segments : ev_C g mP_segments d [.ref 1] (pw L n tn P K B lo hi c0 t) 0 0 (ev_V (some (ev_i (n + 1))) (pw L n tn P K B lo hi c0 t)) := by
  refine ev_ofE (by decide +kernel) rfl (Nat.le_of_ble_eq_true rfl) rfl rfl ?_
  refine ev_aload_n dP_segments_0 rfl ?_
  refine ev_get dP_segments_1 fl_P_35 rfl rfl ?_
  refine ev_iconst dP_segments_4 ?_
  refine ev_iadd dP_segments_5 ?_
  refine ev_ireturn dP_segments_6 rfl ?_
  exact ⟨rfl, rfl⟩
theorem ct_hasSeg {i : Int} (i1 : -2147483648 ≤ i) (i2 : i < 2147483648) (hn0 : 0 ≤ n) (hn : n ≤ 6) : ev_C g mP_hasSegment d [.ref 1, ev_i i] (pw L n tn P K B lo hi c0 t) 0 0 (ev_V (some (ev_i (ev_b (decide (0 ≤ i ∧ i ≤ n))))) (pw L n tn P K B lo hi c0 t)) := by
  refine ev_ofE (by decide +kernel) rfl (Nat.le_of_ble_eq_true rfl) rfl rfl ?_
  refine ev_iload_n dP_hasSegment_0 rfl ?_
  refine ev_if_lt (tgt := 16) dP_hasSegment_1 rfl (by omega) (by omega) (fun hb => ?_) (fun hb => ?_)
  · refine ev_iconst dP_hasSegment_16 ?_
    refine ev_zreturn dP_hasSegment_17 rfl ?_ ?_
    · decide
    · exact ⟨by rw [decide_eq_false (by omega)]; rfl, rfl⟩
  · refine ev_iload_n dP_hasSegment_4 rfl ?_
    refine ev_aload_n dP_hasSegment_5 rfl ?_
    refine ev_get dP_hasSegment_6 fl_P_35 rfl rfl ?_
    refine ev_icmp_gt (tgt := 16) dP_hasSegment_9 rfl (by omega) (by omega) (by omega) (by omega) (fun hb2 => ?_) (fun hb2 => ?_)
    · refine ev_iconst dP_hasSegment_16 ?_
      refine ev_zreturn dP_hasSegment_17 rfl ?_ ?_
      · decide
      · exact ⟨by rw [decide_eq_false (by omega)]; rfl, rfl⟩
    · refine ev_iconst dP_hasSegment_12 ?_
      refine ev_goto (tgt := 17) dP_hasSegment_13 rfl ?_
      refine ev_zreturn dP_hasSegment_17 rfl ?_ ?_
      · decide
      · exact ⟨by rw [decide_eq_true ⟨hb, hb2⟩]; rfl, rfl⟩
theorem ct_frontUp {i : Int} (h0 : 0 ≤ i) (h1 : i < 2147483648) : ev_C g mP_frontUp d [.ref 1, ev_i i] (pw L n tn P K B lo hi c0 t) 0 0 (ev_V (some (ev_i (ev_b (sp_up tn i)))) (pw L n tn P K B lo hi c0 t)) := by
  refine ev_ofE (by decide +kernel) rfl (Nat.le_of_ble_eq_true rfl) rfl rfl ?_
  refine ev_iload_n dP_frontUp_0 rfl ?_
  refine ev_iconst dP_frontUp_1 ?_
  refine ev_rem dP_frontUp_2 h0 h1 (by decide) (by decide) ?_
  have ht := ev_b01 tn
  refine ev_if_ne (tgt := 10) dP_frontUp_3 rfl (by omega) (by omega) (fun hb => ?_) (fun hb => ?_)
  · refine ev_iconst dP_frontUp_10 ?_
    refine ev_aload_n dP_frontUp_11 rfl ?_
    refine ev_get dP_frontUp_12 fl_P_38 rfl rfl ?_
    refine ev_icmp_eq (tgt := 22) dP_frontUp_15 rfl (by omega) (by omega) (by omega) (by omega) (fun hb2 => ?_) (fun hb2 => ?_)
    · refine ev_iconst dP_frontUp_22 ?_
      refine ev_zreturn dP_frontUp_23 rfl ?_ ?_
      · decide
      · refine ⟨?_, rfl⟩
        rw [sp_up, decide_eq_false hb]
        cases tn
        · rfl
        · exact absurd hb2 (by decide)
    · refine ev_iconst dP_frontUp_18 ?_
      refine ev_goto (tgt := 23) dP_frontUp_19 rfl ?_
      refine ev_zreturn dP_frontUp_23 rfl ?_ ?_
      · decide
      · refine ⟨?_, rfl⟩
        rw [sp_up, decide_eq_false hb]
        cases tn
        · exact absurd rfl hb2
        · rfl
  · refine ev_iconst dP_frontUp_6 ?_
    refine ev_goto (tgt := 11) dP_frontUp_7 rfl ?_
    refine ev_aload_n dP_frontUp_11 rfl ?_
    refine ev_get dP_frontUp_12 fl_P_38 rfl rfl ?_
    refine ev_icmp_eq (tgt := 22) dP_frontUp_15 rfl (by omega) (by omega) (by omega) (by omega) (fun hb2 => ?_) (fun hb2 => ?_)
    · refine ev_iconst dP_frontUp_22 ?_
      refine ev_zreturn dP_frontUp_23 rfl ?_ ?_
      · decide
      · refine ⟨?_, rfl⟩
        rw [sp_up, decide_eq_true hb]
        cases tn
        · exact absurd hb2 (by decide)
        · rfl
    · refine ev_iconst dP_frontUp_18 ?_
      refine ev_goto (tgt := 23) dP_frontUp_19 rfl ?_
      refine ev_zreturn dP_frontUp_23 rfl ?_ ?_
      · decide
      · refine ⟨?_, rfl⟩
        rw [sp_up, decide_eq_true hb]
        cases tn
        · rfl
        · exact absurd rfl hb2
theorem ct_liesOver {i q : Int} (h0 : 0 ≤ i) (h1 : i ≤ 6) (q1 : -2147483648 ≤ q) (q2 : q < 2147483648) (hl : -60 ≤ lo i ∧ lo i ≤ 60) (hh : -60 ≤ hi i ∧ hi i ≤ 60) : ev_C g mP_liesOver d [.ref 1, ev_i i, ev_i q] (pw L n tn P K B lo hi c0 t) 0 0 (ev_V (some (ev_i (ev_b (decide (lo i ≤ q ∧ q < hi i))))) (pw L n tn P K B lo hi c0 t)) := by
  refine ev_ofE (by decide +kernel) rfl (Nat.le_of_ble_eq_true rfl) rfl rfl ?_
  refine ev_aload_n dP_liesOver_0 rfl ?_
  refine ev_get dP_liesOver_1 fl_P_21 rfl rfl ?_
  refine ev_iload_n dP_liesOver_4 rfl ?_
  refine ev_iald dP_liesOver_5 rfl (by omega) (by omega) (by decide) ?_
  refine ev_iload_n dP_liesOver_6 rfl ?_
  refine ev_icmp_gt (tgt := 24) dP_liesOver_7 rfl (by omega) (by omega) (by omega) (by omega) (fun hb => ?_) (fun hb => ?_)
  · refine ev_iconst dP_liesOver_24 ?_
    refine ev_zreturn dP_liesOver_25 rfl ?_ ?_
    · decide
    · exact ⟨by rw [decide_eq_false (by omega)]; rfl, rfl⟩
  · refine ev_iload_n dP_liesOver_10 rfl ?_
    refine ev_aload_n dP_liesOver_11 rfl ?_
    refine ev_get dP_liesOver_12 fl_P_24 rfl rfl ?_
    refine ev_iload_n dP_liesOver_15 rfl ?_
    refine ev_iald dP_liesOver_16 rfl (by omega) (by omega) (by decide) ?_
    refine ev_icmp_ge (tgt := 24) dP_liesOver_17 rfl (by omega) (by omega) (by omega) (by omega) (fun hb2 => ?_) (fun hb2 => ?_)
    · refine ev_iconst dP_liesOver_24 ?_
      refine ev_zreturn dP_liesOver_25 rfl ?_ ?_
      · decide
      · exact ⟨by rw [decide_eq_false (by omega)]; rfl, rfl⟩
    · refine ev_iconst dP_liesOver_20 ?_
      refine ev_goto (tgt := 25) dP_liesOver_21 rfl ?_
      refine ev_zreturn dP_liesOver_25 rfl ?_ ?_
      · decide
      · exact ⟨by rw [decide_eq_true ⟨hb, hb2⟩]; rfl, rfl⟩
theorem ct_hasInside {i q : Int} (h0 : 0 ≤ i) (h1 : i ≤ 6) (q1 : -2147483648 ≤ q) (q2 : q < 2147483648) (hl : -60 ≤ lo i ∧ lo i ≤ 60) (hh : -60 ≤ hi i ∧ hi i ≤ 60) : ev_C g mP_hasInside d [.ref 1, ev_i i, ev_i q] (pw L n tn P K B lo hi c0 t) 0 0 (ev_V (some (ev_i (ev_b (decide (lo i < q ∧ q < hi i))))) (pw L n tn P K B lo hi c0 t)) := by
  refine ev_ofE (by decide +kernel) rfl (Nat.le_of_ble_eq_true rfl) rfl rfl ?_
  refine ev_aload_n dP_hasInside_0 rfl ?_
  refine ev_get dP_hasInside_1 fl_P_21 rfl rfl ?_
  refine ev_iload_n dP_hasInside_4 rfl ?_
  refine ev_iald dP_hasInside_5 rfl (by omega) (by omega) (by decide) ?_
  refine ev_iload_n dP_hasInside_6 rfl ?_
  refine ev_icmp_ge (tgt := 24) dP_hasInside_7 rfl (by omega) (by omega) (by omega) (by omega) (fun hb => ?_) (fun hb => ?_)
  · refine ev_iconst dP_hasInside_24 ?_
    refine ev_zreturn dP_hasInside_25 rfl ?_ ?_
    · decide
    · exact ⟨by rw [decide_eq_false (by omega)]; rfl, rfl⟩
  · refine ev_iload_n dP_hasInside_10 rfl ?_
    refine ev_aload_n dP_hasInside_11 rfl ?_
    refine ev_get dP_hasInside_12 fl_P_24 rfl rfl ?_
    refine ev_iload_n dP_hasInside_15 rfl ?_
    refine ev_iald dP_hasInside_16 rfl (by omega) (by omega) (by decide) ?_
    refine ev_icmp_ge (tgt := 24) dP_hasInside_17 rfl (by omega) (by omega) (by omega) (by omega) (fun hb2 => ?_) (fun hb2 => ?_)
    · refine ev_iconst dP_hasInside_24 ?_
      refine ev_zreturn dP_hasInside_25 rfl ?_ ?_
      · decide
      · exact ⟨by rw [decide_eq_false (by omega)]; rfl, rfl⟩
    · refine ev_iconst dP_hasInside_20 ?_
      refine ev_goto (tgt := 25) dP_hasInside_21 rfl ?_
      refine ev_zreturn dP_hasInside_25 rfl ?_ ?_
      · decide
      · exact ⟨by rw [decide_eq_true ⟨hb, hb2⟩]; rfl, rfl⟩
theorem ct_overlap {a b : Int} (a0 : 0 ≤ a) (a1 : a ≤ 6) (b0 : 0 ≤ b) (b1 : b ≤ 6) (hla : -60 ≤ lo a ∧ lo a ≤ 60) (hha : -60 ≤ hi a ∧ hi a ≤ 60) (hlb : -60 ≤ lo b ∧ lo b ≤ 60) (hhb : -60 ≤ hi b ∧ hi b ≤ 60) : ev_C g mP_overlap d [.ref 1, ev_i a, ev_i b] (pw L n tn P K B lo hi c0 t) 0 0 (ev_V (some (ev_i (ev_b (decide (lo a < hi b ∧ lo b < hi a))))) (pw L n tn P K B lo hi c0 t)) := by
  refine ev_ofE (by decide +kernel) rfl (Nat.le_of_ble_eq_true rfl) rfl rfl ?_
  refine ev_aload_n dP_overlap_0 rfl ?_
  refine ev_get dP_overlap_1 fl_P_21 rfl rfl ?_
  refine ev_iload_n dP_overlap_4 rfl ?_
  refine ev_iald dP_overlap_5 rfl (by omega) (by omega) (by decide) ?_
  refine ev_aload_n dP_overlap_6 rfl ?_
  refine ev_get dP_overlap_7 fl_P_24 rfl rfl ?_
  refine ev_iload_n dP_overlap_10 rfl ?_
  refine ev_iald dP_overlap_11 rfl (by omega) (by omega) (by decide) ?_
  refine ev_icmp_ge (tgt := 34) dP_overlap_12 rfl (by omega) (by omega) (by omega) (by omega) (fun hb => ?_) (fun hb => ?_)
  · refine ev_iconst dP_overlap_34 ?_
    refine ev_zreturn dP_overlap_35 rfl ?_ ?_
    · decide
    · exact ⟨by rw [decide_eq_false (by omega)]; rfl, rfl⟩
  · refine ev_aload_n dP_overlap_15 rfl ?_
    refine ev_get dP_overlap_16 fl_P_21 rfl rfl ?_
    refine ev_iload_n dP_overlap_19 rfl ?_
    refine ev_iald dP_overlap_20 rfl (by omega) (by omega) (by decide) ?_
    refine ev_aload_n dP_overlap_21 rfl ?_
    refine ev_get dP_overlap_22 fl_P_24 rfl rfl ?_
    refine ev_iload_n dP_overlap_25 rfl ?_
    refine ev_iald dP_overlap_26 rfl (by omega) (by omega) (by decide) ?_
    refine ev_icmp_ge (tgt := 34) dP_overlap_27 rfl (by omega) (by omega) (by omega) (by omega) (fun hb2 => ?_) (fun hb2 => ?_)
    · refine ev_iconst dP_overlap_34 ?_
      refine ev_zreturn dP_overlap_35 rfl ?_ ?_
      · decide
      · exact ⟨by rw [decide_eq_false (by omega)]; rfl, rfl⟩
    · refine ev_iconst dP_overlap_30 ?_
      refine ev_goto (tgt := 35) dP_overlap_31 rfl ?_
      refine ev_zreturn dP_overlap_35 rfl ?_ ?_
      · decide
      · exact ⟨by rw [decide_eq_true ⟨hb, hb2⟩]; rfl, rfl⟩
theorem ct_foldedCrease {i : Int} (h0 : 0 ≤ i) (h1 : i ≤ 6) : ev_C g mP_foldedCrease d [.ref 1, ev_i i] (pw L n tn P K B lo hi c0 t) 0 0 (ev_V (some (ev_i (B (i + 1)))) (pw L n tn P K B lo hi c0 t)) := by
  refine ev_ofE (by decide +kernel) rfl (Nat.le_of_ble_eq_true rfl) rfl rfl ?_
  refine ev_aload_n dP_foldedCrease_0 rfl ?_
  refine ev_get dP_foldedCrease_1 fl_P_18 rfl rfl ?_
  refine ev_iload_n dP_foldedCrease_4 rfl ?_
  refine ev_iconst dP_foldedCrease_5 ?_
  refine ev_iadd dP_foldedCrease_6 ?_
  refine ev_iald dP_foldedCrease_7 rfl (by omega) (by omega) (by decide) ?_
  refine ev_ireturn dP_foldedCrease_8 rfl ?_
  exact ⟨rfl, rfl⟩
theorem ct_turnOver : ev_C g mP_turnOver d [.ref 1] (pw L n tn P K B lo hi c0 t) 0 0 (ev_V none (pw L n (!tn) P K B lo hi c0 t)) := by
  refine ev_ofE (by decide +kernel) rfl (Nat.le_of_ble_eq_true rfl) rfl rfl ?_
  refine ev_aload_n dP_turnOver_0 rfl ?_
  refine ev_aload_n dP_turnOver_1 rfl ?_
  refine ev_get dP_turnOver_2 fl_P_38 rfl rfl ?_
  refine ev_bn (tgt := 12) dP_turnOver_5 rfl (fun hb => ?_) (fun hb => ?_)
  · refine ev_iconst dP_turnOver_12 ?_
    refine ev_put dP_turnOver_13 fp_P_38 (fun q => by cases q) rfl (Nat.le_of_ble_eq_true rfl) (ev_nbz (by first | decide | exact ev_b01 _)) (ev_fbz (by first | decide | exact ev_b01 _)) ?_
    refine ev_return dP_turnOver_16 rfl ?_
    subst hb
    exact ⟨rfl, rfl⟩
  · refine ev_iconst dP_turnOver_8 ?_
    refine ev_goto (tgt := 13) dP_turnOver_9 rfl ?_
    refine ev_put dP_turnOver_13 fp_P_38 (fun q => by cases q) rfl (Nat.le_of_ble_eq_true rfl) (ev_nbz (by first | decide | exact ev_b01 _)) (ev_fbz (by first | decide | exact ev_b01 _)) ?_
    refine ev_return dP_turnOver_16 rfl ?_
    subst hb
    exact ⟨rfl, rfl⟩
theorem ct_imagesOver {q : Int} (q1 : -2147483648 ≤ q) (q2 : q < 2147483648) (hn0 : 0 ≤ n) (hn : n ≤ 6) (hl : ∀ i, 0 ≤ i → i ≤ n → -60 ≤ lo i ∧ lo i ≤ 60) (hh : ∀ i, 0 ≤ i → i ≤ n → -60 ≤ hi i ∧ hi i ≤ 60) :
    ev_C g mP_imagesOver (d + 1) [.ref 1, ev_i q] (pw L n tn P K B lo hi c0 t) 0 0 (ev_V (some (ev_i (sp_im lo hi q (n + 1).toNat))) (pw L n tn P K B lo hi c0 t)) := by
  refine ev_ofE (by decide +kernel) rfl (Nat.le_of_ble_eq_true rfl) rfl rfl ?_
  refine ev_iconst dP_imagesOver_0 ?_
  refine ev_istore_n dP_imagesOver_1 (Nat.le_of_ble_eq_true rfl) ?_
  refine ev_iconst dP_imagesOver_2 ?_
  refine ev_istore_n dP_imagesOver_3 (Nat.le_of_ble_eq_true rfl) ?_
  have loop : ∀ (k i : Nat), (i : Int) + k = n + 1 → ev_E g false mP_imagesOver (d + 1) 4 [some (.ref 1), some (ev_i q), some (ev_i (sp_im lo hi q i)), some (ev_i i)] [] (pw L n tn P K B lo hi c0 t) 0 0 (ev_V (some (ev_i (sp_im lo hi q (n + 1).toNat))) (pw L n tn P K B lo hi c0 t)) := by
    intro k
    induction k with
    | zero =>
      intro i hk
      refine ev_iload_n dP_imagesOver_4 rfl ?_
      refine ev_aload_n dP_imagesOver_5 rfl ?_
      refine ev_get dP_imagesOver_6 fl_P_35 rfl rfl ?_
      refine ev_icmp_gt (tgt := 30) dP_imagesOver_9 rfl (by omega) (by omega) (by omega) (by omega) (fun hb => ?_) (fun hb => ?_)
      · refine ev_iload_n dP_imagesOver_30 rfl ?_
        refine ev_ireturn dP_imagesOver_31 rfl ?_
        exact ⟨by rw [show (n + 1).toNat = i by omega], rfl⟩
      · omega
    | succ k ih =>
      intro i hk
      refine ev_iload_n dP_imagesOver_4 rfl ?_
      refine ev_aload_n dP_imagesOver_5 rfl ?_
      refine ev_get dP_imagesOver_6 fl_P_35 rfl rfl ?_
      refine ev_icmp_gt (tgt := 30) dP_imagesOver_9 rfl (by omega) (by omega) (by omega) (by omega) (fun hb => ?_) (fun hb => ?_)
      · omega
      · refine ev_aload_n dP_imagesOver_12 rfl ?_
        refine ev_iload_n dP_imagesOver_13 rfl ?_
        refine ev_iload_n dP_imagesOver_14 rfl ?_
        refine ev_cV dP_imagesOver_15 cv_P_88 (ct_liesOver (by omega) (by omega) q1 q2 (hl i (by omega) hb) (hh i (by omega) hb)) rfl rfl rfl (Nat.le_of_ble_eq_true rfl) (Nat.le_of_ble_eq_true rfl) (Nat.le_of_ble_eq_true rfl) ?_
        have := ih (i + 1) (by omega)
        refine ev_bz (tgt := 24) dP_imagesOver_18 rfl (fun hb2 => ?_) (fun hb2 => ?_)
        · refine ev_iinc dP_imagesOver_24 rfl ?_
          refine ev_goto (tgt := 4) dP_imagesOver_27 rfl ?_
          rw [sp_im, if_neg (of_decide_eq_false hb2), Int.add_zero] at this
          exact this
        · refine ev_iinc dP_imagesOver_21 rfl ?_
          refine ev_iinc dP_imagesOver_24 rfl ?_
          refine ev_goto (tgt := 4) dP_imagesOver_27 rfl ?_
          rw [sp_im, if_pos (of_decide_eq_true hb2)] at this
          exact this
  exact loop (n + 1).toNat 0 (by omega)
theorem sp_im_bd (q : Int) : ∀ k : Nat, 0 ≤ sp_im lo hi q k ∧ sp_im lo hi q k ≤ k
  | 0 => by simp [sp_im]
  | k + 1 => by
    have := sp_im_bd q k
    unfold sp_im
    split <;> push_cast <;> omega
theorem sp_mo_bd {f : Int → Int} (hf : ∀ i, 0 ≤ f i ∧ f i ≤ 60) : ∀ k : Nat, 0 ≤ sp_mo f k ∧ sp_mo f k ≤ 60
  | 0 => by simp [sp_mo]
  | k + 1 => by
    have := sp_mo_bd hf k
    have := hf k
    unfold sp_mo
    split <;> omega
theorem ct_mostImages (hn0 : 0 ≤ n) (hn : n ≤ 6) (hl : ∀ i, 0 ≤ i → i ≤ n → -60 ≤ lo i ∧ lo i ≤ 60) (hh : ∀ i, 0 ≤ i → i ≤ n → -60 ≤ hi i ∧ hi i ≤ 60) :
    ev_C g mP_mostImages (d + 2) [.ref 1] (pw L n tn P K B lo hi c0 t) 0 0 (ev_V (some (ev_i (sp_mo (fun i => sp_im lo hi (lo i) (n + 1).toNat) (n + 1).toNat))) (pw L n tn P K B lo hi c0 t)) := by
  have hf : ∀ i, 0 ≤ (fun i => sp_im lo hi (lo i) (n + 1).toNat) i ∧ (fun i => sp_im lo hi (lo i) (n + 1).toNat) i ≤ 60 := fun i => by
    have := sp_im_bd (lo := lo) (hi := hi) (lo i) (n + 1).toNat
    exact ⟨this.1, by show sp_im lo hi (lo i) (n + 1).toNat ≤ 60; omega⟩
  refine ev_ofE (by decide +kernel) rfl (Nat.le_of_ble_eq_true rfl) rfl rfl ?_
  refine ev_iconst dP_mostImages_0 ?_
  refine ev_istore_n dP_mostImages_1 (Nat.le_of_ble_eq_true rfl) ?_
  refine ev_iconst dP_mostImages_2 ?_
  refine ev_istore_n dP_mostImages_3 (Nat.le_of_ble_eq_true rfl) ?_
  have loop : ∀ (k i : Nat), (i : Int) + k = n + 1 → ev_E g false mP_mostImages (d + 2) 4 [some (.ref 1), some (ev_i (sp_mo (fun i => sp_im lo hi (lo i) (n + 1).toNat) i)), some (ev_i i)] [] (pw L n tn P K B lo hi c0 t) 0 0 (ev_V (some (ev_i (sp_mo (fun i => sp_im lo hi (lo i) (n + 1).toNat) (n + 1).toNat))) (pw L n tn P K B lo hi c0 t)) := by
    intro k
    induction k with
    | zero =>
      intro i hk
      refine ev_iload_n dP_mostImages_4 rfl ?_
      refine ev_aload_n dP_mostImages_5 rfl ?_
      refine ev_get dP_mostImages_6 fl_P_35 rfl rfl ?_
      refine ev_icmp_gt (tgt := 33) dP_mostImages_9 rfl (by omega) (by omega) (by omega) (by omega) (fun hb => ?_) (fun hb => ?_)
      · refine ev_iload_n dP_mostImages_33 rfl ?_
        refine ev_ireturn dP_mostImages_34 rfl ?_
        exact ⟨by rw [show (n + 1).toNat = i by omega], rfl⟩
      · omega
    | succ k ih =>
      intro i hk
      refine ev_iload_n dP_mostImages_4 rfl ?_
      refine ev_aload_n dP_mostImages_5 rfl ?_
      refine ev_get dP_mostImages_6 fl_P_35 rfl rfl ?_
      refine ev_icmp_gt (tgt := 33) dP_mostImages_9 rfl (by omega) (by omega) (by omega) (by omega) (fun hb => ?_) (fun hb => ?_)
      · omega
      · refine ev_iload_n dP_mostImages_12 rfl ?_
        refine ev_aload_n dP_mostImages_13 rfl ?_
        refine ev_aload_n dP_mostImages_14 rfl ?_
        refine ev_get dP_mostImages_15 fl_P_21 rfl rfl ?_
        refine ev_iload_n dP_mostImages_18 rfl ?_
        refine ev_iald dP_mostImages_19 rfl (by omega) (by omega) (by decide) ?_
        have hli := hl i (by omega) hb
        refine ev_cV dP_mostImages_20 cv_P_85 (ct_imagesOver (by omega) (by omega) hn0 hn hl hh) rfl rfl rfl (Nat.le_of_ble_eq_true rfl) (Nat.le_of_ble_eq_true rfl) (Nat.le_of_ble_eq_true rfl) ?_
        have h1 := sp_mo_bd hf i
        have h2 : 0 ≤ sp_im lo hi (lo i) (n + 1).toNat ∧ sp_im lo hi (lo i) (n + 1).toNat ≤ 60 := hf i
        refine ev_max dP_mostImages_23 wm_P_72 ws_max wc_max (Nat.le_of_ble_eq_true rfl) (by omega) (by omega) (by omega) (by omega) ?_
        refine ev_istore_n dP_mostImages_26 (Nat.le_of_ble_eq_true rfl) ?_
        refine ev_iinc dP_mostImages_27 rfl ?_
        refine ev_goto (tgt := 4) dP_mostImages_30 rfl ?_
        exact ih (i + 1) (by omega)
  exact loop (n + 1).toNat 0 (by omega)
theorem sp_mi_bd (hB : ∀ i, 0 ≤ i → i ≤ n + 1 → -60 ≤ B i ∧ B i ≤ 60) : ∀ k : Nat, (k : Int) ≤ n + 1 → -60 ≤ sp_mi B k ∧ sp_mi B k ≤ 60
  | 0, _ => hB 0 (by omega) (by omega)
  | k + 1, h => by
    have h1 := sp_mi_bd hB k (by omega)
    have h2 := hB (k + 1) (by omega) (by omega)
    unfold sp_mi
    split <;> omega
theorem sp_mx_bd (hB : ∀ i, 0 ≤ i → i ≤ n + 1 → -60 ≤ B i ∧ B i ≤ 60) : ∀ k : Nat, (k : Int) ≤ n + 1 → -60 ≤ sp_mx B k ∧ sp_mx B k ≤ 60
  | 0, _ => hB 0 (by omega) (by omega)
  | k + 1, h => by
    have h1 := sp_mx_bd hB k (by omega)
    have h2 := hB (k + 1) (by omega) (by omega)
    unfold sp_mx
    split <;> omega
theorem ct_reach (hn0 : 0 ≤ n) (hn : n ≤ 6) (hB : ∀ i, 0 ≤ i → i ≤ n + 1 → -60 ≤ B i ∧ B i ≤ 60) :
    ev_C g mP_reach (d + 1) [.ref 1] (pw L n tn P K B lo hi c0 t) 0 0 (ev_V (some (ev_i (sp_mx B (n + 1).toNat - sp_mi B (n + 1).toNat))) (pw L n tn P K B lo hi c0 t)) := by
  refine ev_ofE (by decide +kernel) rfl (Nat.le_of_ble_eq_true rfl) rfl rfl ?_
  refine ev_aload_n dP_reach_0 rfl ?_
  refine ev_get dP_reach_1 fl_P_18 rfl rfl ?_
  refine ev_iconst dP_reach_4 ?_
  refine ev_iald dP_reach_5 rfl (by omega) (by omega) (by decide) ?_
  refine ev_istore_n dP_reach_6 (Nat.le_of_ble_eq_true rfl) ?_
  refine ev_aload_n dP_reach_7 rfl ?_
  refine ev_get dP_reach_8 fl_P_18 rfl rfl ?_
  refine ev_iconst dP_reach_11 ?_
  refine ev_iald dP_reach_12 rfl (by omega) (by omega) (by decide) ?_
  refine ev_istore_n dP_reach_13 (Nat.le_of_ble_eq_true rfl) ?_
  refine ev_iconst dP_reach_14 ?_
  refine ev_istore_n dP_reach_15 (Nat.le_of_ble_eq_true rfl) ?_
  have loop : ∀ (k i : Nat), (i : Int) + k = n + 1 → ev_E g false mP_reach (d + 1) 16 [some (.ref 1), some (ev_i (sp_mi B i)), some (ev_i (sp_mx B i)), some (ev_i (i + 1))] [] (pw L n tn P K B lo hi c0 t) 0 0 (ev_V (some (ev_i (sp_mx B (n + 1).toNat - sp_mi B (n + 1).toNat))) (pw L n tn P K B lo hi c0 t)) := by
    intro k
    induction k with
    | zero =>
      intro i hk
      refine ev_iload_n dP_reach_16 rfl ?_
      refine ev_aload_n dP_reach_17 rfl ?_
      refine ev_cV dP_reach_18 cv_P_81 (ct_segments) rfl rfl rfl (Nat.le_of_ble_eq_true rfl) (Nat.le_of_ble_eq_true rfl) (Nat.le_of_ble_eq_true rfl) ?_
      refine ev_icmp_gt (tgt := 52) dP_reach_21 rfl (by omega) (by omega) (by omega) (by omega) (fun hb => ?_) (fun hb => ?_)
      · refine ev_iload_n dP_reach_52 rfl ?_
        refine ev_iload_n dP_reach_53 rfl ?_
        refine ev_isub dP_reach_54 ?_
        refine ev_ireturn dP_reach_55 rfl ?_
        exact ⟨by rw [show (n + 1).toNat = i by omega], rfl⟩
      · omega
    | succ k ih =>
      intro i hk
      have h1 := sp_mi_bd hB i (by omega)
      have h2 := sp_mx_bd hB i (by omega)
      have h3 := hB (i + 1) (by omega) (by omega)
      refine ev_iload_n dP_reach_16 rfl ?_
      refine ev_aload_n dP_reach_17 rfl ?_
      refine ev_cV dP_reach_18 cv_P_81 (ct_segments) rfl rfl rfl (Nat.le_of_ble_eq_true rfl) (Nat.le_of_ble_eq_true rfl) (Nat.le_of_ble_eq_true rfl) ?_
      refine ev_icmp_gt (tgt := 52) dP_reach_21 rfl (by omega) (by omega) (by omega) (by omega) (fun hb => ?_) (fun hb => ?_)
      · omega
      · refine ev_iload_n dP_reach_24 rfl ?_
        refine ev_aload_n dP_reach_25 rfl ?_
        refine ev_get dP_reach_26 fl_P_18 rfl rfl ?_
        refine ev_iload_n dP_reach_29 rfl ?_
        refine ev_iald dP_reach_30 rfl (by omega) (by omega) (by decide) ?_
        refine ev_min dP_reach_31 wm_P_66 ws_min wc_min (Nat.le_of_ble_eq_true rfl) (by omega) (by omega) (by omega) (by omega) ?_
        refine ev_istore_n dP_reach_34 (Nat.le_of_ble_eq_true rfl) ?_
        refine ev_iload_n dP_reach_35 rfl ?_
        refine ev_aload_n dP_reach_36 rfl ?_
        refine ev_get dP_reach_37 fl_P_18 rfl rfl ?_
        refine ev_iload_n dP_reach_40 rfl ?_
        refine ev_iald dP_reach_41 rfl (by omega) (by omega) (by decide) ?_
        refine ev_max dP_reach_42 wm_P_72 ws_max wc_max (Nat.le_of_ble_eq_true rfl) (by omega) (by omega) (by omega) (by omega) ?_
        refine ev_istore_n dP_reach_45 (Nat.le_of_ble_eq_true rfl) ?_
        refine ev_iinc dP_reach_46 rfl ?_
        refine ev_goto (tgt := 16) dP_reach_49 rfl ?_
        exact ih (i + 1) (by omega)
  exact loop (n + 1).toNat 0 (by omega)
end PB
end
section
/-! Paper: what is written -/
def sp_sh (P : Int → Int) (n j : Int) : Int → Int := fun x => if j < x ∧ x ≤ n then P (x - 1) else P x
def sp_ins (P : Int → Int) (n i v : Int) : Int → Int := ev_up (sp_sh P n i) i v
def sp_dl (P : Int → Int) (i j : Int) : Int → Int := fun x => if i ≤ x ∧ x < j then P (x + 1) else P x
theorem sp_sh_n (P : Int → Int) (n : Int) : sp_sh P n n = P := by
  funext x
  exact if_neg (by omega)
theorem sp_sh_s {P : Int → Int} {n j : Int} (h : j ≤ n) : ev_up (sp_sh P n j) j (sp_sh P n j (j - 1)) = sp_sh P n (j - 1) := by
  funext x
  unfold ev_up sp_sh
  by_cases hx : x = j
  · subst hx; rw [if_pos rfl, if_neg (by omega), if_pos (by omega)]
  · rw [if_neg hx]
    by_cases h1 : j < x ∧ x ≤ n
    · rw [if_pos h1, if_pos (by omega)]
    · rw [if_neg h1, if_neg (by omega)]
theorem sp_dl_0 (P : Int → Int) (i : Int) : sp_dl P i i = P := by
  funext x
  exact if_neg (by omega)
theorem sp_dl_s {P : Int → Int} {i j : Int} (h : i ≤ j) : ev_up (sp_dl P i j) j (sp_dl P i j (j + 1)) = sp_dl P i (j + 1) := by
  funext x
  unfold ev_up sp_dl
  by_cases hx : x = j
  · subst hx; rw [if_pos rfl, if_neg (by omega), if_pos (by omega)]
  · rw [if_neg hx]
    by_cases h1 : i ≤ x ∧ x < j
    · rw [if_pos h1, if_pos (by omega)]
    · rw [if_neg h1, if_neg (by omega)]
section PC
variable {g : ev_G} {d : Nat} {L n : Int} {tn : Bool} {P K B lo hi : Int → Int} {c0 : ev_AC} {t : List ev_AC} {h : List ev_AC}
theorem ct_insert {i p m : Int} (h0 : 0 ≤ i) (hi1 : i ≤ n) (hn : n < 6) :
    ev_C g mP_insertCrease d [.ref 1, ev_i i, ev_i p, ev_i m] (pw L n tn P K B lo hi c0 t) 0 0 (ev_V none (pw L (n + 1) tn (sp_ins P n i p) (sp_ins K n i m) B lo hi c0 t)) := by
  refine ev_ofE (by decide +kernel) rfl (Nat.le_of_ble_eq_true rfl) rfl rfl ?_
  refine ev_aload_n dP_insertCrease_0 rfl ?_
  refine ev_get dP_insertCrease_1 fl_P_35 rfl rfl ?_
  refine ev_istore dP_insertCrease_4 (Nat.le_of_ble_eq_true rfl) ?_
  have loop : ∀ (k : Nat) (j : Int), j = i + k → j ≤ n → ev_E g false mP_insertCrease d 6 [some (.ref 1), some (ev_i i), some (ev_i p), some (ev_i m), some (ev_i j)] [] (pw L n tn (sp_sh P n j) (sp_sh K n j) B lo hi c0 t) 0 0 (ev_V none (pw L (n + 1) tn (sp_ins P n i p) (sp_ins K n i m) B lo hi c0 t)) := by
    intro k
    induction k with
    | zero =>
      intro j hj hjn
      have hji : j = i := by omega
      subst hji
      refine ev_iload dP_insertCrease_6 rfl ?_
      refine ev_iload_n dP_insertCrease_8 rfl ?_
      refine ev_icmp_le (tgt := 50) dP_insertCrease_9 rfl (by omega) (by omega) (by omega) (by omega) (fun hb => ?_) (fun hb => ?_)
      · refine ev_aload_n dP_insertCrease_50 rfl ?_
        refine ev_get dP_insertCrease_51 fl_P_9 rfl rfl ?_
        refine ev_iload_n dP_insertCrease_54 rfl ?_
        refine ev_iload_n dP_insertCrease_55 rfl ?_
        refine ev_iast dP_insertCrease_56 rfl (by omega) (by omega) (by decide) ?_
        refine ev_aload_n dP_insertCrease_57 rfl ?_
        refine ev_get dP_insertCrease_58 fl_P_15 rfl rfl ?_
        refine ev_iload_n dP_insertCrease_61 rfl ?_
        refine ev_iload_n dP_insertCrease_62 rfl ?_
        refine ev_iast dP_insertCrease_63 rfl (by omega) (by omega) (by decide) ?_
        refine ev_aload_n dP_insertCrease_64 rfl ?_
        refine ev_dup dP_insertCrease_65 rfl ?_
        refine ev_get dP_insertCrease_66 fl_P_35 rfl rfl ?_
        refine ev_iconst dP_insertCrease_69 ?_
        refine ev_iadd dP_insertCrease_70 ?_
        refine ev_put dP_insertCrease_71 fp_P_35 (fun q => by cases q) rfl (Nat.le_of_ble_eq_true rfl) rfl rfl ?_
        refine ev_return dP_insertCrease_74 rfl ?_
        exact ⟨rfl, rfl⟩
      · omega
    | succ k ih =>
      intro j hj hjn
      refine ev_iload dP_insertCrease_6 rfl ?_
      refine ev_iload_n dP_insertCrease_8 rfl ?_
      refine ev_icmp_le (tgt := 50) dP_insertCrease_9 rfl (by omega) (by omega) (by omega) (by omega) (fun hb => ?_) (fun hb => ?_)
      · omega
      · refine ev_aload_n dP_insertCrease_12 rfl ?_
        refine ev_get dP_insertCrease_13 fl_P_9 rfl rfl ?_
        refine ev_iload dP_insertCrease_16 rfl ?_
        refine ev_aload_n dP_insertCrease_18 rfl ?_
        refine ev_get dP_insertCrease_19 fl_P_9 rfl rfl ?_
        refine ev_iload dP_insertCrease_22 rfl ?_
        refine ev_iconst dP_insertCrease_24 ?_
        refine ev_isub dP_insertCrease_25 ?_
        refine ev_iald dP_insertCrease_26 rfl (by omega) (by omega) (by decide) ?_
        refine ev_iast dP_insertCrease_27 rfl (by omega) (by omega) (by decide) ?_
        refine ev_aload_n dP_insertCrease_28 rfl ?_
        refine ev_get dP_insertCrease_29 fl_P_15 rfl rfl ?_
        refine ev_iload dP_insertCrease_32 rfl ?_
        refine ev_aload_n dP_insertCrease_34 rfl ?_
        refine ev_get dP_insertCrease_35 fl_P_15 rfl rfl ?_
        refine ev_iload dP_insertCrease_38 rfl ?_
        refine ev_iconst dP_insertCrease_40 ?_
        refine ev_isub dP_insertCrease_41 ?_
        refine ev_iald dP_insertCrease_42 rfl (by omega) (by omega) (by decide) ?_
        refine ev_iast dP_insertCrease_43 rfl (by omega) (by omega) (by decide) ?_
        refine ev_iinc dP_insertCrease_44 rfl ?_
        refine ev_goto (tgt := 6) dP_insertCrease_47 rfl ?_
        rw [sp_sh_s hjn, sp_sh_s hjn]
        exact ih (j - 1) (by omega) (by omega)
  have := loop (n - i).toNat n (by omega) (by omega)
  rw [sp_sh_n, sp_sh_n] at this
  exact this
theorem ct_remove {i : Int} (h0 : 0 ≤ i) (hi1 : i < n) (hn : n ≤ 6) :
    ev_C g mP_removeCrease d [.ref 1, ev_i i] (pw L n tn P K B lo hi c0 t) 0 0 (ev_V none (pw L (n - 1) tn (sp_dl P i (n - 1)) (sp_dl K i (n - 1)) B lo hi c0 t)) := by
  refine ev_ofE (by decide +kernel) rfl (Nat.le_of_ble_eq_true rfl) rfl rfl ?_
  refine ev_aload_n dP_removeCrease_0 rfl ?_
  refine ev_dup dP_removeCrease_1 rfl ?_
  refine ev_get dP_removeCrease_2 fl_P_35 rfl rfl ?_
  refine ev_iconst dP_removeCrease_5 ?_
  refine ev_isub dP_removeCrease_6 ?_
  refine ev_put dP_removeCrease_7 fp_P_35 (fun q => by cases q) rfl (Nat.le_of_ble_eq_true rfl) rfl rfl ?_
  refine ev_iload_n dP_removeCrease_10 rfl ?_
  refine ev_istore_n dP_removeCrease_11 (Nat.le_of_ble_eq_true rfl) ?_
  have loop : ∀ (k : Nat) (j : Int), j + k = n - 1 → i ≤ j → ev_E g false mP_removeCrease d 12 [some (.ref 1), some (ev_i i), some (ev_i j)] [] (pw L (n - 1) tn (sp_dl P i j) (sp_dl K i j) B lo hi c0 t) 0 0 (ev_V none (pw L (n - 1) tn (sp_dl P i (n - 1)) (sp_dl K i (n - 1)) B lo hi c0 t)) := by
    intro k
    induction k with
    | zero =>
      intro j hj hij
      have hjn : j = n - 1 := by omega
      subst hjn
      refine ev_iload_n dP_removeCrease_12 rfl ?_
      refine ev_aload_n dP_removeCrease_13 rfl ?_
      refine ev_get dP_removeCrease_14 fl_P_35 rfl rfl ?_
      refine ev_icmp_ge (tgt := 54) dP_removeCrease_17 rfl (by omega) (by omega) (by omega) (by omega) (fun hb => ?_) (fun hb => ?_)
      · refine ev_return dP_removeCrease_54 rfl ?_
        exact ⟨rfl, rfl⟩
      · omega
    | succ k ih =>
      intro j hj hij
      refine ev_iload_n dP_removeCrease_12 rfl ?_
      refine ev_aload_n dP_removeCrease_13 rfl ?_
      refine ev_get dP_removeCrease_14 fl_P_35 rfl rfl ?_
      refine ev_icmp_ge (tgt := 54) dP_removeCrease_17 rfl (by omega) (by omega) (by omega) (by omega) (fun hb => ?_) (fun hb => ?_)
      · omega
      · refine ev_aload_n dP_removeCrease_20 rfl ?_
        refine ev_get dP_removeCrease_21 fl_P_9 rfl rfl ?_
        refine ev_iload_n dP_removeCrease_24 rfl ?_
        refine ev_aload_n dP_removeCrease_25 rfl ?_
        refine ev_get dP_removeCrease_26 fl_P_9 rfl rfl ?_
        refine ev_iload_n dP_removeCrease_29 rfl ?_
        refine ev_iconst dP_removeCrease_30 ?_
        refine ev_iadd dP_removeCrease_31 ?_
        refine ev_iald dP_removeCrease_32 rfl (by omega) (by omega) (by decide) ?_
        refine ev_iast dP_removeCrease_33 rfl (by omega) (by omega) (by decide) ?_
        refine ev_aload_n dP_removeCrease_34 rfl ?_
        refine ev_get dP_removeCrease_35 fl_P_15 rfl rfl ?_
        refine ev_iload_n dP_removeCrease_38 rfl ?_
        refine ev_aload_n dP_removeCrease_39 rfl ?_
        refine ev_get dP_removeCrease_40 fl_P_15 rfl rfl ?_
        refine ev_iload_n dP_removeCrease_43 rfl ?_
        refine ev_iconst dP_removeCrease_44 ?_
        refine ev_iadd dP_removeCrease_45 ?_
        refine ev_iald dP_removeCrease_46 rfl (by omega) (by omega) (by decide) ?_
        refine ev_iast dP_removeCrease_47 rfl (by omega) (by omega) (by decide) ?_
        refine ev_iinc dP_removeCrease_48 rfl ?_
        refine ev_goto (tgt := 12) dP_removeCrease_51 rfl ?_
        rw [sp_dl_s hij, sp_dl_s hij]
        exact ih (j + 1) (by omega) (by omega)
  have := loop (n - 1 - i).toNat i (by omega) (by omega)
  rw [sp_dl_0, sp_dl_0] at this
  exact this
theorem ct_fold (ok : sp_ok L n P K) : ev_C g mP_fold (d + 2) [.ref 1] (pw L n tn P K B lo hi c0 t) 0 0
    (ev_V none (pw L n tn P K (ev_ov (sp_B L n P) B (n + 2)) (ev_ov (sp_lo L n P) lo (n + 1)) (ev_ov (sp_hi L n P) hi (n + 1)) c0 t)) := by
  have hn0 := ok.2.2.1
  have hn := ok.2.2.2.1
  refine ev_ofE (by decide +kernel) rfl (Nat.le_of_ble_eq_true rfl) rfl rfl ?_
  refine ev_aload_n dP_fold_0 rfl ?_
  refine ev_get dP_fold_1 fl_P_18 rfl rfl ?_
  refine ev_iconst dP_fold_4 ?_
  refine ev_iconst dP_fold_5 ?_
  refine ev_iast dP_fold_6 rfl (by omega) (by omega) (by decide) ?_
  refine ev_iconst dP_fold_7 ?_
  refine ev_istore_n dP_fold_8 (Nat.le_of_ble_eq_true rfl) ?_
  have loop : ∀ (k : Nat) (i : Int), 0 ≤ i → i + k = n + 1 → ev_E g false mP_fold (d + 2) 9 [some (.ref 1), some (ev_i i)] [] (pw L n tn P K (ev_ov (sp_B L n P) B (i + 1)) (ev_ov (sp_lo L n P) lo i) (ev_ov (sp_hi L n P) hi i) c0 t) 0 0
      (ev_V none (pw L n tn P K (ev_ov (sp_B L n P) B (n + 2)) (ev_ov (sp_lo L n P) lo (n + 1)) (ev_ov (sp_hi L n P) hi (n + 1)) c0 t)) := by
    intro k
    induction k with
    | zero =>
      intro i h0 hk
      have hin : i = n + 1 := by omega
      subst hin
      refine ev_iload_n dP_fold_9 rfl ?_
      refine ev_aload_n dP_fold_10 rfl ?_
      refine ev_get dP_fold_11 fl_P_35 rfl rfl ?_
      refine ev_icmp_gt (tgt := 94) dP_fold_14 rfl (by omega) (by omega) (by omega) (by omega) (fun hb => ?_) (fun hb => ?_)
      · refine ev_return dP_fold_94 rfl ?_
        exact ⟨rfl, by rw [show n + 1 + 1 = n + 2 by omega]⟩
      · omega
    | succ k ih =>
      intro i h0 hk
      have b1 := sp_B_60 ok (i := i) h0 (by omega)
      have b2 := sp_B_60 ok (i := i + 1) (by omega) (by omega)
      refine ev_iload_n dP_fold_9 rfl ?_
      refine ev_aload_n dP_fold_10 rfl ?_
      refine ev_get dP_fold_11 fl_P_35 rfl rfl ?_
      refine ev_icmp_gt (tgt := 94) dP_fold_14 rfl (by omega) (by omega) (by omega) (by omega) (fun hb => ?_) (fun hb => ?_)
      · omega
      · refine ev_aload_n dP_fold_17 rfl ?_
        refine ev_get dP_fold_18 fl_P_18 rfl rfl ?_
        refine ev_iload_n dP_fold_21 rfl ?_
        refine ev_iconst dP_fold_22 ?_
        refine ev_iadd dP_fold_23 ?_
        refine ev_aload_n dP_fold_24 rfl ?_
        refine ev_get dP_fold_25 fl_P_18 rfl rfl ?_
        refine ev_iload_n dP_fold_28 rfl ?_
        refine ev_iald dP_fold_29 rfl (by omega) (by omega) (by decide) ?_
        refine ev_iload_n dP_fold_30 rfl ?_
        refine ev_cS dP_fold_31 cs_P_60 (ct_dir h0 (by omega)) rfl rfl (Nat.le_of_ble_eq_true rfl) (Nat.le_of_ble_eq_true rfl) (Nat.le_of_ble_eq_true rfl) ?_
        refine ev_aload_n dP_fold_34 rfl ?_
        refine ev_iload_n dP_fold_35 rfl ?_
        refine ev_cV dP_fold_36 cv_P_63 (ct_segLen h0 (by omega) hn0 hn) rfl rfl rfl (Nat.le_of_ble_eq_true rfl) (Nat.le_of_ble_eq_true rfl) (Nat.le_of_ble_eq_true rfl) ?_
        refine ev_imul dP_fold_39 ?_
        refine ev_iadd dP_fold_40 ?_
        refine ev_iast dP_fold_41 rfl (by omega) (by omega) (by decide) ?_
        have e1 : ev_up (ev_ov (sp_B L n P) B (i + 1)) (i + 1) (ev_ov (sp_B L n P) B (i + 1) i + sp_dir i * (sp_re L n P i - sp_le P i)) = ev_ov (sp_B L n P) B (i + 1 + 1) := ev_ov_s (by omega) (by rw [ev_ov_in h0 (by omega), sp_B_s h0])
        rw [e1]
        have v1 : ev_ov (sp_B L n P) B (i + 1 + 1) i = sp_B L n P i := ev_ov_in h0 (by omega)
        have v2 : ev_ov (sp_B L n P) B (i + 1 + 1) (i + 1) = sp_B L n P (i + 1) := ev_ov_in (by omega) (by omega)
        refine ev_aload_n dP_fold_42 rfl ?_
        refine ev_get dP_fold_43 fl_P_21 rfl rfl ?_
        refine ev_iload_n dP_fold_46 rfl ?_
        refine ev_aload_n dP_fold_47 rfl ?_
        refine ev_get dP_fold_48 fl_P_18 rfl rfl ?_
        refine ev_iload_n dP_fold_51 rfl ?_
        refine ev_iald dP_fold_52 rfl (by omega) (by omega) (by decide) ?_
        refine ev_aload_n dP_fold_53 rfl ?_
        refine ev_get dP_fold_54 fl_P_18 rfl rfl ?_
        refine ev_iload_n dP_fold_57 rfl ?_
        refine ev_iconst dP_fold_58 ?_
        refine ev_iadd dP_fold_59 ?_
        refine ev_iald dP_fold_60 rfl (by omega) (by omega) (by decide) ?_
        rw [v1, v2]
        refine ev_min dP_fold_61 wm_P_66 ws_min wc_min (Nat.le_of_ble_eq_true rfl) (by omega) (by omega) (by omega) (by omega) ?_
        refine ev_iast dP_fold_64 rfl (by omega) (by omega) (by decide) ?_
        have e2 : ev_up (ev_ov (sp_lo L n P) lo i) i (if sp_B L n P (i + 1) < sp_B L n P i then sp_B L n P (i + 1) else sp_B L n P i) = ev_ov (sp_lo L n P) lo (i + 1) := ev_ov_s h0 rfl
        rw [e2]
        refine ev_aload_n dP_fold_65 rfl ?_
        refine ev_get dP_fold_66 fl_P_24 rfl rfl ?_
        refine ev_iload_n dP_fold_69 rfl ?_
        refine ev_aload_n dP_fold_70 rfl ?_
        refine ev_get dP_fold_71 fl_P_18 rfl rfl ?_
        refine ev_iload_n dP_fold_74 rfl ?_
        refine ev_iald dP_fold_75 rfl (by omega) (by omega) (by decide) ?_
        refine ev_aload_n dP_fold_76 rfl ?_
        refine ev_get dP_fold_77 fl_P_18 rfl rfl ?_
        refine ev_iload_n dP_fold_80 rfl ?_
        refine ev_iconst dP_fold_81 ?_
        refine ev_iadd dP_fold_82 ?_
        refine ev_iald dP_fold_83 rfl (by omega) (by omega) (by decide) ?_
        rw [v1, v2]
        refine ev_max dP_fold_84 wm_P_72 ws_max wc_max (Nat.le_of_ble_eq_true rfl) (by omega) (by omega) (by omega) (by omega) ?_
        refine ev_iast dP_fold_87 rfl (by omega) (by omega) (by decide) ?_
        have e3 : ev_up (ev_ov (sp_hi L n P) hi i) i (if sp_B L n P i < sp_B L n P (i + 1) then sp_B L n P (i + 1) else sp_B L n P i) = ev_ov (sp_hi L n P) hi (i + 1) := ev_ov_s h0 rfl
        rw [e3]
        refine ev_iinc dP_fold_88 rfl ?_
        refine ev_goto (tgt := 9) dP_fold_91 rfl ?_
        exact ih (i + 1) (by omega) (by omega)
  have := loop (n + 1).toNat 0 (by omega) (by omega)
  have e0 : ev_up B 0 0 = ev_ov (sp_B L n P) B (0 + 1) := by
    have := ev_ov_s (F := sp_B L n P) (G := B) (k := 0) (z := 0) (by omega) rfl
    rwa [ev_ov_0 _ _ (Int.le_refl _)] at this
  rw [e0]
  rw [ev_ov_0 _ _ (Int.le_refl _), ev_ov_0 _ _ (Int.le_refl _)] at this
  exact this
theorem ct_renew {L' : Int} (h1 : 1 ≤ L') (h2 : L' ≤ 60) : ev_C g mP_renew (d + 3) [.ref 1, ev_i L'] (pw L n tn P K B lo hi c0 t) 0 0
    (ev_V none (pw L' 0 false P K (ev_ov (sp_B L' 0 P) B 2) (ev_ov (sp_lo L' 0 P) lo 1) (ev_ov (sp_hi L' 0 P) hi 1) c0 t)) := by
  have ok : sp_ok L' 0 P K := ⟨h1, h2, by omega, by omega, fun i a b => by omega, fun i j a b c => by omega⟩
  refine ev_ofE (by decide +kernel) rfl (Nat.le_of_ble_eq_true rfl) rfl rfl ?_
  refine ev_aload_n dP_renew_0 rfl ?_
  refine ev_iload_n dP_renew_1 rfl ?_
  refine ev_put dP_renew_2 fp_P_31 (fun q => by cases q) rfl (Nat.le_of_ble_eq_true rfl) rfl rfl ?_
  refine ev_aload_n dP_renew_5 rfl ?_
  refine ev_iconst dP_renew_6 ?_
  refine ev_put dP_renew_7 fp_P_35 (fun q => by cases q) rfl (Nat.le_of_ble_eq_true rfl) rfl rfl ?_
  refine ev_aload_n dP_renew_10 rfl ?_
  refine ev_iconst dP_renew_11 ?_
  refine ev_put dP_renew_12 fp_P_38 (fun q => by cases q) rfl (Nat.le_of_ble_eq_true rfl) (ev_nbz (by first | decide | exact ev_b01 _)) (ev_fbz (by first | decide | exact ev_b01 _)) ?_
  refine ev_aload_n dP_renew_15 rfl ?_
  refine ev_cVv dP_renew_16 cv_P_42 (ct_fold (L := L') (n := 0) (tn := false) ok) rfl rfl rfl (Nat.le_of_ble_eq_true rfl) (Nat.le_of_ble_eq_true rfl) (Nat.le_of_ble_eq_true rfl) ?_
  refine ev_return dP_renew_19 rfl ?_
  exact ⟨rfl, rfl⟩
theorem ct_Pinit : ev_C g mP_init (d + 4) [.ref 1] [c0, .inr (1, [ev_i 0, ev_i 0, ev_i 0, .null, .null, .null, .null, .null])] 5 34
    (ev_V none (pw 1 0 false (fun _ => 0) (fun _ => 0) (ev_ov (sp_B 1 0 (fun _ => 0)) (fun _ => 0) 2) (ev_ov (sp_lo 1 0 (fun _ => 0)) (fun _ => 0) 1) (ev_ov (sp_hi 1 0 (fun _ => 0)) (fun _ => 0) 1) c0 [])) := by
  refine ev_ofE (by decide +kernel) rfl (Nat.le_of_ble_eq_true rfl) rfl rfl ?_
  refine ev_aload_n dP_init_0 rfl ?_
  refine ev_obj dP_init_1 wm_P_3 wo_i wo_c (Nat.le_of_ble_eq_true rfl) ?_
  refine ev_aload_n dP_init_4 rfl ?_
  refine ev_bipush dP_init_5 rfl ?_
  refine ev_nI (n := 6) dP_init_7 rfl (by decide) ?_
  refine ev_put dP_init_9 fp_P_9 (fun _ => rfl) rfl (Nat.le_of_ble_eq_true rfl) rfl rfl ?_
  refine ev_aload_n dP_init_12 rfl ?_
  refine ev_bipush dP_init_13 rfl ?_
  refine ev_nI (n := 6) dP_init_15 rfl (by decide) ?_
  refine ev_put dP_init_17 fp_P_15 (fun _ => rfl) rfl (Nat.le_of_ble_eq_true rfl) rfl rfl ?_
  refine ev_aload_n dP_init_20 rfl ?_
  refine ev_bipush dP_init_21 rfl ?_
  refine ev_nI (n := 8) dP_init_23 rfl (by decide) ?_
  refine ev_put dP_init_25 fp_P_18 (fun _ => rfl) rfl (Nat.le_of_ble_eq_true rfl) rfl rfl ?_
  refine ev_aload_n dP_init_28 rfl ?_
  refine ev_bipush dP_init_29 rfl ?_
  refine ev_nI (n := 7) dP_init_31 rfl (by decide) ?_
  refine ev_put dP_init_33 fp_P_21 (fun _ => rfl) rfl (Nat.le_of_ble_eq_true rfl) rfl rfl ?_
  refine ev_aload_n dP_init_36 rfl ?_
  refine ev_bipush dP_init_37 rfl ?_
  refine ev_nI (n := 7) dP_init_39 rfl (by decide) ?_
  refine ev_put dP_init_41 fp_P_24 (fun _ => rfl) rfl (Nat.le_of_ble_eq_true rfl) rfl rfl ?_
  refine ev_aload_n dP_init_44 rfl ?_
  refine ev_iconst dP_init_45 ?_
  refine ev_cVv dP_init_46 cv_P_27 (ct_renew (L := 0) (n := 0) (tn := false) (P := fun _ => 0) (K := fun _ => 0) (B := fun _ => 0) (lo := fun _ => 0) (hi := fun _ => 0) (L' := 1) (t := []) (by decide) (by decide)) rfl rfl rfl (Nat.le_of_ble_eq_true rfl) (Nat.le_of_ble_eq_true rfl) (Nat.le_of_ble_eq_true rfl) ?_
  refine ev_return dP_init_49 rfl ?_
  exact ⟨rfl, rfl⟩
def sp_has (n : Int) (P : Int → Int) (p : Int) : Prop := sp_bef n P p < n ∧ P (sp_bef n P p) = p
/-- 0: the crease is taken; 1: a wrong argument; 2: no room -/
def sp_jd (L n : Int) (P : Int → Int) (p m : Int) : Int :=
  if p < 1 ∨ L ≤ p ∨ m < 0 ∨ 3 < m then 1 else if sp_bef n P p < n ∧ P (sp_bef n P p) = p then 0 else if m = 3 then 1 else if n < 6 then 0 else 2
theorem ct_judge {p m : Int} (p1 : -2147483648 ≤ p) (p2 : p < 2147483648) (m1 : -2147483648 ≤ m) (m2 : m < 2147483648) (ok : sp_ok L n P K) :
    ev_C g mP_judgeCrease (d + 2) [.ref 1, ev_i p, ev_i m] (pw L n tn P K B lo hi c0 t) 0 0 (ev_V (some (ev_i (sp_jd L n P p m))) (pw L n tn P K B lo hi c0 t)) := by
  have hL := ok.1
  have hL2 := ok.2.1
  have hn0 := ok.2.2.1
  have hn := ok.2.2.2.1
  have hP : ∀ i, 0 ≤ i → i < n → 0 ≤ P i ∧ P i ≤ 60 := fun i a b => by have := ok.2.2.2.2.1 i a b; omega
  refine ev_ofE (by decide +kernel) rfl (Nat.le_of_ble_eq_true rfl) rfl rfl ?_
  refine ev_iload_n dP_judgeCrease_0 rfl ?_
  refine ev_iconst dP_judgeCrease_1 ?_
  refine ev_icmp_lt (tgt := 22) dP_judgeCrease_2 rfl (by omega) (by omega) (by omega) (by omega) (fun hb => ?_) (fun hb => ?_)
  · refine ev_iconst dP_judgeCrease_22 ?_
    refine ev_ireturn dP_judgeCrease_23 rfl ?_
    exact ⟨by rw [sp_jd, if_pos (by omega)], rfl⟩
  · refine ev_iload_n dP_judgeCrease_5 rfl ?_
    refine ev_aload_n dP_judgeCrease_6 rfl ?_
    refine ev_get dP_judgeCrease_7 fl_P_31 rfl rfl ?_
    refine ev_icmp_ge (tgt := 22) dP_judgeCrease_10 rfl (by omega) (by omega) (by omega) (by omega) (fun hb2 => ?_) (fun hb2 => ?_)
    · refine ev_iconst dP_judgeCrease_22 ?_
      refine ev_ireturn dP_judgeCrease_23 rfl ?_
      exact ⟨by rw [sp_jd, if_pos (by omega)], rfl⟩
    · refine ev_iload_n dP_judgeCrease_13 rfl ?_
      refine ev_if_lt (tgt := 22) dP_judgeCrease_14 rfl (by omega) (by omega) (fun hb3 => ?_) (fun hb3 => ?_)
      · refine ev_iconst dP_judgeCrease_22 ?_
        refine ev_ireturn dP_judgeCrease_23 rfl ?_
        exact ⟨by rw [sp_jd, if_pos (by omega)], rfl⟩
      · refine ev_iload_n dP_judgeCrease_17 rfl ?_
        refine ev_iconst dP_judgeCrease_18 ?_
        refine ev_icmp_le (tgt := 24) dP_judgeCrease_19 rfl (by omega) (by omega) (by omega) (by omega) (fun hb4 => ?_) (fun hb4 => ?_)
        · refine ev_aload_n dP_judgeCrease_24 rfl ?_
          refine ev_iload_n dP_judgeCrease_25 rfl ?_
          refine ev_cV dP_judgeCrease_26 cv_P_45 (ct_hasCrease p1 p2 hn0 hn hP) rfl rfl rfl (Nat.le_of_ble_eq_true rfl) (Nat.le_of_ble_eq_true rfl) (Nat.le_of_ble_eq_true rfl) ?_
          refine ev_bz (tgt := 34) dP_judgeCrease_29 rfl (fun hb5 => ?_) (fun hb5 => ?_)
          · refine ev_iload_n dP_judgeCrease_34 rfl ?_
            refine ev_iconst dP_judgeCrease_35 ?_
            have h5 := of_decide_eq_false hb5
            refine ev_icmp_ne (tgt := 41) dP_judgeCrease_36 rfl (by omega) (by omega) (by omega) (by omega) (fun hb6 => ?_) (fun hb6 => ?_)
            · refine ev_aload_n dP_judgeCrease_41 rfl ?_
              refine ev_get dP_judgeCrease_42 fl_P_35 rfl rfl ?_
              refine ev_bipush dP_judgeCrease_45 rfl ?_
              refine ev_icmp_ge (tgt := 54) dP_judgeCrease_47 rfl (by omega) (by omega) (by omega) (by omega) (fun hb7 => ?_) (fun hb7 => ?_)
              · refine ev_iconst dP_judgeCrease_54 ?_
                refine ev_ireturn dP_judgeCrease_55 rfl ?_
                exact ⟨by rw [sp_jd, if_neg (by omega), if_neg h5, if_neg hb6, if_neg (by omega)], rfl⟩
              · refine ev_iconst dP_judgeCrease_50 ?_
                refine ev_goto (tgt := 55) dP_judgeCrease_51 rfl ?_
                refine ev_ireturn dP_judgeCrease_55 rfl ?_
                exact ⟨by rw [sp_jd, if_neg (by omega), if_neg h5, if_neg hb6, if_pos (by omega)], rfl⟩
            · refine ev_iconst dP_judgeCrease_39 ?_
              refine ev_ireturn dP_judgeCrease_40 rfl ?_
              exact ⟨by rw [sp_jd, if_neg (by omega), if_neg h5, if_pos hb6], rfl⟩
          · refine ev_iconst dP_judgeCrease_32 ?_
            refine ev_ireturn dP_judgeCrease_33 rfl ?_
            exact ⟨by rw [sp_jd, if_neg (by omega), if_pos (of_decide_eq_true hb5)], rfl⟩
        · refine ev_iconst dP_judgeCrease_22 ?_
          refine ev_ireturn dP_judgeCrease_23 rfl ?_
          exact ⟨by rw [sp_jd, if_pos (by omega)], rfl⟩
theorem ct_foldedPlace {p : Int} (p0 : 0 ≤ p) (p2 : p ≤ 60) (ok : sp_ok L n P K) :
    ev_C g mP_foldedPlace (d + 2) [.ref 1, ev_i p] (pw L n tn P K B lo hi c0 t) 0 0 (ev_V (some (ev_i (B (sp_bef n P p) + sp_dir (sp_bef n P p) * (p - sp_le P (sp_bef n P p))))) (pw L n tn P K B lo hi c0 t)) := by
  have hn0 := ok.2.2.1
  have hn := ok.2.2.2.1
  have hP : ∀ i, 0 ≤ i → i < n → 0 ≤ P i ∧ P i ≤ 60 := fun i a b => by have := ok.2.2.2.2.1 i a b; have := ok.2.1; omega
  have hs := sp_bef_spec (n := n) (P := P) (p := p) hn0
  refine ev_ofE (by decide +kernel) rfl (Nat.le_of_ble_eq_true rfl) rfl rfl ?_
  refine ev_aload_n dP_foldedPlace_0 rfl ?_
  refine ev_iload_n dP_foldedPlace_1 rfl ?_
  refine ev_cV dP_foldedPlace_2 cv_P_49 (ct_before (by omega) (by omega) hn0 hn hP) rfl rfl rfl (Nat.le_of_ble_eq_true rfl) (Nat.le_of_ble_eq_true rfl) (Nat.le_of_ble_eq_true rfl) ?_
  refine ev_istore_n dP_foldedPlace_5 (Nat.le_of_ble_eq_true rfl) ?_
  refine ev_aload_n dP_foldedPlace_6 rfl ?_
  refine ev_get dP_foldedPlace_7 fl_P_18 rfl rfl ?_
  refine ev_iload_n dP_foldedPlace_10 rfl ?_
  refine ev_iald dP_foldedPlace_11 rfl (by omega) (by omega) (by decide) ?_
  refine ev_iload_n dP_foldedPlace_12 rfl ?_
  refine ev_cS dP_foldedPlace_13 cs_P_60 (ct_dir hs.1 (by omega)) rfl rfl (Nat.le_of_ble_eq_true rfl) (Nat.le_of_ble_eq_true rfl) (Nat.le_of_ble_eq_true rfl) ?_
  refine ev_iload_n dP_foldedPlace_16 rfl ?_
  refine ev_aload_n dP_foldedPlace_17 rfl ?_
  refine ev_iload_n dP_foldedPlace_18 rfl ?_
  refine ev_cV dP_foldedPlace_19 cv_P_78 (ct_leftEnd hs.1 (by omega)) rfl rfl rfl (Nat.le_of_ble_eq_true rfl) (Nat.le_of_ble_eq_true rfl) (Nat.le_of_ble_eq_true rfl) ?_
  refine ev_isub dP_foldedPlace_22 ?_
  refine ev_imul dP_foldedPlace_23 ?_
  refine ev_iadd dP_foldedPlace_24 ?_
  refine ev_ireturn dP_foldedPlace_25 rfl ?_
  exact ⟨rfl, rfl⟩
end PC
end
section
/-! setting a crease -/
def sp_n1 (n : Int) (P : Int → Int) (p m : Int) : Int := if m = 3 then n - 1 else if sp_bef n P p < n ∧ P (sp_bef n P p) = p then n else n + 1
def sp_P1 (n : Int) (P : Int → Int) (p m : Int) : Int → Int := if m = 3 then sp_dl P (sp_bef n P p) (n - 1) else if sp_bef n P p < n ∧ P (sp_bef n P p) = p then P else sp_ins P n (sp_bef n P p) p
def sp_K1 (n : Int) (P K : Int → Int) (p m : Int) : Int → Int := if m = 3 then sp_dl K (sp_bef n P p) (n - 1) else if sp_bef n P p < n ∧ P (sp_bef n P p) = p then ev_up K (sp_bef n P p) m else sp_ins K n (sp_bef n P p) m
section PD
variable {g : ev_G} {d : Nat} {L n : Int} {tn : Bool} {P K B lo hi : Int → Int} {c0 : ev_AC} {t : List ev_AC} {h : List ev_AC}
theorem sp_jd0 {p m : Int} (hj : sp_jd L n P p m = 0) : 1 ≤ p ∧ p < L ∧ 0 ≤ m ∧ m ≤ 3 ∧ ((sp_bef n P p < n ∧ P (sp_bef n P p) = p) ∨ (¬ (sp_bef n P p < n ∧ P (sp_bef n P p) = p) ∧ m ≠ 3 ∧ n < 6)) := by
  unfold sp_jd at hj
  by_cases h1 : p < 1 ∨ L ≤ p ∨ m < 0 ∨ 3 < m
  · rw [if_pos h1] at hj; exact absurd hj (by decide)
  · rw [if_neg h1] at hj
    refine ⟨by omega, by omega, by omega, by omega, ?_⟩
    by_cases h2 : sp_bef n P p < n ∧ P (sp_bef n P p) = p
    · exact Or.inl h2
    · rw [if_neg h2] at hj
      by_cases h3 : m = 3
      · rw [if_pos h3] at hj; exact absurd hj (by decide)
      · rw [if_neg h3] at hj
        by_cases h4 : n < 6
        · exact Or.inr ⟨h2, h3, h4⟩
        · rw [if_neg h4] at hj; exact absurd hj (by decide)
theorem sp_ok1 {p m : Int} (ok : sp_ok L n P K) (hj : sp_jd L n P p m = 0) : sp_ok L (sp_n1 n P p m) (sp_P1 n P p m) (sp_K1 n P K p m) := by
  obtain ⟨p1, p2, m1, m2, hc⟩ := sp_jd0 hj
  obtain ⟨l1, l2, n0, n6, hb, hs⟩ := ok
  obtain ⟨b0, b1, b2, b3⟩ := sp_bef_spec (n := n) (P := P) (p := p) n0
  unfold sp_n1 sp_P1 sp_K1
  generalize sp_bef n P p = b at *
  by_cases h3 : m = 3
  · rw [if_pos h3, if_pos h3, if_pos h3]
    have hh : b < n := hc.elim (fun h => h.1) (fun h => absurd h3 h.2.1)
    refine ⟨l1, l2, by omega, by omega, fun i i0 i1 => ?_, fun i j i0 ij j1 => ?_⟩
    · unfold sp_dl
      by_cases h : b ≤ i ∧ i < n - 1
      · rw [if_pos h, if_pos h]; exact hb (i + 1) (by omega) (by omega)
      · rw [if_neg h, if_neg h]; exact hb i i0 (by omega)
    · unfold sp_dl
      by_cases h : b ≤ i ∧ i < n - 1
      · rw [if_pos h, if_pos (by omega)]; exact hs (i + 1) (j + 1) (by omega) (by omega) (by omega)
      · rw [if_neg h]
        by_cases h2 : b ≤ j ∧ j < n - 1
        · rw [if_pos h2]; exact hs i (j + 1) i0 (by omega) (by omega)
        · rw [if_neg h2]; exact hs i j i0 ij (by omega)
  · rw [if_neg h3, if_neg h3, if_neg h3]
    rcases hc with hh | ⟨hh, -, h6⟩
    · rw [if_pos hh, if_pos hh, if_pos hh]
      refine ⟨l1, l2, n0, n6, fun i i0 i1 => ?_, hs⟩
      have := hb i i0 i1
      unfold ev_up
      split <;> omega
    · rw [if_neg hh, if_neg hh, if_neg hh]
      have hpb : b < n → p < P b := fun h => by
        have := b3 h
        have : P b ≠ p := fun e => hh ⟨h, e⟩
        omega
      have hin : ∀ (F : Int → Int) (v i : Int), i < b → sp_ins F n b v i = F i := fun F v i h => by
        unfold sp_ins ev_up sp_sh
        rw [if_neg (by omega), if_neg (by omega)]
      have hat : ∀ (F : Int → Int) (v : Int), sp_ins F n b v b = v := fun F v => if_pos rfl
      have hgt : ∀ (F : Int → Int) (v i : Int), b < i → i ≤ n → sp_ins F n b v i = F (i - 1) := fun F v i h h2 => by
        unfold sp_ins ev_up sp_sh
        rw [if_neg (by omega), if_pos (by omega)]
      refine ⟨l1, l2, by omega, by omega, fun i i0 i1 => ?_, fun i j i0 ij j1 => ?_⟩
      · rcases Int.lt_trichotomy i b with h | h | h
        · rw [hin _ _ _ h, hin _ _ _ h]; exact hb i i0 (by omega)
        · rw [h, hat, hat]; omega
        · rw [hgt _ _ _ h (by omega), hgt _ _ _ h (by omega)]; exact hb (i - 1) (by omega) (by omega)
      · rcases Int.lt_trichotomy i b with h | h | h
        · rw [hin _ _ _ h]
          rcases Int.lt_trichotomy j b with h2 | h2 | h2
          · rw [hin _ _ _ h2]; exact hs i j i0 ij (by omega)
          · rw [h2, hat]; exact b2 i i0 h
          · rw [hgt _ _ _ h2 (by omega)]; exact hs i (j - 1) i0 (by omega) (by omega)
        · rw [h, hat, hgt _ _ _ (by omega) (by omega)]
          have h1 := hpb (by omega)
          by_cases hjb : j - 1 = b
          · rw [hjb]; exact h1
          · have := hs b (j - 1) b0 (by omega) (by omega); omega
        · rw [hgt _ _ _ h (by omega), hgt _ _ _ (by omega) (by omega)]
          exact hs (i - 1) (j - 1) (by omega) (by omega) (by omega)
theorem ct_setCrease {p m : Int} (ok : sp_ok L n P K) (hj : sp_jd L n P p m = 0) :
    ev_C g mP_setCrease (d + 3) [.ref 1, ev_i p, ev_i m] (pw L n tn P K B lo hi c0 t) 0 0
      (ev_V none (pw L (sp_n1 n P p m) tn (sp_P1 n P p m) (sp_K1 n P K p m) (ev_ov (sp_B L (sp_n1 n P p m) (sp_P1 n P p m)) B (sp_n1 n P p m + 2)) (ev_ov (sp_lo L (sp_n1 n P p m) (sp_P1 n P p m)) lo (sp_n1 n P p m + 1)) (ev_ov (sp_hi L (sp_n1 n P p m) (sp_P1 n P p m)) hi (sp_n1 n P p m + 1)) c0 t)) := by
  have ok1 := sp_ok1 ok hj
  obtain ⟨p1, p2, m1, m2, hc⟩ := sp_jd0 hj
  have hL2 := ok.2.1
  have hn0 := ok.2.2.1
  have hn := ok.2.2.2.1
  have hP : ∀ i, 0 ≤ i → i < n → 0 ≤ P i ∧ P i ≤ 60 := fun i a b => by have := ok.2.2.2.2.1 i a b; omega
  obtain ⟨b0, b1, b2, b3⟩ := sp_bef_spec (n := n) (P := P) (p := p) hn0
  refine ev_ofE (by decide +kernel) rfl (Nat.le_of_ble_eq_true rfl) rfl rfl ?_
  refine ev_aload_n dP_setCrease_0 rfl ?_
  refine ev_iload_n dP_setCrease_1 rfl ?_
  refine ev_cV dP_setCrease_2 cv_P_49 (ct_before (by omega) (by omega) hn0 hn hP) rfl rfl rfl (Nat.le_of_ble_eq_true rfl) (Nat.le_of_ble_eq_true rfl) (Nat.le_of_ble_eq_true rfl) ?_
  refine ev_istore_n dP_setCrease_5 (Nat.le_of_ble_eq_true rfl) ?_
  refine ev_iload_n dP_setCrease_6 rfl ?_
  refine ev_iconst dP_setCrease_7 ?_
  refine ev_icmp_ne (tgt := 19) dP_setCrease_8 rfl (by omega) (by omega) (by omega) (by omega) (fun hb => ?_) (fun hb => ?_)
  · refine ev_aload_n dP_setCrease_19 rfl ?_
    refine ev_iload_n dP_setCrease_20 rfl ?_
    refine ev_cV dP_setCrease_21 cv_P_45 (ct_hasCrease (by omega) (by omega) hn0 hn hP) rfl rfl rfl (Nat.le_of_ble_eq_true rfl) (Nat.le_of_ble_eq_true rfl) (Nat.le_of_ble_eq_true rfl) ?_
    refine ev_bz (tgt := 37) dP_setCrease_24 rfl (fun hb2 => ?_) (fun hb2 => ?_)
    · have h2 := of_decide_eq_false hb2
      have h6 : n < 6 := hc.elim (fun h => absurd h h2) (fun h => h.2.2)
      have e1 : sp_n1 n P p m = n + 1 := by rw [sp_n1, if_neg hb, if_neg h2]
      have e2 : sp_P1 n P p m = sp_ins P n (sp_bef n P p) p := by rw [sp_P1, if_neg hb, if_neg h2]
      have e3 : sp_K1 n P K p m = sp_ins K n (sp_bef n P p) m := by rw [sp_K1, if_neg hb, if_neg h2]
      rw [e1, e2, e3] at ok1 ⊢
      refine ev_aload_n dP_setCrease_37 rfl ?_
      refine ev_iload_n dP_setCrease_38 rfl ?_
      refine ev_iload_n dP_setCrease_39 rfl ?_
      refine ev_iload_n dP_setCrease_40 rfl ?_
      refine ev_cVv dP_setCrease_41 cv_P_56 (ct_insert b0 b1 h6) rfl rfl rfl (Nat.le_of_ble_eq_true rfl) (Nat.le_of_ble_eq_true rfl) (Nat.le_of_ble_eq_true rfl) ?_
      refine ev_aload_n dP_setCrease_44 rfl ?_
      refine ev_cVv dP_setCrease_45 cv_P_42 (ct_fold ok1) rfl rfl rfl (Nat.le_of_ble_eq_true rfl) (Nat.le_of_ble_eq_true rfl) (Nat.le_of_ble_eq_true rfl) ?_
      refine ev_return dP_setCrease_48 rfl ?_
      exact ⟨rfl, rfl⟩
    · have h2 := of_decide_eq_true hb2
      have e1 : sp_n1 n P p m = n := by rw [sp_n1, if_neg hb, if_pos h2]
      have e2 : sp_P1 n P p m = P := by rw [sp_P1, if_neg hb, if_pos h2]
      have e3 : sp_K1 n P K p m = ev_up K (sp_bef n P p) m := by rw [sp_K1, if_neg hb, if_pos h2]
      rw [e1, e2, e3] at ok1 ⊢
      have h3 := h2.1
      refine ev_aload_n dP_setCrease_27 rfl ?_
      refine ev_get dP_setCrease_28 fl_P_15 rfl rfl ?_
      refine ev_iload_n dP_setCrease_31 rfl ?_
      refine ev_iload_n dP_setCrease_32 rfl ?_
      refine ev_iast dP_setCrease_33 rfl (by omega) (by omega) (by decide) ?_
      refine ev_goto (tgt := 44) dP_setCrease_34 rfl ?_
      refine ev_aload_n dP_setCrease_44 rfl ?_
      refine ev_cVv dP_setCrease_45 cv_P_42 (ct_fold (L := L) (n := n) (P := P) (K := ev_up K (sp_bef n P p) m) ok1) rfl rfl rfl (Nat.le_of_ble_eq_true rfl) (Nat.le_of_ble_eq_true rfl) (Nat.le_of_ble_eq_true rfl) ?_
      refine ev_return dP_setCrease_48 rfl ?_
      exact ⟨rfl, rfl⟩
  · have h2 : sp_bef n P p < n := hc.elim (fun h => h.1) (fun h => absurd hb h.2.1)
    have e1 : sp_n1 n P p m = n - 1 := by rw [sp_n1, if_pos hb]
    have e2 : sp_P1 n P p m = sp_dl P (sp_bef n P p) (n - 1) := by rw [sp_P1, if_pos hb]
    have e3 : sp_K1 n P K p m = sp_dl K (sp_bef n P p) (n - 1) := by rw [sp_K1, if_pos hb]
    rw [e1, e2, e3] at ok1 ⊢
    refine ev_aload_n dP_setCrease_11 rfl ?_
    refine ev_iload_n dP_setCrease_12 rfl ?_
    refine ev_cVv dP_setCrease_13 cv_P_53 (ct_remove b0 h2 hn) rfl rfl rfl (Nat.le_of_ble_eq_true rfl) (Nat.le_of_ble_eq_true rfl) (Nat.le_of_ble_eq_true rfl) ?_
    refine ev_goto (tgt := 44) dP_setCrease_16 rfl ?_
    refine ev_aload_n dP_setCrease_44 rfl ?_
    refine ev_cVv dP_setCrease_45 cv_P_42 (ct_fold ok1) rfl rfl rfl (Nat.le_of_ble_eq_true rfl) (Nat.le_of_ble_eq_true rfl) (Nat.le_of_ble_eq_true rfl) ?_
    refine ev_return dP_setCrease_48 rfl ?_
    exact ⟨rfl, rfl⟩
end PD
end
section
/-! Reductions -/
/-- rem, dn, le, rp, rm, kd, wa: how many lengths remain, how many steps are done; lengths, places, marks; the steps' kinds and places -/
abbrev RS : Type := Int × Int × (Int → Int) × (Int → Int) × (Int → Int) × (Int → Int) × (Int → Int)
def rdw (rem dn : Int) (le rp rm kd wa : Int → Int) (t : List ev_AC) : List ev_AC :=
  .inr (2, [.ref 1, .ref 8, .ref 9, .ref 10, ev_i rem, ev_i dn, .ref 11, .ref 12]) :: ev_ia 7 le :: ev_ia 6 rp :: ev_ia 6 rm :: ev_ia 6 kd :: ev_ia 6 wa :: t
def rdW (s : RS) (t : List ev_AC) : List ev_AC := rdw s.1 s.2.1 s.2.2.1 s.2.2.2.1 s.2.2.2.2.1 s.2.2.2.2.2.1 s.2.2.2.2.2.2 t
def rd_dl (F : Int → Int) (a k lim : Int) : Int → Int := fun x => if a ≤ x ∧ x < lim then F (x + k) else F x
theorem rd_dl_0 (F : Int → Int) (a k : Int) : rd_dl F a k a = F := by
  funext x
  exact if_neg (by omega)
theorem rd_dl_s {F : Int → Int} {a k i : Int} (h : a ≤ i) (hk : 1 ≤ k) : ev_up (rd_dl F a k i) i (rd_dl F a k i (i + k)) = rd_dl F a k (i + 1) := by
  funext x
  unfold ev_up rd_dl
  by_cases hx : x = i
  · subst hx; rw [if_pos rfl, if_neg (by omega), if_pos (by omega)]
  · rw [if_neg hx]
    by_cases h1 : a ≤ x ∧ x < i
    · rw [if_pos h1, if_pos (by omega)]
    · rw [if_neg h1, if_neg (by omega)]
def rd_plN (le rm : Int → Int) : Nat → Int → Int
  | 0, _ => -1
  | k + 1, i => if le i ≤ le (i - 1) ∧ le i ≤ le (i + 1) ∧ rm (i - 1) ≠ rm i then i else rd_plN le rm k (i + 1)
def rd_pl (r : Int) (le rm : Int → Int) : Int := rd_plN le rm (r - 2).toNat 1
def rd_note (s : RS) (k c : Int) : RS := (s.1, s.2.1 + 1, s.2.2.1, s.2.2.2.1, s.2.2.2.2.1, ev_up s.2.2.2.2.2.1 s.2.1 k, ev_up s.2.2.2.2.2.2 s.2.1 (s.2.2.2.1 c))
def rd_c1 (s : RS) : RS := (s.1 - 1, s.2.1 + 1, rd_dl s.2.2.1 0 1 (s.1 - 1), rd_dl s.2.2.2.1 0 1 5, rd_dl s.2.2.2.2.1 0 1 5, (rd_note s 1 0).2.2.2.2.2.1, (rd_note s 1 0).2.2.2.2.2.2)
def rd_c2 (s : RS) : RS := (s.1 - 1, s.2.1 + 1, s.2.2.1, s.2.2.2.1, s.2.2.2.2.1, (rd_note s 2 (s.1 - 2)).2.2.2.2.2.1, (rd_note s 2 (s.1 - 2)).2.2.2.2.2.2)
def rd_c3 (s : RS) (m : Int) : RS := (s.1 - 2, s.2.1 + 1, rd_dl (ev_up s.2.2.1 (m - 1) (s.2.2.1 (m - 1) - s.2.2.1 m + s.2.2.1 (m + 1))) m 2 (s.1 - 2), rd_dl s.2.2.2.1 (m - 1) 2 4, rd_dl s.2.2.2.2.1 (m - 1) 2 4, (rd_note s 3 (m - 1)).2.2.2.2.2.1, (rd_note s 3 (m - 1)).2.2.2.2.2.2)
def rd_step (s : RS) : Option RS :=
  if s.2.2.1 0 ≤ s.2.2.1 1 then some (rd_c1 s) else if s.2.2.1 (s.1 - 1) ≤ s.2.2.1 (s.1 - 2) then some (rd_c2 s)
  else if rd_pl s.1 s.2.2.1 s.2.2.2.2.1 = -1 then none else some (rd_c3 s (rd_pl s.1 s.2.2.1 s.2.2.2.2.1))
def rd_iter : Nat → RS → RS
  | 0, s => s
  | k + 1, s => if 1 < s.1 then (match rd_step s with | some s' => rd_iter k s' | none => s) else s
def rd_M : Nat → Int
  | 0 => 60
  | i + 1 => 2 * rd_M i
theorem rd_M_bd : ∀ i : Nat, i ≤ 6 → 60 ≤ rd_M i ∧ rd_M i ≤ 3840 := by decide
theorem rd_plN_spec {le rm : Int → Int} : ∀ (k : Nat) (i : Int), rd_plN le rm k i = -1 ∨ (i ≤ rd_plN le rm k i ∧ rd_plN le rm k i < i + k ∧ le (rd_plN le rm k i) ≤ le (rd_plN le rm k i - 1) ∧ le (rd_plN le rm k i) ≤ le (rd_plN le rm k i + 1))
  | 0, _ => Or.inl rfl
  | k + 1, i => by
    unfold rd_plN
    by_cases h : le i ≤ le (i - 1) ∧ le i ≤ le (i + 1) ∧ rm (i - 1) ≠ rm i
    · rw [if_pos h]; exact Or.inr ⟨Int.le_refl _, by omega, h.1, h.2.1⟩
    · rw [if_neg h]
      rcases rd_plN_spec (le := le) (rm := rm) k (i + 1) with q | q
      · exact Or.inl q
      · exact Or.inr ⟨by omega, by omega, q.2.2.1, q.2.2.2⟩
def rd_inv (i : Nat) (s : RS) : Prop := 1 ≤ s.1 ∧ s.1 ≤ 7 ∧ 0 ≤ s.2.1 ∧ s.2.1 + s.1 ≤ 7 ∧ (∀ j, 0 ≤ j → j < s.1 → 0 ≤ s.2.2.1 j ∧ s.2.2.1 j ≤ rd_M i) ∧ ∀ j, 0 ≤ j → j < s.1 - 1 → 0 ≤ s.2.2.2.2.1 j ∧ s.2.2.2.2.1 j ≤ 2
theorem rd_inv_s {i : Nat} {s s' : RS} (hi : i ≤ 6) (h : rd_inv i s) (h1 : 1 < s.1) (e : rd_step s = some s') : rd_inv (i + 1) s' := by
  obtain ⟨a1, a2, a3, a4, a5, a6⟩ := h
  have hM := rd_M_bd i hi
  have hM2 : rd_M (i + 1) = 2 * rd_M i := rfl
  unfold rd_step at e
  split at e
  · cases e
    refine ⟨by show 1 ≤ s.1 - 1; omega, by show s.1 - 1 ≤ 7; omega, by show 0 ≤ s.2.1 + 1; omega, by show s.2.1 + 1 + (s.1 - 1) ≤ 7; omega, fun j j0 j1 => ?_, fun j j0 j1 => ?_⟩
    · have j1 : j < s.1 - 1 := j1
      show 0 ≤ rd_dl s.2.2.1 0 1 (s.1 - 1) j ∧ rd_dl s.2.2.1 0 1 (s.1 - 1) j ≤ _
      rw [rd_dl, if_pos (by omega)]
      have := a5 (j + 1) (by omega) (by omega); omega
    · have j1 : j < s.1 - 1 - 1 := j1
      show 0 ≤ rd_dl s.2.2.2.2.1 0 1 5 j ∧ rd_dl s.2.2.2.2.1 0 1 5 j ≤ _
      rw [rd_dl, if_pos (by omega)]
      exact a6 (j + 1) (by omega) (by omega)
  · split at e
    · cases e
      refine ⟨by show 1 ≤ s.1 - 1; omega, by show s.1 - 1 ≤ 7; omega, by show 0 ≤ s.2.1 + 1; omega, by show s.2.1 + 1 + (s.1 - 1) ≤ 7; omega, fun j j0 j1 => ?_, fun j j0 j1 => ?_⟩
      · have j1 : j < s.1 - 1 := j1
        have := a5 j j0 (by omega)
        show 0 ≤ s.2.2.1 j ∧ s.2.2.1 j ≤ _
        omega
      · have j1 : j < s.1 - 1 - 1 := j1
        exact a6 j j0 (by omega)
    · split at e
      · cases e
      · rename_i hpl
        cases e
        have hs := rd_plN_spec (le := s.2.2.1) (rm := s.2.2.2.2.1) (s.1 - 2).toNat 1
        have hs := hs.resolve_left hpl
        have hm1 : 1 ≤ rd_pl s.1 s.2.2.1 s.2.2.2.2.1 := hs.1
        have hm2 : rd_pl s.1 s.2.2.1 s.2.2.2.2.1 < 1 + ((s.1 - 2).toNat : Int) := hs.2.1
        have hm3 : s.2.2.1 (rd_pl s.1 s.2.2.1 s.2.2.2.2.1) ≤ s.2.2.1 (rd_pl s.1 s.2.2.1 s.2.2.2.2.1 - 1) := hs.2.2.1
        have hm4 : s.2.2.1 (rd_pl s.1 s.2.2.1 s.2.2.2.2.1) ≤ s.2.2.1 (rd_pl s.1 s.2.2.1 s.2.2.2.2.1 + 1) := hs.2.2.2
        generalize rd_pl s.1 s.2.2.1 s.2.2.2.2.1 = m at *
        refine ⟨by show 1 ≤ s.1 - 2; omega, by show s.1 - 2 ≤ 7; omega, by show 0 ≤ s.2.1 + 1; omega, by show s.2.1 + 1 + (s.1 - 2) ≤ 7; omega, fun j j0 j1 => ?_, fun j j0 j1 => ?_⟩
        · have j1 : j < s.1 - 2 := j1
          show 0 ≤ rd_dl (ev_up s.2.2.1 (m - 1) (s.2.2.1 (m - 1) - s.2.2.1 m + s.2.2.1 (m + 1))) m 2 (s.1 - 2) j ∧ rd_dl (ev_up s.2.2.1 (m - 1) (s.2.2.1 (m - 1) - s.2.2.1 m + s.2.2.1 (m + 1))) m 2 (s.1 - 2) j ≤ _
          have b1 := a5 (m - 1) (by omega) (by omega)
          have b2 := a5 m (by omega) (by omega)
          have b3 := a5 (m + 1) (by omega) (by omega)
          unfold rd_dl ev_up
          by_cases hj : m ≤ j ∧ j < s.1 - 2
          · rw [if_pos hj, if_neg (by omega)]
            have := a5 (j + 2) (by omega) (by omega); omega
          · rw [if_neg hj]
            by_cases hjm : j = m - 1
            · rw [if_pos hjm]; omega
            · rw [if_neg hjm]
              have := a5 j j0 (by omega); omega
        · have j1 : j < s.1 - 2 - 1 := j1
          show 0 ≤ rd_dl s.2.2.2.2.1 (m - 1) 2 4 j ∧ rd_dl s.2.2.2.2.1 (m - 1) 2 4 j ≤ _
          unfold rd_dl
          by_cases hj : m - 1 ≤ j ∧ j < 4
          · rw [if_pos hj]; exact a6 (j + 2) (by omega) (by omega)
          · rw [if_neg hj]; exact a6 j j0 (by omega)
section RD
variable {g : ev_G} {d : Nat} {L n : Int} {tn : Bool} {P K B lo hi : Int → Int} {c0 : ev_AC} {t : List ev_AC} {rem dn : Int} {le rp rm kd wa : Int → Int}
theorem ct_note {k c : Int} (d0 : 0 ≤ dn) (d1 : dn ≤ 5) (c0' : 0 ≤ c) (c1 : c ≤ 5) :
    ev_C g mR_note d [.ref 7, ev_i k, ev_i c] (pw L n tn P K B lo hi c0 (rdw rem dn le rp rm kd wa t)) 0 0 (ev_V none (pw L n tn P K B lo hi c0 (rdw rem (dn + 1) le rp rm (ev_up kd dn k) (ev_up wa dn (rp c)) t))) := by
  refine ev_ofE (by decide +kernel) rfl (Nat.le_of_ble_eq_true rfl) rfl rfl ?_
  refine ev_aload_n dR_note_0 rfl ?_
  refine ev_get dR_note_1 fl_R_25 rfl rfl ?_
  refine ev_aload_n dR_note_4 rfl ?_
  refine ev_get dR_note_5 fl_R_42 rfl rfl ?_
  refine ev_iload_n dR_note_8 rfl ?_
  refine ev_iast dR_note_9 rfl (by omega) (by omega) (by decide) ?_
  refine ev_aload_n dR_note_10 rfl ?_
  refine ev_get dR_note_11 fl_R_28 rfl rfl ?_
  refine ev_aload_n dR_note_14 rfl ?_
  refine ev_get dR_note_15 fl_R_42 rfl rfl ?_
  refine ev_aload_n dR_note_18 rfl ?_
  refine ev_get dR_note_19 fl_R_19 rfl rfl ?_
  refine ev_iload_n dR_note_22 rfl ?_
  refine ev_iald dR_note_23 rfl (by omega) (by omega) (by decide) ?_
  refine ev_iast dR_note_24 rfl (by omega) (by omega) (by decide) ?_
  refine ev_aload_n dR_note_25 rfl ?_
  refine ev_dup dR_note_26 rfl ?_
  refine ev_get dR_note_27 fl_R_42 rfl rfl ?_
  refine ev_iconst dR_note_30 ?_
  refine ev_iadd dR_note_31 ?_
  refine ev_put dR_note_32 fp_R_42 (fun q => by cases q) rfl (Nat.le_of_ble_eq_true rfl) rfl rfl ?_
  refine ev_return dR_note_35 rfl ?_
  exact ⟨rfl, rfl⟩
theorem ct_rmLen {a k : Int} (a0 : 0 ≤ a) (k1 : 1 ≤ k) (hk : k ≤ 2) (ha : a ≤ rem - k) (hr : rem ≤ 7) :
    ev_C g mR_removeLengths d [.ref 7, ev_i a, ev_i k] (pw L n tn P K B lo hi c0 (rdw rem dn le rp rm kd wa t)) 0 0 (ev_V none (pw L n tn P K B lo hi c0 (rdw (rem - k) dn (rd_dl le a k (rem - k)) rp rm kd wa t))) := by
  refine ev_ofE (by decide +kernel) rfl (Nat.le_of_ble_eq_true rfl) rfl rfl ?_
  refine ev_aload_n dR_removeLengths_0 rfl ?_
  refine ev_dup dR_removeLengths_1 rfl ?_
  refine ev_get dR_removeLengths_2 fl_R_34 rfl rfl ?_
  refine ev_iload_n dR_removeLengths_5 rfl ?_
  refine ev_isub dR_removeLengths_6 ?_
  refine ev_put dR_removeLengths_7 fp_R_34 (fun q => by cases q) rfl (Nat.le_of_ble_eq_true rfl) rfl rfl ?_
  refine ev_iload_n dR_removeLengths_10 rfl ?_
  refine ev_istore_n dR_removeLengths_11 (Nat.le_of_ble_eq_true rfl) ?_
  have loop : ∀ (j : Nat) (i : Int), i + j = rem - k → a ≤ i → ev_E g false mR_removeLengths d 12 [some (.ref 7), some (ev_i a), some (ev_i k), some (ev_i i)] [] (pw L n tn P K B lo hi c0 (rdw (rem - k) dn (rd_dl le a k i) rp rm kd wa t)) 0 0 (ev_V none (pw L n tn P K B lo hi c0 (rdw (rem - k) dn (rd_dl le a k (rem - k)) rp rm kd wa t))) := by
    intro j
    induction j with
    | zero =>
      intro i hj hi1
      have e : i = rem - k := by omega
      subst e
      refine ev_iload_n dR_removeLengths_12 rfl ?_
      refine ev_aload_n dR_removeLengths_13 rfl ?_
      refine ev_get dR_removeLengths_14 fl_R_34 rfl rfl ?_
      refine ev_icmp_ge (tgt := 40) dR_removeLengths_17 rfl (by omega) (by omega) (by omega) (by omega) (fun hb => ?_) (fun hb => ?_)
      · refine ev_return dR_removeLengths_40 rfl ?_
        exact ⟨rfl, rfl⟩
      · omega
    | succ j ih =>
      intro i hj hi1
      refine ev_iload_n dR_removeLengths_12 rfl ?_
      refine ev_aload_n dR_removeLengths_13 rfl ?_
      refine ev_get dR_removeLengths_14 fl_R_34 rfl rfl ?_
      refine ev_icmp_ge (tgt := 40) dR_removeLengths_17 rfl (by omega) (by omega) (by omega) (by omega) (fun hb => ?_) (fun hb => ?_)
      · omega
      · refine ev_aload_n dR_removeLengths_20 rfl ?_
        refine ev_get dR_removeLengths_21 fl_R_15 rfl rfl ?_
        refine ev_iload_n dR_removeLengths_24 rfl ?_
        refine ev_aload_n dR_removeLengths_25 rfl ?_
        refine ev_get dR_removeLengths_26 fl_R_15 rfl rfl ?_
        refine ev_iload_n dR_removeLengths_29 rfl ?_
        refine ev_iload_n dR_removeLengths_30 rfl ?_
        refine ev_iadd dR_removeLengths_31 ?_
        refine ev_iald dR_removeLengths_32 rfl (by omega) (by omega) (by decide) ?_
        refine ev_iast dR_removeLengths_33 rfl (by omega) (by omega) (by decide) ?_
        refine ev_iinc dR_removeLengths_34 rfl ?_
        refine ev_goto (tgt := 12) dR_removeLengths_37 rfl ?_
        rw [rd_dl_s hi1 k1]
        exact ih (i + 1) (by omega) (by omega)
  have := loop (rem - k - a).toNat a (by omega) (by omega)
  rw [rd_dl_0] at this
  exact this
theorem ct_rmCr {a k : Int} (a0 : 0 ≤ a) (k1 : 1 ≤ k) (hk : k ≤ 2) (ha : a ≤ 6 - k) :
    ev_C g mR_removeCreases d [.ref 7, ev_i a, ev_i k] (pw L n tn P K B lo hi c0 (rdw rem dn le rp rm kd wa t)) 0 0 (ev_V none (pw L n tn P K B lo hi c0 (rdw rem dn le (rd_dl rp a k (6 - k)) (rd_dl rm a k (6 - k)) kd wa t))) := by
  refine ev_ofE (by decide +kernel) rfl (Nat.le_of_ble_eq_true rfl) rfl rfl ?_
  refine ev_iload_n dR_removeCreases_0 rfl ?_
  refine ev_istore_n dR_removeCreases_1 (Nat.le_of_ble_eq_true rfl) ?_
  have loop : ∀ (j : Nat) (i : Int), i + j = 6 - k → a ≤ i → ev_E g false mR_removeCreases d 2 [some (.ref 7), some (ev_i a), some (ev_i k), some (ev_i i)] [] (pw L n tn P K B lo hi c0 (rdw rem dn le (rd_dl rp a k i) (rd_dl rm a k i) kd wa t)) 0 0 (ev_V none (pw L n tn P K B lo hi c0 (rdw rem dn le (rd_dl rp a k (6 - k)) (rd_dl rm a k (6 - k)) kd wa t))) := by
    intro j
    induction j with
    | zero =>
      intro i hj hi1
      have e : i = 6 - k := by omega
      subst e
      refine ev_iload_n dR_removeCreases_2 rfl ?_
      refine ev_iload_n dR_removeCreases_3 rfl ?_
      refine ev_iadd dR_removeCreases_4 ?_
      refine ev_bipush dR_removeCreases_5 rfl ?_
      refine ev_icmp_ge (tgt := 44) dR_removeCreases_7 rfl (by omega) (by omega) (by omega) (by omega) (fun hb => ?_) (fun hb => ?_)
      · refine ev_return dR_removeCreases_44 rfl ?_
        exact ⟨rfl, rfl⟩
      · omega
    | succ j ih =>
      intro i hj hi1
      refine ev_iload_n dR_removeCreases_2 rfl ?_
      refine ev_iload_n dR_removeCreases_3 rfl ?_
      refine ev_iadd dR_removeCreases_4 ?_
      refine ev_bipush dR_removeCreases_5 rfl ?_
      refine ev_icmp_ge (tgt := 44) dR_removeCreases_7 rfl (by omega) (by omega) (by omega) (by omega) (fun hb => ?_) (fun hb => ?_)
      · omega
      · refine ev_aload_n dR_removeCreases_10 rfl ?_
        refine ev_get dR_removeCreases_11 fl_R_19 rfl rfl ?_
        refine ev_iload_n dR_removeCreases_14 rfl ?_
        refine ev_aload_n dR_removeCreases_15 rfl ?_
        refine ev_get dR_removeCreases_16 fl_R_19 rfl rfl ?_
        refine ev_iload_n dR_removeCreases_19 rfl ?_
        refine ev_iload_n dR_removeCreases_20 rfl ?_
        refine ev_iadd dR_removeCreases_21 ?_
        refine ev_iald dR_removeCreases_22 rfl (by omega) (by omega) (by decide) ?_
        refine ev_iast dR_removeCreases_23 rfl (by omega) (by omega) (by decide) ?_
        refine ev_aload_n dR_removeCreases_24 rfl ?_
        refine ev_get dR_removeCreases_25 fl_R_22 rfl rfl ?_
        refine ev_iload_n dR_removeCreases_28 rfl ?_
        refine ev_aload_n dR_removeCreases_29 rfl ?_
        refine ev_get dR_removeCreases_30 fl_R_22 rfl rfl ?_
        refine ev_iload_n dR_removeCreases_33 rfl ?_
        refine ev_iload_n dR_removeCreases_34 rfl ?_
        refine ev_iadd dR_removeCreases_35 ?_
        refine ev_iald dR_removeCreases_36 rfl (by omega) (by omega) (by decide) ?_
        refine ev_iast dR_removeCreases_37 rfl (by omega) (by omega) (by decide) ?_
        refine ev_iinc dR_removeCreases_38 rfl ?_
        refine ev_goto (tgt := 2) dR_removeCreases_41 rfl ?_
        rw [rd_dl_s hi1 k1, rd_dl_s hi1 k1]
        exact ih (i + 1) (by omega) (by omega)
  have := loop (6 - k - a).toNat a (by omega) (by omega)
  rw [rd_dl_0, rd_dl_0] at this
  exact this
theorem ct_pleat (r2 : 2 ≤ rem) (r7 : rem ≤ 7) (hl : ∀ j, 0 ≤ j → j < rem → 0 ≤ le j ∧ le j ≤ 3840) (hm : ∀ j, 0 ≤ j → j < rem - 1 → 0 ≤ rm j ∧ rm j ≤ 2) :
    ev_C g mR_leftmostPleat d [.ref 7] (pw L n tn P K B lo hi c0 (rdw rem dn le rp rm kd wa t)) 0 0 (ev_V (some (ev_i (rd_pl rem le rm))) (pw L n tn P K B lo hi c0 (rdw rem dn le rp rm kd wa t))) := by
  refine ev_ofE (by decide +kernel) rfl (Nat.le_of_ble_eq_true rfl) rfl rfl ?_
  refine ev_iconst dR_leftmostPleat_0 ?_
  refine ev_istore_n dR_leftmostPleat_1 (Nat.le_of_ble_eq_true rfl) ?_
  have loop : ∀ (k : Nat) (i : Int), i + k = rem - 1 → 1 ≤ i → ev_E g false mR_leftmostPleat d 2 [some (.ref 7), some (ev_i i)] [] (pw L n tn P K B lo hi c0 (rdw rem dn le rp rm kd wa t)) 0 0 (ev_V (some (ev_i (rd_plN le rm k i))) (pw L n tn P K B lo hi c0 (rdw rem dn le rp rm kd wa t))) := by
    intro k
    induction k with
    | zero =>
      intro i hk hi1
      refine ev_iload_n dR_leftmostPleat_2 rfl ?_
      refine ev_aload_n dR_leftmostPleat_3 rfl ?_
      refine ev_get dR_leftmostPleat_4 fl_R_34 rfl rfl ?_
      refine ev_iconst dR_leftmostPleat_7 ?_
      refine ev_isub dR_leftmostPleat_8 ?_
      refine ev_icmp_ge (tgt := 71) dR_leftmostPleat_9 rfl (by omega) (by omega) (by omega) (by omega) (fun hb => ?_) (fun hb => ?_)
      · refine ev_iconst dR_leftmostPleat_71 ?_
        refine ev_ireturn dR_leftmostPleat_72 rfl ?_
        exact ⟨rfl, rfl⟩
      · omega
    | succ k ih =>
      intro i hk hi1
      have l1 := hl i (by omega) (by omega)
      have l2 := hl (i - 1) (by omega) (by omega)
      have l3 := hl (i + 1) (by omega) (by omega)
      have m1 := hm (i - 1) (by omega) (by omega)
      have m2 := hm i (by omega) (by omega)
      have next := ih (i + 1) (by omega) (by omega)
      refine ev_iload_n dR_leftmostPleat_2 rfl ?_
      refine ev_aload_n dR_leftmostPleat_3 rfl ?_
      refine ev_get dR_leftmostPleat_4 fl_R_34 rfl rfl ?_
      refine ev_iconst dR_leftmostPleat_7 ?_
      refine ev_isub dR_leftmostPleat_8 ?_
      refine ev_icmp_ge (tgt := 71) dR_leftmostPleat_9 rfl (by omega) (by omega) (by omega) (by omega) (fun hb => ?_) (fun hb => ?_)
      · omega
      · refine ev_aload_n dR_leftmostPleat_12 rfl ?_
        refine ev_get dR_leftmostPleat_13 fl_R_15 rfl rfl ?_
        refine ev_iload_n dR_leftmostPleat_16 rfl ?_
        refine ev_iald dR_leftmostPleat_17 rfl (by omega) (by omega) (by decide) ?_
        refine ev_aload_n dR_leftmostPleat_18 rfl ?_
        refine ev_get dR_leftmostPleat_19 fl_R_15 rfl rfl ?_
        refine ev_iload_n dR_leftmostPleat_22 rfl ?_
        refine ev_iconst dR_leftmostPleat_23 ?_
        refine ev_isub dR_leftmostPleat_24 ?_
        refine ev_iald dR_leftmostPleat_25 rfl (by omega) (by omega) (by decide) ?_
        refine ev_icmp_gt (tgt := 65) dR_leftmostPleat_26 rfl (by omega) (by omega) (by omega) (by omega) (fun hb2 => ?_) (fun hb2 => ?_)
        · refine ev_iinc dR_leftmostPleat_65 rfl ?_
          refine ev_goto (tgt := 2) dR_leftmostPleat_68 rfl ?_
          rw [rd_plN, if_neg (by omega)]
          exact next
        · refine ev_aload_n dR_leftmostPleat_29 rfl ?_
          refine ev_get dR_leftmostPleat_30 fl_R_15 rfl rfl ?_
          refine ev_iload_n dR_leftmostPleat_33 rfl ?_
          refine ev_iald dR_leftmostPleat_34 rfl (by omega) (by omega) (by decide) ?_
          refine ev_aload_n dR_leftmostPleat_35 rfl ?_
          refine ev_get dR_leftmostPleat_36 fl_R_15 rfl rfl ?_
          refine ev_iload_n dR_leftmostPleat_39 rfl ?_
          refine ev_iconst dR_leftmostPleat_40 ?_
          refine ev_iadd dR_leftmostPleat_41 ?_
          refine ev_iald dR_leftmostPleat_42 rfl (by omega) (by omega) (by decide) ?_
          refine ev_icmp_gt (tgt := 65) dR_leftmostPleat_43 rfl (by omega) (by omega) (by omega) (by omega) (fun hb3 => ?_) (fun hb3 => ?_)
          · refine ev_iinc dR_leftmostPleat_65 rfl ?_
            refine ev_goto (tgt := 2) dR_leftmostPleat_68 rfl ?_
            rw [rd_plN, if_neg (by omega)]
            exact next
          · refine ev_aload_n dR_leftmostPleat_46 rfl ?_
            refine ev_get dR_leftmostPleat_47 fl_R_22 rfl rfl ?_
            refine ev_iload_n dR_leftmostPleat_50 rfl ?_
            refine ev_iconst dR_leftmostPleat_51 ?_
            refine ev_isub dR_leftmostPleat_52 ?_
            refine ev_iald dR_leftmostPleat_53 rfl (by omega) (by omega) (by decide) ?_
            refine ev_aload_n dR_leftmostPleat_54 rfl ?_
            refine ev_get dR_leftmostPleat_55 fl_R_22 rfl rfl ?_
            refine ev_iload_n dR_leftmostPleat_58 rfl ?_
            refine ev_iald dR_leftmostPleat_59 rfl (by omega) (by omega) (by decide) ?_
            refine ev_icmp_eq (tgt := 65) dR_leftmostPleat_60 rfl (by omega) (by omega) (by omega) (by omega) (fun hb4 => ?_) (fun hb4 => ?_)
            · refine ev_iinc dR_leftmostPleat_65 rfl ?_
              refine ev_goto (tgt := 2) dR_leftmostPleat_68 rfl ?_
              rw [rd_plN, if_neg (by omega)]
              exact next
            · refine ev_iload_n dR_leftmostPleat_63 rfl ?_
              refine ev_ireturn dR_leftmostPleat_64 rfl ?_
              exact ⟨by rw [rd_plN, if_pos ⟨hb2, hb3, hb4⟩], rfl⟩
  exact loop (rem - 2).toNat 1 (by omega) (by omega)
theorem ct_flatten {m : Int} (m1 : 1 ≤ m) (m2 : m ≤ rem - 2) (r7 : rem ≤ 7) :
    ev_C g mR_flatten (d + 1) [.ref 7, ev_i m] (pw L n tn P K B lo hi c0 (rdw rem dn le rp rm kd wa t)) 0 0
      (ev_V none (pw L n tn P K B lo hi c0 (rdw (rem - 2) dn (rd_dl (ev_up le (m - 1) (le (m - 1) - le m + le (m + 1))) m 2 (rem - 2)) (rd_dl rp (m - 1) 2 4) (rd_dl rm (m - 1) 2 4) kd wa t))) := by
  refine ev_ofE (by decide +kernel) rfl (Nat.le_of_ble_eq_true rfl) rfl rfl ?_
  refine ev_aload_n dR_flatten_0 rfl ?_
  refine ev_get dR_flatten_1 fl_R_15 rfl rfl ?_
  refine ev_iload_n dR_flatten_4 rfl ?_
  refine ev_iconst dR_flatten_5 ?_
  refine ev_isub dR_flatten_6 ?_
  refine ev_aload_n dR_flatten_7 rfl ?_
  refine ev_get dR_flatten_8 fl_R_15 rfl rfl ?_
  refine ev_iload_n dR_flatten_11 rfl ?_
  refine ev_iconst dR_flatten_12 ?_
  refine ev_isub dR_flatten_13 ?_
  refine ev_iald dR_flatten_14 rfl (by omega) (by omega) (by decide) ?_
  refine ev_aload_n dR_flatten_15 rfl ?_
  refine ev_get dR_flatten_16 fl_R_15 rfl rfl ?_
  refine ev_iload_n dR_flatten_19 rfl ?_
  refine ev_iald dR_flatten_20 rfl (by omega) (by omega) (by decide) ?_
  refine ev_isub dR_flatten_21 ?_
  refine ev_aload_n dR_flatten_22 rfl ?_
  refine ev_get dR_flatten_23 fl_R_15 rfl rfl ?_
  refine ev_iload_n dR_flatten_26 rfl ?_
  refine ev_iconst dR_flatten_27 ?_
  refine ev_iadd dR_flatten_28 ?_
  refine ev_iald dR_flatten_29 rfl (by omega) (by omega) (by decide) ?_
  refine ev_iadd dR_flatten_30 ?_
  refine ev_iast dR_flatten_31 rfl (by omega) (by omega) (by decide) ?_
  refine ev_aload_n dR_flatten_32 rfl ?_
  refine ev_iload_n dR_flatten_33 rfl ?_
  refine ev_iconst dR_flatten_34 ?_
  refine ev_isub dR_flatten_35 ?_
  refine ev_iconst dR_flatten_36 ?_
  refine ev_cVv dR_flatten_37 cv_R_69 (ct_rmCr (le := ev_up le (m - 1) (le (m - 1) - le m + le (m + 1))) (by omega) (by decide) (by decide) (by omega)) rfl rfl rfl (Nat.le_of_ble_eq_true rfl) (Nat.le_of_ble_eq_true rfl) (Nat.le_of_ble_eq_true rfl) ?_
  refine ev_aload_n dR_flatten_40 rfl ?_
  refine ev_iload_n dR_flatten_41 rfl ?_
  refine ev_iconst dR_flatten_42 ?_
  refine ev_cVv dR_flatten_43 cv_R_66 (ct_rmLen (by omega) (by decide) (by decide) (by omega) r7) rfl rfl rfl (Nat.le_of_ble_eq_true rfl) (Nat.le_of_ble_eq_true rfl) (Nat.le_of_ble_eq_true rfl) ?_
  refine ev_return dR_flatten_46 rfl ?_
  exact ⟨rfl, rfl⟩
theorem ct_once {i : Nat} (hi6 : i ≤ 6) (r2 : 2 ≤ rem) (hv : rd_inv i (rem, dn, le, rp, rm, kd, wa)) :
    ev_C g mR_reduceOnce (d + 2) [.ref 7] (pw L n tn P K B lo hi c0 (rdw rem dn le rp rm kd wa t)) 0 0
      (ev_V (some (ev_i (ev_b (rd_step (rem, dn, le, rp, rm, kd, wa)).isSome))) (pw L n tn P K B lo hi c0 (rdW ((rd_step (rem, dn, le, rp, rm, kd, wa)).getD (rem, dn, le, rp, rm, kd, wa)) t))) := by
  obtain ⟨v1, v2, v3, v4, v5, v6⟩ := hv
  have v1 : 1 ≤ rem := v1
  have v2 : rem ≤ 7 := v2
  have v3 : 0 ≤ dn := v3
  have v4 : dn + rem ≤ 7 := v4
  have v5 : ∀ j, 0 ≤ j → j < rem → 0 ≤ le j ∧ le j ≤ rd_M i := v5
  have v6 : ∀ j, 0 ≤ j → j < rem - 1 → 0 ≤ rm j ∧ rm j ≤ 2 := v6
  have hM := rd_M_bd i hi6
  have l0 := v5 0 (by omega) (by omega)
  have l1 := v5 1 (by omega) (by omega)
  have l2 := v5 (rem - 1) (by omega) (by omega)
  have l3 := v5 (rem - 2) (by omega) (by omega)
  refine ev_ofE (by decide +kernel) rfl (Nat.le_of_ble_eq_true rfl) rfl rfl ?_
  refine ev_aload_n dR_reduceOnce_0 rfl ?_
  refine ev_get dR_reduceOnce_1 fl_R_15 rfl rfl ?_
  refine ev_iconst dR_reduceOnce_4 ?_
  refine ev_iald dR_reduceOnce_5 rfl (by omega) (by omega) (by decide) ?_
  refine ev_aload_n dR_reduceOnce_6 rfl ?_
  refine ev_get dR_reduceOnce_7 fl_R_15 rfl rfl ?_
  refine ev_iconst dR_reduceOnce_10 ?_
  refine ev_iald dR_reduceOnce_11 rfl (by omega) (by omega) (by decide) ?_
  refine ev_icmp_gt (tgt := 35) dR_reduceOnce_12 rfl (by omega) (by omega) (by omega) (by omega) (fun hb => ?_) (fun hb => ?_)
  · refine ev_aload_n dR_reduceOnce_35 rfl ?_
    refine ev_get dR_reduceOnce_36 fl_R_15 rfl rfl ?_
    refine ev_aload_n dR_reduceOnce_39 rfl ?_
    refine ev_get dR_reduceOnce_40 fl_R_34 rfl rfl ?_
    refine ev_iconst dR_reduceOnce_43 ?_
    refine ev_isub dR_reduceOnce_44 ?_
    refine ev_iald dR_reduceOnce_45 rfl (by omega) (by omega) (by decide) ?_
    refine ev_aload_n dR_reduceOnce_46 rfl ?_
    refine ev_get dR_reduceOnce_47 fl_R_15 rfl rfl ?_
    refine ev_aload_n dR_reduceOnce_50 rfl ?_
    refine ev_get dR_reduceOnce_51 fl_R_34 rfl rfl ?_
    refine ev_iconst dR_reduceOnce_54 ?_
    refine ev_isub dR_reduceOnce_55 ?_
    refine ev_iald dR_reduceOnce_56 rfl (by omega) (by omega) (by decide) ?_
    refine ev_icmp_gt (tgt := 83) dR_reduceOnce_57 rfl (by omega) (by omega) (by omega) (by omega) (fun hb2 => ?_) (fun hb2 => ?_)
    · refine ev_aload_n dR_reduceOnce_83 rfl ?_
      refine ev_cV dR_reduceOnce_84 cv_R_72 (ct_pleat r2 v2 (fun j a b => by have := v5 j a b; omega) v6) rfl rfl rfl (Nat.le_of_ble_eq_true rfl) (Nat.le_of_ble_eq_true rfl) (Nat.le_of_ble_eq_true rfl) ?_
      refine ev_istore_n dR_reduceOnce_87 (Nat.le_of_ble_eq_true rfl) ?_
      refine ev_iload_n dR_reduceOnce_88 rfl ?_
      refine ev_iconst dR_reduceOnce_89 ?_
      have hs := rd_plN_spec (le := le) (rm := rm) (rem - 2).toNat 1
      have hpe : rd_plN le rm (rem - 2).toNat 1 = rd_pl rem le rm := rfl
      rw [hpe] at hs
      refine ev_icmp_ne (tgt := 95) dR_reduceOnce_90 rfl (by omega) (by omega) (by omega) (by omega) (fun hb3 => ?_) (fun hb3 => ?_)
      · have hs := hs.resolve_left hb3
        have e : rd_step (rem, dn, le, rp, rm, kd, wa) = some (rd_c3 (rem, dn, le, rp, rm, kd, wa) (rd_pl rem le rm)) := by
          show (if le 0 ≤ le 1 then _ else if le (rem - 1) ≤ le (rem - 2) then _ else if rd_pl rem le rm = -1 then _ else _) = _
          rw [if_neg (by omega), if_neg (by omega), if_neg hb3]
        rw [e]
        refine ev_aload_n dR_reduceOnce_95 rfl ?_
        refine ev_iconst dR_reduceOnce_96 ?_
        refine ev_iload_n dR_reduceOnce_97 rfl ?_
        refine ev_iconst dR_reduceOnce_98 ?_
        refine ev_isub dR_reduceOnce_99 ?_
        refine ev_cVv dR_reduceOnce_100 cv_R_62 (ct_note v3 (by omega) (by omega) (by omega)) rfl rfl rfl (Nat.le_of_ble_eq_true rfl) (Nat.le_of_ble_eq_true rfl) (Nat.le_of_ble_eq_true rfl) ?_
        refine ev_aload_n dR_reduceOnce_103 rfl ?_
        refine ev_iload_n dR_reduceOnce_104 rfl ?_
        refine ev_cVv dR_reduceOnce_105 cv_R_75 (ct_flatten (by omega) (by omega) v2) rfl rfl rfl (Nat.le_of_ble_eq_true rfl) (Nat.le_of_ble_eq_true rfl) (Nat.le_of_ble_eq_true rfl) ?_
        refine ev_iconst dR_reduceOnce_108 ?_
        refine ev_zreturn dR_reduceOnce_109 rfl ?_ ?_
        · decide
        · exact ⟨rfl, rfl⟩
      · have e : rd_step (rem, dn, le, rp, rm, kd, wa) = none := by
          show (if le 0 ≤ le 1 then _ else if le (rem - 1) ≤ le (rem - 2) then _ else if rd_pl rem le rm = -1 then _ else _) = _
          rw [if_neg (by omega), if_neg (by omega), if_pos hb3]
        rw [e]
        refine ev_iconst dR_reduceOnce_93 ?_
        refine ev_zreturn dR_reduceOnce_94 rfl ?_ ?_
        · decide
        · exact ⟨rfl, rfl⟩
    · have e : rd_step (rem, dn, le, rp, rm, kd, wa) = some (rd_c2 (rem, dn, le, rp, rm, kd, wa)) := by
        show (if le 0 ≤ le 1 then _ else if le (rem - 1) ≤ le (rem - 2) then _ else _) = _
        rw [if_neg (by omega), if_pos (by omega)]
      rw [e]
      refine ev_aload_n dR_reduceOnce_60 rfl ?_
      refine ev_iconst dR_reduceOnce_61 ?_
      refine ev_aload_n dR_reduceOnce_62 rfl ?_
      refine ev_get dR_reduceOnce_63 fl_R_34 rfl rfl ?_
      refine ev_iconst dR_reduceOnce_66 ?_
      refine ev_isub dR_reduceOnce_67 ?_
      refine ev_cVv dR_reduceOnce_68 cv_R_62 (ct_note v3 (by omega) (by omega) (by omega)) rfl rfl rfl (Nat.le_of_ble_eq_true rfl) (Nat.le_of_ble_eq_true rfl) (Nat.le_of_ble_eq_true rfl) ?_
      refine ev_aload_n dR_reduceOnce_71 rfl ?_
      refine ev_dup dR_reduceOnce_72 rfl ?_
      refine ev_get dR_reduceOnce_73 fl_R_34 rfl rfl ?_
      refine ev_iconst dR_reduceOnce_76 ?_
      refine ev_isub dR_reduceOnce_77 ?_
      refine ev_put dR_reduceOnce_78 fp_R_34 (fun q => by cases q) rfl (Nat.le_of_ble_eq_true rfl) rfl rfl ?_
      refine ev_iconst dR_reduceOnce_81 ?_
      refine ev_zreturn dR_reduceOnce_82 rfl ?_ ?_
      · decide
      · exact ⟨rfl, rfl⟩
  · have e : rd_step (rem, dn, le, rp, rm, kd, wa) = some (rd_c1 (rem, dn, le, rp, rm, kd, wa)) := by
      show (if le 0 ≤ le 1 then _ else _) = _
      rw [if_pos (by omega)]
    rw [e]
    refine ev_aload_n dR_reduceOnce_15 rfl ?_
    refine ev_iconst dR_reduceOnce_16 ?_
    refine ev_iconst dR_reduceOnce_17 ?_
    refine ev_cVv dR_reduceOnce_18 cv_R_62 (ct_note v3 (by omega) (by decide) (by decide)) rfl rfl rfl (Nat.le_of_ble_eq_true rfl) (Nat.le_of_ble_eq_true rfl) (Nat.le_of_ble_eq_true rfl) ?_
    refine ev_aload_n dR_reduceOnce_21 rfl ?_
    refine ev_iconst dR_reduceOnce_22 ?_
    refine ev_iconst dR_reduceOnce_23 ?_
    refine ev_cVv dR_reduceOnce_24 cv_R_66 (ct_rmLen (by decide) (by decide) (by decide) (by omega) v2) rfl rfl rfl (Nat.le_of_ble_eq_true rfl) (Nat.le_of_ble_eq_true rfl) (Nat.le_of_ble_eq_true rfl) ?_
    refine ev_aload_n dR_reduceOnce_27 rfl ?_
    refine ev_iconst dR_reduceOnce_28 ?_
    refine ev_iconst dR_reduceOnce_29 ?_
    refine ev_cVv dR_reduceOnce_30 cv_R_69 (ct_rmCr (by decide) (by decide) (by decide) (by decide)) rfl rfl rfl (Nat.le_of_ble_eq_true rfl) (Nat.le_of_ble_eq_true rfl) (Nat.le_of_ble_eq_true rfl) ?_
    refine ev_iconst dR_reduceOnce_33 ?_
    refine ev_zreturn dR_reduceOnce_34 rfl ?_ ?_
    · decide
    · exact ⟨rfl, rfl⟩
end RD
end
section
/-! Reductions: the whole run -/
def sp_len (L n : Int) (P : Int → Int) (i : Int) : Int := sp_re L n P i - sp_le P i
theorem sp_len_bd {L n : Int} {P K : Int → Int} (ok : sp_ok L n P K) {i : Int} (h0 : 0 ≤ i) (hi : i ≤ n) : 1 ≤ sp_len L n P i ∧ sp_len L n P i ≤ 60 := by
  have h1 := sp_le_lt_re ok h0 hi
  have h2 := sp_re_le ok h0
  have h3 := sp_le_nonneg ok h0 hi
  have h4 := ok.2.1
  unfold sp_len
  omega
section RE
variable {g : ev_G} {d : Nat} {L n : Int} {tn : Bool} {P K B lo hi : Int → Int} {c0 : ev_AC} {t : List ev_AC} {rem dn : Int} {le rp rm kd wa : Int → Int}
theorem ct_copy (hn0 : 0 ≤ n) (hn : n ≤ 6) :
    ev_C g mR_copyPattern (d + 2) [.ref 7] (pw L n tn P K B lo hi c0 (rdw rem dn le rp rm kd wa t)) 0 0 (ev_V none (pw L n tn P K B lo hi c0 (rdw (n + 1) 0 (ev_ov (sp_len L n P) le (n + 1)) (ev_ov P rp n) (ev_ov K rm n) kd wa t))) := by
  refine ev_ofE (by decide +kernel) rfl (Nat.le_of_ble_eq_true rfl) rfl rfl ?_
  refine ev_aload_n dR_copyPattern_0 rfl ?_
  refine ev_iconst dR_copyPattern_1 ?_
  refine ev_put dR_copyPattern_2 fp_R_42 (fun q => by cases q) rfl (Nat.le_of_ble_eq_true rfl) rfl rfl ?_
  refine ev_aload_n dR_copyPattern_5 rfl ?_
  refine ev_aload_n dR_copyPattern_6 rfl ?_
  refine ev_get dR_copyPattern_7 fl_R_9 rfl rfl ?_
  refine ev_cV dR_copyPattern_10 cv_R_45 (ct_segments) rfl rfl rfl (Nat.le_of_ble_eq_true rfl) (Nat.le_of_ble_eq_true rfl) (Nat.le_of_ble_eq_true rfl) ?_
  refine ev_put dR_copyPattern_13 fp_R_34 (fun q => by cases q) rfl (Nat.le_of_ble_eq_true rfl) rfl rfl ?_
  refine ev_iconst dR_copyPattern_16 ?_
  refine ev_istore_n dR_copyPattern_17 (Nat.le_of_ble_eq_true rfl) ?_
  have loop2 : ∀ (k : Nat) (i : Int), i + k = n → 0 ≤ i → ev_E g false mR_copyPattern (d + 2) 48 [some (.ref 7), some (ev_i i)] [] (pw L n tn P K B lo hi c0 (rdw (n + 1) 0 (ev_ov (sp_len L n P) le (n + 1)) (ev_ov P rp i) (ev_ov K rm i) kd wa t)) 0 0 (ev_V none (pw L n tn P K B lo hi c0 (rdw (n + 1) 0 (ev_ov (sp_len L n P) le (n + 1)) (ev_ov P rp n) (ev_ov K rm n) kd wa t))) := by
    intro k
    induction k with
    | zero =>
      intro i hk h0
      have e : i = n := by omega
      subst e
      refine ev_iload_n dR_copyPattern_48 rfl ?_
      refine ev_aload_n dR_copyPattern_49 rfl ?_
      refine ev_get dR_copyPattern_50 fl_R_9 rfl rfl ?_
      refine ev_get dR_copyPattern_53 fl_R_55 rfl rfl ?_
      refine ev_icmp_ge (tgt := 95) dR_copyPattern_56 rfl (by omega) (by omega) (by omega) (by omega) (fun hb => ?_) (fun hb => ?_)
      · refine ev_return dR_copyPattern_95 rfl ?_
        exact ⟨rfl, rfl⟩
      · omega
    | succ k ih =>
      intro i hk h0
      refine ev_iload_n dR_copyPattern_48 rfl ?_
      refine ev_aload_n dR_copyPattern_49 rfl ?_
      refine ev_get dR_copyPattern_50 fl_R_9 rfl rfl ?_
      refine ev_get dR_copyPattern_53 fl_R_55 rfl rfl ?_
      refine ev_icmp_ge (tgt := 95) dR_copyPattern_56 rfl (by omega) (by omega) (by omega) (by omega) (fun hb => ?_) (fun hb => ?_)
      · omega
      · refine ev_aload_n dR_copyPattern_59 rfl ?_
        refine ev_get dR_copyPattern_60 fl_R_19 rfl rfl ?_
        refine ev_iload_n dR_copyPattern_63 rfl ?_
        refine ev_aload_n dR_copyPattern_64 rfl ?_
        refine ev_get dR_copyPattern_65 fl_R_9 rfl rfl ?_
        refine ev_get dR_copyPattern_68 fl_R_58 rfl rfl ?_
        refine ev_iload_n dR_copyPattern_71 rfl ?_
        refine ev_iald dR_copyPattern_72 rfl (by omega) (by omega) (by decide) ?_
        refine ev_iast dR_copyPattern_73 rfl (by omega) (by omega) (by decide) ?_
        refine ev_aload_n dR_copyPattern_74 rfl ?_
        refine ev_get dR_copyPattern_75 fl_R_22 rfl rfl ?_
        refine ev_iload_n dR_copyPattern_78 rfl ?_
        refine ev_aload_n dR_copyPattern_79 rfl ?_
        refine ev_get dR_copyPattern_80 fl_R_9 rfl rfl ?_
        refine ev_get dR_copyPattern_83 fl_R_61 rfl rfl ?_
        refine ev_iload_n dR_copyPattern_86 rfl ?_
        refine ev_iald dR_copyPattern_87 rfl (by omega) (by omega) (by decide) ?_
        refine ev_iast dR_copyPattern_88 rfl (by omega) (by omega) (by decide) ?_
        refine ev_iinc dR_copyPattern_89 rfl ?_
        refine ev_goto (tgt := 48) dR_copyPattern_92 rfl ?_
        rw [ev_ov_s (F := P) h0 rfl, ev_ov_s (F := K) h0 rfl]
        exact ih (i + 1) (by omega) (by omega)
  have loop : ∀ (k : Nat) (i : Int), i + k = n + 1 → 0 ≤ i → ev_E g false mR_copyPattern (d + 2) 18 [some (.ref 7), some (ev_i i)] [] (pw L n tn P K B lo hi c0 (rdw (n + 1) 0 (ev_ov (sp_len L n P) le i) rp rm kd wa t)) 0 0 (ev_V none (pw L n tn P K B lo hi c0 (rdw (n + 1) 0 (ev_ov (sp_len L n P) le (n + 1)) (ev_ov P rp n) (ev_ov K rm n) kd wa t))) := by
    intro k
    induction k with
    | zero =>
      intro i hk h0
      have e : i = n + 1 := by omega
      subst e
      refine ev_iload_n dR_copyPattern_18 rfl ?_
      refine ev_aload_n dR_copyPattern_19 rfl ?_
      refine ev_get dR_copyPattern_20 fl_R_34 rfl rfl ?_
      refine ev_icmp_ge (tgt := 46) dR_copyPattern_23 rfl (by omega) (by omega) (by omega) (by omega) (fun hb => ?_) (fun hb => ?_)
      · refine ev_iconst dR_copyPattern_46 ?_
        refine ev_istore_n dR_copyPattern_47 (Nat.le_of_ble_eq_true rfl) ?_
        have := loop2 n.toNat 0 (by omega) (by omega)
        rw [ev_ov_0 _ _ (Int.le_refl _), ev_ov_0 _ _ (Int.le_refl _)] at this
        exact this
      · omega
    | succ k ih =>
      intro i hk h0
      refine ev_iload_n dR_copyPattern_18 rfl ?_
      refine ev_aload_n dR_copyPattern_19 rfl ?_
      refine ev_get dR_copyPattern_20 fl_R_34 rfl rfl ?_
      refine ev_icmp_ge (tgt := 46) dR_copyPattern_23 rfl (by omega) (by omega) (by omega) (by omega) (fun hb => ?_) (fun hb => ?_)
      · omega
      · refine ev_aload_n dR_copyPattern_26 rfl ?_
        refine ev_get dR_copyPattern_27 fl_R_15 rfl rfl ?_
        refine ev_iload_n dR_copyPattern_30 rfl ?_
        refine ev_aload_n dR_copyPattern_31 rfl ?_
        refine ev_get dR_copyPattern_32 fl_R_9 rfl rfl ?_
        refine ev_iload_n dR_copyPattern_35 rfl ?_
        refine ev_cV dR_copyPattern_36 cv_R_51 (ct_segLen h0 (by omega) hn0 hn) rfl rfl rfl (Nat.le_of_ble_eq_true rfl) (Nat.le_of_ble_eq_true rfl) (Nat.le_of_ble_eq_true rfl) ?_
        refine ev_iast dR_copyPattern_39 rfl (by omega) (by omega) (by decide) ?_
        refine ev_iinc dR_copyPattern_40 rfl ?_
        refine ev_goto (tgt := 18) dR_copyPattern_43 rfl ?_
        have e : ev_up (ev_ov (sp_len L n P) le i) i (sp_re L n P i - sp_le P i) = ev_ov (sp_len L n P) le (i + 1) := ev_ov_s h0 rfl
        rw [e]
        exact ih (i + 1) (by omega) (by omega)
  have := loop (n + 1).toNat 0 (by omega) (by omega)
  rw [ev_ov_0 _ _ (Int.le_refl _)] at this
  exact this
theorem ct_reduce (ok : sp_ok L n P K) :
    ev_C g mR_reduce (d + 3) [.ref 7] (pw L n tn P K B lo hi c0 (rdw rem dn le rp rm kd wa t)) 0 0 (ev_V none (pw L n tn P K B lo hi c0 (rdW (rd_iter 6 (n + 1, 0, ev_ov (sp_len L n P) le (n + 1), ev_ov P rp n, ev_ov K rm n, kd, wa)) t))) := by
  have hn0 := ok.2.2.1
  have hn := ok.2.2.2.1
  refine ev_ofE (by decide +kernel) rfl (Nat.le_of_ble_eq_true rfl) rfl rfl ?_
  refine ev_aload_n dR_reduce_0 rfl ?_
  refine ev_cVv dR_reduce_1 cv_R_31 (ct_copy hn0 hn) rfl rfl rfl (Nat.le_of_ble_eq_true rfl) (Nat.le_of_ble_eq_true rfl) (Nat.le_of_ble_eq_true rfl) ?_
  refine ev_iconst dR_reduce_4 ?_
  refine ev_istore_n dR_reduce_5 (Nat.le_of_ble_eq_true rfl) ?_
  refine ev_iconst dR_reduce_6 ?_
  refine ev_istore_n dR_reduce_7 (Nat.le_of_ble_eq_true rfl) ?_
  have hv0 : rd_inv 0 (n + 1, 0, ev_ov (sp_len L n P) le (n + 1), ev_ov P rp n, ev_ov K rm n, kd, wa) := by
    refine ⟨by show 1 ≤ n + 1; omega, by show n + 1 ≤ 7; omega, Int.le_refl _, by show 0 + (n + 1) ≤ 7; omega, fun j j0 j1 => ?_, fun j j0 j1 => ?_⟩
    · have j1 : j < n + 1 := j1
      show 0 ≤ ev_ov (sp_len L n P) le (n + 1) j ∧ ev_ov (sp_len L n P) le (n + 1) j ≤ 60
      rw [ev_ov_in j0 j1]
      have := sp_len_bd ok j0 (by omega); omega
    · have j1 : j < n + 1 - 1 := j1
      show 0 ≤ ev_ov K rm n j ∧ ev_ov K rm n j ≤ 2
      rw [ev_ov_in j0 (by omega)]
      have := ok.2.2.2.2.1 j j0 (by omega); omega
  have stop : ∀ (i : Int) (s : RS), 0 ≤ i → i ≤ 7 → ev_E g false mR_reduce (d + 3) 8 [some (.ref 7), some (ev_i 0), some (ev_i i)] [] (pw L n tn P K B lo hi c0 (rdW s t)) 0 0 (ev_V none (pw L n tn P K B lo hi c0 (rdW s t))) := by
    intro i s h0 h1
    refine ev_iload_n dR_reduce_8 rfl ?_
    refine ev_bipush dR_reduce_9 rfl ?_
    refine ev_icmp_ge (tgt := 45) dR_reduce_11 rfl (by omega) (by omega) (by omega) (by omega) (fun hb => ?_) (fun hb => ?_)
    · refine ev_return dR_reduce_45 rfl ?_
      exact ⟨rfl, rfl⟩
    · refine ev_iload_n dR_reduce_14 rfl ?_
      refine ev_if_eq (tgt := 45) dR_reduce_15 rfl (by omega) (by omega) (fun hb2 => ?_) (fun hb2 => ?_)
      · refine ev_return dR_reduce_45 rfl ?_
        exact ⟨rfl, rfl⟩
      · exact absurd rfl hb2
  have loop : ∀ (k i : Nat) (s : RS), i + k = 6 → rd_inv i s → ev_E g false mR_reduce (d + 3) 8 [some (.ref 7), some (ev_i 1), some (ev_i i)] [] (pw L n tn P K B lo hi c0 (rdW s t)) 0 0 (ev_V none (pw L n tn P K B lo hi c0 (rdW (rd_iter k s) t))) := by
    intro k
    induction k with
    | zero =>
      intro i s hk hv
      refine ev_iload_n dR_reduce_8 rfl ?_
      refine ev_bipush dR_reduce_9 rfl ?_
      refine ev_icmp_ge (tgt := 45) dR_reduce_11 rfl (by omega) (by omega) (by omega) (by omega) (fun hb => ?_) (fun hb => ?_)
      · refine ev_return dR_reduce_45 rfl ?_
        exact ⟨rfl, rfl⟩
      · omega
    | succ k ih =>
      intro i s hk hv
      obtain ⟨v1, v2, -⟩ := id hv
      refine ev_iload_n dR_reduce_8 rfl ?_
      refine ev_bipush dR_reduce_9 rfl ?_
      refine ev_icmp_ge (tgt := 45) dR_reduce_11 rfl (by omega) (by omega) (by omega) (by omega) (fun hb => ?_) (fun hb => ?_)
      · omega
      · refine ev_iload_n dR_reduce_14 rfl ?_
        refine ev_if_eq (tgt := 45) dR_reduce_15 rfl (by omega) (by omega) (fun hb2 => ?_) (fun hb2 => ?_)
        · exact absurd hb2 (by decide)
        · refine ev_aload_n dR_reduce_18 rfl ?_
          refine ev_get dR_reduce_19 fl_R_34 rfl rfl ?_
          refine ev_iconst dR_reduce_22 ?_
          refine ev_icmp_le (tgt := 37) dR_reduce_23 rfl (by omega) (by omega) (by omega) (by omega) (fun hb3 => ?_) (fun hb3 => ?_)
          · refine ev_iconst dR_reduce_37 ?_
            refine ev_istore_n dR_reduce_38 (Nat.le_of_ble_eq_true rfl) ?_
            refine ev_iinc dR_reduce_39 rfl ?_
            refine ev_goto (tgt := 8) dR_reduce_42 rfl ?_
            rw [rd_iter, if_neg (by omega)]
            exact stop (i + 1) s (by omega) (by omega)
          · refine ev_aload_n dR_reduce_26 rfl ?_
            obtain ⟨s1, s2, s3, s4, s5, s6, s7⟩ := s
            refine ev_cV dR_reduce_27 cv_R_38 (ct_once (rem := s1) (dn := s2) (le := s3) (rp := s4) (rm := s5) (kd := s6) (wa := s7) (i := i) (by omega) (by omega) hv) rfl rfl rfl (Nat.le_of_ble_eq_true rfl) (Nat.le_of_ble_eq_true rfl) (Nat.le_of_ble_eq_true rfl) ?_
            rw [rd_iter, if_pos hb3]
            cases he : rd_step (s1, s2, s3, s4, s5, s6, s7) with
            | none =>
              refine ev_bz (tgt := 37) dR_reduce_30 rfl (fun hb4 => ?_) (fun hb4 => ?_)
              · refine ev_iconst dR_reduce_37 ?_
                refine ev_istore_n dR_reduce_38 (Nat.le_of_ble_eq_true rfl) ?_
                refine ev_iinc dR_reduce_39 rfl ?_
                refine ev_goto (tgt := 8) dR_reduce_42 rfl ?_
                exact stop (i + 1) (s1, s2, s3, s4, s5, s6, s7) (by omega) (by omega)
              · exact absurd hb4 (by simp)
            | some s' =>
              refine ev_bz (tgt := 37) dR_reduce_30 rfl (fun hb4 => ?_) (fun hb4 => ?_)
              · exact absurd hb4 (by simp)
              · refine ev_iconst dR_reduce_33 ?_
                refine ev_goto (tgt := 38) dR_reduce_34 rfl ?_
                refine ev_istore_n dR_reduce_38 (Nat.le_of_ble_eq_true rfl) ?_
                refine ev_iinc dR_reduce_39 rfl ?_
                refine ev_goto (tgt := 8) dR_reduce_42 rfl ?_
                exact ih (i + 1) s' (by omega) (rd_inv_s (by omega) hv hb3 he)
  exact loop 6 0 (n + 1, 0, ev_ov (sp_len L n P) le (n + 1), ev_ov P rp n, ev_ov K rm n, kd, wa) (by omega) hv0
theorem ct_Rinit : ev_C g mR_init (d + 1) [.ref 7, .ref 1] (pw L n tn P K B lo hi c0 [.inr (2, [.null, .null, .null, .null, ev_i 0, ev_i 0, .null, .null])]) 5 31
    (ev_V none (pw L n tn P K B lo hi c0 (rdw 0 0 (fun _ => 0) (fun _ => 0) (fun _ => 0) (fun _ => 0) (fun _ => 0) []))) := by
  refine ev_ofE (by decide +kernel) rfl (Nat.le_of_ble_eq_true rfl) rfl rfl ?_
  refine ev_aload_n dR_init_0 rfl ?_
  refine ev_obj dR_init_1 wm_R_3 wo_i wo_c (Nat.le_of_ble_eq_true rfl) ?_
  refine ev_aload_n dR_init_4 rfl ?_
  refine ev_aload_n dR_init_5 rfl ?_
  refine ev_put dR_init_6 fp_R_9 (fun _ => rfl) rfl (Nat.le_of_ble_eq_true rfl) rfl rfl ?_
  refine ev_aload_n dR_init_9 rfl ?_
  refine ev_bipush dR_init_10 rfl ?_
  refine ev_nI (n := 7) dR_init_12 rfl (by decide) ?_
  refine ev_put dR_init_14 fp_R_15 (fun _ => rfl) rfl (Nat.le_of_ble_eq_true rfl) rfl rfl ?_
  refine ev_aload_n dR_init_17 rfl ?_
  refine ev_bipush dR_init_18 rfl ?_
  refine ev_nI (n := 6) dR_init_20 rfl (by decide) ?_
  refine ev_put dR_init_22 fp_R_19 (fun _ => rfl) rfl (Nat.le_of_ble_eq_true rfl) rfl rfl ?_
  refine ev_aload_n dR_init_25 rfl ?_
  refine ev_bipush dR_init_26 rfl ?_
  refine ev_nI (n := 6) dR_init_28 rfl (by decide) ?_
  refine ev_put dR_init_30 fp_R_22 (fun _ => rfl) rfl (Nat.le_of_ble_eq_true rfl) rfl rfl ?_
  refine ev_aload_n dR_init_33 rfl ?_
  refine ev_bipush dR_init_34 rfl ?_
  refine ev_nI (n := 6) dR_init_36 rfl (by decide) ?_
  refine ev_put dR_init_38 fp_R_25 (fun _ => rfl) rfl (Nat.le_of_ble_eq_true rfl) rfl rfl ?_
  refine ev_aload_n dR_init_41 rfl ?_
  refine ev_bipush dR_init_42 rfl ?_
  refine ev_nI (n := 6) dR_init_44 rfl (by decide) ?_
  refine ev_put dR_init_46 fp_R_28 (fun _ => rfl) rfl (Nat.le_of_ble_eq_true rfl) rfl rfl ?_
  refine ev_return dR_init_49 rfl ?_
  exact ⟨rfl, rfl⟩
end RE
end
section
/-! LayerOrders: an order is a row of bits -/
def ly_ix (a b : Int) : Nat := (b * (b - 1) / 2 + a).toNat
def ly_ab (o : Nat) (a b : Int) : Bool := if a < b then o.testBit (ly_ix a b) else !(o.testBit (ly_ix b a))
def ly_bt (o : Nat) (s a b : Int) : Bool := ly_ab o s a != ly_ab o s b
theorem ly_tri {b : Int} (b0 : 0 ≤ b) (b1 : b ≤ 6) : 0 ≤ b * (b - 1) ∧ b * (b - 1) ≤ 30 := by
  have : b = 0 ∨ b = 1 ∨ b = 2 ∨ b = 3 ∨ b = 4 ∨ b = 5 ∨ b = 6 := by omega
  rcases this with rfl | rfl | rfl | rfl | rfl | rfl | rfl <;> decide
theorem ly_ix_eq {a b : Int} (a0 : 0 ≤ a) (b0 : 0 ≤ b) (b1 : b ≤ 6) : b * (b - 1) / 2 + a = (ly_ix a b : Int) := by
  have := ly_tri b0 b1
  unfold ly_ix
  rw [Int.toNat_of_nonneg (by omega)]
theorem ly_ix_lt {a b : Int} (a0 : 0 ≤ a) (a1 : a ≤ 6) (b0 : 0 ≤ b) (b1 : b ≤ 6) : ly_ix a b < 22 := by
  have h1 := ly_ix_eq a0 b0 b1
  have h2 := ly_tri b0 b1
  omega
section LY
variable {g : ev_G} {d : Nat} {h : List ev_AC}
theorem ct_bit {a b : Int} (a0 : 0 ≤ a) (a1 : a ≤ 6) (b0 : 0 ≤ b) (b1 : b ≤ 6) : ev_C g mO_bit d [ev_i a, ev_i b] h 0 0 (ev_V (some (ev_i ((2 ^ ly_ix a b : Nat) : Int))) h) := by
  have ht := ly_tri b0 b1
  have hx := ly_ix_lt a0 a1 b0 b1
  refine ev_ofE (by decide +kernel) rfl (Nat.le_of_ble_eq_true rfl) rfl rfl ?_
  refine ev_iconst dO_bit_0 ?_
  refine ev_iload_n dO_bit_1 rfl ?_
  refine ev_iload_n dO_bit_2 rfl ?_
  refine ev_iconst dO_bit_3 ?_
  refine ev_isub dO_bit_4 ?_
  refine ev_imul dO_bit_5 ?_
  refine ev_iconst dO_bit_6 ?_
  refine ev_div dO_bit_7 ht.1 (by omega) (by decide) (by decide) ?_
  refine ev_iload_n dO_bit_8 rfl ?_
  refine ev_iadd dO_bit_9 ?_
  refine ev_shl1 dO_bit_10 (ly_ix_eq a0 b0 b1) (by omega) ?_
  refine ev_ireturn dO_bit_11 rfl ?_
  exact ⟨rfl, rfl⟩
theorem ly_and_bd (o : Nat) {k : Nat} (hk : k < 22) : ((o &&& 2 ^ k : Nat) : Int) < 2147483648 := by
  have h1 : o &&& 2 ^ k ≤ 2 ^ k := Nat.and_le_right
  have h2 : 2 ^ k ≤ 2 ^ 22 := Nat.pow_le_pow_right (by decide) (by omega)
  have h3 : (2 : Nat) ^ 22 = 4194304 := by decide
  omega
theorem ct_isAbove {o : Nat} {a b : Int} (a0 : 0 ≤ a) (a1 : a ≤ 6) (b0 : 0 ≤ b) (b1 : b ≤ 6) : ev_C g mO_isAbove (d + 1) [ev_i o, ev_i a, ev_i b] h 0 0 (ev_V (some (ev_i (ev_b (ly_ab o a b)))) h) := by
  refine ev_ofE (by decide +kernel) rfl (Nat.le_of_ble_eq_true rfl) rfl rfl ?_
  refine ev_iload_n dO_isAbove_0 rfl ?_
  refine ev_iload_n dO_isAbove_1 rfl ?_
  refine ev_icmp_ge (tgt := 23) dO_isAbove_2 rfl (by omega) (by omega) (by omega) (by omega) (fun hb => ?_) (fun hb => ?_)
  · refine ev_iload_n dO_isAbove_23 rfl ?_
    refine ev_iload_n dO_isAbove_24 rfl ?_
    refine ev_iload_n dO_isAbove_25 rfl ?_
    refine ev_cS dO_isAbove_26 cs_O_48 (ct_bit b0 b1 a0 a1) rfl rfl (Nat.le_of_ble_eq_true rfl) (Nat.le_of_ble_eq_true rfl) (Nat.le_of_ble_eq_true rfl) ?_
    refine ev_and dO_isAbove_29 ?_
    have hx := ly_ix_lt b0 b1 a0 a1
    have e : ly_ab o a b = !(o.testBit (ly_ix b a)) := if_neg (by omega)
    have hbd := ly_and_bd o hx
    have e2 := ev_bit0 o (ly_ix b a)
    refine ev_if_ne (tgt := 37) dO_isAbove_30 rfl (by omega) (by omega) (fun hb2 => ?_) (fun hb2 => ?_)
    · refine ev_iconst dO_isAbove_37 ?_
      refine ev_zreturn dO_isAbove_38 rfl ?_ ?_
      · decide
      · refine ⟨?_, rfl⟩
        rw [e]
        cases ht : o.testBit (ly_ix b a) with
        | true => rfl
        | false => exact absurd (by rw [e2, ht]; rfl) hb2
    · refine ev_iconst dO_isAbove_33 ?_
      refine ev_goto (tgt := 38) dO_isAbove_34 rfl ?_
      refine ev_zreturn dO_isAbove_38 rfl ?_ ?_
      · decide
      · refine ⟨?_, rfl⟩
        rw [e]
        cases ht : o.testBit (ly_ix b a) with
        | false => rfl
        | true =>
          rw [e2, ht, if_pos rfl] at hb2
          have : 0 < 2 ^ ly_ix b a := Nat.two_pow_pos _
          omega
  · refine ev_iload_n dO_isAbove_5 rfl ?_
    refine ev_iload_n dO_isAbove_6 rfl ?_
    refine ev_iload_n dO_isAbove_7 rfl ?_
    refine ev_cS dO_isAbove_8 cs_O_48 (ct_bit a0 a1 b0 b1) rfl rfl (Nat.le_of_ble_eq_true rfl) (Nat.le_of_ble_eq_true rfl) (Nat.le_of_ble_eq_true rfl) ?_
    refine ev_and dO_isAbove_11 ?_
    have hx := ly_ix_lt a0 a1 b0 b1
    have e : ly_ab o a b = o.testBit (ly_ix a b) := if_pos hb
    have hbd := ly_and_bd o hx
    have e2 := ev_bit0 o (ly_ix a b)
    refine ev_if_eq (tgt := 19) dO_isAbove_12 rfl (by omega) (by omega) (fun hb2 => ?_) (fun hb2 => ?_)
    · refine ev_iconst dO_isAbove_19 ?_
      refine ev_goto (tgt := 38) dO_isAbove_20 rfl ?_
      refine ev_zreturn dO_isAbove_38 rfl ?_ ?_
      · decide
      · refine ⟨?_, rfl⟩
        rw [e]
        cases ht : o.testBit (ly_ix a b) with
        | false => rfl
        | true =>
          rw [e2, ht, if_pos rfl] at hb2
          have : 0 < 2 ^ ly_ix a b := Nat.two_pow_pos _
          omega
    · refine ev_iconst dO_isAbove_15 ?_
      refine ev_goto (tgt := 38) dO_isAbove_16 rfl ?_
      refine ev_zreturn dO_isAbove_38 rfl ?_ ?_
      · decide
      · refine ⟨?_, rfl⟩
        rw [e]
        cases ht : o.testBit (ly_ix a b) with
        | true => rfl
        | false => exact absurd (by rw [e2, ht]; rfl) hb2
theorem ct_isBetween {o : Nat} {s a b : Int} (s0 : 0 ≤ s) (s1 : s ≤ 6) (a0 : 0 ≤ a) (a1 : a ≤ 6) (b0 : 0 ≤ b) (b1 : b ≤ 6) : ev_C g mO_isBetween (d + 2) [ev_i o, ev_i s, ev_i a, ev_i b] h 0 0 (ev_V (some (ev_i (ev_b (ly_bt o s a b)))) h) := by
  refine ev_ofE (by decide +kernel) rfl (Nat.le_of_ble_eq_true rfl) rfl rfl ?_
  refine ev_iload_n dO_isBetween_0 rfl ?_
  refine ev_iload_n dO_isBetween_1 rfl ?_
  refine ev_iload_n dO_isBetween_2 rfl ?_
  refine ev_cS dO_isBetween_3 cs_O_75 (ct_isAbove s0 s1 a0 a1) rfl rfl (Nat.le_of_ble_eq_true rfl) (Nat.le_of_ble_eq_true rfl) (Nat.le_of_ble_eq_true rfl) ?_
  refine ev_iload_n dO_isBetween_6 rfl ?_
  refine ev_iload_n dO_isBetween_7 rfl ?_
  refine ev_iload_n dO_isBetween_8 rfl ?_
  refine ev_cS dO_isBetween_9 cs_O_75 (ct_isAbove s0 s1 b0 b1) rfl rfl (Nat.le_of_ble_eq_true rfl) (Nat.le_of_ble_eq_true rfl) (Nat.le_of_ble_eq_true rfl) ?_
  refine ev_qeq (tgt := 19) dO_isBetween_12 rfl (fun hb => ?_) (fun hb => ?_)
  · refine ev_iconst dO_isBetween_19 ?_
    refine ev_zreturn dO_isBetween_20 rfl ?_ ?_
    · decide
    · exact ⟨by rw [ly_bt, hb]; simp [ev_b], rfl⟩
  · refine ev_iconst dO_isBetween_15 ?_
    refine ev_goto (tgt := 20) dO_isBetween_16 rfl ?_
    refine ev_zreturn dO_isBetween_20 rfl ?_ ?_
    · decide
    · exact ⟨by rw [ly_bt, bne_iff_ne.mpr hb]; rfl, rfl⟩
end LY
end
section
/-! LayerOrders: what is asked of a choice -/
def oh (L n : Int) (tn : Bool) (P K B lo hi : Int → Int) (c0 q1 q2 q3 q4 q5 q6 : ev_AC) (kn : Bool) (fo : Int) (r : Nat) (mk : Int64) (t : List ev_AC) : List ev_AC :=
  pw L n tn P K B lo hi c0 (q1 :: q2 :: q3 :: q4 :: q5 :: q6 :: .inr (3, [.ref 1, ev_i (ev_b kn), ev_i fo, .ref r, .long mk]) :: t)
def ly_ov (lo hi : Int → Int) (a b : Int) : Bool := decide (lo a < hi b ∧ lo b < hi a)
def ly_in (lo hi : Int → Int) (i q : Int) : Bool := decide (lo i < q ∧ q < hi i)
def ly_mk (K : Int → Int) (tn : Bool) (o : Nat) (a b : Int) : Bool := if b ≠ a + 1 ∨ K a = 0 then true else (ly_ab o b a == (decide (K a = 2) == sp_up tn a))
def ly_r1 (lo hi : Int → Int) (o : Nat) (a b c : Int) : Bool := ly_ov lo hi c a && (ly_ov lo hi c b && ((ly_ab o a b == ly_ab o b c) && (ly_ab o b c == ly_ab o c a)))
def ly_rdN (lo hi : Int → Int) (o : Nat) (a b : Int) : Nat → Int → Bool
  | 0, _ => true
  | k + 1, c => if ly_r1 lo hi o a b c then false else ly_rdN lo hi o a b k (c + 1)
def ly_rd (lo hi : Int → Int) (o : Nat) (a b : Int) : Bool := ly_rdN lo hi o a b a.toNat 0
def ly_cr (B lo hi : Int → Int) (o : Nat) (a b : Int) : Bool :=
  if 0 < a ∧ ly_in lo hi b (B a) = true ∧ ly_bt o b (a - 1) a = true then false else if ly_in lo hi a (B b) = true ∧ ly_bt o a (b - 1) b = true then false else true
def ly_ne (B : Int → Int) (o : Nat) (a b : Int) : Bool := if a = 0 ∨ B a ≠ B b then true else (ly_bt o (b - 1) (a - 1) a == ly_bt o b (a - 1) a)
section LC
variable {g : ev_G} {d : Nat} {L n : Int} {tn : Bool} {P K B lo hi : Int → Int} {c0 q1 q2 q3 q4 q5 q6 : ev_AC} {kn : Bool} {fo : Int} {r : Nat} {mk : Int64} {t : List ev_AC}
theorem ct_keepsMark {o : Nat} {a b : Int} (a0 : 0 ≤ a) (ab : a < b) (bn : b ≤ n) (hn : n ≤ 6) (hK : ∀ i, 0 ≤ i → i < n → 0 ≤ K i ∧ K i ≤ 2) :
    ev_C g mO_keepsMark (d + 2) [.ref 13, ev_i o, ev_i a, ev_i b] (oh L n tn P K B lo hi c0 q1 q2 q3 q4 q5 q6 kn fo r mk t) 0 0 (ev_V (some (ev_i (ev_b (ly_mk K tn o a b)))) (oh L n tn P K B lo hi c0 q1 q2 q3 q4 q5 q6 kn fo r mk t)) := by
  have hKa := hK a a0 (by omega)
  refine ev_ofE (by decide +kernel) rfl (Nat.le_of_ble_eq_true rfl) rfl rfl ?_
  refine ev_iload_n dO_keepsMark_0 rfl ?_
  refine ev_iload_n dO_keepsMark_1 rfl ?_
  refine ev_iconst dO_keepsMark_2 ?_
  refine ev_iadd dO_keepsMark_3 ?_
  refine ev_icmp_ne (tgt := 19) dO_keepsMark_4 rfl (by omega) (by omega) (by omega) (by omega) (fun hb => ?_) (fun hb => ?_)
  · refine ev_iconst dO_keepsMark_19 ?_
    refine ev_zreturn dO_keepsMark_20 rfl ?_ ?_
    · decide
    · exact ⟨by rw [ly_mk, if_pos (Or.inl hb)]; rfl, rfl⟩
  · refine ev_aload_n dO_keepsMark_7 rfl ?_
    refine ev_get dO_keepsMark_8 fl_O_9 rfl rfl ?_
    refine ev_get dO_keepsMark_11 fl_O_78 rfl rfl ?_
    refine ev_iload_n dO_keepsMark_14 rfl ?_
    refine ev_iald dO_keepsMark_15 rfl (by omega) (by omega) (by decide) ?_
    refine ev_if_ne (tgt := 21) dO_keepsMark_16 rfl (by omega) (by omega) (fun hb2 => ?_) (fun hb2 => ?_)
    · have e : ly_mk K tn o a b = (ly_ab o b a == (decide (K a = 2) == sp_up tn a)) := if_neg (by omega)
      rw [e]
      refine ev_aload_n dO_keepsMark_21 rfl ?_
      refine ev_get dO_keepsMark_22 fl_O_9 rfl rfl ?_
      refine ev_get dO_keepsMark_25 fl_O_78 rfl rfl ?_
      refine ev_iload_n dO_keepsMark_28 rfl ?_
      refine ev_iald dO_keepsMark_29 rfl (by omega) (by omega) (by decide) ?_
      refine ev_iconst dO_keepsMark_30 ?_
      have fin : ∀ z : Bool, z = (decide (K a = 2) == sp_up tn a) → ev_E g false mO_keepsMark (d + 2) 55 [some (.ref 13), some (ev_i o), some (ev_i a), some (ev_i b), none] [ev_i (ev_b z)] (oh L n tn P K B lo hi c0 q1 q2 q3 q4 q5 q6 kn fo r mk t) 0 0 (ev_V (some (ev_i (ev_b (ly_ab o b a == (decide (K a = 2) == sp_up tn a))))) (oh L n tn P K B lo hi c0 q1 q2 q3 q4 q5 q6 kn fo r mk t)) := by
        intro z hz
        rw [← hz]
        refine ev_istore dO_keepsMark_55 (Nat.le_of_ble_eq_true rfl) ?_
        refine ev_iload_n dO_keepsMark_57 rfl ?_
        refine ev_iload_n dO_keepsMark_58 rfl ?_
        refine ev_iload_n dO_keepsMark_59 rfl ?_
        refine ev_cS dO_keepsMark_60 cs_O_75 (ct_isAbove (by omega) (by omega) (by omega) (by omega)) rfl rfl (Nat.le_of_ble_eq_true rfl) (Nat.le_of_ble_eq_true rfl) (Nat.le_of_ble_eq_true rfl) ?_
        refine ev_iload dO_keepsMark_63 rfl ?_
        refine ev_qne (tgt := 72) dO_keepsMark_65 rfl (fun hb4 => ?_) (fun hb4 => ?_)
        · refine ev_iconst dO_keepsMark_72 ?_
          refine ev_zreturn dO_keepsMark_73 rfl ?_ ?_
          · decide
          · exact ⟨by rw [beq_eq_false_iff_ne.mpr hb4]; rfl, rfl⟩
        · refine ev_iconst dO_keepsMark_68 ?_
          refine ev_goto (tgt := 73) dO_keepsMark_69 rfl ?_
          refine ev_zreturn dO_keepsMark_73 rfl ?_ ?_
          · decide
          · exact ⟨by rw [hb4]; simp [ev_b], rfl⟩
      refine ev_icmp_ne (tgt := 38) dO_keepsMark_31 rfl (by omega) (by omega) (by omega) (by omega) (fun hb3 => ?_) (fun hb3 => ?_)
      · refine ev_iconst dO_keepsMark_38 ?_
        refine ev_aload_n dO_keepsMark_39 rfl ?_
        refine ev_get dO_keepsMark_40 fl_O_9 rfl rfl ?_
        refine ev_iload_n dO_keepsMark_43 rfl ?_
        refine ev_cV dO_keepsMark_44 cv_O_81 (ct_frontUp a0 (by omega)) rfl rfl rfl (Nat.le_of_ble_eq_true rfl) (Nat.le_of_ble_eq_true rfl) (Nat.le_of_ble_eq_true rfl) ?_
        refine ev_qne (x := false) (tgt := 54) dO_keepsMark_47 rfl (fun hb4 => ?_) (fun hb4 => ?_)
        · refine ev_iconst dO_keepsMark_54 ?_
          exact fin false (by rw [decide_eq_false hb3]; exact (beq_eq_false_iff_ne.mpr hb4).symm)
        · refine ev_iconst dO_keepsMark_50 ?_
          refine ev_goto (tgt := 55) dO_keepsMark_51 rfl ?_
          exact fin true (by rw [decide_eq_false hb3, ← hb4]; rfl)
      · refine ev_iconst dO_keepsMark_34 ?_
        refine ev_goto (tgt := 39) dO_keepsMark_35 rfl ?_
        refine ev_aload_n dO_keepsMark_39 rfl ?_
        refine ev_get dO_keepsMark_40 fl_O_9 rfl rfl ?_
        refine ev_iload_n dO_keepsMark_43 rfl ?_
        refine ev_cV dO_keepsMark_44 cv_O_81 (ct_frontUp a0 (by omega)) rfl rfl rfl (Nat.le_of_ble_eq_true rfl) (Nat.le_of_ble_eq_true rfl) (Nat.le_of_ble_eq_true rfl) ?_
        refine ev_qne (x := true) (tgt := 54) dO_keepsMark_47 rfl (fun hb4 => ?_) (fun hb4 => ?_)
        · refine ev_iconst dO_keepsMark_54 ?_
          exact fin false (by rw [decide_eq_true hb3]; exact (beq_eq_false_iff_ne.mpr hb4).symm)
        · refine ev_iconst dO_keepsMark_50 ?_
          refine ev_goto (tgt := 55) dO_keepsMark_51 rfl ?_
          exact fin true (by rw [decide_eq_true hb3, ← hb4]; rfl)
    · refine ev_iconst dO_keepsMark_19 ?_
      refine ev_zreturn dO_keepsMark_20 rfl ?_ ?_
      · decide
      · exact ⟨by rw [ly_mk, if_pos (Or.inr hb2)]; rfl, rfl⟩
theorem ct_noRound {o : Nat} {a b : Int} (a0 : 0 ≤ a) (ab : a < b) (bn : b ≤ n) (hn : n ≤ 6) (hl : ∀ i, 0 ≤ i → i ≤ n → -60 ≤ lo i ∧ lo i ≤ 60) (hh : ∀ i, 0 ≤ i → i ≤ n → -60 ≤ hi i ∧ hi i ≤ 60) :
    ev_C g mO_makesNoRound (d + 2) [.ref 13, ev_i o, ev_i a, ev_i b] (oh L n tn P K B lo hi c0 q1 q2 q3 q4 q5 q6 kn fo r mk t) 0 0 (ev_V (some (ev_i (ev_b (ly_rd lo hi o a b)))) (oh L n tn P K B lo hi c0 q1 q2 q3 q4 q5 q6 kn fo r mk t)) := by
  refine ev_ofE (by decide +kernel) rfl (Nat.le_of_ble_eq_true rfl) rfl rfl ?_
  refine ev_iconst dO_makesNoRound_0 ?_
  refine ev_istore dO_makesNoRound_1 (Nat.le_of_ble_eq_true rfl) ?_
  have loop : ∀ (k : Nat) (c : Int), c + k = a → 0 ≤ c → ev_E g false mO_makesNoRound (d + 2) 3 [some (.ref 13), some (ev_i o), some (ev_i a), some (ev_i b), some (ev_i c)] [] (oh L n tn P K B lo hi c0 q1 q2 q3 q4 q5 q6 kn fo r mk t) 0 0 (ev_V (some (ev_i (ev_b (ly_rdN lo hi o a b k c)))) (oh L n tn P K B lo hi c0 q1 q2 q3 q4 q5 q6 kn fo r mk t)) := by
    intro k
    induction k with
    | zero =>
      intro c hk h0
      refine ev_iload dO_makesNoRound_3 rfl ?_
      refine ev_iload_n dO_makesNoRound_5 rfl ?_
      refine ev_icmp_ge (tgt := 76) dO_makesNoRound_6 rfl (by omega) (by omega) (by omega) (by omega) (fun hb => ?_) (fun hb => ?_)
      · refine ev_iconst dO_makesNoRound_76 ?_
        refine ev_zreturn dO_makesNoRound_77 rfl ?_ ?_
        · decide
        · exact ⟨rfl, rfl⟩
      · omega
    | succ k ih =>
      intro c hk h0
      have next := ih (c + 1) (by omega) (by omega)
      refine ev_iload dO_makesNoRound_3 rfl ?_
      refine ev_iload_n dO_makesNoRound_5 rfl ?_
      refine ev_icmp_ge (tgt := 76) dO_makesNoRound_6 rfl (by omega) (by omega) (by omega) (by omega) (fun hb => ?_) (fun hb => ?_)
      · omega
      · refine ev_aload_n dO_makesNoRound_9 rfl ?_
        refine ev_get dO_makesNoRound_10 fl_O_9 rfl rfl ?_
        refine ev_iload dO_makesNoRound_13 rfl ?_
        refine ev_iload_n dO_makesNoRound_15 rfl ?_
        refine ev_cV dO_makesNoRound_16 cv_O_44 (ct_overlap h0 (by omega) a0 (by omega) (hl c h0 (by omega)) (hh c h0 (by omega)) (hl a a0 (by omega)) (hh a a0 (by omega))) rfl rfl rfl (Nat.le_of_ble_eq_true rfl) (Nat.le_of_ble_eq_true rfl) (Nat.le_of_ble_eq_true rfl) ?_
        refine ev_bz (tgt := 70) dO_makesNoRound_19 rfl (fun hb1 => ?_) (fun hb1 => ?_)
        · refine ev_iinc dO_makesNoRound_70 rfl ?_
          refine ev_goto (tgt := 3) dO_makesNoRound_73 rfl ?_
          have e : ly_r1 lo hi o a b c = false := by
            show (decide (lo c < hi a ∧ lo a < hi c) && _) = false
            rw [hb1]; rfl
          rw [ly_rdN, e]
          exact next
        · refine ev_aload_n dO_makesNoRound_22 rfl ?_
          refine ev_get dO_makesNoRound_23 fl_O_9 rfl rfl ?_
          refine ev_iload dO_makesNoRound_26 rfl ?_
          refine ev_iload_n dO_makesNoRound_28 rfl ?_
          refine ev_cV dO_makesNoRound_29 cv_O_44 (ct_overlap h0 (by omega) (by omega) (by omega) (hl c h0 (by omega)) (hh c h0 (by omega)) (hl b (by omega) bn) (hh b (by omega) bn)) rfl rfl rfl (Nat.le_of_ble_eq_true rfl) (Nat.le_of_ble_eq_true rfl) (Nat.le_of_ble_eq_true rfl) ?_
          refine ev_bz (tgt := 70) dO_makesNoRound_32 rfl (fun hb2 => ?_) (fun hb2 => ?_)
          · refine ev_iinc dO_makesNoRound_70 rfl ?_
            refine ev_goto (tgt := 3) dO_makesNoRound_73 rfl ?_
            have e : ly_r1 lo hi o a b c = false := by
              show (decide (lo c < hi a ∧ lo a < hi c) && (decide (lo c < hi b ∧ lo b < hi c) && _)) = false
              rw [hb1, hb2]; rfl
            rw [ly_rdN, e]
            exact next
          · refine ev_iload_n dO_makesNoRound_35 rfl ?_
            refine ev_iload_n dO_makesNoRound_36 rfl ?_
            refine ev_iload_n dO_makesNoRound_37 rfl ?_
            refine ev_cS dO_makesNoRound_38 cs_O_75 (ct_isAbove a0 (by omega) (by omega) (by omega)) rfl rfl (Nat.le_of_ble_eq_true rfl) (Nat.le_of_ble_eq_true rfl) (Nat.le_of_ble_eq_true rfl) ?_
            refine ev_iload_n dO_makesNoRound_41 rfl ?_
            refine ev_iload_n dO_makesNoRound_42 rfl ?_
            refine ev_iload dO_makesNoRound_43 rfl ?_
            refine ev_cS dO_makesNoRound_45 cs_O_75 (ct_isAbove (by omega) (by omega) h0 (by omega)) rfl rfl (Nat.le_of_ble_eq_true rfl) (Nat.le_of_ble_eq_true rfl) (Nat.le_of_ble_eq_true rfl) ?_
            refine ev_qne (tgt := 70) dO_makesNoRound_48 rfl (fun hb3 => ?_) (fun hb3 => ?_)
            · refine ev_iinc dO_makesNoRound_70 rfl ?_
              refine ev_goto (tgt := 3) dO_makesNoRound_73 rfl ?_
              have e : ly_r1 lo hi o a b c = false := by
                show (decide (lo c < hi a ∧ lo a < hi c) && (decide (lo c < hi b ∧ lo b < hi c) && _)) = false
                rw [hb1, hb2, beq_eq_false_iff_ne.mpr hb3]; rfl
              rw [ly_rdN, e]
              exact next
            · refine ev_iload_n dO_makesNoRound_51 rfl ?_
              refine ev_iload_n dO_makesNoRound_52 rfl ?_
              refine ev_iload dO_makesNoRound_53 rfl ?_
              refine ev_cS dO_makesNoRound_55 cs_O_75 (ct_isAbove (by omega) (by omega) h0 (by omega)) rfl rfl (Nat.le_of_ble_eq_true rfl) (Nat.le_of_ble_eq_true rfl) (Nat.le_of_ble_eq_true rfl) ?_
              refine ev_iload_n dO_makesNoRound_58 rfl ?_
              refine ev_iload dO_makesNoRound_59 rfl ?_
              refine ev_iload_n dO_makesNoRound_61 rfl ?_
              refine ev_cS dO_makesNoRound_62 cs_O_75 (ct_isAbove h0 (by omega) a0 (by omega)) rfl rfl (Nat.le_of_ble_eq_true rfl) (Nat.le_of_ble_eq_true rfl) (Nat.le_of_ble_eq_true rfl) ?_
              refine ev_qne (tgt := 70) dO_makesNoRound_65 rfl (fun hb4 => ?_) (fun hb4 => ?_)
              · refine ev_iinc dO_makesNoRound_70 rfl ?_
                refine ev_goto (tgt := 3) dO_makesNoRound_73 rfl ?_
                have e : ly_r1 lo hi o a b c = false := by
                  show (decide (lo c < hi a ∧ lo a < hi c) && (decide (lo c < hi b ∧ lo b < hi c) && _)) = false
                  rw [hb1, hb2, beq_eq_false_iff_ne.mpr hb4]; simp
                rw [ly_rdN, e]
                exact next
              · refine ev_iconst dO_makesNoRound_68 ?_
                refine ev_zreturn dO_makesNoRound_69 rfl ?_ ?_
                · decide
                · have e : ly_r1 lo hi o a b c = true := by
                    show (decide (lo c < hi a ∧ lo a < hi c) && (decide (lo c < hi b ∧ lo b < hi c) && _)) = true
                    rw [hb1, hb2, hb3, hb4]; simp
                  exact ⟨by rw [ly_rdN, e]; rfl, rfl⟩
  exact loop a.toNat 0 (by omega) (by omega)
theorem ct_noCross {o : Nat} {a b : Int} (a0 : 0 ≤ a) (ab : a < b) (bn : b ≤ n) (hn : n ≤ 6) (hl : ∀ i, 0 ≤ i → i ≤ n → -60 ≤ lo i ∧ lo i ≤ 60) (hh : ∀ i, 0 ≤ i → i ≤ n → -60 ≤ hi i ∧ hi i ≤ 60) (hB : ∀ i, 0 ≤ i → i ≤ n + 1 → -60 ≤ B i ∧ B i ≤ 60) :
    ev_C g mO_crossesNoCrease (d + 3) [.ref 13, ev_i o, ev_i a, ev_i b] (oh L n tn P K B lo hi c0 q1 q2 q3 q4 q5 q6 kn fo r mk t) 0 0 (ev_V (some (ev_i (ev_b (ly_cr B lo hi o a b)))) (oh L n tn P K B lo hi c0 q1 q2 q3 q4 q5 q6 kn fo r mk t)) := by
  have hBb := hB b (by omega) (by omega)
  have second : ¬ (0 < a ∧ ly_in lo hi b (B a) = true ∧ ly_bt o b (a - 1) a = true) → ev_E g false mO_crossesNoCrease (d + 3) 39 [some (.ref 13), some (ev_i o), some (ev_i a), some (ev_i b)] [] (oh L n tn P K B lo hi c0 q1 q2 q3 q4 q5 q6 kn fo r mk t) 0 0 (ev_V (some (ev_i (ev_b (ly_cr B lo hi o a b)))) (oh L n tn P K B lo hi c0 q1 q2 q3 q4 q5 q6 kn fo r mk t)) := by
    intro h1
    refine ev_aload_n dO_crossesNoCrease_39 rfl ?_
    refine ev_get dO_crossesNoCrease_40 fl_O_9 rfl rfl ?_
    refine ev_iload_n dO_crossesNoCrease_43 rfl ?_
    refine ev_aload_n dO_crossesNoCrease_44 rfl ?_
    refine ev_get dO_crossesNoCrease_45 fl_O_9 rfl rfl ?_
    refine ev_iload_n dO_crossesNoCrease_48 rfl ?_
    refine ev_iconst dO_crossesNoCrease_49 ?_
    refine ev_isub dO_crossesNoCrease_50 ?_
    refine ev_cV dO_crossesNoCrease_51 cv_O_85 (ct_foldedCrease (by omega) (by omega)) rfl rfl rfl (Nat.le_of_ble_eq_true rfl) (Nat.le_of_ble_eq_true rfl) (Nat.le_of_ble_eq_true rfl) ?_
    rw [show b - 1 + 1 = b by omega]
    refine ev_cV dO_crossesNoCrease_54 cv_O_88 (ct_hasInside a0 (by omega) (by omega) (by omega) (hl a a0 (by omega)) (hh a a0 (by omega))) rfl rfl rfl (Nat.le_of_ble_eq_true rfl) (Nat.le_of_ble_eq_true rfl) (Nat.le_of_ble_eq_true rfl) ?_
    refine ev_bz (tgt := 72) dO_crossesNoCrease_57 rfl (fun hb1 => ?_) (fun hb1 => ?_)
    · refine ev_iconst dO_crossesNoCrease_72 ?_
      refine ev_goto (tgt := 77) dO_crossesNoCrease_73 rfl ?_
      refine ev_zreturn dO_crossesNoCrease_77 rfl ?_ ?_
      · decide
      · refine ⟨?_, rfl⟩
        rw [ly_cr, if_neg h1, if_neg (fun q => by rw [ly_in] at q; rw [hb1] at q; exact absurd q.1 (by decide))]
        rfl
    · refine ev_iload_n dO_crossesNoCrease_60 rfl ?_
      refine ev_iload_n dO_crossesNoCrease_61 rfl ?_
      refine ev_iload_n dO_crossesNoCrease_62 rfl ?_
      refine ev_iconst dO_crossesNoCrease_63 ?_
      refine ev_isub dO_crossesNoCrease_64 ?_
      refine ev_iload_n dO_crossesNoCrease_65 rfl ?_
      refine ev_cS dO_crossesNoCrease_66 cs_O_91 (ct_isBetween a0 (by omega) (by omega) (by omega) (by omega) (by omega)) rfl rfl (Nat.le_of_ble_eq_true rfl) (Nat.le_of_ble_eq_true rfl) (Nat.le_of_ble_eq_true rfl) ?_
      refine ev_bn (tgt := 76) dO_crossesNoCrease_69 rfl (fun hb2 => ?_) (fun hb2 => ?_)
      · refine ev_iconst dO_crossesNoCrease_76 ?_
        refine ev_zreturn dO_crossesNoCrease_77 rfl ?_ ?_
        · decide
        · exact ⟨by rw [ly_cr, if_neg h1, if_pos ⟨hb1, hb2⟩]; rfl, rfl⟩
      · refine ev_iconst dO_crossesNoCrease_72 ?_
        refine ev_goto (tgt := 77) dO_crossesNoCrease_73 rfl ?_
        refine ev_zreturn dO_crossesNoCrease_77 rfl ?_ ?_
        · decide
        · exact ⟨by rw [ly_cr, if_neg h1, if_neg (fun q => by rw [hb2] at q; exact absurd q.2 (by decide))]; rfl, rfl⟩
  refine ev_ofE (by decide +kernel) rfl (Nat.le_of_ble_eq_true rfl) rfl rfl ?_
  refine ev_iload_n dO_crossesNoCrease_0 rfl ?_
  refine ev_if_le (tgt := 39) dO_crossesNoCrease_1 rfl (by omega) (by omega) (fun hb => ?_) (fun hb => ?_)
  · exact second (by omega)
  · have hBa := hB a a0 (by omega)
    refine ev_aload_n dO_crossesNoCrease_4 rfl ?_
    refine ev_get dO_crossesNoCrease_5 fl_O_9 rfl rfl ?_
    refine ev_iload_n dO_crossesNoCrease_8 rfl ?_
    refine ev_aload_n dO_crossesNoCrease_9 rfl ?_
    refine ev_get dO_crossesNoCrease_10 fl_O_9 rfl rfl ?_
    refine ev_iload_n dO_crossesNoCrease_13 rfl ?_
    refine ev_iconst dO_crossesNoCrease_14 ?_
    refine ev_isub dO_crossesNoCrease_15 ?_
    refine ev_cV dO_crossesNoCrease_16 cv_O_85 (ct_foldedCrease (by omega) (by omega)) rfl rfl rfl (Nat.le_of_ble_eq_true rfl) (Nat.le_of_ble_eq_true rfl) (Nat.le_of_ble_eq_true rfl) ?_
    rw [show a - 1 + 1 = a by omega]
    refine ev_cV dO_crossesNoCrease_19 cv_O_88 (ct_hasInside (by omega) (by omega) (by omega) (by omega) (hl b (by omega) bn) (hh b (by omega) bn)) rfl rfl rfl (Nat.le_of_ble_eq_true rfl) (Nat.le_of_ble_eq_true rfl) (Nat.le_of_ble_eq_true rfl) ?_
    refine ev_bz (tgt := 39) dO_crossesNoCrease_22 rfl (fun hb1 => ?_) (fun hb1 => ?_)
    · exact second (fun q => by have q := q.2.1; rw [ly_in, hb1] at q; exact absurd q (by decide))
    · refine ev_iload_n dO_crossesNoCrease_25 rfl ?_
      refine ev_iload_n dO_crossesNoCrease_26 rfl ?_
      refine ev_iload_n dO_crossesNoCrease_27 rfl ?_
      refine ev_iconst dO_crossesNoCrease_28 ?_
      refine ev_isub dO_crossesNoCrease_29 ?_
      refine ev_iload_n dO_crossesNoCrease_30 rfl ?_
      refine ev_cS dO_crossesNoCrease_31 cs_O_91 (ct_isBetween (by omega) (by omega) (by omega) (by omega) a0 (by omega)) rfl rfl (Nat.le_of_ble_eq_true rfl) (Nat.le_of_ble_eq_true rfl) (Nat.le_of_ble_eq_true rfl) ?_
      refine ev_bz (tgt := 39) dO_crossesNoCrease_34 rfl (fun hb2 => ?_) (fun hb2 => ?_)
      · exact second (fun q => by have q := q.2.2; rw [hb2] at q; exact absurd q (by decide))
      · refine ev_iconst dO_crossesNoCrease_37 ?_
        refine ev_zreturn dO_crossesNoCrease_38 rfl ?_ ?_
        · decide
        · exact ⟨by rw [ly_cr, if_pos ⟨hb, hb1, hb2⟩]; rfl, rfl⟩
theorem ct_nest {o : Nat} {a b : Int} (a0 : 0 ≤ a) (ab : a < b) (bn : b ≤ n) (hn : n ≤ 6) (hB : ∀ i, 0 ≤ i → i ≤ n + 1 → -60 ≤ B i ∧ B i ≤ 60) :
    ev_C g mO_creasesNest (d + 3) [.ref 13, ev_i o, ev_i a, ev_i b] (oh L n tn P K B lo hi c0 q1 q2 q3 q4 q5 q6 kn fo r mk t) 0 0 (ev_V (some (ev_i (ev_b (ly_ne B o a b)))) (oh L n tn P K B lo hi c0 q1 q2 q3 q4 q5 q6 kn fo r mk t)) := by
  have hBb := hB b (by omega) (by omega)
  have hBa := hB a a0 (by omega)
  refine ev_ofE (by decide +kernel) rfl (Nat.le_of_ble_eq_true rfl) rfl rfl ?_
  refine ev_iload_n dO_creasesNest_0 rfl ?_
  refine ev_if_eq (tgt := 27) dO_creasesNest_1 rfl (by omega) (by omega) (fun hb => ?_) (fun hb => ?_)
  · refine ev_iconst dO_creasesNest_27 ?_
    refine ev_zreturn dO_creasesNest_28 rfl ?_ ?_
    · decide
    · exact ⟨by rw [ly_ne, if_pos (Or.inl hb)]; rfl, rfl⟩
  · refine ev_aload_n dO_creasesNest_4 rfl ?_
    refine ev_get dO_creasesNest_5 fl_O_9 rfl rfl ?_
    refine ev_iload_n dO_creasesNest_8 rfl ?_
    refine ev_iconst dO_creasesNest_9 ?_
    refine ev_isub dO_creasesNest_10 ?_
    refine ev_cV dO_creasesNest_11 cv_O_85 (ct_foldedCrease (by omega) (by omega)) rfl rfl rfl (Nat.le_of_ble_eq_true rfl) (Nat.le_of_ble_eq_true rfl) (Nat.le_of_ble_eq_true rfl) ?_
    rw [show a - 1 + 1 = a by omega]
    refine ev_aload_n dO_creasesNest_14 rfl ?_
    refine ev_get dO_creasesNest_15 fl_O_9 rfl rfl ?_
    refine ev_iload_n dO_creasesNest_18 rfl ?_
    refine ev_iconst dO_creasesNest_19 ?_
    refine ev_isub dO_creasesNest_20 ?_
    refine ev_cV dO_creasesNest_21 cv_O_85 (ct_foldedCrease (by omega) (by omega)) rfl rfl rfl (Nat.le_of_ble_eq_true rfl) (Nat.le_of_ble_eq_true rfl) (Nat.le_of_ble_eq_true rfl) ?_
    rw [show b - 1 + 1 = b by omega]
    refine ev_icmp_eq (tgt := 29) dO_creasesNest_24 rfl (by omega) (by omega) (by omega) (by omega) (fun hb1 => ?_) (fun hb1 => ?_)
    · refine ev_iload_n dO_creasesNest_29 rfl ?_
      refine ev_iload_n dO_creasesNest_30 rfl ?_
      refine ev_iconst dO_creasesNest_31 ?_
      refine ev_isub dO_creasesNest_32 ?_
      refine ev_iload_n dO_creasesNest_33 rfl ?_
      refine ev_iconst dO_creasesNest_34 ?_
      refine ev_isub dO_creasesNest_35 ?_
      refine ev_iload_n dO_creasesNest_36 rfl ?_
      refine ev_cS dO_creasesNest_37 cs_O_91 (ct_isBetween (by omega) (by omega) (by omega) (by omega) a0 (by omega)) rfl rfl (Nat.le_of_ble_eq_true rfl) (Nat.le_of_ble_eq_true rfl) (Nat.le_of_ble_eq_true rfl) ?_
      refine ev_iload_n dO_creasesNest_40 rfl ?_
      refine ev_iload_n dO_creasesNest_41 rfl ?_
      refine ev_iload_n dO_creasesNest_42 rfl ?_
      refine ev_iconst dO_creasesNest_43 ?_
      refine ev_isub dO_creasesNest_44 ?_
      refine ev_iload_n dO_creasesNest_45 rfl ?_
      refine ev_cS dO_creasesNest_46 cs_O_91 (ct_isBetween (by omega) (by omega) (by omega) (by omega) a0 (by omega)) rfl rfl (Nat.le_of_ble_eq_true rfl) (Nat.le_of_ble_eq_true rfl) (Nat.le_of_ble_eq_true rfl) ?_
      have e : ly_ne B o a b = (ly_bt o (b - 1) (a - 1) a == ly_bt o b (a - 1) a) := if_neg (by omega)
      rw [e]
      refine ev_qne (tgt := 56) dO_creasesNest_49 rfl (fun hb2 => ?_) (fun hb2 => ?_)
      · refine ev_iconst dO_creasesNest_56 ?_
        refine ev_zreturn dO_creasesNest_57 rfl ?_ ?_
        · decide
        · exact ⟨by rw [beq_eq_false_iff_ne.mpr hb2]; rfl, rfl⟩
      · refine ev_iconst dO_creasesNest_52 ?_
        refine ev_goto (tgt := 57) dO_creasesNest_53 rfl ?_
        refine ev_zreturn dO_creasesNest_57 rfl ?_ ?_
        · decide
        · exact ⟨by rw [hb2]; simp [ev_b], rfl⟩
    · refine ev_iconst dO_creasesNest_27 ?_
      refine ev_zreturn dO_creasesNest_28 rfl ?_ ?_
      · decide
      · exact ⟨by rw [ly_ne, if_pos (Or.inr hb1)]; rfl, rfl⟩
end LC
end
section
/-! LayerOrders: reading an order; keeping one -/
def ly_bw (lo hi : Int → Int) (o : Nat) (s q : Int) : Nat → Int
  | 0 => 0
  | k + 1 => ly_bw lo hi o s q k + (if (k : Int) ≠ s ∧ (lo k ≤ q ∧ q < hi k) ∧ ly_ab o s k = true then 1 else 0)
def ly_sgN (n : Int) (lo hi : Int → Int) (o : Nat) (q k : Int) : Nat → Int → Int
  | 0, _ => -1
  | j + 1, s => if (lo s ≤ q ∧ q < hi s) ∧ ly_bw lo hi o s q (n + 1).toNat = k then s else ly_sgN n lo hi o q k j (s + 1)
def ly_mg (o : Nat) : Nat → Nat
  | 0 => 0
  | k + 1 => if ly_ab o k (k + 1) then ly_mg o k ||| 2 ^ k else ly_mg o k
def ly_mb (m : Nat) : Int64 := Int64.ofNat ((1 : Fin 2) : Nat) <<< ((Int32.ofInt (m : Int)).toInt64 &&& 63)
def ly_ms (n : Int) (mk : Int64) : List Nat → Int64
  | [] => mk
  | o :: S => ly_ms n (mk ||| ly_mb (ly_mg o n.toNat)) S
theorem ly_ms_app {n : Int} {mk : Int64} {S S' : List Nat} : ly_ms n mk (S ++ S') = ly_ms n (ly_ms n mk S) S' := by
  induction S generalizing mk with
  | nil => rfl
  | cons o S ih => exact ih
def ly_g1 (e l : Nat) : Nat := if l < 64 * 2 ^ e then e else e + 1
def ly_ge : Nat → Nat → Nat → Nat
  | e, _, 0 => e
  | e, l, c + 1 => ly_ge (ly_g1 e l) (l + 1) c
theorem ly_ge_add {e l a b : Nat} : ly_ge e l (a + b) = ly_ge (ly_ge e l a) (l + a) b := by
  induction a generalizing e l with
  | zero => simp [ly_ge]
  | succ a ih =>
    rw [show a + 1 + b = (a + b) + 1 by omega]
    show ly_ge (ly_g1 e l) (l + 1) (a + b) = ly_ge (ly_ge (ly_g1 e l) (l + 1) a) (l + (a + 1)) b
    rw [ih, show l + 1 + a = l + (a + 1) by omega]
theorem ly_ge_le {e l c : Nat} : e ≤ ly_ge e l c := by
  induction c generalizing e l with
  | zero => exact Nat.le_refl _
  | succ c ih =>
    refine Nat.le_trans ?_ (ih (e := ly_g1 e l) (l := l + 1))
    unfold ly_g1
    split <;> omega
/-- the kept rows: a list of orders, in an int array of 64 * 2 ^ e places, cell k behind the LayerOrders -/
def ly_rw (A : List Nat) (e k : Nat) (R : Int → Int) (t : List ev_AC) : Prop := t[k]? = some (ev_ia (64 * 2 ^ e) R) ∧ (A.length ≤ 64 * 2 ^ e ∧ e ≤ 15) ∧ ∀ (i x : Nat), A[i]? = some x → R i = x
def ly_fr (k : Nat) (t : List ev_AC) (k' : Nat) (t' : List ev_AC) : Prop := (k' = k ∨ t.length ≤ k') ∧ t.length ≤ t'.length ∧ ∀ i : Nat, i < t.length → i ≠ k → t'[i]? = t[i]?
theorem ly_fr_rf (k : Nat) (t : List ev_AC) : ly_fr k t k t := ⟨Or.inl rfl, Nat.le_refl _, fun _ _ _ => rfl⟩
theorem ly_fr_tr {k k1 k2 : Nat} {t t1 t2 : List ev_AC} (h1 : ly_fr k t k1 t1) (h2 : ly_fr k1 t1 k2 t2) : ly_fr k t k2 t2 := by
  obtain ⟨a1, a2, a3⟩ := h1
  obtain ⟨b1, b2, b3⟩ := h2
  refine ⟨?_, by omega, fun i hi hk => ?_⟩
  · rcases a1 with a1 | a1 <;> rcases b1 with b1 | b1 <;> omega
  · rw [b3 i (by omega) (by omega), a3 i hi hk]
section LD
variable {g : ev_G} {d : Nat} {L n : Int} {tn : Bool} {P K B lo hi : Int → Int} {c0 q1 q2 q3 q4 q5 q6 : ev_AC} {kn : Bool} {fo : Int} {r : Nat} {mk : Int64} {t : List ev_AC}
theorem ct_below {o : Nat} {s q : Int} (s0 : 0 ≤ s) (sn : s ≤ n) (hn : n ≤ 6) (q1' : -2147483648 ≤ q) (q2' : q < 2147483648) (hl : ∀ i, 0 ≤ i → i ≤ n → -60 ≤ lo i ∧ lo i ≤ 60) (hh : ∀ i, 0 ≤ i → i ≤ n → -60 ≤ hi i ∧ hi i ≤ 60) :
    ev_C g mO_below (d + 2) [.ref 13, ev_i o, ev_i s, ev_i q] (oh L n tn P K B lo hi c0 q1 q2 q3 q4 q5 q6 kn fo r mk t) 0 0 (ev_V (some (ev_i (ly_bw lo hi o s q (n + 1).toNat))) (oh L n tn P K B lo hi c0 q1 q2 q3 q4 q5 q6 kn fo r mk t)) := by
  refine ev_ofE (by decide +kernel) rfl (Nat.le_of_ble_eq_true rfl) rfl rfl ?_
  refine ev_iconst dO_below_0 ?_
  refine ev_istore dO_below_1 (Nat.le_of_ble_eq_true rfl) ?_
  refine ev_iconst dO_below_3 ?_
  refine ev_istore dO_below_4 (Nat.le_of_ble_eq_true rfl) ?_
  have loop : ∀ (k i : Nat), (i : Int) + k = n + 1 → ev_E g false mO_below (d + 2) 6 [some (.ref 13), some (ev_i o), some (ev_i s), some (ev_i q), some (ev_i (ly_bw lo hi o s q i)), some (ev_i i)] [] (oh L n tn P K B lo hi c0 q1 q2 q3 q4 q5 q6 kn fo r mk t) 0 0 (ev_V (some (ev_i (ly_bw lo hi o s q (n + 1).toNat))) (oh L n tn P K B lo hi c0 q1 q2 q3 q4 q5 q6 kn fo r mk t)) := by
    intro k
    induction k with
    | zero =>
      intro i hk
      refine ev_iload dO_below_6 rfl ?_
      refine ev_aload_n dO_below_8 rfl ?_
      refine ev_get dO_below_9 fl_O_9 rfl rfl ?_
      refine ev_get dO_below_12 fl_O_35 rfl rfl ?_
      refine ev_icmp_gt (tgt := 56) dO_below_15 rfl (by omega) (by omega) (by omega) (by omega) (fun hb => ?_) (fun hb => ?_)
      · refine ev_iload dO_below_56 rfl ?_
        refine ev_ireturn dO_below_58 rfl ?_
        exact ⟨by rw [show (n + 1).toNat = i by omega], rfl⟩
      · omega
    | succ k ih =>
      intro i hk
      have next := ih (i + 1) (by omega)
      rw [ly_bw] at next
      refine ev_iload dO_below_6 rfl ?_
      refine ev_aload_n dO_below_8 rfl ?_
      refine ev_get dO_below_9 fl_O_9 rfl rfl ?_
      refine ev_get dO_below_12 fl_O_35 rfl rfl ?_
      refine ev_icmp_gt (tgt := 56) dO_below_15 rfl (by omega) (by omega) (by omega) (by omega) (fun hb => ?_) (fun hb => ?_)
      · omega
      · refine ev_iload dO_below_18 rfl ?_
        refine ev_iload_n dO_below_20 rfl ?_
        refine ev_icmp_eq (tgt := 50) dO_below_21 rfl (by omega) (by omega) (by omega) (by omega) (fun hb1 => ?_) (fun hb1 => ?_)
        · refine ev_iinc dO_below_50 rfl ?_
          refine ev_goto (tgt := 6) dO_below_53 rfl ?_
          rw [if_neg (fun q => q.1 hb1), Int.add_zero] at next
          exact next
        · refine ev_aload_n dO_below_24 rfl ?_
          refine ev_get dO_below_25 fl_O_9 rfl rfl ?_
          refine ev_iload dO_below_28 rfl ?_
          refine ev_iload_n dO_below_30 rfl ?_
          refine ev_cV dO_below_31 cv_O_95 (ct_liesOver (by omega) (by omega) q1' q2' (hl i (by omega) hb) (hh i (by omega) hb)) rfl rfl rfl (Nat.le_of_ble_eq_true rfl) (Nat.le_of_ble_eq_true rfl) (Nat.le_of_ble_eq_true rfl) ?_
          refine ev_bz (tgt := 50) dO_below_34 rfl (fun hb2 => ?_) (fun hb2 => ?_)
          · refine ev_iinc dO_below_50 rfl ?_
            refine ev_goto (tgt := 6) dO_below_53 rfl ?_
            rw [if_neg (fun q => of_decide_eq_false hb2 q.2.1), Int.add_zero] at next
            exact next
          · refine ev_iload_n dO_below_37 rfl ?_
            refine ev_iload_n dO_below_38 rfl ?_
            refine ev_iload dO_below_39 rfl ?_
            refine ev_cS dO_below_41 cs_O_75 (ct_isAbove s0 (by omega) (by omega) (by omega)) rfl rfl (Nat.le_of_ble_eq_true rfl) (Nat.le_of_ble_eq_true rfl) (Nat.le_of_ble_eq_true rfl) ?_
            refine ev_bz (tgt := 50) dO_below_44 rfl (fun hb3 => ?_) (fun hb3 => ?_)
            · refine ev_iinc dO_below_50 rfl ?_
              refine ev_goto (tgt := 6) dO_below_53 rfl ?_
              rw [if_neg (fun q => by rw [hb3] at q; exact absurd q.2.2 (by decide)), Int.add_zero] at next
              exact next
            · refine ev_iinc dO_below_47 rfl ?_
              refine ev_iinc dO_below_50 rfl ?_
              refine ev_goto (tgt := 6) dO_below_53 rfl ?_
              rw [if_pos ⟨hb1, of_decide_eq_true hb2, hb3⟩] at next
              exact next
  exact loop (n + 1).toNat 0 (by omega)
theorem ly_bw_bd {o : Nat} {s q : Int} : ∀ k : Nat, 0 ≤ ly_bw lo hi o s q k ∧ ly_bw lo hi o s q k ≤ k
  | 0 => by simp [ly_bw]
  | k + 1 => by
    have := ly_bw_bd (o := o) (s := s) (q := q) k
    unfold ly_bw
    split <;> push_cast <;> omega
theorem ct_segAt {o : Nat} {q k : Int} (hn0 : 0 ≤ n) (hn : n ≤ 6) (q1' : -2147483648 ≤ q) (q2' : q < 2147483648) (k1' : -2147483648 ≤ k) (k2' : k < 2147483648) (hl : ∀ i, 0 ≤ i → i ≤ n → -60 ≤ lo i ∧ lo i ≤ 60) (hh : ∀ i, 0 ≤ i → i ≤ n → -60 ≤ hi i ∧ hi i ≤ 60) :
    ev_C g mO_segmentAt (d + 3) [.ref 13, ev_i o, ev_i q, ev_i k] (oh L n tn P K B lo hi c0 q1 q2 q3 q4 q5 q6 kn fo r mk t) 0 0 (ev_V (some (ev_i (ly_sgN n lo hi o q k (n + 1).toNat 0))) (oh L n tn P K B lo hi c0 q1 q2 q3 q4 q5 q6 kn fo r mk t)) := by
  refine ev_ofE (by decide +kernel) rfl (Nat.le_of_ble_eq_true rfl) rfl rfl ?_
  refine ev_iconst dO_segmentAt_0 ?_
  refine ev_istore dO_segmentAt_1 (Nat.le_of_ble_eq_true rfl) ?_
  have loop : ∀ (j : Nat) (s : Int), s + j = n + 1 → 0 ≤ s → ev_E g false mO_segmentAt (d + 3) 3 [some (.ref 13), some (ev_i o), some (ev_i q), some (ev_i k), some (ev_i s)] [] (oh L n tn P K B lo hi c0 q1 q2 q3 q4 q5 q6 kn fo r mk t) 0 0 (ev_V (some (ev_i (ly_sgN n lo hi o q k j s))) (oh L n tn P K B lo hi c0 q1 q2 q3 q4 q5 q6 kn fo r mk t)) := by
    intro j
    induction j with
    | zero =>
      intro s hj h0
      refine ev_iload dO_segmentAt_3 rfl ?_
      refine ev_aload_n dO_segmentAt_5 rfl ?_
      refine ev_get dO_segmentAt_6 fl_O_9 rfl rfl ?_
      refine ev_get dO_segmentAt_9 fl_O_35 rfl rfl ?_
      refine ev_icmp_gt (tgt := 49) dO_segmentAt_12 rfl (by omega) (by omega) (by omega) (by omega) (fun hb => ?_) (fun hb => ?_)
      · refine ev_iconst dO_segmentAt_49 ?_
        refine ev_ireturn dO_segmentAt_50 rfl ?_
        exact ⟨rfl, rfl⟩
      · omega
    | succ j ih =>
      intro s hj h0
      have next := ih (s + 1) (by omega) (by omega)
      have hbw := ly_bw_bd (lo := lo) (hi := hi) (o := o) (s := s) (q := q) (n + 1).toNat
      refine ev_iload dO_segmentAt_3 rfl ?_
      refine ev_aload_n dO_segmentAt_5 rfl ?_
      refine ev_get dO_segmentAt_6 fl_O_9 rfl rfl ?_
      refine ev_get dO_segmentAt_9 fl_O_35 rfl rfl ?_
      refine ev_icmp_gt (tgt := 49) dO_segmentAt_12 rfl (by omega) (by omega) (by omega) (by omega) (fun hb => ?_) (fun hb => ?_)
      · omega
      · refine ev_aload_n dO_segmentAt_15 rfl ?_
        refine ev_get dO_segmentAt_16 fl_O_9 rfl rfl ?_
        refine ev_iload dO_segmentAt_19 rfl ?_
        refine ev_iload_n dO_segmentAt_21 rfl ?_
        refine ev_cV dO_segmentAt_22 cv_O_95 (ct_liesOver h0 (by omega) q1' q2' (hl s h0 hb) (hh s h0 hb)) rfl rfl rfl (Nat.le_of_ble_eq_true rfl) (Nat.le_of_ble_eq_true rfl) (Nat.le_of_ble_eq_true rfl) ?_
        refine ev_bz (tgt := 43) dO_segmentAt_25 rfl (fun hb2 => ?_) (fun hb2 => ?_)
        · refine ev_iinc dO_segmentAt_43 rfl ?_
          refine ev_goto (tgt := 3) dO_segmentAt_46 rfl ?_
          rw [ly_sgN, if_neg (fun q => of_decide_eq_false hb2 q.1)]
          exact next
        · refine ev_aload_n dO_segmentAt_28 rfl ?_
          refine ev_iload_n dO_segmentAt_29 rfl ?_
          refine ev_iload dO_segmentAt_30 rfl ?_
          refine ev_iload_n dO_segmentAt_32 rfl ?_
          refine ev_cV dO_segmentAt_33 cv_O_98 (ct_below h0 hb hn q1' q2' hl hh) rfl rfl rfl (Nat.le_of_ble_eq_true rfl) (Nat.le_of_ble_eq_true rfl) (Nat.le_of_ble_eq_true rfl) ?_
          refine ev_iload_n dO_segmentAt_36 rfl ?_
          refine ev_icmp_ne (tgt := 43) dO_segmentAt_37 rfl (by omega) (by omega) (by omega) (by omega) (fun hb3 => ?_) (fun hb3 => ?_)
          · refine ev_iinc dO_segmentAt_43 rfl ?_
            refine ev_goto (tgt := 3) dO_segmentAt_46 rfl ?_
            rw [ly_sgN, if_neg (fun q => hb3 q.2)]
            exact next
          · refine ev_iload dO_segmentAt_40 rfl ?_
            refine ev_ireturn dO_segmentAt_42 rfl ?_
            exact ⟨by rw [ly_sgN, if_pos ⟨of_decide_eq_true hb2, hb3⟩], rfl⟩
  exact loop (n + 1).toNat 0 (by omega) (by omega)
theorem ct_marking {o : Nat} (hn0 : 0 ≤ n) (hn : n ≤ 6) :
    ev_C g mO_markingOf (d + 2) [.ref 13, ev_i o] (oh L n tn P K B lo hi c0 q1 q2 q3 q4 q5 q6 kn fo r mk t) 0 0 (ev_V (some (ev_i (ly_mg o n.toNat))) (oh L n tn P K B lo hi c0 q1 q2 q3 q4 q5 q6 kn fo r mk t)) := by
  refine ev_ofE (by decide +kernel) rfl (Nat.le_of_ble_eq_true rfl) rfl rfl ?_
  refine ev_iconst dO_markingOf_0 ?_
  refine ev_istore_n dO_markingOf_1 (Nat.le_of_ble_eq_true rfl) ?_
  refine ev_iconst dO_markingOf_2 ?_
  refine ev_istore_n dO_markingOf_3 (Nat.le_of_ble_eq_true rfl) ?_
  have loop : ∀ (k i : Nat), (i : Int) + k = n → ev_E g false mO_markingOf (d + 2) 4 [some (.ref 13), some (ev_i o), some (ev_i (ly_mg o i)), some (ev_i i)] [] (oh L n tn P K B lo hi c0 q1 q2 q3 q4 q5 q6 kn fo r mk t) 0 0 (ev_V (some (ev_i (ly_mg o n.toNat))) (oh L n tn P K B lo hi c0 q1 q2 q3 q4 q5 q6 kn fo r mk t)) := by
    intro k
    induction k with
    | zero =>
      intro i hk
      refine ev_iload_n dO_markingOf_4 rfl ?_
      refine ev_aload_n dO_markingOf_5 rfl ?_
      refine ev_get dO_markingOf_6 fl_O_9 rfl rfl ?_
      refine ev_get dO_markingOf_9 fl_O_35 rfl rfl ?_
      refine ev_icmp_ge (tgt := 38) dO_markingOf_12 rfl (by omega) (by omega) (by omega) (by omega) (fun hb => ?_) (fun hb => ?_)
      · refine ev_iload_n dO_markingOf_38 rfl ?_
        refine ev_ireturn dO_markingOf_39 rfl ?_
        exact ⟨by rw [show n.toNat = i by omega], rfl⟩
      · omega
    | succ k ih =>
      intro i hk
      have next := ih (i + 1) (by omega)
      rw [ly_mg] at next
      refine ev_iload_n dO_markingOf_4 rfl ?_
      refine ev_aload_n dO_markingOf_5 rfl ?_
      refine ev_get dO_markingOf_6 fl_O_9 rfl rfl ?_
      refine ev_get dO_markingOf_9 fl_O_35 rfl rfl ?_
      refine ev_icmp_ge (tgt := 38) dO_markingOf_12 rfl (by omega) (by omega) (by omega) (by omega) (fun hb => ?_) (fun hb => ?_)
      · omega
      · refine ev_iload_n dO_markingOf_15 rfl ?_
        refine ev_iload_n dO_markingOf_16 rfl ?_
        refine ev_iload_n dO_markingOf_17 rfl ?_
        refine ev_iconst dO_markingOf_18 ?_
        refine ev_iadd dO_markingOf_19 ?_
        refine ev_cS dO_markingOf_20 cs_O_75 (ct_isAbove (by omega) (by omega) (by omega) (by omega)) rfl rfl (Nat.le_of_ble_eq_true rfl) (Nat.le_of_ble_eq_true rfl) (Nat.le_of_ble_eq_true rfl) ?_
        refine ev_bz (tgt := 32) dO_markingOf_23 rfl (fun hb2 => ?_) (fun hb2 => ?_)
        · refine ev_iinc dO_markingOf_32 rfl ?_
          refine ev_goto (tgt := 4) dO_markingOf_35 rfl ?_
          rw [hb2, if_neg (by decide)] at next
          exact next
        · refine ev_iload_n dO_markingOf_26 rfl ?_
          refine ev_iconst dO_markingOf_27 ?_
          refine ev_iload_n dO_markingOf_28 rfl ?_
          refine ev_shl1 dO_markingOf_29 rfl (by omega) ?_
          refine ev_or dO_markingOf_30 ?_
          refine ev_istore_n dO_markingOf_31 (Nat.le_of_ble_eq_true rfl) ?_
          refine ev_iinc dO_markingOf_32 rfl ?_
          refine ev_goto (tgt := 4) dO_markingOf_35 rfl ?_
          rw [hb2, if_pos rfl] at next
          exact next
  exact loop n.toNat 0 (by omega)
end LD
end
section
/-! LayerOrders: the search -/
def ly_ok (K : Int → Int) (tn : Bool) (B lo hi : Int → Int) (o : Nat) (a b : Int) : Bool := ly_mk K tn o a b && (ly_rd lo hi o a b && (ly_cr B lo hi o a b && ly_ne B o a b))
/-- all orders that go on from o, the pairs from (a, b) on being open, k of them -/
def ly_go (K : Int → Int) (tn : Bool) (B lo hi : Int → Int) : Nat → Int → Int → Nat → List Nat
  | 0, _, _, o => [o]
  | k + 1, a, b, o =>
    if ly_ov lo hi a b then
      (if ly_ok K tn B lo hi o a b then ly_go K tn B lo hi k (if b ≤ a + 1 then 0 else a + 1) (if b ≤ a + 1 then b + 1 else b) o else []) ++
      (if ly_ok K tn B lo hi (o ||| 2 ^ ly_ix a b) a b then ly_go K tn B lo hi k (if b ≤ a + 1 then 0 else a + 1) (if b ≤ a + 1 then b + 1 else b) (o ||| 2 ^ ly_ix a b) else [])
    else ly_go K tn B lo hi k (if b ≤ a + 1 then 0 else a + 1) (if b ≤ a + 1 then b + 1 else b) o
theorem ly_go_len {K : Int → Int} {tn : Bool} {B lo hi : Int → Int} : ∀ (k : Nat) (a b : Int) (o : Nat), (ly_go K tn B lo hi k a b o).length ≤ 2 ^ k
  | 0, _, _, _ => by simp [ly_go]
  | k + 1, a, b, o => by
    have h1 := ly_go_len (K := K) (tn := tn) (B := B) (lo := lo) (hi := hi) k (if b ≤ a + 1 then 0 else a + 1) (if b ≤ a + 1 then b + 1 else b) o
    have h2 := ly_go_len (K := K) (tn := tn) (B := B) (lo := lo) (hi := hi) k (if b ≤ a + 1 then 0 else a + 1) (if b ≤ a + 1 then b + 1 else b) (o ||| 2 ^ ly_ix a b)
    have h3 : 2 ^ (k + 1) = 2 ^ k + 2 ^ k := by rw [Nat.pow_succ]; omega
    unfold ly_go
    generalize (if b ≤ a + 1 then (0 : Int) else a + 1) = a' at *
    generalize (if b ≤ a + 1 then b + 1 else b) = b' at *
    split
    · rw [List.length_append]
      split <;> split <;> (try simp only [List.length_nil]) <;> omega
    · omega
/-- k pairs are open from (a, b) on -/
def ly_k (n : Int) (k : Nat) (a b : Int) : Prop := 2 * (k : Int) + b * (b - 1) + 2 * a = (n + 1) * n ∧ 0 ≤ a ∧ a < b ∧ b ≤ n + 1 ∧ (b = n + 1 → a = 0)
theorem ly_sq {x : Int} : x * (x - 1) = x * x - x ∧ (x + 1) * x = x * x + x ∧ (x + 1) * (x + 1 - 1) = x * x + x := by
  refine ⟨by rw [Int.mul_sub, Int.mul_one], by rw [Int.add_mul, Int.one_mul], ?_⟩
  rw [show x + 1 - 1 = x by omega, Int.add_mul, Int.one_mul]
theorem ly_mono {x y : Int} (h0 : 0 ≤ x) (h : x ≤ y) : x * x + x ≤ y * y + y := by
  have := Int.mul_le_mul h h h0 (by omega)
  omega
theorem ly_k_0 {n : Int} {a b : Int} (h : ly_k n 0 a b) : b = n + 1 := by
  obtain ⟨h1, h2, h3, h4, -⟩ := h
  have s1 := (ly_sq (x := b)).1
  have s2 := (ly_sq (x := n)).2.1
  rcases Int.lt_or_eq_of_le h4 with q | q
  · exfalso
    have := ly_mono (x := b) (y := n) (by omega) (by omega)
    simp only [Int.natCast_zero, Int.mul_zero, Int.cast_ofNat_Int] at h1
    omega
  · exact q
theorem ly_k_s {n : Int} {k : Nat} {a b : Int} (h : ly_k n (k + 1) a b) : b ≤ n := by
  obtain ⟨h1, h2, h3, h4, h5⟩ := h
  have s1 := (ly_sq (x := b)).1
  have s2 := (ly_sq (x := n)).2.1
  rcases Int.lt_or_eq_of_le h4 with q | q
  · omega
  · exfalso
    have := h5 q
    have s3 := (ly_sq (x := n)).2.2
    rw [q] at h1
    push_cast at h1
    omega
theorem ly_k_n {n : Int} {k : Nat} {a b : Int} (h : ly_k n (k + 1) a b) : ly_k n k (if b ≤ a + 1 then 0 else a + 1) (if b ≤ a + 1 then b + 1 else b) := by
  have hb := ly_k_s h
  obtain ⟨h1, h2, h3, h4, h5⟩ := h
  have s1 := (ly_sq (x := b)).1
  have s3 := (ly_sq (x := b)).2.2
  push_cast at h1
  by_cases hl : b ≤ a + 1
  · rw [if_pos hl, if_pos hl]
    exact ⟨by rw [s3]; omega, by omega, by omega, by omega, fun _ => rfl⟩
  · rw [if_neg hl, if_neg hl]
    exact ⟨by omega, by omega, by omega, by omega, fun q => by omega⟩
def ly_Q (L n : Int) (tn : Bool) (P K B lo hi : Int → Int) (c0 q1 q2 q3 q4 q5 q6 : ev_AC) (kn : Bool) (mk : Int64) (A : List Nat) (e k : Nat) (t : List ev_AC) (S : List Nat) : ev_O → List ev_AC → Prop := fun oo h' =>
  oo = .inl none ∧ ∃ (k' : Nat) (R' : Int → Int) (t' : List ev_AC), h' = oh L n tn P K B lo hi c0 q1 q2 q3 q4 q5 q6 kn ((A ++ S).length : Nat) (k' + 14) (ly_ms n mk S) t' ∧ ly_rw (A ++ S) (ly_ge e A.length S.length) k' R' t' ∧ ly_fr k t k' t'
section LE
variable {g : ev_G} {d : Nat} {L n : Int} {tn : Bool} {P K B lo hi : Int → Int} {c0 q1 q2 q3 q4 q5 q6 : ev_AC} {kn : Bool} {mk : Int64} {t : List ev_AC}
theorem ly_rw_put {A : List Nat} {e k : Nat} {R : Int → Int} {t : List ev_AC} {o : Nat} (h : ly_rw A e k R t) (hl : A.length < 64 * 2 ^ e) : ly_rw (A ++ [o]) e k (ev_up R (A.length : Nat) o) (t.set k (ev_ia (64 * 2 ^ e) (ev_up R (A.length : Nat) o))) := by
  obtain ⟨h1, h2, h3⟩ := h
  have hk : k < t.length := (List.getElem?_eq_some_iff.mp h1).1
  refine ⟨List.getElem?_set_self hk, ⟨by rw [List.length_append]; show A.length + 1 ≤ _; omega, h2.2⟩, fun i x hx => ?_⟩
  by_cases hi : i < A.length
  · rw [List.getElem?_append_left hi] at hx
    rw [ev_up_n (by omega)]
    exact h3 i x hx
  · have hi2 : i < (A ++ [o]).length := (List.getElem?_eq_some_iff.mp hx).1
    rw [List.length_append] at hi2
    have hi3 : i = A.length := by have : i < A.length + 1 := hi2; omega
    subst hi3
    simp at hx
    rw [ev_up_s, hx]
theorem ct_keep {o e k : Nat} {A : List Nat} {R : Int → Int} (hn0 : 0 ≤ n) (hn : n ≤ 6) (hr : ly_rw A e k R t) (hA : A.length + 1 ≤ 2097152) :
    ev_C g mO_keep (d + 3) [.ref 13, ev_i o] (oh L n tn P K B lo hi c0 q1 q2 q3 q4 q5 q6 kn (A.length : Nat) (k + 14) mk t) (ly_ge e A.length 1 - e) (128 * 2 ^ ly_ge e A.length 1 - 128 * 2 ^ e)
      (ly_Q L n tn P K B lo hi c0 q1 q2 q3 q4 q5 q6 kn mk A e k t [o]) := by
  have hr1 := hr.1
  have hr2 := hr.2.1.1
  have hr3 := hr.2.1.2
  have hpos : 0 < 2 ^ e := Nat.two_pow_pos e
  have hp15 : 2 ^ e ≤ 32768 := Nat.pow_le_pow_right (n := 2) (by decide) hr3
  refine ev_ofE (by decide +kernel) rfl (Nat.le_of_ble_eq_true rfl) rfl rfl ?_
  refine ev_aload_n dO_keep_0 rfl ?_
  refine ev_get dO_keep_1 fl_O_23 rfl rfl ?_
  refine ev_aload_n dO_keep_4 rfl ?_
  refine ev_get dO_keep_5 fl_O_15 rfl rfl ?_
  refine ev_alen dO_keep_8 hr1 ?_
  by_cases hl : A.length < 64 * 2 ^ e
  · have hge : ly_ge e A.length 1 = e := if_pos hl
    refine ev_icmp_lt (tgt := 30) dO_keep_9 rfl (by omega) (by omega) (by omega) (by omega) (fun hb => ?_) (fun hb => ?_)
    · refine ev_aload_n dO_keep_30 rfl ?_
      refine ev_get dO_keep_31 fl_O_15 rfl rfl ?_
      refine ev_aload_n dO_keep_34 rfl ?_
      refine ev_get dO_keep_35 fl_O_23 rfl rfl ?_
      refine ev_iload_n dO_keep_38 rfl ?_
      refine ev_iast dO_keep_39 hr1 (by omega) (by omega) (by omega) ?_
      refine ev_aload_n dO_keep_40 rfl ?_
      refine ev_dup dO_keep_41 rfl ?_
      refine ev_get dO_keep_42 fl_O_23 rfl rfl ?_
      refine ev_iconst dO_keep_45 ?_
      refine ev_iadd dO_keep_46 ?_
      refine ev_put dO_keep_47 fp_O_23 (fun q => by cases q) rfl (Nat.le_of_ble_eq_true rfl) rfl rfl ?_
      refine ev_aload_n dO_keep_50 rfl ?_
      refine ev_dup dO_keep_51 rfl ?_
      refine ev_get dO_keep_52 fl_O_27 rfl rfl ?_
      refine ev_lconst dO_keep_55 ?_
      refine ev_aload_n dO_keep_56 rfl ?_
      refine ev_iload_n dO_keep_57 rfl ?_
      refine ev_cV dO_keep_58 cv_O_71 (ct_marking hn0 hn) rfl rfl rfl (Nat.le_of_ble_eq_true rfl) (Nat.le_of_ble_eq_true rfl) (Nat.le_of_ble_eq_true rfl) ?_
      refine ev_lshl dO_keep_61 ?_
      refine ev_lor dO_keep_62 ?_
      refine ev_put dO_keep_63 fp_O_27 (fun q => by cases q) rfl (Nat.le_of_ble_eq_true rfl) rfl rfl ?_
      refine ev_return dO_keep_66 rfl ?_
      refine ⟨rfl, k, _, _, ?_, by rw [show ([o] : List Nat).length = 1 from rfl, hge]; exact ly_rw_put hr hl, Or.inl rfl, by simp, fun i hi hk => by rw [List.getElem?_set_ne (fun q => hk q.symm)]⟩
      rw [List.length_append]
      rfl
    · omega
  · have hge : ly_ge e A.length 1 = e + 1 := if_neg hl
    have hcap : A.length = 64 * 2 ^ e := by omega
    have he15 : e < 15 := by
      rcases Nat.lt_or_ge e 15 with q | q
      · exact q
      · have : e = 15 := by omega
        subst this
        omega
    have hp : 64 * 2 ^ (e + 1) = 2 * (64 * 2 ^ e) := by rw [Nat.pow_succ]; omega
    have hp2 : 128 * 2 ^ (e + 1) = 2 * (128 * 2 ^ e) := by rw [Nat.pow_succ]; omega
    refine ev_icmp_lt (tgt := 30) dO_keep_9 rfl (by omega) (by omega) (by omega) (by omega) (fun hb => ?_) (fun hb => ?_)
    · omega
    · refine ev_aload_n dO_keep_12 rfl ?_
      refine ev_aload_n dO_keep_13 rfl ?_
      refine ev_get dO_keep_14 fl_O_15 rfl rfl ?_
      refine ev_iconst dO_keep_17 ?_
      refine ev_aload_n dO_keep_18 rfl ?_
      refine ev_get dO_keep_19 fl_O_15 rfl rfl ?_
      refine ev_alen dO_keep_22 hr1 ?_
      refine ev_imul dO_keep_23 ?_
      rw [show (2 : Int) * ((64 * 2 ^ e : Nat) : Int) = ((64 * 2 ^ (e + 1) : Nat) : Int) by omega]
      rw [hge]
      refine ev_room (kc' := 1) (ks' := 64 * 2 ^ (e + 1)) (by omega) (by omega) ?_
      refine ev_cS dO_keep_24 cs_O_65 (ct_copyOf (h := oh L n tn P K B lo hi c0 q1 q2 q3 q4 q5 q6 kn (A.length : Nat) (k + 14) mk t) (a := k + 14) hr1 (by omega) (by omega)) rfl rfl (Nat.le_of_ble_eq_true rfl) (Nat.le_refl _) (Nat.le_refl _) ?_
      refine ev_put dO_keep_27 fp_O_15 (fun q => by cases q) rfl (Nat.le_of_ble_eq_true rfl) rfl rfl ?_
      refine ev_aload_n dO_keep_30 rfl ?_
      refine ev_get dO_keep_31 fl_O_15 rfl rfl ?_
      refine ev_aload_n dO_keep_34 rfl ?_
      refine ev_get dO_keep_35 fl_O_23 rfl rfl ?_
      refine ev_iload_n dO_keep_38 rfl ?_
      have hx : ∀ x : ev_AC, (t ++ [x])[t.length]? = some x := fun x => by simp
      refine ev_iast dO_keep_39 (a := t.length + 14) (hx _) (by omega) (by omega) (by omega) ?_
      refine ev_aload_n dO_keep_40 rfl ?_
      refine ev_dup dO_keep_41 rfl ?_
      refine ev_get dO_keep_42 fl_O_23 rfl rfl ?_
      refine ev_iconst dO_keep_45 ?_
      refine ev_iadd dO_keep_46 ?_
      refine ev_put dO_keep_47 fp_O_23 (fun q => by cases q) rfl (Nat.le_of_ble_eq_true rfl) rfl rfl ?_
      refine ev_aload_n dO_keep_50 rfl ?_
      refine ev_dup dO_keep_51 rfl ?_
      refine ev_get dO_keep_52 fl_O_27 rfl rfl ?_
      refine ev_lconst dO_keep_55 ?_
      refine ev_aload_n dO_keep_56 rfl ?_
      refine ev_iload_n dO_keep_57 rfl ?_
      have hs : ∀ x y : ev_AC, (t ++ [x]).set t.length y = t ++ [y] := fun x y => by simp
      refine ev_cV dO_keep_58 cv_O_71 (ct_marking (L := L) (tn := tn) (P := P) (K := K) (B := B) (lo := lo) (hi := hi) (c0 := c0) (q1 := q1) (q2 := q2) (q3 := q3) (q4 := q4) (q5 := q5) (q6 := q6) (kn := kn) (fo := ((A.length : Nat) : Int) + 1) (r := t.length + 14) (mk := mk) (t := (t ++ [ev_ia (64 * 2 ^ (e + 1)) (ev_ov R (fun _ => 0) (64 * 2 ^ e : Nat))]).set t.length (ev_ia (64 * 2 ^ (e + 1)) (ev_up (ev_ov R (fun _ => 0) (64 * 2 ^ e : Nat)) (A.length : Nat) o))) hn0 hn) rfl rfl rfl (Nat.le_of_ble_eq_true rfl) (Nat.zero_le _) (Nat.zero_le _) ?_
      refine ev_lshl dO_keep_61 ?_
      refine ev_lor dO_keep_62 ?_
      refine ev_put dO_keep_63 fp_O_27 (fun q => by cases q) rfl (Nat.le_of_ble_eq_true rfl) rfl rfl ?_
      refine ev_return dO_keep_66 rfl ?_
      refine ⟨rfl, t.length, ev_up (ev_ov R (fun _ => 0) (64 * 2 ^ e : Nat)) (A.length : Nat) o, t ++ [ev_ia (64 * 2 ^ (e + 1)) (ev_up (ev_ov R (fun _ => 0) (64 * 2 ^ e : Nat)) (A.length : Nat) o)], ?_, ?_, Or.inr (Nat.le_refl _), by simp, fun i hi hk => by rw [List.getElem?_append_left hi]⟩
      · rw [hs, List.length_append]
        rfl
      · have h0 : ly_rw A (e + 1) t.length (ev_ov R (fun _ => 0) (64 * 2 ^ e : Nat)) (t ++ [ev_ia (64 * 2 ^ (e + 1)) (ev_ov R (fun _ => 0) (64 * 2 ^ e : Nat))]) := by
          refine ⟨hx _, ⟨by omega, by omega⟩, fun i x hi => ?_⟩
          have : i < A.length := (List.getElem?_eq_some_iff.mp hi).1
          rw [ev_ov_in (by omega) (by omega)]
          exact hr.2.2 i x hi
        have h1 := ly_rw_put (o := o) h0 (by omega)
        rw [hs] at h1
        rw [show ([o] : List Nat).length = 1 from rfl, hge]
        exact h1
theorem ct_decide (hn0 : 0 ≤ n) (hn : n ≤ 6) (hK : ∀ i, 0 ≤ i → i < n → 0 ≤ K i ∧ K i ≤ 2) (hl : ∀ i, 0 ≤ i → i ≤ n → -60 ≤ lo i ∧ lo i ≤ 60) (hh : ∀ i, 0 ≤ i → i ≤ n → -60 ≤ hi i ∧ hi i ≤ 60) (hB : ∀ i, 0 ≤ i → i ≤ n + 1 → -60 ≤ B i ∧ B i ≤ 60) :
    ∀ (k : Nat) (a b : Int) (o : Nat) (A : List Nat) (e kr : Nat) (R : Int → Int) (t : List ev_AC) (mk : Int64), ly_k n k a b → ly_rw A e kr R t → A.length + (ly_go K tn B lo hi k a b o).length ≤ 2097152 →
    ev_C g mO_decide (d + k + 4) [.ref 13, ev_i a, ev_i b, ev_i o] (oh L n tn P K B lo hi c0 q1 q2 q3 q4 q5 q6 kn (A.length : Nat) (kr + 14) mk t) (ly_ge e A.length (ly_go K tn B lo hi k a b o).length - e) (128 * 2 ^ ly_ge e A.length (ly_go K tn B lo hi k a b o).length - 128 * 2 ^ e)
      (ly_Q L n tn P K B lo hi c0 q1 q2 q3 q4 q5 q6 kn mk A e kr t (ly_go K tn B lo hi k a b o)) := by
  intro k
  induction k with
  | zero =>
    intro a b o A e kr R t mk hk hr hA
    have hb := ly_k_0 hk
    have hA : A.length + 1 ≤ 2097152 := hA
    refine ev_ofE (by decide +kernel) rfl (Nat.le_of_ble_eq_true rfl) rfl rfl ?_
    refine ev_iload_n dO_decide_0 rfl ?_
    refine ev_aload_n dO_decide_1 rfl ?_
    refine ev_get dO_decide_2 fl_O_9 rfl rfl ?_
    refine ev_get dO_decide_5 fl_O_35 rfl rfl ?_
    refine ev_icmp_le (tgt := 17) dO_decide_8 rfl (by omega) (by omega) (by omega) (by omega) (fun h8 => ?_) (fun h8 => ?_)
    · omega
    · refine ev_aload_n dO_decide_11 rfl ?_
      refine ev_iload_n dO_decide_12 rfl ?_
      refine ev_callV dO_decide_13 cv_O_40 rfl rfl (Nat.le_of_ble_eq_true rfl) (ct_keep hn0 hn hr hA) (Nat.le_refl _) (Nat.le_refl _) rfl (fun v h' q => ?_)
      have hv : v = none := Sum.inl.inj q.1
      subst hv
      refine ev_return dO_decide_16 rfl ?_
      exact q
  | succ k ih =>
    intro a b o A e kr R t mk hk hr hA
    have hbn := ly_k_s hk
    have hkn := ly_k_n hk
    obtain ⟨-, a0, ab, -, -⟩ := id hk
    -- the tail: from pc 59 on
    have tail : ∀ (la : Int) (a' b' : Int), a' = (if b ≤ a + 1 then 0 else a + 1) → b' = (if b ≤ a + 1 then b + 1 else b) →
        ev_E g false mO_decide (d + k + 4 + 1) 59 [some (.ref 13), some (ev_i a), some (ev_i b), some (ev_i o), some (ev_i la), some (ev_i a'), some (ev_i b'), none, none] [] (oh L n tn P K B lo hi c0 q1 q2 q3 q4 q5 q6 kn (A.length : Nat) (kr + 14) mk t) (ly_ge e A.length (ly_go K tn B lo hi (k + 1) a b o).length - e) (128 * 2 ^ ly_ge e A.length (ly_go K tn B lo hi (k + 1) a b o).length - 128 * 2 ^ e)
          (ly_Q L n tn P K B lo hi c0 q1 q2 q3 q4 q5 q6 kn mk A e kr t (ly_go K tn B lo hi (k + 1) a b o)) := by
      intro la a' b' ea eb
      rw [← ea, ← eb] at hkn
      refine ev_aload_n dO_decide_59 rfl ?_
      refine ev_get dO_decide_60 fl_O_9 rfl rfl ?_
      refine ev_iload_n dO_decide_63 rfl ?_
      refine ev_iload_n dO_decide_64 rfl ?_
      refine ev_cV dO_decide_65 cv_O_44 (ct_overlap a0 (by omega) (by omega) (by omega) (hl a a0 (by omega)) (hh a a0 (by omega)) (hl b (by omega) hbn) (hh b (by omega) hbn)) rfl rfl rfl (Nat.le_of_ble_eq_true rfl) (Nat.le_of_ble_eq_true rfl) (Nat.le_of_ble_eq_true rfl) ?_
      refine ev_bn (tgt := 81) dO_decide_68 rfl (fun hov => ?_) (fun hov => ?_)
      · have hgo : ly_go K tn B lo hi (k + 1) a b o = (if ly_ok K tn B lo hi o a b then ly_go K tn B lo hi k a' b' o else []) ++ (if ly_ok K tn B lo hi (o ||| 2 ^ ly_ix a b) a b then ly_go K tn B lo hi k a' b' (o ||| 2 ^ ly_ix a b) else []) := by
          rw [ly_go, ← ea, ← eb, if_pos (show ly_ov lo hi a b = true from hov)]
        rw [hgo] at hA ⊢
        have tryit : ∀ (o' : Nat) (ch : Int) (A1 : List Nat) (e1 kr1 : Nat) (R1 : Int → Int) (t1 : List ev_AC) (mk1 : Int64) (kc ks : Nat) (Q : ev_O → List ev_AC → Prop), ly_rw A1 e1 kr1 R1 t1 → A1.length + (if ly_ok K tn B lo hi o' a b then ly_go K tn B lo hi k a' b' o' else []).length ≤ 2097152 →
            ly_ge e1 A1.length (if ly_ok K tn B lo hi o' a b then ly_go K tn B lo hi k a' b' o' else []).length - e1 ≤ kc → 128 * 2 ^ ly_ge e1 A1.length (if ly_ok K tn B lo hi o' a b then ly_go K tn B lo hi k a' b' o' else []).length - 128 * 2 ^ e1 ≤ ks →
            (∀ (k' : Nat) (R' : Int → Int) (t' : List ev_AC), ly_rw (A1 ++ (if ly_ok K tn B lo hi o' a b then ly_go K tn B lo hi k a' b' o' else [])) (ly_ge e1 A1.length (if ly_ok K tn B lo hi o' a b then ly_go K tn B lo hi k a' b' o' else []).length) k' R' t' → ly_fr kr1 t1 k' t' →
              ev_E g false mO_decide (d + k + 4 + 1) 162 [some (.ref 13), some (ev_i a), some (ev_i b), some (ev_i o), some (ev_i la), some (ev_i a'), some (ev_i b'), some (ev_i ch), some (ev_i o')] [] (oh L n tn P K B lo hi c0 q1 q2 q3 q4 q5 q6 kn ((A1 ++ (if ly_ok K tn B lo hi o' a b then ly_go K tn B lo hi k a' b' o' else [])).length : Nat) (k' + 14) (ly_ms n mk1 (if ly_ok K tn B lo hi o' a b then ly_go K tn B lo hi k a' b' o' else [])) t') (kc - (ly_ge e1 A1.length (if ly_ok K tn B lo hi o' a b then ly_go K tn B lo hi k a' b' o' else []).length - e1)) (ks - (128 * 2 ^ ly_ge e1 A1.length (if ly_ok K tn B lo hi o' a b then ly_go K tn B lo hi k a' b' o' else []).length - 128 * 2 ^ e1)) Q) →
            ev_E g false mO_decide (d + k + 4 + 1) 108 [some (.ref 13), some (ev_i a), some (ev_i b), some (ev_i o), some (ev_i la), some (ev_i a'), some (ev_i b'), some (ev_i ch), some (ev_i o')] [] (oh L n tn P K B lo hi c0 q1 q2 q3 q4 q5 q6 kn (A1.length : Nat) (kr1 + 14) mk1 t1) kc ks Q := by
          intro o' ch A1 e1 kr1 R1 t1 mk1 kc ks Q hr1 hA1 hkc hks cont
          have miss : ly_ok K tn B lo hi o' a b = false → ev_E g false mO_decide (d + k + 4 + 1) 162 [some (.ref 13), some (ev_i a), some (ev_i b), some (ev_i o), some (ev_i la), some (ev_i a'), some (ev_i b'), some (ev_i ch), some (ev_i o')] [] (oh L n tn P K B lo hi c0 q1 q2 q3 q4 q5 q6 kn (A1.length : Nat) (kr1 + 14) mk1 t1) kc ks Q := by
            intro hno
            have c1 := cont kr1 R1 t1
            rw [hno, if_neg (by decide), List.append_nil] at c1
            refine ev_room ?_ ?_ (c1 hr1 (ly_fr_rf _ _)) <;> exact Nat.sub_le _ _
          refine ev_aload_n dO_decide_108 rfl ?_
          refine ev_iload dO_decide_109 rfl ?_
          refine ev_iload_n dO_decide_111 rfl ?_
          refine ev_iload_n dO_decide_112 rfl ?_
          refine ev_cV dO_decide_113 cv_O_52 (ct_keepsMark a0 ab hbn hn hK) rfl rfl rfl (Nat.le_of_ble_eq_true rfl) (Nat.zero_le _) (Nat.zero_le _) ?_
          refine ev_bz (tgt := 162) dO_decide_116 rfl (fun h1 => ?_) (fun h1 => ?_)
          · exact miss (by rw [ly_ok, h1]; rfl)
          · refine ev_aload_n dO_decide_119 rfl ?_
            refine ev_iload dO_decide_120 rfl ?_
            refine ev_iload_n dO_decide_122 rfl ?_
            refine ev_iload_n dO_decide_123 rfl ?_
            refine ev_cV dO_decide_124 cv_O_56 (ct_noRound a0 ab hbn hn hl hh) rfl rfl rfl (Nat.le_of_ble_eq_true rfl) (Nat.zero_le _) (Nat.zero_le _) ?_
            refine ev_bz (tgt := 162) dO_decide_127 rfl (fun h2 => ?_) (fun h2 => ?_)
            · exact miss (by rw [ly_ok, h1, h2]; rfl)
            · refine ev_aload_n dO_decide_130 rfl ?_
              refine ev_iload dO_decide_131 rfl ?_
              refine ev_iload_n dO_decide_133 rfl ?_
              refine ev_iload_n dO_decide_134 rfl ?_
              refine ev_cV dO_decide_135 cv_O_59 (ct_noCross a0 ab hbn hn hl hh hB) rfl rfl rfl (Nat.le_of_ble_eq_true rfl) (Nat.zero_le _) (Nat.zero_le _) ?_
              refine ev_bz (tgt := 162) dO_decide_138 rfl (fun h3 => ?_) (fun h3 => ?_)
              · exact miss (by rw [ly_ok, h1, h2, h3]; rfl)
              · refine ev_aload_n dO_decide_141 rfl ?_
                refine ev_iload dO_decide_142 rfl ?_
                refine ev_iload_n dO_decide_144 rfl ?_
                refine ev_iload_n dO_decide_145 rfl ?_
                refine ev_cV dO_decide_146 cv_O_62 (ct_nest a0 ab hbn hn hB) rfl rfl rfl (Nat.le_of_ble_eq_true rfl) (Nat.zero_le _) (Nat.zero_le _) ?_
                refine ev_bz (tgt := 162) dO_decide_149 rfl (fun h4 => ?_) (fun h4 => ?_)
                · exact miss (by rw [ly_ok, h1, h2, h3, h4]; rfl)
                · have hyes : ly_ok K tn B lo hi o' a b = true := by rw [ly_ok, h1, h2, h3, h4]; rfl
                  rw [hyes, if_pos rfl] at hA1 hkc hks cont
                  refine ev_aload_n dO_decide_152 rfl ?_
                  refine ev_iload dO_decide_153 rfl ?_
                  refine ev_iload dO_decide_155 rfl ?_
                  refine ev_iload dO_decide_157 rfl ?_
                  refine ev_callV dO_decide_159 cv_O_31 rfl rfl (Nat.le_of_ble_eq_true rfl) (ih a' b' o' A1 e1 kr1 R1 t1 mk1 hkn hr1 hA1) hkc hks rfl (fun v h' q => ?_)
                  obtain ⟨qv, k', R', t', qh, qr, qf⟩ := q
                  have hv : v = none := Sum.inl.inj qv
                  subst hv
                  subst qh
                  exact cont k' R' t' qr qf
        have hlen := List.length_append (as := (if ly_ok K tn B lo hi o a b then ly_go K tn B lo hi k a' b' o else [])) (bs := (if ly_ok K tn B lo hi (o ||| 2 ^ ly_ix a b) a b then ly_go K tn B lo hi k a' b' (o ||| 2 ^ ly_ix a b) else []))
        rw [hlen] at hA ⊢
        generalize hS0 : (if ly_ok K tn B lo hi o a b then ly_go K tn B lo hi k a' b' o else []) = S0 at *
        generalize hS1 : (if ly_ok K tn B lo hi (o ||| 2 ^ ly_ix a b) a b then ly_go K tn B lo hi k a' b' (o ||| 2 ^ ly_ix a b) else []) = S1 at *
        have hadd := ly_ge_add (e := e) (l := A.length) (a := S0.length) (b := S1.length)
        have hle0 := ly_ge_le (e := e) (l := A.length) (c := S0.length)
        have hle1 := ly_ge_le (e := ly_ge e A.length S0.length) (l := A.length + S0.length) (c := S1.length)
        have hp0 := Nat.pow_le_pow_right (n := 2) (by decide) hle0
        have hp1 := Nat.pow_le_pow_right (n := 2) (by decide) hle1
        rw [hadd]
        refine ev_iconst dO_decide_81 ?_
        refine ev_istore dO_decide_82 (Nat.le_of_ble_eq_true rfl) ?_
        refine ev_iload dO_decide_84 rfl ?_
        refine ev_iconst dO_decide_86 ?_
        refine ev_icmp_gt (tgt := 168) dO_decide_87 rfl (by omega) (by omega) (by omega) (by omega) (fun h87 => ?_) (fun h87 => ?_)
        · exact absurd h87 (by decide)
        · refine ev_iload dO_decide_90 rfl ?_
          refine ev_if_ne (tgt := 99) dO_decide_92 rfl (by omega) (by omega) (fun h92 => ?_) (fun h92 => ?_)
          · exact absurd rfl h92
          · refine ev_iload_n dO_decide_95 rfl ?_
            refine ev_goto (tgt := 106) dO_decide_96 rfl ?_
            refine ev_istore dO_decide_106 (Nat.le_of_ble_eq_true rfl) ?_
            have t0 := tryit o 0 A e kr R t mk (ly_ge (ly_ge e A.length S0.length) (A.length + S0.length) S1.length - e) (128 * 2 ^ ly_ge (ly_ge e A.length S0.length) (A.length + S0.length) S1.length - 128 * 2 ^ e) (ly_Q L n tn P K B lo hi c0 q1 q2 q3 q4 q5 q6 kn mk A e kr t (S0 ++ S1)) hr
            rw [hS0] at t0
            refine t0 (by omega) (by omega) (by omega) (fun k1 R1 t1 hr1 hf1 => ?_)
            refine ev_iinc dO_decide_162 rfl ?_
            refine ev_goto (tgt := 84) dO_decide_165 rfl ?_
            refine ev_iload dO_decide_84 rfl ?_
            refine ev_iconst dO_decide_86 ?_
            refine ev_icmp_gt (tgt := 168) dO_decide_87 rfl (by omega) (by omega) (by omega) (by omega) (fun h87' => ?_) (fun h87' => ?_)
            · exact absurd h87' (by decide)
            · refine ev_iload dO_decide_90 rfl ?_
              refine ev_if_ne (tgt := 99) dO_decide_92 rfl (by omega) (by omega) (fun h92' => ?_) (fun h92' => ?_)
              · refine ev_iload_n dO_decide_99 rfl ?_
                refine ev_iload_n dO_decide_100 rfl ?_
                refine ev_iload_n dO_decide_101 rfl ?_
                refine ev_cS dO_decide_102 cs_O_48 (ct_bit a0 (by omega) (by omega) (by omega)) rfl rfl (Nat.le_of_ble_eq_true rfl) (Nat.zero_le _) (Nat.zero_le _) ?_
                refine ev_or dO_decide_105 ?_
                refine ev_istore dO_decide_106 (Nat.le_of_ble_eq_true rfl) ?_
                have hl01 : (A ++ S0).length = A.length + S0.length := List.length_append
                have t1' := tryit (o ||| 2 ^ ly_ix a b) 1 (A ++ S0) (ly_ge e A.length S0.length) k1 R1 t1 (ly_ms n mk S0) (ly_ge (ly_ge e A.length S0.length) (A.length + S0.length) S1.length - ly_ge e A.length S0.length) (128 * 2 ^ ly_ge (ly_ge e A.length S0.length) (A.length + S0.length) S1.length - 128 * 2 ^ ly_ge e A.length S0.length) (ly_Q L n tn P K B lo hi c0 q1 q2 q3 q4 q5 q6 kn mk A e kr t (S0 ++ S1)) hr1
                rw [hS1] at t1'
                refine ev_room ?_ ?_ (t1' (by omega) (by rw [hl01]; omega) (by rw [hl01]; omega) (fun k2 R2 t2 hr2 hf2 => ?_))
                · show _ - _ ≤ _ - 0; omega
                · show _ - _ ≤ _ - 0; omega
                · refine ev_iinc dO_decide_162 rfl ?_
                  refine ev_goto (tgt := 84) dO_decide_165 rfl ?_
                  refine ev_iload dO_decide_84 rfl ?_
                  refine ev_iconst dO_decide_86 ?_
                  refine ev_icmp_gt (tgt := 168) dO_decide_87 rfl (by omega) (by omega) (by omega) (by omega) (fun h87'' => ?_) (fun h87'' => ?_)
                  · refine ev_return dO_decide_168 rfl ?_
                    refine ⟨rfl, k2, R2, t2, ?_, ?_, ly_fr_tr hf1 hf2⟩
                    · rw [List.append_assoc, ly_ms_app]
                    · rw [hlen, hadd, ← List.append_assoc, ← hl01]
                      exact hr2
                  · exact absurd h87'' (by decide)
              · exact absurd h92' (by decide)
      · have hgo : ly_go K tn B lo hi (k + 1) a b o = ly_go K tn B lo hi k a' b' o := by
          rw [ly_go, ← ea, ← eb, if_neg (by rw [ly_ov, hov]; decide)]
        rw [hgo] at hA ⊢
        refine ev_aload_n dO_decide_71 rfl ?_
        refine ev_iload dO_decide_72 rfl ?_
        refine ev_iload dO_decide_74 rfl ?_
        refine ev_iload_n dO_decide_76 rfl ?_
        refine ev_callV dO_decide_77 cv_O_31 rfl rfl (Nat.le_of_ble_eq_true rfl) (ih a' b' o A e kr R t mk hkn hr hA) (Nat.le_refl _) (Nat.le_refl _) rfl (fun v h' q => ?_)
        have hv : v = none := Sum.inl.inj q.1
        subst hv
        refine ev_return dO_decide_80 rfl ?_
        exact q
    refine ev_ofE (by decide +kernel) rfl (Nat.le_of_ble_eq_true rfl) rfl rfl ?_
    refine ev_iload_n dO_decide_0 rfl ?_
    refine ev_aload_n dO_decide_1 rfl ?_
    refine ev_get dO_decide_2 fl_O_9 rfl rfl ?_
    refine ev_get dO_decide_5 fl_O_35 rfl rfl ?_
    refine ev_icmp_le (tgt := 17) dO_decide_8 rfl (by omega) (by omega) (by omega) (by omega) (fun h8 => ?_) (fun h8 => ?_)
    · refine ev_iload_n dO_decide_17 rfl ?_
      refine ev_iconst dO_decide_18 ?_
      refine ev_iadd dO_decide_19 ?_
      refine ev_iload_n dO_decide_20 rfl ?_
      refine ev_icmp_lt (tgt := 28) dO_decide_21 rfl (by omega) (by omega) (by omega) (by omega) (fun h21 => ?_) (fun h21 => ?_)
      · refine ev_iconst dO_decide_28 ?_
        refine ev_istore dO_decide_29 (Nat.le_of_ble_eq_true rfl) ?_
        refine ev_iload dO_decide_31 rfl ?_
        refine ev_if_eq (tgt := 40) dO_decide_33 rfl (by omega) (by omega) (fun h33 => ?_) (fun h33 => ?_)
        · refine ev_iload_n dO_decide_40 rfl ?_
          refine ev_iconst dO_decide_41 ?_
          refine ev_iadd dO_decide_42 ?_
          refine ev_istore dO_decide_43 (Nat.le_of_ble_eq_true rfl) ?_
          refine ev_iload dO_decide_45 rfl ?_
          refine ev_if_eq (tgt := 56) dO_decide_47 rfl (by omega) (by omega) (fun h47 => ?_) (fun h47 => ?_)
          · refine ev_iload_n dO_decide_56 rfl ?_
            refine ev_istore dO_decide_57 (Nat.le_of_ble_eq_true rfl) ?_
            exact tail 0 (a + 1) b (by rw [if_neg (by omega)]) (by rw [if_neg (by omega)])
          · exact absurd rfl h47
        · exact absurd rfl h33
      · refine ev_iconst dO_decide_24 ?_
        refine ev_goto (tgt := 29) dO_decide_25 rfl ?_
        refine ev_istore dO_decide_29 (Nat.le_of_ble_eq_true rfl) ?_
        refine ev_iload dO_decide_31 rfl ?_
        refine ev_if_eq (tgt := 40) dO_decide_33 rfl (by omega) (by omega) (fun h33 => ?_) (fun h33 => ?_)
        · exact absurd h33 (by decide)
        · refine ev_iconst dO_decide_36 ?_
          refine ev_goto (tgt := 43) dO_decide_37 rfl ?_
          refine ev_istore dO_decide_43 (Nat.le_of_ble_eq_true rfl) ?_
          refine ev_iload dO_decide_45 rfl ?_
          refine ev_if_eq (tgt := 56) dO_decide_47 rfl (by omega) (by omega) (fun h47 => ?_) (fun h47 => ?_)
          · exact absurd h47 (by decide)
          · refine ev_iload_n dO_decide_50 rfl ?_
            refine ev_iconst dO_decide_51 ?_
            refine ev_iadd dO_decide_52 ?_
            refine ev_goto (tgt := 57) dO_decide_53 rfl ?_
            refine ev_istore dO_decide_57 (Nat.le_of_ble_eq_true rfl) ?_
            exact tail 1 0 (b + 1) (by rw [if_pos (by omega)]) (by rw [if_pos (by omega)])
    · omega
theorem ct_findAll (hn0 : 0 ≤ n) (hn : n ≤ 6) (hK : ∀ i, 0 ≤ i → i < n → 0 ≤ K i ∧ K i ≤ 2) (hl : ∀ i, 0 ≤ i → i ≤ n → -60 ≤ lo i ∧ lo i ≤ 60) (hh : ∀ i, 0 ≤ i → i ≤ n → -60 ≤ hi i ∧ hi i ≤ 60) (hB : ∀ i, 0 ≤ i → i ≤ n + 1 → -60 ≤ B i ∧ B i ≤ 60)
    {e kr : Nat} {R : Int → Int} {A : List Nat} {fo : Int} (hr : ly_rw A e kr R t) :
    ev_C g mO_findAll (d + 26) [.ref 13] (oh L n tn P K B lo hi c0 q1 q2 q3 q4 q5 q6 false fo (kr + 14) mk t) (ly_ge e 0 (ly_go K tn B lo hi ((n + 1) * n / 2).toNat 0 1 0).length - e) (128 * 2 ^ ly_ge e 0 (ly_go K tn B lo hi ((n + 1) * n / 2).toNat 0 1 0).length - 128 * 2 ^ e)
      (ly_Q L n tn P K B lo hi c0 q1 q2 q3 q4 q5 q6 true 0 [] e kr t (ly_go K tn B lo hi ((n + 1) * n / 2).toNat 0 1 0)) := by
  have hk : ly_k n ((n + 1) * n / 2).toNat 0 1 := by
    have h7 : n = 0 ∨ n = 1 ∨ n = 2 ∨ n = 3 ∨ n = 4 ∨ n = 5 ∨ n = 6 := by omega
    refine ⟨?_, by omega, by omega, by omega, fun _ => rfl⟩
    rcases h7 with rfl | rfl | rfl | rfl | rfl | rfl | rfl <;> decide
  have hk21 : ((n + 1) * n / 2).toNat ≤ 21 := by
    have h7 : n = 0 ∨ n = 1 ∨ n = 2 ∨ n = 3 ∨ n = 4 ∨ n = 5 ∨ n = 6 := by omega
    rcases h7 with rfl | rfl | rfl | rfl | rfl | rfl | rfl <;> decide
  generalize ((n + 1) * n / 2).toNat = k at *
  have hr0 : ly_rw [] e kr R t := ⟨hr.1, ⟨by simp, hr.2.1.2⟩, fun i x hx => by simp at hx⟩
  have hlen := ly_go_len (K := K) (tn := tn) (B := B) (lo := lo) (hi := hi) k 0 1 0
  have hp := Nat.pow_le_pow_right (n := 2) (by decide) hk21
  have hp2 : (2 : Nat) ^ 21 = 2097152 := by decide
  refine ev_ofE (by decide +kernel) rfl (Nat.le_of_ble_eq_true rfl) rfl rfl ?_
  refine ev_aload_n dO_findAll_0 rfl ?_
  refine ev_get dO_findAll_1 fl_O_19 rfl rfl ?_
  refine ev_bn (b := false) (tgt := 29) dO_findAll_4 rfl (fun hb => by cases hb) (fun _ => ?_)
  refine ev_aload_n dO_findAll_7 rfl ?_
  refine ev_iconst dO_findAll_8 ?_
  refine ev_put dO_findAll_9 fp_O_23 (fun q => by cases q) rfl (Nat.le_of_ble_eq_true rfl) rfl rfl ?_
  refine ev_aload_n dO_findAll_12 rfl ?_
  refine ev_lconst dO_findAll_13 ?_
  refine ev_put dO_findAll_14 fp_O_27 (fun q => by cases q) rfl (Nat.le_of_ble_eq_true rfl) rfl rfl ?_
  refine ev_aload_n dO_findAll_17 rfl ?_
  refine ev_iconst dO_findAll_18 ?_
  refine ev_iconst dO_findAll_19 ?_
  refine ev_iconst dO_findAll_20 ?_
  refine ev_deep (d' := (0 + k + 4) + 1) (by omega) ?_
  refine ev_callV dO_findAll_21 cv_O_31 rfl rfl (Nat.le_of_ble_eq_true rfl) (ct_decide (d := 0) (kn := false) hn0 hn hK hl hh hB k 0 1 0 [] e kr R t 0 hk hr0 (by show 0 + _ ≤ _; omega)) (Nat.le_refl _) (Nat.le_refl _) rfl (fun v h' q => ?_)
  obtain ⟨qv, k', R', t', qh, qr, qf⟩ := q
  have hv : v = none := Sum.inl.inj qv
  subst hv
  subst qh
  refine ev_aload_n dO_findAll_24 rfl ?_
  refine ev_iconst dO_findAll_25 ?_
  refine ev_put dO_findAll_26 fp_O_19 (fun q => by cases q) rfl (Nat.le_of_ble_eq_true rfl) (ev_nbz (by first | decide | exact ev_b01 _)) (ev_fbz (by first | decide | exact ev_b01 _)) ?_
  refine ev_return dO_findAll_29 rfl ?_
  exact ⟨rfl, k', R', t', rfl, qr, qf⟩
theorem ct_findKnown {fo : Int} {r : Nat} : ev_C g mO_findAll d [.ref 13] (oh L n tn P K B lo hi c0 q1 q2 q3 q4 q5 q6 true fo r mk t) 0 0 (ev_V none (oh L n tn P K B lo hi c0 q1 q2 q3 q4 q5 q6 true fo r mk t)) := by
  refine ev_ofE (by decide +kernel) rfl (Nat.le_of_ble_eq_true rfl) rfl rfl ?_
  refine ev_aload_n dO_findAll_0 rfl ?_
  refine ev_get dO_findAll_1 fl_O_19 rfl rfl ?_
  refine ev_bn (b := true) (tgt := 29) dO_findAll_4 rfl (fun _ => ?_) (fun hb => by cases hb)
  refine ev_return dO_findAll_29 rfl ?_
  exact ⟨rfl, rfl⟩
theorem ct_forget {fo : Int} {r : Nat} : ev_C g mO_forget d [.ref 13] (oh L n tn P K B lo hi c0 q1 q2 q3 q4 q5 q6 kn fo r mk t) 0 0 (ev_V none (oh L n tn P K B lo hi c0 q1 q2 q3 q4 q5 q6 false fo r mk t)) := by
  refine ev_ofE (by decide +kernel) rfl (Nat.le_of_ble_eq_true rfl) rfl rfl ?_
  refine ev_aload_n dO_forget_0 rfl ?_
  refine ev_iconst dO_forget_1 ?_
  refine ev_put dO_forget_2 fp_O_19 (fun q => by cases q) rfl (Nat.le_of_ble_eq_true rfl) (ev_nbz (by first | decide | exact ev_b01 _)) (ev_fbz (by first | decide | exact ev_b01 _)) ?_
  refine ev_return dO_forget_5 rfl ?_
  exact ⟨rfl, rfl⟩
theorem ct_Oinit : ev_C g mO_init (d + 1) [.ref 13, .ref 1] (pw L n tn P K B lo hi c0 [q1, q2, q3, q4, q5, q6, .inr (3, [.null, ev_i 0, ev_i 0, .null, .long 0])]) 1 64
    (ev_V none (oh L n tn P K B lo hi c0 q1 q2 q3 q4 q5 q6 false 0 14 0 [ev_ia 64 (fun _ => 0)])) := by
  refine ev_ofE (by decide +kernel) rfl (Nat.le_of_ble_eq_true rfl) rfl rfl ?_
  refine ev_aload_n dO_init_0 rfl ?_
  refine ev_obj dO_init_1 wm_O_3 wo_i wo_c (Nat.le_of_ble_eq_true rfl) ?_
  refine ev_aload_n dO_init_4 rfl ?_
  refine ev_aload_n dO_init_5 rfl ?_
  refine ev_put dO_init_6 fp_O_9 (fun _ => rfl) rfl (Nat.le_of_ble_eq_true rfl) rfl rfl ?_
  refine ev_aload_n dO_init_9 rfl ?_
  refine ev_bipush dO_init_10 rfl ?_
  refine ev_nI (n := 64) dO_init_12 rfl (by decide) ?_
  refine ev_put dO_init_14 fp_O_15 (fun q => by cases q) rfl (Nat.le_of_ble_eq_true rfl) rfl rfl ?_
  refine ev_return dO_init_17 rfl ?_
  exact ⟨rfl, rfl⟩
end LE
end
section
/-! The laboratory: its state, the text -/
/-- L, n, tn, P, K -/
abbrev SG : Type := Int × Int × Bool × (Int → Int) × (Int → Int)
def sg_ok (s : SG) : Prop := sp_ok s.1 s.2.1 s.2.2.2.1 s.2.2.2.2
/-- the laboratory's own cell -/
def lc (ty : Int) : ev_AC := .inr (0, [.ref 1, .ref 7, .ref 13, .ref 15, ev_i ty])
/-- the images are the strip's -/
def gv (s : SG) (B lo hi : Int → Int) : Prop := (∀ i, 0 ≤ i → i ≤ s.2.1 + 1 → B i = sp_B s.1 s.2.1 s.2.2.2.1 i) ∧ ∀ i, 0 ≤ i → i ≤ s.2.1 → lo i = sp_lo s.1 s.2.1 s.2.2.2.1 i ∧ hi i = sp_hi s.1 s.2.1 s.2.2.2.1 i
/-- the class's heap in the state s -/
def LB (s : SG) (ty : Int) (q1 q2 q3 q4 q5 q6 : ev_AC) (kn : Bool) (fo : Int) (r : Nat) (mk : Int64) (t : List ev_AC) (h : List ev_AC) : Prop :=
  sg_ok s ∧ ∃ B lo hi, h = oh s.1 s.2.1 s.2.2.1 s.2.2.2.1 s.2.2.2.2 B lo hi (lc ty) q1 q2 q3 q4 q5 q6 kn fo r mk t ∧ gv s B lo hi
def lb_strip (s : SG) (l : Int) : Int × SG := if 1 ≤ l ∧ l ≤ 60 then (0, (l, 0, false, s.2.2.2.1, s.2.2.2.2)) else (1, s)
def lb_crease (s : SG) (p m : Int) : Int × SG :=
  (sp_jd s.1 s.2.1 s.2.2.2.1 p m, if sp_jd s.1 s.2.1 s.2.2.2.1 p m = 0 then (s.1, sp_n1 s.2.1 s.2.2.2.1 p m, s.2.2.1, sp_P1 s.2.1 s.2.2.2.1 p m, sp_K1 s.2.1 s.2.2.2.1 s.2.2.2.2 p m) else s)
def lb_turn (s : SG) : SG := (s.1, s.2.1, !s.2.2.1, s.2.2.2.1, s.2.2.2.2)
def lb_kn (c : Int) (kn : Bool) : Bool := if c = 0 then false else kn
theorem gv_ov (s : SG) (B lo hi : Int → Int) : gv s (ev_ov (sp_B s.1 s.2.1 s.2.2.2.1) B (s.2.1 + 2)) (ev_ov (sp_lo s.1 s.2.1 s.2.2.2.1) lo (s.2.1 + 1)) (ev_ov (sp_hi s.1 s.2.1 s.2.2.2.1) hi (s.2.1 + 1)) :=
  ⟨fun i h0 h1 => ev_ov_in h0 (by omega), fun i h0 h1 => ⟨ev_ov_in h0 (by omega), ev_ov_in h0 (by omega)⟩⟩
theorem gv_B {s : SG} {B lo hi : Int → Int} (ok : sg_ok s) (h : gv s B lo hi) : ∀ i, 0 ≤ i → i ≤ s.2.1 + 1 → -60 ≤ B i ∧ B i ≤ 60 := fun i h0 h1 => by
  rw [h.1 i h0 h1]; exact sp_B_60 ok h0 h1
theorem gv_lo {s : SG} {B lo hi : Int → Int} (ok : sg_ok s) (h : gv s B lo hi) : ∀ i, 0 ≤ i → i ≤ s.2.1 → -60 ≤ lo i ∧ lo i ≤ 60 := fun i h0 h1 => by
  rw [(h.2 i h0 h1).1]
  have b1 := sp_B_60 ok (i := i) h0 (by omega)
  have b2 := sp_B_60 ok (i := i + 1) (by omega) (by omega)
  unfold sp_lo
  split <;> omega
theorem gv_hi {s : SG} {B lo hi : Int → Int} (ok : sg_ok s) (h : gv s B lo hi) : ∀ i, 0 ≤ i → i ≤ s.2.1 → -60 ≤ hi i ∧ hi i ≤ 60 := fun i h0 h1 => by
  rw [(h.2 i h0 h1).2]
  have b1 := sp_B_60 ok (i := i) h0 (by omega)
  have b2 := sp_B_60 ok (i := i + 1) (by omega) (by omega)
  unfold sp_hi
  split <;> omega
section LA
variable {g : ev_G} {d : Nat} {s : SG} {ty : Int} {q1 q2 q3 q4 q5 q6 : ev_AC} {kn : Bool} {fo : Int} {r : Nat} {mk : Int64} {t : List ev_AC} {h : List ev_AC}
theorem ct_tryStrip {l : Int} (l1 : -2147483648 ≤ l) (l2 : l < 2147483648) (hh : LB s ty q1 q2 q3 q4 q5 q6 kn fo r mk t h) :
    ev_C g mF_tryStrip (d + 4) [.ref 0, ev_i l] h 0 0 (fun o h' => o = .inl (some (ev_i (lb_strip s l).1)) ∧ LB (lb_strip s l).2 ty q1 q2 q3 q4 q5 q6 (lb_kn (lb_strip s l).1 kn) fo r mk t h') := by
  obtain ⟨L, n, tn, P, K⟩ := s
  obtain ⟨ok, B, lo, hi, rfl, gvv⟩ := hh
  refine ev_ofE (by decide +kernel) rfl (Nat.le_of_ble_eq_true rfl) rfl rfl ?_
  refine ev_iload_n dF_tryStrip_0 rfl ?_
  refine ev_iconst dF_tryStrip_1 ?_
  refine ev_icmp_lt (tgt := 11) dF_tryStrip_2 rfl (by omega) (by omega) (by omega) (by omega) (fun hb => ?_) (fun hb => ?_)
  · refine ev_iconst dF_tryStrip_11 ?_
    refine ev_ireturn dF_tryStrip_12 rfl ?_
    have e : lb_strip (L, n, tn, P, K) l = (1, (L, n, tn, P, K)) := if_neg (by omega)
    rw [e]
    exact ⟨rfl, ok, B, lo, hi, rfl, gvv⟩
  · refine ev_iload_n dF_tryStrip_5 rfl ?_
    refine ev_bipush dF_tryStrip_6 rfl ?_
    refine ev_icmp_le (tgt := 13) dF_tryStrip_8 rfl (by omega) (by omega) (by omega) (by omega) (fun hb2 => ?_) (fun hb2 => ?_)
    · have e : lb_strip (L, n, tn, P, K) l = (0, (l, 0, false, P, K)) := if_pos ⟨hb, hb2⟩
      rw [e]
      refine ev_aload_n dF_tryStrip_13 rfl ?_
      refine ev_get dF_tryStrip_14 fl_F_12 rfl rfl ?_
      refine ev_iload_n dF_tryStrip_17 rfl ?_
      refine ev_cVv dF_tryStrip_18 cv_F_205 (ct_renew (L := L) (n := n) (tn := tn) (P := P) (K := K) (B := B) (lo := lo) (hi := hi) hb hb2) rfl rfl rfl (Nat.le_of_ble_eq_true rfl) (Nat.le_of_ble_eq_true rfl) (Nat.le_of_ble_eq_true rfl) ?_
      refine ev_aload_n dF_tryStrip_21 rfl ?_
      refine ev_get dF_tryStrip_22 fl_F_28 rfl rfl ?_
      refine ev_cVv dF_tryStrip_25 cv_F_68 (ct_forget (L := l) (n := 0) (tn := false) (P := P) (K := K) (c0 := lc ty) (q1 := q1) (q2 := q2) (q3 := q3) (q4 := q4) (q5 := q5) (q6 := q6) (kn := kn) (fo := fo) (r := r) (mk := mk) (t := t)) rfl rfl rfl (Nat.le_of_ble_eq_true rfl) (Nat.le_of_ble_eq_true rfl) (Nat.le_of_ble_eq_true rfl) ?_
      refine ev_iconst dF_tryStrip_28 ?_
      refine ev_ireturn dF_tryStrip_29 rfl ?_
      exact ⟨rfl, ⟨hb, hb2, Int.le_refl 0, by show (0 : Int) ≤ 6; decide, fun i a b => by have : i < 0 := b; omega, fun i j a b c => by have : j < 0 := c; omega⟩, _, _, _, rfl, gv_ov (l, 0, false, P, K) B lo hi⟩
    · refine ev_iconst dF_tryStrip_11 ?_
      refine ev_ireturn dF_tryStrip_12 rfl ?_
      have e : lb_strip (L, n, tn, P, K) l = (1, (L, n, tn, P, K)) := if_neg (by omega)
      rw [e]
      exact ⟨rfl, ok, B, lo, hi, rfl, gvv⟩
theorem sp_jd_bd {L n : Int} {P : Int → Int} {p m : Int} : 0 ≤ sp_jd L n P p m ∧ sp_jd L n P p m ≤ 2 := by
  unfold sp_jd
  repeat' split
  all_goals omega
theorem ct_tryCrease {p m : Int} (p1 : -2147483648 ≤ p) (p2 : p < 2147483648) (m1 : -2147483648 ≤ m) (m2 : m < 2147483648) (hh : LB s ty q1 q2 q3 q4 q5 q6 kn fo r mk t h) :
    ev_C g mF_tryCrease (d + 4) [.ref 0, ev_i p, ev_i m] h 0 0 (fun o h' => o = .inl (some (ev_i (lb_crease s p m).1)) ∧ LB (lb_crease s p m).2 ty q1 q2 q3 q4 q5 q6 (lb_kn (lb_crease s p m).1 kn) fo r mk t h') := by
  obtain ⟨L, n, tn, P, K⟩ := s
  obtain ⟨ok, B, lo, hi, rfl, gvv⟩ := hh
  have hj := sp_jd_bd (L := L) (n := n) (P := P) (p := p) (m := m)
  refine ev_ofE (by decide +kernel) rfl (Nat.le_of_ble_eq_true rfl) rfl rfl ?_
  refine ev_aload_n dF_tryCrease_0 rfl ?_
  refine ev_get dF_tryCrease_1 fl_F_12 rfl rfl ?_
  refine ev_iload_n dF_tryCrease_4 rfl ?_
  refine ev_iload_n dF_tryCrease_5 rfl ?_
  refine ev_cV dF_tryCrease_6 cv_F_209 (ct_judge (L := L) (n := n) (tn := tn) (P := P) (K := K) (B := B) (lo := lo) (hi := hi) p1 p2 m1 m2 ok) rfl rfl rfl (Nat.le_of_ble_eq_true rfl) (Nat.le_of_ble_eq_true rfl) (Nat.le_of_ble_eq_true rfl) ?_
  refine ev_istore_n dF_tryCrease_9 (Nat.le_of_ble_eq_true rfl) ?_
  refine ev_iload_n dF_tryCrease_10 rfl ?_
  refine ev_if_ne (tgt := 30) dF_tryCrease_11 rfl (by omega) (by omega) (fun hb => ?_) (fun hb => ?_)
  · refine ev_iload_n dF_tryCrease_30 rfl ?_
    refine ev_ireturn dF_tryCrease_31 rfl ?_
    have e : lb_crease (L, n, tn, P, K) p m = (sp_jd L n P p m, (L, n, tn, P, K)) := by
      show (sp_jd L n P p m, if sp_jd L n P p m = 0 then _ else _) = _
      rw [if_neg hb]
    rw [e]
    exact ⟨rfl, ok, B, lo, hi, by rw [lb_kn, if_neg hb]; rfl, gvv⟩
  · have e : lb_crease (L, n, tn, P, K) p m = (0, (L, sp_n1 n P p m, tn, sp_P1 n P p m, sp_K1 n P K p m)) := by
      show (sp_jd L n P p m, if sp_jd L n P p m = 0 then _ else _) = _
      rw [if_pos hb, hb]
    rw [e]
    refine ev_aload_n dF_tryCrease_14 rfl ?_
    refine ev_get dF_tryCrease_15 fl_F_12 rfl rfl ?_
    refine ev_iload_n dF_tryCrease_18 rfl ?_
    refine ev_iload_n dF_tryCrease_19 rfl ?_
    refine ev_cVv dF_tryCrease_20 cv_F_212 (ct_setCrease (L := L) (n := n) (tn := tn) (P := P) (K := K) (B := B) (lo := lo) (hi := hi) ok hb) rfl rfl rfl (Nat.le_of_ble_eq_true rfl) (Nat.le_of_ble_eq_true rfl) (Nat.le_of_ble_eq_true rfl) ?_
    refine ev_aload_n dF_tryCrease_23 rfl ?_
    refine ev_get dF_tryCrease_24 fl_F_28 rfl rfl ?_
    refine ev_cVv dF_tryCrease_27 cv_F_68 (ct_forget (L := L) (n := sp_n1 n P p m) (tn := tn) (P := sp_P1 n P p m) (K := sp_K1 n P K p m) (c0 := lc ty) (q1 := q1) (q2 := q2) (q3 := q3) (q4 := q4) (q5 := q5) (q6 := q6) (kn := kn) (fo := fo) (r := r) (mk := mk) (t := t)) rfl rfl rfl (Nat.le_of_ble_eq_true rfl) (Nat.le_of_ble_eq_true rfl) (Nat.le_of_ble_eq_true rfl) ?_
    refine ev_iload_n dF_tryCrease_30 rfl ?_
    refine ev_ireturn dF_tryCrease_31 rfl ?_
    refine ⟨by rw [hb], sp_ok1 ok hb, _, _, _, rfl, gv_ov (L, sp_n1 n P p m, tn, sp_P1 n P p m, sp_K1 n P K p m) B lo hi⟩
theorem ct_turn (hh : LB s ty q1 q2 q3 q4 q5 q6 kn fo r mk t h) :
    ev_C g mF_turn (d + 1) [.ref 0] h 0 0 (fun o h' => o = .inl (some (ev_i (ev_b (lb_turn s).2.2.1))) ∧ LB (lb_turn s) ty q1 q2 q3 q4 q5 q6 false fo r mk t h') := by
  obtain ⟨L, n, tn, P, K⟩ := s
  obtain ⟨ok, B, lo, hi, rfl, gvv⟩ := hh
  refine ev_ofE (by decide +kernel) rfl (Nat.le_of_ble_eq_true rfl) rfl rfl ?_
  refine ev_aload_n dF_turn_0 rfl ?_
  refine ev_get dF_turn_1 fl_F_12 rfl rfl ?_
  refine ev_cVv dF_turn_4 cv_F_65 (ct_turnOver (L := L) (n := n) (tn := tn) (P := P) (K := K) (B := B) (lo := lo) (hi := hi)) rfl rfl rfl (Nat.le_of_ble_eq_true rfl) (Nat.le_of_ble_eq_true rfl) (Nat.le_of_ble_eq_true rfl) ?_
  refine ev_aload_n dF_turn_7 rfl ?_
  refine ev_get dF_turn_8 fl_F_28 rfl rfl ?_
  refine ev_cVv dF_turn_11 cv_F_68 (ct_forget (L := L) (n := n) (tn := !tn) (P := P) (K := K) (c0 := lc ty) (q1 := q1) (q2 := q2) (q3 := q3) (q4 := q4) (q5 := q5) (q6 := q6) (kn := kn) (fo := fo) (r := r) (mk := mk) (t := t)) rfl rfl rfl (Nat.le_of_ble_eq_true rfl) (Nat.le_of_ble_eq_true rfl) (Nat.le_of_ble_eq_true rfl) ?_
  refine ev_aload_n dF_turn_14 rfl ?_
  refine ev_get dF_turn_15 fl_F_12 rfl rfl ?_
  refine ev_get dF_turn_18 fl_F_71 rfl rfl ?_
  refine ev_zreturn dF_turn_21 rfl ?_ ?_
  · exact ev_b01 _
  · exact ⟨rfl, ok, B, lo, hi, rfl, gvv⟩
end LA
end
section
/-! The typed text -/
def tx_dg (S : Int → Int) (en st : Int) : Nat → Int → Int
  | 0, d => d
  | k + 1, d => if st + d < en ∧ 48 ≤ S (st + d) ∧ S (st + d) ≤ 57 then tx_dg S en st k (d + 1) else d
def tx_num (S : Int → Int) (st : Int) : Nat → Int
  | 0 => 0
  | k + 1 => tx_num S st k * 10 + (S (st + k) - 48)
def tx_mark (c : Int) : Int := if c = 102 then 0 else if c = 109 then 1 else if c = 118 then 2 else if c = 120 then 3 else -1
def tx_takes (c : Int) : Bool := decide (c = 115 ∨ tx_mark c ≠ -1)
def tx_op (s : SG) (S : Int → Int) (c st dg : Int) : Int × SG :=
  if c = 116 then (0, lb_turn s) else if dg = 0 then (1, s) else if c = 115 then lb_strip s (tx_num S st dg.toNat) else lb_crease s (tx_num S st dg.toNat) (tx_mark c)
theorem tx_mark_bd (c : Int) : -1 ≤ tx_mark c ∧ tx_mark c ≤ 3 := by
  unfold tx_mark
  repeat' split
  all_goals omega
theorem tx_dg_spec {S : Int → Int} {en st : Int} : ∀ (k : Nat) (d : Int), d ≤ tx_dg S en st k d ∧ tx_dg S en st k d ≤ d + k ∧ (st + d ≤ en → st + tx_dg S en st k d ≤ en) ∧ ∀ j, d ≤ j → j < tx_dg S en st k d → 48 ≤ S (st + j) ∧ S (st + j) ≤ 57
  | 0, d => ⟨Int.le_refl _, by show d ≤ d + 0; omega, fun h => h, fun j h1 h2 => by have : j < d := h2; omega⟩
  | k + 1, d => by
    have ih := tx_dg_spec (S := S) (en := en) (st := st) k (d + 1)
    unfold tx_dg
    by_cases h : st + d < en ∧ 48 ≤ S (st + d) ∧ S (st + d) ≤ 57
    · rw [if_pos h]
      refine ⟨by omega, by push_cast; omega, fun _ => ih.2.2.1 (by omega), fun j h1 h2 => ?_⟩
      by_cases hj : j = d
      · rw [hj]; exact h.2
      · exact ih.2.2.2 j (by omega) h2
    · rw [if_neg h]
      exact ⟨Int.le_refl _, by omega, fun h => h, fun j h1 h2 => by omega⟩
theorem tx_num_bd {S : Int → Int} {st : Int} : ∀ k : Nat, k ≤ 4 → (∀ j : Int, 0 ≤ j → j < k → 48 ≤ S (st + j) ∧ S (st + j) ≤ 57) → 0 ≤ tx_num S st k ∧ (k = 0 → tx_num S st k ≤ 0) ∧ (k = 1 → tx_num S st k ≤ 9) ∧ (k = 2 → tx_num S st k ≤ 99) ∧ (k = 3 → tx_num S st k ≤ 999) ∧ tx_num S st k ≤ 9999
  | 0, _, _ => by simp [tx_num]
  | k + 1, hk, h => by
    have ih := tx_num_bd (S := S) (st := st) k (by omega) (fun j a b => h j a (by omega))
    have hd := h k (by omega) (by omega)
    unfold tx_num
    omega
section TX
variable {g : ev_G} {d : Nat} {s : SG} {ty : Int} {q1 q2 q3 q4 q5 q6 x : ev_AC} {kn : Bool} {fo : Int} {r : Nat} {mk : Int64} {S : Int → Int} {t : List ev_AC} {h : List ev_AC}
theorem ct_isDigit {c : Int} (c1 : -2147483648 ≤ c) (c2 : c < 2147483648) : ev_C g mF_isDigit d [ev_i c] h 0 0 (ev_V (some (ev_i (ev_b (decide (48 ≤ c ∧ c ≤ 57))))) h) := by
  refine ev_ofE (by decide +kernel) rfl (Nat.le_of_ble_eq_true rfl) rfl rfl ?_
  refine ev_iload_n dF_isDigit_0 rfl ?_
  refine ev_bipush dF_isDigit_1 rfl ?_
  refine ev_icmp_lt (tgt := 16) dF_isDigit_3 rfl (by omega) (by omega) (by omega) (by omega) (fun hb => ?_) (fun hb => ?_)
  · refine ev_iconst dF_isDigit_16 ?_
    refine ev_zreturn dF_isDigit_17 rfl ?_ ?_
    · decide
    · exact ⟨by rw [decide_eq_false (by omega)]; rfl, rfl⟩
  · refine ev_iload_n dF_isDigit_6 rfl ?_
    refine ev_bipush dF_isDigit_7 rfl ?_
    refine ev_icmp_gt (tgt := 16) dF_isDigit_9 rfl (by omega) (by omega) (by omega) (by omega) (fun hb2 => ?_) (fun hb2 => ?_)
    · refine ev_iconst dF_isDigit_16 ?_
      refine ev_zreturn dF_isDigit_17 rfl ?_ ?_
      · decide
      · exact ⟨by rw [decide_eq_false (by omega)]; rfl, rfl⟩
    · refine ev_iconst dF_isDigit_12 ?_
      refine ev_goto (tgt := 17) dF_isDigit_13 rfl ?_
      refine ev_zreturn dF_isDigit_17 rfl ?_ ?_
      · decide
      · exact ⟨by rw [decide_eq_true ⟨hb, hb2⟩]; rfl, rfl⟩
theorem ct_markOf {c : Int} (c1 : -2147483648 ≤ c) (c2 : c < 2147483648) : ev_C g mF_markOf d [ev_i c] h 0 0 (ev_V (some (ev_i (tx_mark c))) h) := by
  refine ev_ofE (by decide +kernel) rfl (Nat.le_of_ble_eq_true rfl) rfl rfl ?_
  refine ev_iload_n dF_markOf_0 rfl ?_
  by_cases h1 : c = 102
  · refine ev_lookup (tgt := 44) dF_markOf_1 (by decide) c1 c2 (by rw [h1]) rfl ?_
    refine ev_iconst dF_markOf_44 ?_
    refine ev_ireturn dF_markOf_45 rfl ?_
    exact ⟨by rw [tx_mark, if_pos h1], rfl⟩
  · by_cases h2 : c = 109
    · refine ev_lookup (tgt := 46) dF_markOf_1 (by decide) c1 c2 (by rw [h2]) rfl ?_
      refine ev_iconst dF_markOf_46 ?_
      refine ev_ireturn dF_markOf_47 rfl ?_
      exact ⟨by rw [tx_mark, if_neg h1, if_pos h2], rfl⟩
    · by_cases h3 : c = 118
      · refine ev_lookup (tgt := 48) dF_markOf_1 (by decide) c1 c2 (by rw [h3]) rfl ?_
        refine ev_iconst dF_markOf_48 ?_
        refine ev_ireturn dF_markOf_49 rfl ?_
        exact ⟨by rw [tx_mark, if_neg h1, if_neg h2, if_pos h3], rfl⟩
      · by_cases h4 : c = 120
        · refine ev_lookup (tgt := 50) dF_markOf_1 (by decide) c1 c2 (by rw [h4]) rfl ?_
          refine ev_iconst dF_markOf_50 ?_
          refine ev_ireturn dF_markOf_51 rfl ?_
          exact ⟨by rw [tx_mark, if_neg h1, if_neg h2, if_neg h3, if_pos h4], rfl⟩
        · refine ev_lookup (tgt := 52) (off := 51) dF_markOf_1 (by decide) c1 c2 ?_ rfl ?_
          · show Op.lookupswitch.offset [(102, 43), (109, 45), (118, 47), (120, 49)] 51 c = 51
            rw [Op.lookupswitch.offset_cons, if_neg (by omega), Op.lookupswitch.offset_cons, if_neg (by omega), Op.lookupswitch.offset_cons, if_neg (by omega), Op.lookupswitch.offset_cons, if_neg (by omega)]
            rfl
          · refine ev_iconst dF_markOf_52 ?_
            refine ev_ireturn dF_markOf_53 rfl ?_
            exact ⟨by rw [tx_mark, if_neg h1, if_neg h2, if_neg h3, if_neg h4], rfl⟩
theorem ct_takes {c : Int} (c1 : -2147483648 ≤ c) (c2 : c < 2147483648) : ev_C g mF_takesNumber (d + 1) [ev_i c] h 0 0 (ev_V (some (ev_i (ev_b (tx_takes c)))) h) := by
  have hm := tx_mark_bd c
  refine ev_ofE (by decide +kernel) rfl (Nat.le_of_ble_eq_true rfl) rfl rfl ?_
  refine ev_iload_n dF_takesNumber_0 rfl ?_
  refine ev_bipush dF_takesNumber_1 rfl ?_
  refine ev_icmp_eq (tgt := 14) dF_takesNumber_3 rfl (by omega) (by omega) (by omega) (by omega) (fun hb => ?_) (fun hb => ?_)
  · refine ev_iconst dF_takesNumber_14 ?_
    refine ev_goto (tgt := 19) dF_takesNumber_15 rfl ?_
    refine ev_zreturn dF_takesNumber_19 rfl ?_ ?_
    · decide
    · exact ⟨by rw [tx_takes, decide_eq_true (Or.inl hb)]; rfl, rfl⟩
  · refine ev_iload_n dF_takesNumber_6 rfl ?_
    refine ev_cS dF_takesNumber_7 cs_F_192 (ct_markOf c1 c2) rfl rfl (Nat.le_of_ble_eq_true rfl) (Nat.le_of_ble_eq_true rfl) (Nat.le_of_ble_eq_true rfl) ?_
    refine ev_iconst dF_takesNumber_10 ?_
    refine ev_icmp_eq (tgt := 18) dF_takesNumber_11 rfl (by omega) (by omega) (by omega) (by omega) (fun hb2 => ?_) (fun hb2 => ?_)
    · refine ev_iconst dF_takesNumber_18 ?_
      refine ev_zreturn dF_takesNumber_19 rfl ?_ ?_
      · decide
      · exact ⟨by rw [tx_takes, decide_eq_false (fun q => q.elim hb (fun q => q hb2))]; rfl, rfl⟩
    · refine ev_iconst dF_takesNumber_14 ?_
      refine ev_goto (tgt := 19) dF_takesNumber_15 rfl ?_
      refine ev_zreturn dF_takesNumber_19 rfl ?_ ?_
      · decide
      · exact ⟨by rw [tx_takes, decide_eq_true (Or.inr hb2)]; rfl, rfl⟩
theorem ct_digitsFrom {en st : Int} {h : List ev_AC} (h0 : h[0]? = some (lc ty)) (h15 : h[15]? = some (ev_ia 60 S)) (s0 : 0 ≤ st) (s1 : st ≤ 61) (e0 : 0 ≤ en) (e1 : en ≤ 60) (hS : ∀ i, 0 ≤ i → i < 60 → 0 ≤ S i ∧ S i ≤ 126) :
    ev_C g mF_digitsFrom (d + 1) [.ref 0, ev_i st, ev_i en] h 0 0 (ev_V (some (ev_i (tx_dg S en st 4 0))) h) := by
  refine ev_ofE (by decide +kernel) rfl (Nat.le_of_ble_eq_true rfl) rfl rfl ?_
  refine ev_iconst dF_digitsFrom_0 ?_
  refine ev_istore_n dF_digitsFrom_1 (Nat.le_of_ble_eq_true rfl) ?_
  have loop : ∀ (k : Nat) (dd : Int), dd + k = 4 → 0 ≤ dd → ev_E g false mF_digitsFrom (d + 1) 2 [some (.ref 0), some (ev_i st), some (ev_i en), some (ev_i dd)] [] h 0 0 (ev_V (some (ev_i (tx_dg S en st k dd))) h) := by
    intro k
    induction k with
    | zero =>
      intro dd hk hd0
      refine ev_iload_n dF_digitsFrom_2 rfl ?_
      refine ev_iconst dF_digitsFrom_3 ?_
      refine ev_icmp_ge (tgt := 34) dF_digitsFrom_4 rfl (by omega) (by omega) (by omega) (by omega) (fun hb => ?_) (fun hb => ?_)
      · refine ev_iload_n dF_digitsFrom_34 rfl ?_
        refine ev_ireturn dF_digitsFrom_35 rfl ?_
        exact ⟨rfl, rfl⟩
      · omega
    | succ k ih =>
      intro dd hk hd0
      have next := ih (dd + 1) (by omega) (by omega)
      refine ev_iload_n dF_digitsFrom_2 rfl ?_
      refine ev_iconst dF_digitsFrom_3 ?_
      refine ev_icmp_ge (tgt := 34) dF_digitsFrom_4 rfl (by omega) (by omega) (by omega) (by omega) (fun hb => ?_) (fun hb => ?_)
      · omega
      · refine ev_iload_n dF_digitsFrom_7 rfl ?_
        refine ev_iload_n dF_digitsFrom_8 rfl ?_
        refine ev_iadd dF_digitsFrom_9 ?_
        refine ev_iload_n dF_digitsFrom_10 rfl ?_
        refine ev_icmp_ge (tgt := 34) dF_digitsFrom_11 rfl (by omega) (by omega) (by omega) (by omega) (fun hb2 => ?_) (fun hb2 => ?_)
        · refine ev_iload_n dF_digitsFrom_34 rfl ?_
          refine ev_ireturn dF_digitsFrom_35 rfl ?_
          exact ⟨by rw [tx_dg, if_neg (by omega)], rfl⟩
        · refine ev_aload_n dF_digitsFrom_14 rfl ?_
          refine ev_get dF_digitsFrom_15 fl_F_32 h0 rfl ?_
          refine ev_iload_n dF_digitsFrom_18 rfl ?_
          refine ev_iload_n dF_digitsFrom_19 rfl ?_
          refine ev_iadd dF_digitsFrom_20 ?_
          refine ev_iald dF_digitsFrom_21 h15 (by omega) (by omega) (by decide) ?_
          have hSi := hS (st + dd) (by omega) (by omega)
          refine ev_cS dF_digitsFrom_22 cs_F_195 (ct_isDigit (by omega) (by omega)) rfl rfl (Nat.le_of_ble_eq_true rfl) (Nat.le_of_ble_eq_true rfl) (Nat.le_of_ble_eq_true rfl) ?_
          refine ev_bz (tgt := 34) dF_digitsFrom_25 rfl (fun hb3 => ?_) (fun hb3 => ?_)
          · refine ev_iload_n dF_digitsFrom_34 rfl ?_
            refine ev_ireturn dF_digitsFrom_35 rfl ?_
            exact ⟨by rw [tx_dg, if_neg (fun q => of_decide_eq_false hb3 q.2)], rfl⟩
          · refine ev_iinc dF_digitsFrom_28 rfl ?_
            refine ev_goto (tgt := 2) dF_digitsFrom_31 rfl ?_
            rw [tx_dg, if_pos ⟨hb2, of_decide_eq_true hb3⟩]
            exact next
  exact loop 4 0 (by omega) (by omega)
theorem ct_numberAt {st dg : Int} {h : List ev_AC} (h0 : h[0]? = some (lc ty)) (h15 : h[15]? = some (ev_ia 60 S)) (s0 : 0 ≤ st) (d0 : 0 ≤ dg) (d1 : dg ≤ 4) (e1 : st + dg ≤ 60) :
    ev_C g mF_numberAt (d + 1) [.ref 0, ev_i st, ev_i dg] h 0 0 (ev_V (some (ev_i (tx_num S st dg.toNat))) h) := by
  refine ev_ofE (by decide +kernel) rfl (Nat.le_of_ble_eq_true rfl) rfl rfl ?_
  refine ev_iconst dF_numberAt_0 ?_
  refine ev_istore_n dF_numberAt_1 (Nat.le_of_ble_eq_true rfl) ?_
  refine ev_iload_n dF_numberAt_2 rfl ?_
  refine ev_istore dF_numberAt_3 (Nat.le_of_ble_eq_true rfl) ?_
  have loop : ∀ (k i : Nat), (i : Int) + k = dg → ev_E g false mF_numberAt (d + 1) 5 [some (.ref 0), some (ev_i st), some (ev_i dg), some (ev_i (tx_num S st i)), some (ev_i (st + i))] [] h 0 0 (ev_V (some (ev_i (tx_num S st dg.toNat))) h) := by
    intro k
    induction k with
    | zero =>
      intro i hk
      refine ev_iload dF_numberAt_5 rfl ?_
      refine ev_iload_n dF_numberAt_7 rfl ?_
      refine ev_iload_n dF_numberAt_8 rfl ?_
      refine ev_iadd dF_numberAt_9 ?_
      refine ev_icmp_ge (tgt := 35) dF_numberAt_10 rfl (by omega) (by omega) (by omega) (by omega) (fun hb => ?_) (fun hb => ?_)
      · refine ev_iload_n dF_numberAt_35 rfl ?_
        refine ev_ireturn dF_numberAt_36 rfl ?_
        exact ⟨by rw [show dg.toNat = i by omega], rfl⟩
      · omega
    | succ k ih =>
      intro i hk
      have next := ih (i + 1) (by omega)
      refine ev_iload dF_numberAt_5 rfl ?_
      refine ev_iload_n dF_numberAt_7 rfl ?_
      refine ev_iload_n dF_numberAt_8 rfl ?_
      refine ev_iadd dF_numberAt_9 ?_
      refine ev_icmp_ge (tgt := 35) dF_numberAt_10 rfl (by omega) (by omega) (by omega) (by omega) (fun hb => ?_) (fun hb => ?_)
      · omega
      · refine ev_iload_n dF_numberAt_13 rfl ?_
        refine ev_bipush dF_numberAt_14 rfl ?_
        refine ev_imul dF_numberAt_16 ?_
        refine ev_aload_n dF_numberAt_17 rfl ?_
        refine ev_get dF_numberAt_18 fl_F_32 h0 rfl ?_
        refine ev_iload dF_numberAt_21 rfl ?_
        refine ev_iald dF_numberAt_23 h15 (by omega) (by omega) (by decide) ?_
        refine ev_bipush dF_numberAt_24 rfl ?_
        refine ev_isub dF_numberAt_26 ?_
        refine ev_iadd dF_numberAt_27 ?_
        refine ev_istore_n dF_numberAt_28 (Nat.le_of_ble_eq_true rfl) ?_
        refine ev_iinc dF_numberAt_29 rfl ?_
        refine ev_goto (tgt := 5) dF_numberAt_32 rfl ?_
        rw [show st + ((i + 1 : Nat) : Int) = st + i + 1 by omega] at next
        exact next
  have := loop dg.toNat 0 (by omega)
  rw [show st + ((0 : Nat) : Int) = st by omega] at this
  exact this
theorem lb_cells (hh : LB s ty q1 q2 q3 q4 q5 q6 kn fo r mk (x :: ev_ia 60 S :: t) h) : h[0]? = some (lc ty) ∧ h[15]? = some (ev_ia 60 S) := by
  obtain ⟨-, B, lo, hi, rfl, -⟩ := hh
  exact ⟨rfl, rfl⟩
theorem lb_c1 {l : Int} : 0 ≤ (lb_strip s l).1 ∧ (lb_strip s l).1 ≤ 2 := by
  unfold lb_strip
  split
  · exact ⟨by show (0 : Int) ≤ 0; decide, by show (0 : Int) ≤ 2; decide⟩
  · exact ⟨by show (0 : Int) ≤ 1; decide, by show (1 : Int) ≤ 2; decide⟩
theorem ct_operate {c st dg : Int} (c1 : 0 ≤ c) (c2 : c ≤ 126) (s0 : 0 ≤ st) (d0 : 0 ≤ dg) (d1 : dg ≤ 4) (e1 : st + dg ≤ 60 ∨ dg = 0) (hS : ∀ j, 0 ≤ j → j < dg → 48 ≤ S (st + j) ∧ S (st + j) ≤ 57) (hh : LB s ty q1 q2 q3 q4 q5 q6 kn fo r mk (x :: ev_ia 60 S :: t) h) :
    ev_C g mF_operate (d + 5) [.ref 0, ev_i c, ev_i st, ev_i dg] h 0 0 (fun o h' => o = .inl (some (ev_i (tx_op s S c st dg).1)) ∧ LB (tx_op s S c st dg).2 ty q1 q2 q3 q4 q5 q6 (lb_kn (tx_op s S c st dg).1 kn) fo r mk (x :: ev_ia 60 S :: t) h') := by
  obtain ⟨hc0, hc15⟩ := lb_cells hh
  have hc : h[0]? = some (.inr (0, [.ref 1, .ref 7, .ref 13, .ref 15, ev_i ty])) := hc0
  refine ev_ofE (by decide +kernel) rfl (Nat.le_of_ble_eq_true rfl) rfl rfl ?_
  refine ev_iload_n dF_operate_0 rfl ?_
  refine ev_bipush dF_operate_1 rfl ?_
  refine ev_icmp_ne (tgt := 13) dF_operate_3 rfl (by omega) (by omega) (by omega) (by omega) (fun hb => ?_) (fun hb => ?_)
  · refine ev_iload_n dF_operate_13 rfl ?_
    refine ev_if_ne (tgt := 19) dF_operate_14 rfl (by omega) (by omega) (fun hb2 => ?_) (fun hb2 => ?_)
    · refine ev_aload_n dF_operate_19 rfl ?_
      refine ev_iload_n dF_operate_20 rfl ?_
      refine ev_iload_n dF_operate_21 rfl ?_
      refine ev_cV dF_operate_22 cv_F_202 (ct_numberAt hc0 hc15 s0 d0 d1 (e1.resolve_right hb2)) rfl hc rfl (Nat.le_of_ble_eq_true rfl) (Nat.le_of_ble_eq_true rfl) (Nat.le_of_ble_eq_true rfl) ?_
      have hbd := tx_num_bd (S := S) (st := st) dg.toNat (by omega) (fun j a b => hS j a (by omega))
      refine ev_istore dF_operate_25 (Nat.le_of_ble_eq_true rfl) ?_
      refine ev_iload_n dF_operate_27 rfl ?_
      refine ev_bipush dF_operate_28 rfl ?_
      refine ev_icmp_ne (tgt := 42) dF_operate_30 rfl (by omega) (by omega) (by omega) (by omega) (fun hb3 => ?_) (fun hb3 => ?_)
      · refine ev_aload_n dF_operate_42 rfl ?_
        refine ev_iload dF_operate_43 rfl ?_
        refine ev_iload_n dF_operate_45 rfl ?_
        refine ev_cS dF_operate_46 cs_F_192 (ct_markOf (by omega) (by omega)) rfl rfl (Nat.le_of_ble_eq_true rfl) (Nat.le_of_ble_eq_true rfl) (Nat.le_of_ble_eq_true rfl) ?_
        have hm := tx_mark_bd c
        have e : tx_op s S c st dg = lb_crease s (tx_num S st dg.toNat) (tx_mark c) := by rw [tx_op, if_neg hb, if_neg hb2, if_neg hb3]
        rw [e]
        refine ev_callV dF_operate_49 cv_F_51 rfl hc (Nat.le_of_ble_eq_true rfl) (ct_tryCrease (d := d) (by omega) (by omega) (by omega) (by omega) hh) (Nat.le_of_ble_eq_true rfl) (Nat.le_of_ble_eq_true rfl) rfl (fun v h' q => ?_)
        obtain ⟨qv, ql⟩ := q
        cases Sum.inl.inj qv
        refine ev_ireturn dF_operate_52 rfl ?_
        exact ⟨rfl, ql⟩
      · have e : tx_op s S c st dg = lb_strip s (tx_num S st dg.toNat) := by rw [tx_op, if_neg hb, if_neg hb2, if_pos hb3]
        rw [e]
        refine ev_aload_n dF_operate_33 rfl ?_
        refine ev_iload dF_operate_34 rfl ?_
        refine ev_callV dF_operate_36 cv_F_40 rfl hc (Nat.le_of_ble_eq_true rfl) (ct_tryStrip (d := d) (by omega) (by omega) hh) (Nat.le_of_ble_eq_true rfl) (Nat.le_of_ble_eq_true rfl) rfl (fun v h' q => ?_)
        obtain ⟨qv, ql⟩ := q
        cases Sum.inl.inj qv
        refine ev_goto (tgt := 52) dF_operate_39 rfl ?_
        refine ev_ireturn dF_operate_52 rfl ?_
        exact ⟨rfl, ql⟩
    · refine ev_iconst dF_operate_17 ?_
      refine ev_ireturn dF_operate_18 rfl ?_
      have e : tx_op s S c st dg = (1, s) := by rw [tx_op, if_neg hb, if_pos hb2]
      rw [e]
      exact ⟨rfl, hh⟩
  · have e : tx_op s S c st dg = (0, lb_turn s) := by rw [tx_op, if_pos hb]
    rw [e]
    refine ev_aload_n dF_operate_6 rfl ?_
    refine ev_callV dF_operate_7 cv_F_198 rfl hc (Nat.le_of_ble_eq_true rfl) (ct_turn (d := d + 3) hh) (Nat.le_of_ble_eq_true rfl) (Nat.le_of_ble_eq_true rfl) rfl (fun v h' q => ?_)
    obtain ⟨qv, ql⟩ := q
    cases Sum.inl.inj qv
    refine ev_pop dF_operate_10 rfl ?_
    refine ev_iconst dF_operate_11 ?_
    refine ev_ireturn dF_operate_12 rfl ?_
    exact ⟨rfl, ql⟩
theorem tx_op_bd {c st dg : Int} : 0 ≤ (tx_op s S c st dg).1 ∧ (tx_op s S c st dg).1 ≤ 2 := by
  unfold tx_op
  split
  · exact ⟨by show (0 : Int) ≤ 0; decide, by show (0 : Int) ≤ 2; decide⟩
  · split
    · exact ⟨by show (0 : Int) ≤ 1; decide, by show (1 : Int) ≤ 2; decide⟩
    · split
      · exact lb_c1
      · exact sp_jd_bd
def tx_dgs (S : Int → Int) (en at_ : Int) : Int := if tx_takes (S at_) then tx_dg S en (at_ + 1) 4 0 else 0
def tx_run (S : Int → Int) (en : Int) : Nat → SG → Bool → Int → Int → Int × SG × Bool
  | 0, s, kn, _, ops => (ops, s, kn)
  | k + 1, s, kn, at_, ops =>
    if en ≤ at_ then (ops, s, kn) else if S at_ = 32 then tx_run S en k s kn (at_ + 1) ops
    else if (tx_op s S (S at_) (at_ + 1) (tx_dgs S en at_)).1 = 0 then tx_run S en k (tx_op s S (S at_) (at_ + 1) (tx_dgs S en at_)).2 false (at_ + (1 + tx_dgs S en at_)) (ops + 1)
    else (-1 - at_, (tx_op s S (S at_) (at_ + 1) (tx_dgs S en at_)).2, kn)
theorem ct_run (hS : ∀ i, 0 ≤ i → i < 60 → 0 ≤ S i ∧ S i ≤ 126) (t0 : 0 ≤ ty) (t1 : ty ≤ 60) (hh : LB s ty q1 q2 q3 q4 q5 q6 kn fo r mk (x :: ev_ia 60 S :: t) h) :
    ev_C g mF_run (d + 6) [.ref 0] h 0 0 (fun o h' => o = .inl (some (ev_i (tx_run S ty 61 s kn 0 0).1)) ∧ LB (tx_run S ty 61 s kn 0 0).2.1 0 q1 q2 q3 q4 q5 q6 (tx_run S ty 61 s kn 0 0).2.2 fo r mk (x :: ev_ia 60 S :: t) h') := by
  have hc : h[0]? = some (.inr (0, [.ref 1, .ref 7, .ref 13, .ref 15, ev_i ty])) := (lb_cells hh).1
  refine ev_ofE (by decide +kernel) rfl (Nat.le_of_ble_eq_true rfl) rfl rfl ?_
  refine ev_aload_n dF_run_0 rfl ?_
  refine ev_get dF_run_1 fl_F_36 hc rfl ?_
  refine ev_istore_n dF_run_4 (Nat.le_of_ble_eq_true rfl) ?_
  refine ev_aload_n dF_run_5 rfl ?_
  refine ev_iconst dF_run_6 ?_
  refine ev_put dF_run_7 fp_F_36 (fun q => by cases q) hc (Nat.le_of_ble_eq_true rfl) rfl rfl ?_
  refine ev_iconst dF_run_10 ?_
  refine ev_istore_n dF_run_11 (Nat.le_of_ble_eq_true rfl) ?_
  refine ev_iconst dF_run_12 ?_
  refine ev_istore_n dF_run_13 (Nat.le_of_ble_eq_true rfl) ?_
  have hh0 : LB s 0 q1 q2 q3 q4 q5 q6 kn fo r mk (x :: ev_ia 60 S :: t) (h.set 0 (.inr (0, [.ref 1, .ref 7, .ref 13, .ref 15, ev_i 0]))) := by
    obtain ⟨ok, B, lo, hi, rfl, gvv⟩ := hh
    exact ⟨ok, B, lo, hi, rfl, gvv⟩
  have loop : ∀ (k : Nat) (s : SG) (kn : Bool) (at_ ops : Int) (h : List ev_AC) (l4 : Option Value), LB s 0 q1 q2 q3 q4 q5 q6 kn fo r mk (x :: ev_ia 60 S :: t) h → 0 ≤ at_ → at_ ≤ 70 → ty - at_ < k → 0 ≤ ops →
      ev_E g false mF_run (d + 6) 14 [some (.ref 0), some (ev_i ty), some (ev_i ops), some (ev_i at_), l4] [] h 0 0 (fun o h' => o = .inl (some (ev_i (tx_run S ty k s kn at_ ops).1)) ∧ LB (tx_run S ty k s kn at_ ops).2.1 0 q1 q2 q3 q4 q5 q6 (tx_run S ty k s kn at_ ops).2.2 fo r mk (x :: ev_ia 60 S :: t) h') := by
    intro k
    induction k with
    | zero =>
      intro s kn at_ ops h l4 hl a0 a1 hk o0
      refine ev_iload_n dF_run_14 rfl ?_
      refine ev_iload_n dF_run_15 rfl ?_
      refine ev_icmp_ge (tgt := 97) dF_run_16 rfl (by omega) (by omega) (by omega) (by omega) (fun hb => ?_) (fun hb => ?_)
      · refine ev_iload_n dF_run_97 rfl ?_
        refine ev_ireturn dF_run_98 rfl ?_
        exact ⟨rfl, hl⟩
      · omega
    | succ k ih =>
      intro s kn at_ ops h l4 hl a0 a1 hk o0
      have hcl := lb_cells hl
      have hc : h[0]? = some (.inr (0, [.ref 1, .ref 7, .ref 13, .ref 15, ev_i 0])) := hcl.1
      refine ev_iload_n dF_run_14 rfl ?_
      refine ev_iload_n dF_run_15 rfl ?_
      refine ev_icmp_ge (tgt := 97) dF_run_16 rfl (by omega) (by omega) (by omega) (by omega) (fun hb => ?_) (fun hb => ?_)
      · refine ev_iload_n dF_run_97 rfl ?_
        refine ev_ireturn dF_run_98 rfl ?_
        rw [tx_run, if_pos hb]
        exact ⟨rfl, hl⟩
      · have hSa := hS at_ a0 (by omega)
        refine ev_aload_n dF_run_19 rfl ?_
        refine ev_get dF_run_20 fl_F_32 hc rfl ?_
        refine ev_iload_n dF_run_23 rfl ?_
        refine ev_iald dF_run_24 hcl.2 (by omega) (by omega) (by decide) ?_
        refine ev_bipush dF_run_25 rfl ?_
        refine ev_icmp_ne (tgt := 36) dF_run_27 rfl (by omega) (by omega) (by omega) (by omega) (fun hb2 => ?_) (fun hb2 => ?_)
        · refine ev_aload_n dF_run_36 rfl ?_
          refine ev_get dF_run_37 fl_F_32 hc rfl ?_
          refine ev_iload_n dF_run_40 rfl ?_
          refine ev_iald dF_run_41 hcl.2 (by omega) (by omega) (by decide) ?_
          refine ev_cS dF_run_42 cs_F_183 (ct_takes (by omega) (by omega)) rfl rfl (Nat.le_of_ble_eq_true rfl) (Nat.le_of_ble_eq_true rfl) (Nat.le_of_ble_eq_true rfl) ?_
          have fin : ∀ (dg : Int), dg = tx_dgs S ty at_ → 0 ≤ dg → dg ≤ 4 → (at_ + 1 + dg ≤ 60 ∨ dg = 0) → (∀ j, 0 ≤ j → j < dg → 48 ≤ S (at_ + 1 + j) ∧ S (at_ + 1 + j) ≤ 57) →
              ev_E g false mF_run (d + 6) 60 [some (.ref 0), some (ev_i ty), some (ev_i ops), some (ev_i at_), l4] [ev_i dg] h 0 0 (fun o h' => o = .inl (some (ev_i (tx_run S ty (k + 1) s kn at_ ops).1)) ∧ LB (tx_run S ty (k + 1) s kn at_ ops).2.1 0 q1 q2 q3 q4 q5 q6 (tx_run S ty (k + 1) s kn at_ ops).2.2 fo r mk (x :: ev_ia 60 S :: t) h') := by
            intro dg hdg d0 d4 hd60 hdd
            refine ev_istore dF_run_60 (Nat.le_of_ble_eq_true rfl) ?_
            refine ev_aload_n dF_run_62 rfl ?_
            refine ev_aload_n dF_run_63 rfl ?_
            refine ev_get dF_run_64 fl_F_32 hc rfl ?_
            refine ev_iload_n dF_run_67 rfl ?_
            refine ev_iald dF_run_68 hcl.2 (by omega) (by omega) (by decide) ?_
            refine ev_iload_n dF_run_69 rfl ?_
            refine ev_iconst dF_run_70 ?_
            refine ev_iadd dF_run_71 ?_
            refine ev_iload dF_run_72 rfl ?_
            refine ev_callV dF_run_74 cv_F_189 rfl hc (Nat.le_of_ble_eq_true rfl) (ct_operate (d := d) (by omega) (by omega) (by omega) d0 d4 hd60 hdd hl) (Nat.le_of_ble_eq_true rfl) (Nat.le_of_ble_eq_true rfl) rfl (fun v h' q => ?_)
            obtain ⟨qv, ql⟩ := q
            cases Sum.inl.inj qv
            have hbd := tx_op_bd (s := s) (S := S) (c := S at_) (st := at_ + 1) (dg := dg)
            rw [tx_run, if_neg (by omega), if_neg hb2, ← hdg]
            refine ev_if_eq (tgt := 84) dF_run_77 rfl (by omega) (by omega) (fun hb3 => ?_) (fun hb3 => ?_)
            · rw [if_pos hb3]
              rw [hb3] at ql
              refine ev_iinc dF_run_84 rfl ?_
              refine ev_iload_n dF_run_87 rfl ?_
              refine ev_iconst dF_run_88 ?_
              refine ev_iload dF_run_89 rfl ?_
              refine ev_iadd dF_run_91 ?_
              refine ev_iadd dF_run_92 ?_
              refine ev_istore_n dF_run_93 (Nat.le_of_ble_eq_true rfl) ?_
              refine ev_goto (tgt := 14) dF_run_94 rfl ?_
              exact ih _ false (at_ + (1 + dg)) (ops + 1) h' _ ql (by omega) (by omega) (by omega) (by omega)
            · rw [if_neg hb3]
              rw [lb_kn, if_neg hb3] at ql
              refine ev_iconst dF_run_80 ?_
              refine ev_iload_n dF_run_81 rfl ?_
              refine ev_isub dF_run_82 ?_
              refine ev_ireturn dF_run_83 rfl ?_
              exact ⟨rfl, ql⟩
          refine ev_bz (tgt := 59) dF_run_45 rfl (fun hb3 => ?_) (fun hb3 => ?_)
          · refine ev_iconst dF_run_59 ?_
            exact fin 0 (by rw [tx_dgs, if_neg (by rw [hb3]; decide)]) (by decide) (by decide) (Or.inr rfl) (fun j a b => by omega)
          · refine ev_aload_n dF_run_48 rfl ?_
            refine ev_iload_n dF_run_49 rfl ?_
            refine ev_iconst dF_run_50 ?_
            refine ev_iadd dF_run_51 ?_
            refine ev_iload_n dF_run_52 rfl ?_
            refine ev_cV dF_run_53 cv_F_186 (ct_digitsFrom (d := d + 4) hcl.1 hcl.2 (by omega) (by omega) (by omega) (by omega) hS) rfl hc rfl (Nat.le_of_ble_eq_true rfl) (Nat.le_of_ble_eq_true rfl) (Nat.le_of_ble_eq_true rfl) ?_
            have hsp := tx_dg_spec (S := S) (en := ty) (st := at_ + 1) 4 0
            refine ev_goto (tgt := 60) dF_run_56 rfl ?_
            exact fin (tx_dg S ty (at_ + 1) 4 0) (by rw [tx_dgs, if_pos hb3]) hsp.1 (by have := hsp.2.1; omega) (Or.inl (by have := hsp.2.2.1 (by omega); omega)) hsp.2.2.2
        · refine ev_iinc dF_run_30 rfl ?_
          refine ev_goto (tgt := 14) dF_run_33 rfl ?_
          rw [tx_run, if_neg (by omega), if_pos hb2]
          exact ih s kn (at_ + 1) ops h l4 hl (by omega) (by omega) (by omega) o0
  exact loop 61 s kn 0 0 _ none hh0 (by omega) (by omega) (by omega) (by omega)
end TX
end
section
/-! The laboratory: making it; readers -/
def rq (s : RS) : ev_AC := .inr (2, [.ref 1, .ref 8, .ref 9, .ref 10, ev_i s.1, ev_i s.2.1, .ref 11, .ref 12])
/-- the class's heap, the reductions' cells with it -/
def LR (s : SG) (ty : Int) (rs : RS) (kn : Bool) (fo : Int) (r : Nat) (mk : Int64) (t : List ev_AC) (h : List ev_AC) : Prop :=
  LB s ty (rq rs) (ev_ia 7 rs.2.2.1) (ev_ia 6 rs.2.2.2.1) (ev_ia 6 rs.2.2.2.2.1) (ev_ia 6 rs.2.2.2.2.2.1) (ev_ia 6 rs.2.2.2.2.2.2) kn fo r mk t h
def rd_st (s : SG) (rs : RS) : RS := (s.2.1 + 1, 0, ev_ov (sp_len s.1 s.2.1 s.2.2.2.1) rs.2.2.1 (s.2.1 + 1), ev_ov s.2.2.2.1 rs.2.2.2.1 s.2.1, ev_ov s.2.2.2.2 rs.2.2.2.2.1 s.2.1, rs.2.2.2.2.2.1, rs.2.2.2.2.2.2)
def rd_go (s : SG) (rs : RS) : RS := if 0 < sp_fr s.2.2.2.2 s.2.1.toNat then rs else rd_iter 6 (rd_st s rs)
theorem sp_fr_bd {K : Int → Int} : ∀ k : Nat, 0 ≤ sp_fr K k ∧ sp_fr K k ≤ k
  | 0 => by simp [sp_fr]
  | k + 1 => by
    have := sp_fr_bd (K := K) k
    unfold sp_fr
    split <;> push_cast <;> omega
section LB2
variable {g : ev_G} {d : Nat} {s : SG} {ty : Int} {rs : RS} {q1 q2 q3 q4 q5 q6 x : ev_AC} {kn : Bool} {fo : Int} {r : Nat} {mk : Int64} {S : Int → Int} {t : List ev_AC} {h : List ev_AC}
theorem ct_Finit : ev_C g mF_init (d + 5) [.ref 0] [.inr (0, [.null, .null, .null, .null, ev_i 0])] 15 210 (fun o h' => o = .inl none ∧ LR (1, 0, false, fun _ => 0, fun _ => 0) 0 (0, 0, fun _ => 0, fun _ => 0, fun _ => 0, fun _ => 0, fun _ => 0) false 0 14 0 [ev_ia 64 (fun _ => 0), ev_ia 60 (fun _ => 0)] h') := by
  refine ev_ofE (by decide +kernel) rfl (Nat.le_of_ble_eq_true rfl) rfl rfl ?_
  refine ev_aload_n dF_init_0 rfl ?_
  refine ev_obj dF_init_1 wm_F_3 wo_i wo_c (Nat.le_of_ble_eq_true rfl) ?_
  refine ev_aload_n dF_init_4 rfl ?_
  refine ev_new (M := mF_init) dF_init_5 nc_F_9 ?_
  refine ev_dup dF_init_8 rfl ?_
  refine ev_cI dF_init_9 ci_F_11 (ct_Pinit (c0 := .inr (0, [.null, .null, .null, .null, ev_i 0]))) rfl rfl rfl rfl (Nat.le_of_ble_eq_true rfl) (Nat.le_of_ble_eq_true rfl) (Nat.le_of_ble_eq_true rfl) ?_
  refine ev_put dF_init_12 fp_F_12 (fun _ => rfl) rfl (Nat.le_of_ble_eq_true rfl) rfl rfl ?_
  refine ev_aload_n dF_init_15 rfl ?_
  refine ev_new (M := mF_init) dF_init_16 nc_F_16 ?_
  refine ev_dup dF_init_19 rfl ?_
  refine ev_aload_n dF_init_20 rfl ?_
  refine ev_get dF_init_21 fl_F_12 rfl rfl ?_
  refine ev_cI dF_init_24 ci_F_18 (ct_Rinit (d := d + 3) (L := 1) (n := 0) (tn := false) (P := fun _ => 0) (K := fun _ => 0) (B := ev_ov (sp_B 1 0 (fun _ => 0)) (fun _ => 0) 2) (lo := ev_ov (sp_lo 1 0 (fun _ => 0)) (fun _ => 0) 1) (hi := ev_ov (sp_hi 1 0 (fun _ => 0)) (fun _ => 0) 1) (c0 := .inr (0, [.ref 1, .null, .null, .null, ev_i 0]))) rfl rfl rfl rfl (Nat.le_of_ble_eq_true rfl) (Nat.le_of_ble_eq_true rfl) (Nat.le_of_ble_eq_true rfl) ?_
  refine ev_put dF_init_27 fp_F_21 (fun _ => rfl) rfl (Nat.le_of_ble_eq_true rfl) rfl rfl ?_
  refine ev_aload_n dF_init_30 rfl ?_
  refine ev_new (M := mF_init) dF_init_31 nc_F_25 ?_
  refine ev_dup dF_init_34 rfl ?_
  refine ev_aload_n dF_init_35 rfl ?_
  refine ev_get dF_init_36 fl_F_12 rfl rfl ?_
  refine ev_cI dF_init_39 ci_F_27 (ct_Oinit (d := d + 3) (L := 1) (n := 0) (tn := false) (P := fun _ => 0) (K := fun _ => 0) (B := ev_ov (sp_B 1 0 (fun _ => 0)) (fun _ => 0) 2) (lo := ev_ov (sp_lo 1 0 (fun _ => 0)) (fun _ => 0) 1) (hi := ev_ov (sp_hi 1 0 (fun _ => 0)) (fun _ => 0) 1) (c0 := .inr (0, [.ref 1, .ref 7, .null, .null, ev_i 0])) (q1 := rq (0, 0, fun _ => 0, fun _ => 0, fun _ => 0, fun _ => 0, fun _ => 0)) (q2 := ev_ia 7 (fun _ => 0)) (q3 := ev_ia 6 (fun _ => 0)) (q4 := ev_ia 6 (fun _ => 0)) (q5 := ev_ia 6 (fun _ => 0)) (q6 := ev_ia 6 (fun _ => 0))) rfl rfl rfl rfl (Nat.le_of_ble_eq_true rfl) (Nat.le_of_ble_eq_true rfl) (Nat.le_of_ble_eq_true rfl) ?_
  refine ev_put dF_init_42 fp_F_28 (fun _ => rfl) rfl (Nat.le_of_ble_eq_true rfl) rfl rfl ?_
  refine ev_aload_n dF_init_45 rfl ?_
  refine ev_bipush dF_init_46 rfl ?_
  refine ev_nI (n := 60) dF_init_48 rfl (by decide) ?_
  refine ev_put dF_init_50 fp_F_32 (fun _ => rfl) rfl (Nat.le_of_ble_eq_true rfl) rfl rfl ?_
  refine ev_aload_n dF_init_53 rfl ?_
  refine ev_iconst dF_init_54 ?_
  refine ev_put dF_init_55 fp_F_36 (fun q => by cases q) rfl (Nat.le_of_ble_eq_true rfl) rfl rfl ?_
  refine ev_return dF_init_58 rfl ?_
  refine ⟨rfl, ⟨by decide, by decide, Int.le_refl 0, by show (0 : Int) ≤ 6; decide, fun i a b => by have : i < 0 := b; omega, fun i j a b c => by have : j < 0 := c; omega⟩, ev_ov (sp_B 1 0 (fun _ => 0)) (fun _ => 0) 2, ev_ov (sp_lo 1 0 (fun _ => 0)) (fun _ => 0) 1, ev_ov (sp_hi 1 0 (fun _ => 0)) (fun _ => 0) 1, rfl, gv_ov (1, 0, false, fun _ => 0, fun _ => 0) _ _ _⟩
theorem ct_Fwidth {B lo hi : Int → Int} (ok : sg_ok s) (gvv : gv s B lo hi) : ev_C g mF_width (d + 2) [.ref 0] (oh s.1 s.2.1 s.2.2.1 s.2.2.2.1 s.2.2.2.2 B lo hi (lc ty) q1 q2 q3 q4 q5 q6 kn fo r mk t) 0 0
    (ev_V (some (ev_i (sp_mx B (s.2.1 + 1).toNat - sp_mi B (s.2.1 + 1).toNat))) (oh s.1 s.2.1 s.2.2.1 s.2.2.2.1 s.2.2.2.2 B lo hi (lc ty) q1 q2 q3 q4 q5 q6 kn fo r mk t)) := by
  refine ev_ofE (by decide +kernel) rfl (Nat.le_of_ble_eq_true rfl) rfl rfl ?_
  refine ev_aload_n dF_width_0 rfl ?_
  refine ev_get dF_width_1 fl_F_12 rfl rfl ?_
  refine ev_cV dF_width_4 cv_F_116 (ct_reach ok.2.2.1 ok.2.2.2.1 (gv_B ok gvv)) rfl rfl rfl (Nat.le_of_ble_eq_true rfl) (Nat.le_of_ble_eq_true rfl) (Nat.le_of_ble_eq_true rfl) ?_
  refine ev_ireturn dF_width_7 rfl ?_
  exact ⟨rfl, rfl⟩
theorem ct_Fthick {B lo hi : Int → Int} (ok : sg_ok s) (gvv : gv s B lo hi) : ev_C g mF_thickness (d + 3) [.ref 0] (oh s.1 s.2.1 s.2.2.1 s.2.2.2.1 s.2.2.2.2 B lo hi (lc ty) q1 q2 q3 q4 q5 q6 kn fo r mk t) 0 0
    (ev_V (some (ev_i (sp_mo (fun i => sp_im lo hi (lo i) (s.2.1 + 1).toNat) (s.2.1 + 1).toNat))) (oh s.1 s.2.1 s.2.2.1 s.2.2.2.1 s.2.2.2.2 B lo hi (lc ty) q1 q2 q3 q4 q5 q6 kn fo r mk t)) := by
  refine ev_ofE (by decide +kernel) rfl (Nat.le_of_ble_eq_true rfl) rfl rfl ?_
  refine ev_aload_n dF_thickness_0 rfl ?_
  refine ev_get dF_thickness_1 fl_F_12 rfl rfl ?_
  refine ev_cV dF_thickness_4 cv_F_119 (ct_mostImages ok.2.2.1 ok.2.2.2.1 (gv_lo ok gvv) (gv_hi ok gvv)) rfl rfl rfl (Nat.le_of_ble_eq_true rfl) (Nat.le_of_ble_eq_true rfl) (Nat.le_of_ble_eq_true rfl) ?_
  refine ev_ireturn dF_thickness_7 rfl ?_
  exact ⟨rfl, rfl⟩
theorem ct_Fcount {B lo hi : Int → Int} {w : Int} (w1 : -2147483648 ≤ w) (w2 : w < 2147483648) (ok : sg_ok s) : ev_C g mF_count (d + 1) [.ref 0, ev_i w] (oh s.1 s.2.1 s.2.2.1 s.2.2.2.1 s.2.2.2.2 B lo hi (lc ty) q1 q2 q3 q4 q5 q6 kn fo r mk t) 0 0
    (ev_V (some (ev_i (if w = 0 then s.1 else if w = 1 then s.2.1 else if w = 2 then sp_fr s.2.2.2.2 s.2.1.toNat else if w = 3 then ty else -1))) (oh s.1 s.2.1 s.2.2.1 s.2.2.2.1 s.2.2.2.2 B lo hi (lc ty) q1 q2 q3 q4 q5 q6 kn fo r mk t)) := by
  refine ev_ofE (by decide +kernel) rfl (Nat.le_of_ble_eq_true rfl) rfl rfl ?_
  refine ev_iload_n dF_count_0 rfl ?_
  by_cases h0 : w = 0
  · subst h0
    refine ev_tableIn (tgt := 32) dF_count_1 w1 w2 (by decide) (by decide) rfl rfl ?_
    refine ev_aload_n dF_count_32 rfl ?_
    refine ev_get dF_count_33 fl_F_12 rfl rfl ?_
    refine ev_get dF_count_36 fl_F_75 rfl rfl ?_
    refine ev_ireturn dF_count_39 rfl ?_
    exact ⟨rfl, rfl⟩
  · by_cases h1 : w = 1
    · subst h1
      refine ev_tableIn (tgt := 40) dF_count_1 w1 w2 (by decide) (by decide) rfl rfl ?_
      refine ev_aload_n dF_count_40 rfl ?_
      refine ev_get dF_count_41 fl_F_12 rfl rfl ?_
      refine ev_get dF_count_44 fl_F_62 rfl rfl ?_
      refine ev_ireturn dF_count_47 rfl ?_
      exact ⟨rfl, rfl⟩
    · by_cases h2 : w = 2
      · subst h2
        refine ev_tableIn (tgt := 48) dF_count_1 w1 w2 (by decide) (by decide) rfl rfl ?_
        refine ev_aload_n dF_count_48 rfl ?_
        refine ev_get dF_count_49 fl_F_12 rfl rfl ?_
        refine ev_cV dF_count_52 cv_F_78 (ct_free ok.2.2.1 ok.2.2.2.1 (fun i a b => (ok.2.2.2.2.1 i a b).2.2)) rfl rfl rfl (Nat.le_of_ble_eq_true rfl) (Nat.le_of_ble_eq_true rfl) (Nat.le_of_ble_eq_true rfl) ?_
        refine ev_ireturn dF_count_55 rfl ?_
        exact ⟨rfl, rfl⟩
      · by_cases h3 : w = 3
        · subst h3
          refine ev_tableIn (tgt := 56) dF_count_1 w1 w2 (by decide) (by decide) rfl rfl ?_
          refine ev_aload_n dF_count_56 rfl ?_
          refine ev_get dF_count_57 fl_F_36 rfl rfl ?_
          refine ev_ireturn dF_count_60 rfl ?_
          exact ⟨rfl, rfl⟩
        · refine ev_tableOut (tgt := 61) dF_count_1 w1 w2 (by omega) rfl ?_
          refine ev_iconst dF_count_61 ?_
          refine ev_ireturn dF_count_62 rfl ?_
          exact ⟨by rw [if_neg h0, if_neg h1, if_neg h2, if_neg h3], rfl⟩
theorem rd_iter_bd : ∀ (k i : Nat) (s : RS), i + k ≤ 6 → rd_inv i s → 1 ≤ (rd_iter k s).1 ∧ (rd_iter k s).1 ≤ 7 ∧ 0 ≤ (rd_iter k s).2.1 ∧ (rd_iter k s).2.1 ≤ 7
  | 0, _, s, _, h => ⟨h.1, h.2.1, h.2.2.1, by have := h.2.2.2.1; have := h.1; show s.2.1 ≤ 7; omega⟩
  | k + 1, i, s, hk, h => by
    unfold rd_iter
    by_cases h1 : 1 < s.1
    · rw [if_pos h1]
      cases he : rd_step s with
      | none => exact ⟨h.1, h.2.1, h.2.2.1, by have := h.2.2.2.1; have := h.1; show s.2.1 ≤ 7; omega⟩
      | some s' => exact rd_iter_bd k (i + 1) s' (by omega) (rd_inv_s (by omega) h h1 he)
    · rw [if_neg h1]
      exact ⟨h.1, h.2.1, h.2.2.1, by have := h.2.2.2.1; have := h.1; show s.2.1 ≤ 7; omega⟩
theorem rd_st_inv (ok : sg_ok s) : rd_inv 0 (rd_st s rs) := by
  have hn0 := ok.2.2.1
  have hn := ok.2.2.2.1
  refine ⟨by show 1 ≤ s.2.1 + 1; omega, by show s.2.1 + 1 ≤ 7; omega, Int.le_refl _, by show 0 + (s.2.1 + 1) ≤ 7; omega, fun j j0 j1 => ?_, fun j j0 j1 => ?_⟩
  · have j1 : j < s.2.1 + 1 := j1
    show 0 ≤ ev_ov (sp_len s.1 s.2.1 s.2.2.2.1) rs.2.2.1 (s.2.1 + 1) j ∧ ev_ov (sp_len s.1 s.2.1 s.2.2.2.1) rs.2.2.1 (s.2.1 + 1) j ≤ 60
    rw [ev_ov_in j0 j1]
    have := sp_len_bd ok j0 (by omega); omega
  · have j1 : j < s.2.1 + 1 - 1 := j1
    show 0 ≤ ev_ov s.2.2.2.2 rs.2.2.2.2.1 s.2.1 j ∧ ev_ov s.2.2.2.2 rs.2.2.2.2.1 s.2.1 j ≤ 2
    rw [ev_ov_in j0 (by omega)]
    have := ok.2.2.2.2.1 j j0 (by omega); omega
theorem ct_Ffoldable (hh : LR s ty rs kn fo r mk t h) : ev_C g mF_foldable (d + 4) [.ref 0] h 0 0
    (fun o h' => o = .inl (some (ev_i (if 0 < sp_fr s.2.2.2.2 s.2.1.toNat then -1 else if (rd_go s rs).1 = 1 then 1 else 0))) ∧ LR s ty (rd_go s rs) kn fo r mk t h') := by
  obtain ⟨L, n, tn, P, K⟩ := s
  obtain ⟨rem, dn, le, rp, rm, kd, wa⟩ := rs
  obtain ⟨ok, B, lo, hi, rfl, gvv⟩ := hh
  have hf := sp_fr_bd (K := K) n.toNat
  have hn : n ≤ 6 := ok.2.2.2.1
  refine ev_ofE (by decide +kernel) rfl (Nat.le_of_ble_eq_true rfl) rfl rfl ?_
  refine ev_aload_n dF_foldable_0 rfl ?_
  refine ev_get dF_foldable_1 fl_F_12 rfl rfl ?_
  refine ev_cV dF_foldable_4 cv_F_78 (ct_free (d := d + 3) (L := L) (n := n) (tn := tn) (P := P) (K := K) (B := B) (lo := lo) (hi := hi) ok.2.2.1 ok.2.2.2.1 (fun i a b => (ok.2.2.2.2.1 i a b).2.2)) rfl rfl rfl (Nat.le_of_ble_eq_true rfl) (Nat.le_of_ble_eq_true rfl) (Nat.le_of_ble_eq_true rfl) ?_
  refine ev_if_le (tgt := 12) dF_foldable_7 rfl (by omega) (by omega) (fun hb => ?_) (fun hb => ?_)
  · have e : rd_go (L, n, tn, P, K) (rem, dn, le, rp, rm, kd, wa) = rd_iter 6 (rd_st (L, n, tn, P, K) (rem, dn, le, rp, rm, kd, wa)) := if_neg (by show ¬ 0 < sp_fr K n.toNat; omega)
    have hbd := rd_iter_bd 6 0 _ (by omega) (rd_st_inv (s := (L, n, tn, P, K)) (rs := (rem, dn, le, rp, rm, kd, wa)) ok)
    refine ev_aload_n dF_foldable_12 rfl ?_
    refine ev_get dF_foldable_13 fl_F_21 rfl rfl ?_
    refine ev_cVv dF_foldable_16 cv_F_122 (ct_reduce (d := d) (L := L) (n := n) (tn := tn) (P := P) (K := K) (B := B) (lo := lo) (hi := hi) (rem := rem) (dn := dn) (le := le) (rp := rp) (rm := rm) (kd := kd) (wa := wa) ok) rfl rfl rfl (Nat.le_of_ble_eq_true rfl) (Nat.le_of_ble_eq_true rfl) (Nat.le_of_ble_eq_true rfl) ?_
    have e2 : rd_iter 6 (n + 1, 0, ev_ov (sp_len L n P) le (n + 1), ev_ov P rp n, ev_ov K rm n, kd, wa) = rd_go (L, n, tn, P, K) (rem, dn, le, rp, rm, kd, wa) := e.symm
    rw [← e] at hbd
    rw [e2]
    generalize rd_go (L, n, tn, P, K) (rem, dn, le, rp, rm, kd, wa) = fin at *
    refine ev_aload_n dF_foldable_19 rfl ?_
    refine ev_get dF_foldable_20 fl_F_21 rfl rfl ?_
    refine ev_get dF_foldable_23 fl_F_125 rfl rfl ?_
    refine ev_iconst dF_foldable_26 ?_
    refine ev_icmp_ne (tgt := 34) dF_foldable_27 rfl (by omega) (by omega) (by omega) (by omega) (fun hb2 => ?_) (fun hb2 => ?_)
    · refine ev_iconst dF_foldable_34 ?_
      refine ev_ireturn dF_foldable_35 rfl ?_
      exact ⟨by rw [if_neg (by show ¬ 0 < sp_fr K n.toNat; omega), if_neg hb2], ok, B, lo, hi, rfl, gvv⟩
    · refine ev_iconst dF_foldable_30 ?_
      refine ev_goto (tgt := 35) dF_foldable_31 rfl ?_
      refine ev_ireturn dF_foldable_35 rfl ?_
      exact ⟨by rw [if_neg (by show ¬ 0 < sp_fr K n.toNat; omega), if_pos hb2], ok, B, lo, hi, rfl, gvv⟩
  · have e : rd_go (L, n, tn, P, K) (rem, dn, le, rp, rm, kd, wa) = (rem, dn, le, rp, rm, kd, wa) := if_pos hb
    rw [e]
    refine ev_iconst dF_foldable_10 ?_
    refine ev_ireturn dF_foldable_11 rfl ?_
    exact ⟨by rw [if_pos (show 0 < sp_fr K n.toNat from hb)], ok, B, lo, hi, rfl, gvv⟩
theorem ct_Fsteps (hh : LR s ty rs kn fo r mk t h) : ev_C g mF_steps (d + 4) [.ref 0] h 0 0
    (fun o h' => o = .inl (some (ev_i (if 0 < sp_fr s.2.2.2.2 s.2.1.toNat then -1 else (rd_go s rs).2.1))) ∧ LR s ty (rd_go s rs) kn fo r mk t h') := by
  obtain ⟨L, n, tn, P, K⟩ := s
  obtain ⟨rem, dn, le, rp, rm, kd, wa⟩ := rs
  obtain ⟨ok, B, lo, hi, rfl, gvv⟩ := hh
  have hf := sp_fr_bd (K := K) n.toNat
  have hn : n ≤ 6 := ok.2.2.2.1
  refine ev_ofE (by decide +kernel) rfl (Nat.le_of_ble_eq_true rfl) rfl rfl ?_
  refine ev_aload_n dF_steps_0 rfl ?_
  refine ev_get dF_steps_1 fl_F_12 rfl rfl ?_
  refine ev_cV dF_steps_4 cv_F_78 (ct_free (d := d + 3) (L := L) (n := n) (tn := tn) (P := P) (K := K) (B := B) (lo := lo) (hi := hi) ok.2.2.1 ok.2.2.2.1 (fun i a b => (ok.2.2.2.2.1 i a b).2.2)) rfl rfl rfl (Nat.le_of_ble_eq_true rfl) (Nat.le_of_ble_eq_true rfl) (Nat.le_of_ble_eq_true rfl) ?_
  refine ev_if_le (tgt := 12) dF_steps_7 rfl (by omega) (by omega) (fun hb => ?_) (fun hb => ?_)
  · have e : rd_go (L, n, tn, P, K) (rem, dn, le, rp, rm, kd, wa) = rd_iter 6 (rd_st (L, n, tn, P, K) (rem, dn, le, rp, rm, kd, wa)) := if_neg (by show ¬ 0 < sp_fr K n.toNat; omega)
    refine ev_aload_n dF_steps_12 rfl ?_
    refine ev_get dF_steps_13 fl_F_21 rfl rfl ?_
    refine ev_cVv dF_steps_16 cv_F_122 (ct_reduce (d := d) (L := L) (n := n) (tn := tn) (P := P) (K := K) (B := B) (lo := lo) (hi := hi) (rem := rem) (dn := dn) (le := le) (rp := rp) (rm := rm) (kd := kd) (wa := wa) ok) rfl rfl rfl (Nat.le_of_ble_eq_true rfl) (Nat.le_of_ble_eq_true rfl) (Nat.le_of_ble_eq_true rfl) ?_
    have e2 : rd_iter 6 (n + 1, 0, ev_ov (sp_len L n P) le (n + 1), ev_ov P rp n, ev_ov K rm n, kd, wa) = rd_go (L, n, tn, P, K) (rem, dn, le, rp, rm, kd, wa) := e.symm
    rw [e2]
    generalize rd_go (L, n, tn, P, K) (rem, dn, le, rp, rm, kd, wa) = fin at *
    refine ev_aload_n dF_steps_19 rfl ?_
    refine ev_get dF_steps_20 fl_F_21 rfl rfl ?_
    refine ev_get dF_steps_23 fl_F_128 rfl rfl ?_
    refine ev_ireturn dF_steps_26 rfl ?_
    exact ⟨by rw [if_neg (by show ¬ 0 < sp_fr K n.toNat; omega)], ok, B, lo, hi, rfl, gvv⟩
  · have e : rd_go (L, n, tn, P, K) (rem, dn, le, rp, rm, kd, wa) = (rem, dn, le, rp, rm, kd, wa) := if_pos hb
    rw [e]
    refine ev_iconst dF_steps_10 ?_
    refine ev_ireturn dF_steps_11 rfl ?_
    exact ⟨by rw [if_pos (show 0 < sp_fr K n.toNat from hb)], ok, B, lo, hi, rfl, gvv⟩
end LB2
end
section
/-! The laboratory: all orders -/
theorem ly_ov_cg {n : Int} {lo hi lo' hi' : Int → Int} (hl : ∀ i, 0 ≤ i → i ≤ n → lo i = lo' i ∧ hi i = hi' i) {a b : Int} (a0 : 0 ≤ a) (an : a ≤ n) (b0 : 0 ≤ b) (bn : b ≤ n) : ly_ov lo hi a b = ly_ov lo' hi' a b := by
  unfold ly_ov
  rw [(hl a a0 an).1, (hl a a0 an).2, (hl b b0 bn).1, (hl b b0 bn).2]
theorem ly_rdN_cg {n : Int} {lo hi lo' hi' : Int → Int} (hl : ∀ i, 0 ≤ i → i ≤ n → lo i = lo' i ∧ hi i = hi' i) {o : Nat} {a b : Int} (a0 : 0 ≤ a) (an : a ≤ n) (b0 : 0 ≤ b) (bn : b ≤ n) : ∀ (k : Nat) (c : Int), 0 ≤ c → c + k ≤ n → ly_rdN lo hi o a b k c = ly_rdN lo' hi' o a b k c
  | 0, _, _, _ => rfl
  | k + 1, c, c0, cn => by
    unfold ly_rdN ly_r1
    rw [ly_ov_cg hl c0 (by omega) a0 an, ly_ov_cg hl c0 (by omega) b0 bn, ly_rdN_cg hl a0 an b0 bn k (c + 1) (by omega) (by omega)]
theorem ly_ok_cg {n : Int} {K : Int → Int} {tn : Bool} {B B' lo hi lo' hi' : Int → Int} (hB : ∀ i, 0 ≤ i → i ≤ n + 1 → B i = B' i) (hl : ∀ i, 0 ≤ i → i ≤ n → lo i = lo' i ∧ hi i = hi' i) {o : Nat} {a b : Int} (a0 : 0 ≤ a) (ab : a < b) (bn : b ≤ n) : ly_ok K tn B lo hi o a b = ly_ok K tn B' lo' hi' o a b := by
  unfold ly_ok ly_rd ly_cr ly_ne ly_in
  rw [ly_rdN_cg hl a0 (by omega) (by omega) bn _ 0 (by omega) (by omega), hB a a0 (by omega), hB b (by omega) (by omega), (hl a a0 (by omega)).1, (hl a a0 (by omega)).2, (hl b (by omega) bn).1, (hl b (by omega) bn).2]
theorem ly_go_cg {n : Int} {K : Int → Int} {tn : Bool} {B B' lo hi lo' hi' : Int → Int} (hB : ∀ i, 0 ≤ i → i ≤ n + 1 → B i = B' i) (hl : ∀ i, 0 ≤ i → i ≤ n → lo i = lo' i ∧ hi i = hi' i) : ∀ (k : Nat) (a b : Int) (o : Nat), ly_k n k a b → ly_go K tn B lo hi k a b o = ly_go K tn B' lo' hi' k a b o
  | 0, _, _, _, _ => rfl
  | k + 1, a, b, o, h => by
    have bn := ly_k_s h
    have hn := ly_k_n h
    unfold ly_go
    rw [ly_ov_cg hl h.2.1 (by have := h.2.2.1; omega) (by have := h.2.1; have := h.2.2.1; omega) bn, ly_ok_cg hB hl h.2.1 h.2.2.1 bn, ly_ok_cg hB hl h.2.1 h.2.2.1 bn, ly_go_cg hB hl k _ _ o hn, ly_go_cg hB hl k _ _ (o ||| 2 ^ ly_ix a b) hn]
theorem ly_k_st {n : Int} (hn0 : 0 ≤ n) (hn : n ≤ 6) : ly_k n ((n + 1) * n / 2).toNat 0 1 := by
  have h7 : n = 0 ∨ n = 1 ∨ n = 2 ∨ n = 3 ∨ n = 4 ∨ n = 5 ∨ n = 6 := by omega
  refine ⟨?_, by omega, by omega, by omega, fun _ => rfl⟩
  rcases h7 with rfl | rfl | rfl | rfl | rfl | rfl | rfl <;> decide
/-- all orders of the layers, as rows of bits -/
def ly_all (s : SG) : List Nat := ly_go s.2.2.2.2 s.2.2.1 (sp_B s.1 s.2.1 s.2.2.2.1) (sp_lo s.1 s.2.1 s.2.2.2.1) (sp_hi s.1 s.2.1 s.2.2.2.1) ((s.2.1 + 1) * s.2.1 / 2).toNat 0 1 0
theorem ly_all_gv {s : SG} {B lo hi : Int → Int} (ok : sg_ok s) (h : gv s B lo hi) : ly_go s.2.2.2.2 s.2.2.1 B lo hi ((s.2.1 + 1) * s.2.1 / 2).toNat 0 1 0 = ly_all s :=
  ly_go_cg (n := s.2.1) h.1 h.2 _ 0 1 0 (ly_k_st ok.2.2.1 ok.2.2.2.1)
def ly_e (kn : Bool) (e : Nat) (s : SG) : Nat := if kn then e else ly_ge e 0 (ly_all s).length
/-- the class's heap: the kept rows with it; mc are the cells from 16 on that stay -/
def LO (s : SG) (ty : Int) (rs : RS) (S : Int → Int) (mc : List ev_AC) (e : Nat) (kn : Bool) (h : List ev_AC) : Prop :=
  ∃ (fo : Int) (kr : Nat) (R : Int → Int) (A : List Nat) (mk : Int64) (x : ev_AC) (tl : List ev_AC), LR s ty rs kn fo (kr + 14) mk (x :: ev_ia 60 S :: (mc ++ tl)) h ∧ ly_rw A e kr R (x :: ev_ia 60 S :: (mc ++ tl)) ∧ (kr = 0 ∨ mc.length + 2 ≤ kr) ∧ (kn = true → fo = (A.length : Nat) ∧ A = ly_all s ∧ mk = ly_ms s.2.1 0 A)
theorem ly_fr_sh {k k' : Nat} {x y : ev_AC} {mc tl t' : List ev_AC} (h : ly_fr k (x :: y :: (mc ++ tl)) k' t') (hk : k = 0 ∨ mc.length + 2 ≤ k) : (∃ x' tl', t' = x' :: y :: (mc ++ tl')) ∧ (k' = 0 ∨ mc.length + 2 ≤ k') := by
  obtain ⟨h1, h2, h3⟩ := h
  simp only [List.length_cons, List.length_append] at h1 h2 h3
  refine ⟨?_, by omega⟩
  match t', h2, h3 with
  | [], h2, _ => simp at h2
  | [_], h2, _ => simp at h2
  | x' :: y' :: u, h2, h3 =>
    have e1 : y' = y := by
      have := h3 1 (by omega) (by omega)
      simpa using this
    have e2 : u.take mc.length = mc := by
      refine List.ext_getElem? fun i => ?_
      rw [List.getElem?_take]
      by_cases hi : i < mc.length
      · rw [if_pos hi]
        have := h3 (i + 2) (by omega) (by omega)
        simp only [List.getElem?_cons_succ] at this
        rw [this, List.getElem?_append_left hi]
      · rw [if_neg hi, List.getElem?_eq_none (by omega)]
    refine ⟨x', u.drop mc.length, ?_⟩
    rw [e1]
    conv => lhs; rw [← List.take_append_drop mc.length u, e2]
/-- a contract's end, weaker -/
theorem ev_Cq {g : ev_G} {M : ev_M} {d : Nat} {as : List Value} {h : List ev_AC} {kc ks : Nat} {Q Q' : ev_O → List ev_AC → Prop} (c : ev_C g M d as h kc ks Q) (hq : ∀ o h', Q o h' → Q' o h') : ev_C g M d as h kc ks Q' := by
  intro p e a1 a2 a3 s m args below a4 a5 a6 a7
  obtain ⟨n, o, b1, b2, b3, ⟨out, h', b4, b5, b6⟩, b7⟩ := c p e a1 a2 a3 s m args below a4 a5 a6 a7
  exact ⟨n, o, b1, b2, b3, ⟨out, h', b4, hq _ _ b5, b6⟩, b7⟩
section LB3
variable {g : ev_G} {d : Nat} {s : SG} {ty : Int} {rs : RS} {kn : Bool} {S : Int → Int} {mc : List ev_AC} {e : Nat} {h : List ev_AC}
/-- findAll in the laboratory's heap -/
theorem ct_find (hh : LO s ty rs S mc e kn h) : ev_C g mO_findAll (d + 26) [.ref 13] h (ly_e kn e s - e) (128 * 2 ^ ly_e kn e s - 128 * 2 ^ e)
    (fun o h' => o = .inl none ∧ LO s ty rs S mc (ly_e kn e s) true h') := by
  obtain ⟨fo, kr, R, A, mk, x, tl, hL, hr, hk, hA⟩ := hh
  obtain ⟨ok, B, lo, hi, rfl, gvv⟩ := hL
  cases kn with
  | true =>
    rw [show ly_e true e s = e from rfl, Nat.sub_self, Nat.sub_self]
    refine ev_Cq (ct_findKnown (d := d + 26)) (fun o h' q => ?_)
    obtain ⟨q1, q2⟩ := q
    exact ⟨q1, fo, kr, R, A, mk, x, tl, ⟨ok, B, lo, hi, q2, gvv⟩, hr, hk, hA⟩
  | false =>
    have c := ct_findAll (g := g) (d := d) (L := s.1) (n := s.2.1) (tn := s.2.2.1) (P := s.2.2.2.1) (K := s.2.2.2.2) (c0 := lc ty) (q1 := rq rs) (q2 := ev_ia 7 rs.2.2.1) (q3 := ev_ia 6 rs.2.2.2.1) (q4 := ev_ia 6 rs.2.2.2.2.1) (q5 := ev_ia 6 rs.2.2.2.2.2.1) (q6 := ev_ia 6 rs.2.2.2.2.2.2) (mk := mk) (fo := fo) ok.2.2.1 ok.2.2.2.1 (fun i a b => (ok.2.2.2.2.1 i a b).2.2) (gv_lo ok gvv) (gv_hi ok gvv) (gv_B ok gvv) hr
    rw [ly_all_gv ok gvv] at c
    refine ev_Cq c (fun o h' q => ?_)
    obtain ⟨q1, k', R', t', q2, q3, q4⟩ := q
    obtain ⟨⟨x', tl', rfl⟩, hk'⟩ := ly_fr_sh q4 hk
    exact ⟨q1, _, k', R', ly_all s, _, x', tl', ⟨ok, B, lo, hi, q2, gvv⟩, q3, hk', fun _ => ⟨rfl, rfl, rfl⟩⟩
theorem ct_Forders (hh : LO s ty rs S mc e kn h) : ev_C g mF_orders (d + 27) [.ref 0] h (ly_e kn e s - e) (128 * 2 ^ ly_e kn e s - 128 * 2 ^ e)
    (fun o h' => o = .inl (some (ev_i ((ly_all s).length : Nat))) ∧ LO s ty rs S mc (ly_e kn e s) true h') := by
  have hh0 := hh
  obtain ⟨fo, kr, R, A, mk, x, tl, hL, hr, hk, hA⟩ := hh
  obtain ⟨ok, B, lo, hi, rfl, gvv⟩ := hL
  refine ev_ofE (by decide +kernel) rfl (Nat.le_of_ble_eq_true rfl) rfl rfl ?_
  refine ev_aload_n dF_orders_0 rfl ?_
  refine ev_get dF_orders_1 fl_F_28 rfl rfl ?_
  refine ev_callV dF_orders_4 cv_F_144 rfl rfl (Nat.le_of_ble_eq_true rfl) (ct_find (d := d) hh0) (Nat.le_refl _) (Nat.le_refl _) rfl (fun v h' q => ?_)
  obtain ⟨qv, q⟩ := q
  have hv : v = none := Sum.inl.inj qv
  subst hv
  have q0 := q
  obtain ⟨fo, kr, R, A, mk, x, tl, hL, hr, hk, hA⟩ := q
  obtain ⟨ok, B, lo, hi, rfl, gvv⟩ := hL
  obtain ⟨hfo, hAl, hmk⟩ := hA rfl
  subst hfo
  subst hAl
  refine ev_aload_n dF_orders_7 rfl ?_
  refine ev_get dF_orders_8 fl_F_28 rfl rfl ?_
  refine ev_get dF_orders_11 fl_F_147 rfl rfl ?_
  refine ev_ireturn dF_orders_14 rfl ?_
  exact ⟨rfl, q0⟩
end LB3
end
section
/-! Exceptions: the walk seen from where it stands -/
section EX0
variable {p : Program} {l : Launch} {e : Env} {R : Room} {s : State} {m : MethodId} {args : Array Value} {below : List Frame} {meth : Method} {c : Code} {T : State} {locs : List Loc} {cells slots : Nat}
theorem ev_hears {s T : State} {m : MethodId} {fs below : List Frame} (h : s.vm.Alike T.vm) : (T.setFrames fs).hears m below = s.hears m below := by
  have h1 : ∀ q, (T.setFrames fs).code? q = s.code? q := fun q => (State.code?_setVm (s := s) (vm' := T.vm) h q)
  have h2 : (T.setFrames fs).vm.method? m = s.vm.method? m := h.method? m
  cases below with
  | nil => show ((T.setFrames fs).vm.method? m).any _ = _; rw [h2]; rfl
  | cons f r =>
    cases f <;> first
      | rfl
      | (show Option.isSome (((T.setFrames fs).code? _).bind _) = _; rw [h1]; rfl)
      | (show ((T.setFrames fs).vm.method? m).any _ = _; rw [h2]; rfl)
/-- the invocation, as if it began here -/
theorem ev_rebase (X : Stand p l e R s m args below meth c T locs cells slots) {kc ks : Nat} (h1 : cells + kc ≤ R.cells) (h2 : slots + ks ≤ R.slots) :
    Stand p l e { R with cells := kc, slots := ks } (T.setFrames (.invoking m args :: below)) m args below meth c T [] 0 0 := by
  obtain ⟨g0, hg⟩ := Option.isSome_iff_exists.mp X.here.top
  obtain ⟨r, hr⟩ := State.topJava?_eq_some.mp hg
  have hcur : T.cur < T.threads.size := State.cur_lt_of_frames hr
  have hm : T.vm.method? m = some meth := by rw [X.warmed.alike.method?]; exact X.method
  have hfs := State.frames_setFrames (s := T) (.invoking m args :: below) hcur
  have own : T.setFrames T.frames = T := congrArg (fun q : State => q.setVm T.vm) (Jvm.Sym.setFrames_own X.same)
  obtain ⟨t, ht, -⟩ := State.frames_cons hfs
  refine ⟨X.admits, X.cas, X.clock, hfs, ?_, (ev_hears X.warmed.alike).trans X.hears, hm, X.code, X.here, X.tail, State.WarmedH.refl _, by rw [State.stackLimits_setFrames], by rw [State.stackBytes_setFrames], ?_⟩
  · have hR := X.room
    have hb := X.book
    have hz := X.heapSize
    have hu := X.used
    have hlim := X.limits
    have hby := X.bytes
    simp only [State.hasRoom, Bool.and_eq_true, decide_eq_true_eq] at hR ⊢
    rw [State.localsInUse_invoking hfs hm X.code, hfs, State.stackLimits_setFrames, State.stackBytes_setFrames, hlim, hby]
    rw [State.localsInUse_invoking X.frames X.method X.code, X.frames] at hR
    obtain ⟨⟨⟨⟨r1, r2⟩, r3⟩, r4⟩, r5⟩ := hR
    refine ⟨⟨⟨⟨r1, r2⟩, ?_⟩, ?_⟩, hb⟩
    · show T.heap.size + kc ≤ _; omega
    · show T.slotsUsed + ks ≤ _; omega
  · have q := (State.sameButNew.refl _ ht).setFrames T.frames (State.cur_lt_of_frames hfs)
    rw [State.setFrames_setFrames, own] at q
    exact q
end EX0
def ev_nm : List String := ["java/lang/RuntimeException", "java/lang/Exception"]
def ev_XZ : List Cond := [.laysStatic "java/lang/Throwable" "UNASSIGNED_STACK" "[Ljava/lang/StackTraceElement;", .laysStatic "java/lang/Throwable" "SUPPRESSED_SENTINEL" "Ljava/util/List;", .isRef (.static "java/lang/Throwable" "UNASSIGNED_STACK" "[Ljava/lang/StackTraceElement;"), .isRef (.static "java/lang/Throwable" "SUPPRESSED_SENTINEL" "Ljava/util/List;")]
def ev_okW (a : Cond) : Bool := ((decide (a ∈ tables_1_1) || decide (a ∈ tables_1_2) || decide (a ∈ tables_1_3)) && goodWord a && (a.onTables && a.keeps)) || decide (a ∈ ev_XA) || decide (a ∈ ev_XZ)
def ev_OW (own : String) (ic : Nat) (C : String) : Prop := ∀ a ∈ Bundle.ownAtoms own ic C ev_nm, (a ∈ ev_WS ∧ (a.onTables && a.keeps) = true) ∨ a ∈ ev_XA ∨ a ∈ ev_XZ
theorem ev_OW_of {own : String} {ic : Nat} {C : String} (h : (Bundle.ownAtoms own ic C ev_nm).all ev_okW = true) : ev_OW own ic C := by
  intro a ha
  have h1 := List.all_eq_true.mp h a ha
  simp only [ev_okW, Bool.or_eq_true, Bool.and_eq_true, decide_eq_true_eq] at h1
  rcases h1 with (⟨⟨h1, h2⟩, h3⟩ | h1) | h1
  · refine Or.inl ⟨List.mem_filter.mpr ⟨?_, h2⟩, by rw [h3.1, h3.2]; rfl⟩
    rcases h1 with (h1 | h1) | h1
    · exact List.mem_append_right _ (List.mem_append_left _ h1)
    · exact List.mem_append_right _ (List.mem_append_right _ (List.mem_append_left _ h1))
    · exact List.mem_append_right _ (List.mem_append_right _ (List.mem_append_right _ (List.mem_append_left _ h1)))
  · exact Or.inr (Or.inl h1)
  · exact Or.inr (Or.inr h1)
theorem ow_48 : ev_OW RF 48 "java/lang/IllegalArgumentException" := ev_OW_of (by decide +kernel)
theorem ow_61 : ev_OW RF 61 "java/lang/UnsupportedOperationException" := ev_OW_of (by decide +kernel)
theorem ow_90 : ev_OW RF 90 "java/lang/IndexOutOfBoundsException" := ev_OW_of (by decide +kernel)
section EX1
variable {g : ev_G} {M : ev_M} {d pc : Nat} {ls : List (Option Value)} {st : List Value} {h : List ev_AC} {kc ks : Nat} {Q : ev_O → List ev_AC → Prop}
theorem ev_warmW {s U : State} {args args' : Array Value} {w : Cond} (hg : (w.onTables && w.keeps) = true) (hW : s.WarmedH U.vm) (h : w.before args s = true) : w.before args' U = true :=
  Cond.onTables_warm (T := U) hW (Bool.and_eq_true_iff.mp hg).1 (Bool.and_eq_true_iff.mp hg).2 h
/-- new, dup, ldc, the constructor, athrow -/
theorem ev_throw {jc si ic ci : Nat} {C : String} (hd0 : decode M.2.1 pc = .ok (.new jc, 3)) (hd3 : decode M.2.1 (pc + 3) = .ok (.dup, 1)) (hd4 : decode M.2.1 (pc + 4) = .ok (.ldc si, 2)) (hd6 : decode M.2.1 (pc + 6) = .ok (.invokespecial ic, 3)) (hd9 : decode M.2.1 (pc + 9) = .ok (.athrow, 1))
    (hcl : ev_CL[ci]? = some (C, TX, 0)) (w1 : Cond.classLink M.1.cls jc C ∈ ev_WS) (w2 : Cond.instantiable C 6 ∈ ev_WS) (w3 : Cond.initialized C ∈ ev_WS) (w4 : si ∈ ev_SR) (hRF : M.1.cls = RF)
    (hO : ev_OW M.1.cls ic C) (hfit : Bundle.fit C = true) (htb : M.2.2.2.2 = []) (hs : (st.map fun v => v.category).sum ≤ 8) (hd : 6 ≤ d)
    (kk : Q (.inr h.length) (h ++ [.inr (ci, [])])) : ev_E g true M d pc ls st h (kc + 1) (ks + 6) Q := by
  intro p e R s m args below meth c H locs cells slots rls C0
  obtain ⟨hx, hb, hml, hown, hts, hK, hN, hret, hlk, hnm, htab, h0, hXS⟩ := C0.1
  intro T hT X
  have hcc := C0.2.2.2.2.1
  have X' := ev_rebase X (kc := 1) (ks := 6) (by omega) (by omega)
  have hW : s.WarmedH (T.setFrames (.invoking m args :: below)).vm := X.warmed
  have hXS' : ev_XS g (T.setFrames (.invoking m args :: below)) := ev_XS_warm hW C0.2.2.1 hT h0 hXS
  have wd : ∀ w, w ∈ ev_WS → (w.onTables && w.keeps) = true → w.before args (T.setFrames (.invoking m args :: below)) = true := fun w hw hg => ev_warmW hg hW (hts w hw)
  have hown' : (T.setFrames (.invoking m args :: below)).vm.findClass M.1.cls = some m.cls := by rw [hW.alike.findClass]; exact hown
  have hfc : (T.setFrames (.invoking m args :: below)).vm.findClass C = some ((ev_Dg g).1 ci) := by rw [hW.alike.findClass]; exact (hK.1 ci _ hcl).2.1
  obtain ⟨tx, q, hZ⟩ := hXS'.2.2.2.2.1 si w4
  rw [← hRF] at hZ
  have hcur : s.cur < s.threads.size := X.cur
  have wk : W p (ev_l g) e { R with cells := 1, slots := 6 } (T.setFrames (.invoking m args :: below)) m args below meth c H [] 0 0 (ev_MQ true below (ev_QX g Q) args s R.cells R.slots (fun q => ev_z g ≤ q)) (F0 m pc rls (st.map (ev_rv g))) := by
    refine W.newcK (n := 6) hx hb hown' (wd _ w1 rfl) (wd _ w2 rfl) (wd _ w3 rfl) rfl hd0 (Nat.le_refl _) (Nat.le_refl _) hfc rfl fun H1 kC hkC e1 z1 o1 => ?_
    refine lv_dup hx hb hd3 rfl ?_
    refine va_ldcS hx hb hown' hZ hd4 ?_
    intro T2 hT2 X2
    have hR := C0.2.1
    have hb2 : c.code = M.2.1 := hb
    have hsum := ev_rv_sum g st
    obtain ⟨U, u1, u2, u3, u4, u5, ce, u6, u7⟩ := X2.ctorThrowS hx (by rw [X.admits.platform]; exact hXS.1) (own := M.1.cls) (cls := C) (names := ev_nm) (ic := ic) hown' hfit (by decide +kernel) (fun a ha => by
        rcases hO a ha with ⟨h1, h2⟩ | h1 | h1
        · exact wd a h1 h2
        · exact hXS'.2.1 a h1 args
        · simp only [ev_XZ, List.mem_cons, List.not_mem_nil, or_false] at h1
          rcases h1 with rfl | rfl | rfl | rfl
          · exact hXS'.2.2.1.1 args
          · exact hXS'.2.2.2.1.1 args
          · exact hXS'.2.2.1.2.1 args
          · exact hXS'.2.2.2.1.2.1 args) (fun x hx => by cases hx) (a := H.size) hfc hkC (by rw [hT2]; exact e1) (by show T.heap.size ≤ H.size; rw [hT]; exact Nat.le_refl _) (msg := .ref q) rfl
        (g := F0 m (pc + 6) rls (.ref q :: .ref H.size :: .ref H.size :: st.map (ev_rv g))) rfl (by rw [hml]; exact C0.2.2.2.2.2.2.1.1) rfl rfl rfl (by rw [hb]; exact hd6) (by rw [hb]; exact hd9) (by rw [htab, htb]; intro x hx; cases hx) (by show 2 + 3 < R.frames; omega) (by
          show 2 * 0 + (1 + ((st.map (ev_rv g)).map fun v => v.category).sum) + (13 * (2 + 1) + 42) ≤ R.locals
          omega) hlk
    refine ⟨U, u1, .threw H.size, u2, u3, ⟨.inr h.length, h ++ [.inr (ci, [])], by rw [C0.2.2.1.1]; rfl, kk, ?_⟩, locs, ⟨Or.inl rfl, State.WarmedH.trans X.warmed u4, ?_⟩, C0.2.2.2.1⟩
    · have hsz : U.heap.size = H.size + 1 := by
        have a1 : U.heap.size ≤ T.heap.size + 1 := u5.2.2.1
        have a2 : H.size < U.heap.size := (Array.getElem?_eq_some_iff.mp u6).1
        rw [hT] at a1
        omega
      refine C0.2.2.1.push hsz (fun q hq => ?_) ⟨_, hcl, ce, u6, ?_, u7.vm, fun k hk => absurd hk (Nat.not_lt_zero _)⟩
      · have a1 : T.heap[q]? = some H[q] := by rw [hT]; exact Array.getElem?_eq_getElem hq
        have a2 : U.heap[q]? = some H[q] := u5.old_cell a1
        rw [a2, Array.getElem?_eq_getElem hq]
      · have a1 := u7.cls
        rw [hfc] at a1
        exact (Option.some.inj a1).symm
    · have a1 := (X.same.setFrames (.invoking m args :: below) hcur).trans (u5.setVm s.vm)
      exact a1.weaken (fun x hx _ => by rw [List.append_nil] at hx; exact hx) (by omega) (by omega)
  exact wk T hT X'
end EX1
end
section
/-! Methods that may throw -/
def ev_T (g : ev_G) (M : ev_M) (d : Nat) (as : List Value) (h : List ev_AC) (kc ks : Nat) (Q : ev_O → List ev_AC → Prop) : Prop :=
  MetFree (ev_l g) M.1 (headSpec (ev_ws M) { frames := d, cells := kc, slots := ks, locals := 40 * d }) (ev_Pc g as h) (fun _ _ _ _ _ => True)
    (fun a st o t => ev_QX g Q a st o t ∧ ∃ L, ev_FE true st o t L kc ks ∧ ∀ q ∈ L, ev_z g ≤ q.base)
section EX2
variable {g : ev_G} {M : ev_M} {d pc : Nat} {ls : List (Option Value)} {st : List Value} {h : List ev_AC} {kc ks : Nat} {Q : ev_O → List ev_AC → Prop}
theorem ev_ofT {as : List Value} (hpl : plainName M.1.cls = true) (hhh : M.2.2.2.2 = []) (hn : as.length ≤ M.2.2.1) (hcat : as.all (fun v => v.category == 1) = true) (hls : as.map some ++ List.replicate (M.2.2.1 - as.length) none = ls)
    (k : ev_E g true M d 0 ls [] h kc ks Q) : ev_T g M d as h kc ks Q := by
  subst hls
  refine MetFree.of_bodyS (code := M.2.1) (maxLocals := M.2.2.1) (ret := M.2.2.2.1) hpl ?_ ?_
  · intro args s m h hn
    obtain ⟨meth, c, h1, h2, h3, h4, h5, h6, -, -⟩ := Cond.code_spec hn (atoms_spec (ws := ev_ws M) h _ List.mem_cons_self)
    exact ⟨meth, c, h1, h2, h3, h4, h5, h6⟩
  · intro p e s m args below meth c s₁ B hml hv _
    have hh0 : s₁.heap = s.heap := by rw [B.state]; rfl
    obtain ⟨rfl, hH, hK, hN, hX⟩ := hv
    have hts := atoms_spec (ws := ev_ws M) B.pre
    have hcat' : ∀ v ∈ as, v.category = 1 := fun v hv => by simpa using List.all_eq_true.mp hcat v hv
    have htab : c.exceptionTable.toList = tableOf M.2.2.2.2 := by
      have h1 := B.noHandlers (hts _ List.mem_cons_self)
      rw [hhh]
      have h2 : c.exceptionTable = #[] := by simpa using h1
      rw [h2]; rfl
    have := k p e { frames := d, cells := kc, slots := ks, locals := 40 * d } s m _ below meth c s.heap [] 0 0 _
      ⟨⟨B.exec, B.bytes, hml, findClass_of_methodNamed B.named, fun w hw => hts w (List.mem_cons_of_mem _ hw), hK, hN, B.returns, B.notSynchronized, (name_of_methodNamed B.named B.method).1, htab, ⟨h, hH⟩, hX⟩,
        ⟨Nat.le_refl _, Nat.le_refl _⟩, hH, (fun q hq => by cases hq), ⟨by simp, by simp⟩, ev_LH.entry hn hcat'⟩
    rw [lg_entry_eq]
    obtain ⟨t, a, o, b1, b2, b3, L, b4, b5⟩ := this s₁ hh0 (Stand.of_body B)
    exact ⟨t, o, a, b1, b2, b3, L, b4, b5⟩
theorem ev_throwA {si : Nat} (hd0 : decode M.2.1 pc = .ok (.new 44, 3)) (hd3 : decode M.2.1 (pc + 3) = .ok (.dup, 1)) (hd4 : decode M.2.1 (pc + 4) = .ok (.ldc si, 2)) (hd6 : decode M.2.1 (pc + 6) = .ok (.invokespecial 48, 3)) (hd9 : decode M.2.1 (pc + 9) = .ok (.athrow, 1))
    (w4 : si ∈ ev_SR) (hRF : M.1.cls = RF) (htb : M.2.2.2.2 = []) (hs : (st.map fun v => v.category).sum ≤ 8) (hd : 6 ≤ d) (kk : Q (.inr h.length) (h ++ [.inr (5, [])])) : ev_E g true M d pc ls st h (kc + 1) (ks + 6) Q :=
  ev_throw (ci := 5) hd0 hd3 hd4 hd6 hd9 rfl (by rw [hRF]; exact ev_inB 174 rfl rfl) (ev_inB 175 rfl rfl) (ev_inA 10 rfl rfl) w4 hRF (by rw [hRF]; exact ow_48) (by decide +kernel) htb hs hd kk
theorem ev_throwU {si : Nat} (hd0 : decode M.2.1 pc = .ok (.new 57, 3)) (hd3 : decode M.2.1 (pc + 3) = .ok (.dup, 1)) (hd4 : decode M.2.1 (pc + 4) = .ok (.ldc si, 2)) (hd6 : decode M.2.1 (pc + 6) = .ok (.invokespecial 61, 3)) (hd9 : decode M.2.1 (pc + 9) = .ok (.athrow, 1))
    (w4 : si ∈ ev_SR) (hRF : M.1.cls = RF) (htb : M.2.2.2.2 = []) (hs : (st.map fun v => v.category).sum ≤ 8) (hd : 6 ≤ d) (kk : Q (.inr h.length) (h ++ [.inr (6, [])])) : ev_E g true M d pc ls st h (kc + 1) (ks + 6) Q :=
  ev_throw (ci := 6) hd0 hd3 hd4 hd6 hd9 rfl (by rw [hRF]; exact ev_inC 11 rfl rfl) (ev_inC 12 rfl rfl) (ev_inA 11 rfl rfl) w4 hRF (by rw [hRF]; exact ow_61) (by decide +kernel) htb hs hd kk
theorem ev_throwO {si : Nat} (hd0 : decode M.2.1 pc = .ok (.new 86, 3)) (hd3 : decode M.2.1 (pc + 3) = .ok (.dup, 1)) (hd4 : decode M.2.1 (pc + 4) = .ok (.ldc si, 2)) (hd6 : decode M.2.1 (pc + 6) = .ok (.invokespecial 90, 3)) (hd9 : decode M.2.1 (pc + 9) = .ok (.athrow, 1))
    (w4 : si ∈ ev_SR) (hRF : M.1.cls = RF) (htb : M.2.2.2.2 = []) (hs : (st.map fun v => v.category).sum ≤ 8) (hd : 6 ≤ d) (kk : Q (.inr h.length) (h ++ [.inr (7, [])])) : ev_E g true M d pc ls st h (kc + 1) (ks + 6) Q :=
  ev_throw (ci := 7) hd0 hd3 hd4 hd6 hd9 rfl (by rw [hRF]; exact ev_inC 39 rfl rfl) (ev_inC 40 rfl rfl) (ev_inA 12 rfl rfl) w4 hRF (by rw [hRF]; exact ow_90) (by decide +kernel) htb hs hd kk
end EX2
/-- thrown: an object of class ci -/
def ev_X (ci : Nat) (o : ev_O) (h' : List ev_AC) : Prop := ∃ i, o = .inr i ∧ h'[i]? = some (.inr (ci, []))
theorem ev_X_of {ci : Nat} {h : List ev_AC} : ev_X ci (.inr h.length) (h ++ [.inr (ci, [])]) := ⟨h.length, rfl, by simp⟩
theorem ly_rw_app {A : List Nat} {e k : Nat} {R : Int → Int} {t u : List ev_AC} (h : ly_rw A e k R t) : ly_rw A e k R (t ++ u) :=
  ⟨by rw [List.getElem?_append_left (List.getElem?_eq_some_iff.mp h.1).1]; exact h.1, h.2⟩
section LB4
variable {g : ev_G} {d : Nat} {s s' : SG} {ty : Int} {rs : RS} {kn : Bool} {S : Int → Int} {mc : List ev_AC} {e : Nat} {h : List ev_AC}
theorem LO_push {c : ev_AC} (hh : LO s ty rs S mc e kn h) : LO s ty rs S mc e kn (h ++ [c]) := by
  obtain ⟨fo, kr, R, A, mk, x, tl, hL, hr, hk, hA⟩ := hh
  obtain ⟨ok, B, lo, hi, rfl, gvv⟩ := hL
  refine ⟨fo, kr, R, A, mk, x, tl ++ [c], ⟨ok, B, lo, hi, ?_, gvv⟩, ?_, hk, hA⟩
  · rw [← List.append_assoc]; rfl
  · rw [← List.append_assoc]; exact ly_rw_app (u := [c]) hr
theorem LO_try {c : Int} {fo : Int} {kr : Nat} {R : Int → Int} {A : List Nat} {mk : Int64} {x : ev_AC} {tl : List ev_AC} (hs : c ≠ 0 → s' = s) (hL : LR s' ty rs (lb_kn c kn) fo (kr + 14) mk (x :: ev_ia 60 S :: (mc ++ tl)) h)
    (hr : ly_rw A e kr R (x :: ev_ia 60 S :: (mc ++ tl))) (hk : kr = 0 ∨ mc.length + 2 ≤ kr) (hA : kn = true → fo = (A.length : Nat) ∧ A = ly_all s ∧ mk = ly_ms s.2.1 0 A) : LO s' ty rs S mc e (lb_kn c kn) h := by
  refine ⟨fo, kr, R, A, mk, x, tl, hL, hr, hk, fun q => ?_⟩
  unfold lb_kn at q
  split at q
  · cases q
  · rename_i hc
    rw [hs hc]
    exact hA q
theorem ct_Fstrip {l : Int} (l1 : -2147483648 ≤ l) (l2 : l < 2147483648) (hh : LO s ty rs S mc e kn h) :
    ev_T g mF_strip (d + 6) [.ref 0, ev_i l] h 1 6 (fun o h' => (if (lb_strip s l).1 = 0 then o = .inl none else ev_X 5 o h') ∧ LO (lb_strip s l).2 ty rs S mc e (lb_kn (lb_strip s l).1 kn) h') := by
  obtain ⟨fo, kr, R, A, mk, x, tl, hL, hr, hk, hA⟩ := hh
  have hL0 := hL
  obtain ⟨ok, B, lo, hi, rfl, gvv⟩ := hL
  have hs : (lb_strip s l).1 ≠ 0 → (lb_strip s l).2 = s := by
    unfold lb_strip
    split
    · intro q; exact absurd rfl q
    · intro _; rfl
  have hc : (lb_strip s l).1 = 0 ∨ (lb_strip s l).1 = 1 := by
    unfold lb_strip
    split
    · exact Or.inl rfl
    · exact Or.inr rfl
  refine ev_ofT (by decide +kernel) rfl (Nat.le_of_ble_eq_true rfl) rfl rfl ?_
  refine ev_aload_n dF_strip_0 rfl ?_
  refine ev_iload_n dF_strip_1 rfl ?_
  refine ev_callV dF_strip_2 cv_F_40 rfl rfl (Nat.le_of_ble_eq_true rfl) (ct_tryStrip (d := d + 1) l1 l2 hL0) (Nat.zero_le _) (Nat.zero_le _) rfl (fun v h' q => ?_)
  obtain ⟨qv, q⟩ := q
  have hv : v = some (ev_i (lb_strip s l).1) := Sum.inl.inj qv
  subst hv
  have q0 : LO (lb_strip s l).2 ty rs S mc e (lb_kn (lb_strip s l).1 kn) h' := LO_try hs q hr hk hA
  refine ev_if_eq (tgt := 18) dF_strip_5 rfl (by omega) (by omega) (fun hb => ?_) (fun hb => ?_)
  · refine ev_return dF_strip_18 rfl ?_
    exact ⟨by rw [if_pos hb], q0⟩
  · refine ev_throwA dF_strip_8 dF_strip_11 dF_strip_12 dF_strip_14 dF_strip_17 (by decide) rfl rfl (Nat.le_of_ble_eq_true rfl) (by omega) ?_
    exact ⟨by rw [if_neg hb]; exact ev_X_of, LO_push q0⟩
end LB4
end
section
/-! The laboratory's throwing methods -/
def lb_out (r : Int ⊕ Nat) (o : ev_O) (h' : List ev_AC) : Prop := match r with
  | .inl v => o = .inl (some (ev_i v))
  | .inr ci => ev_X ci o h'
def lb_creaseR (s : SG) (p m : Int) : Int ⊕ Nat := if (lb_crease s p m).1 = 1 then .inr 5 else if (lb_crease s p m).1 = 2 then .inr 6 else .inl (lb_crease s p m).2.2.1
def lb_where (s : SG) (p : Int) : Int ⊕ Nat := if p < 0 ∨ s.1 < p then .inr 5 else .inl (sp_B s.1 s.2.1 s.2.2.2.1 (sp_bef s.2.1 s.2.2.2.1 p) + sp_dir (sp_bef s.2.1 s.2.2.2.1 p) * (p - sp_le s.2.2.2.1 (sp_bef s.2.1 s.2.2.2.1 p)))
def lb_type (ty w : Int) : Int ⊕ Nat := if w < 32 ∨ 126 < w then .inr 5 else if 60 ≤ ty then .inr 6 else .inl (ty + 1)
theorem ly_rw_y {A : List Nat} {e k : Nat} {R : Int → Int} {x y y' : ev_AC} {u : List ev_AC} (h : ly_rw A e k R (x :: y :: u)) (hk : k ≠ 1) : ly_rw A e k R (x :: y' :: u) := by
  refine ⟨?_, h.2⟩
  have h1 := h.1
  match k, hk, h1 with
  | 0, _, h1 => exact h1
  | 1, hk, _ => exact absurd rfl hk
  | k + 2, _, h1 => exact h1
section LB5
variable {g : ev_G} {d : Nat} {s s' : SG} {ty : Int} {rs : RS} {kn : Bool} {S : Int → Int} {mc : List ev_AC} {e : Nat} {h : List ev_AC}
theorem ct_Fcrease {p m : Int} (p1 : -2147483648 ≤ p) (p2 : p < 2147483648) (m1 : -2147483648 ≤ m) (m2 : m < 2147483648) (hh : LO s ty rs S mc e kn h) :
    ev_T g mF_crease (d + 6) [.ref 0, ev_i p, ev_i m] h 1 6 (fun o h' => lb_out (lb_creaseR s p m) o h' ∧ LO (lb_crease s p m).2 ty rs S mc e (lb_kn (lb_crease s p m).1 kn) h') := by
  obtain ⟨fo, kr, R, A, mk, x, tl, hL, hr, hk, hA⟩ := hh
  have hL0 := hL
  obtain ⟨ok, B, lo, hi, rfl, gvv⟩ := hL
  have hs : (lb_crease s p m).1 ≠ 0 → (lb_crease s p m).2 = s := fun q => if_neg q
  have hc : 0 ≤ (lb_crease s p m).1 ∧ (lb_crease s p m).1 ≤ 2 := sp_jd_bd
  refine ev_ofT (by decide +kernel) rfl (Nat.le_of_ble_eq_true rfl) rfl rfl ?_
  refine ev_aload_n dF_crease_0 rfl ?_
  refine ev_iload_n dF_crease_1 rfl ?_
  refine ev_iload_n dF_crease_2 rfl ?_
  refine ev_callV dF_crease_3 cv_F_51 rfl rfl (Nat.le_of_ble_eq_true rfl) (ct_tryCrease (d := d + 1) p1 p2 m1 m2 hL0) (Nat.zero_le _) (Nat.zero_le _) rfl (fun v h' q => ?_)
  obtain ⟨qv, q⟩ := q
  have hv : v = some (ev_i (lb_crease s p m).1) := Sum.inl.inj qv
  subst hv
  have q0 : LO (lb_crease s p m).2 ty rs S mc e (lb_kn (lb_crease s p m).1 kn) h' := LO_try hs q hr hk hA
  obtain ⟨ok', B', lo', hi', rfl, gvv'⟩ := q
  refine ev_istore_n dF_crease_6 (Nat.le_of_ble_eq_true rfl) ?_
  refine ev_iload_n dF_crease_7 rfl ?_
  refine ev_iconst dF_crease_8 ?_
  refine ev_icmp_ne (tgt := 22) dF_crease_9 rfl (by omega) (by omega) (by omega) (by omega) (fun h1 => ?_) (fun h1 => ?_)
  · refine ev_iload_n dF_crease_22 rfl ?_
    refine ev_iconst dF_crease_23 ?_
    refine ev_icmp_ne (tgt := 37) dF_crease_24 rfl (by omega) (by omega) (by omega) (by omega) (fun h2 => ?_) (fun h2 => ?_)
    · refine ev_aload_n dF_crease_37 rfl ?_
      refine ev_get dF_crease_38 fl_F_12 rfl rfl ?_
      refine ev_get dF_crease_41 fl_F_62 rfl rfl ?_
      refine ev_ireturn dF_crease_44 rfl ?_
      refine ⟨?_, q0⟩
      unfold lb_creaseR
      rw [if_neg h1, if_neg h2]
      rfl
    · refine ev_throwU dF_crease_27 dF_crease_30 dF_crease_31 dF_crease_33 dF_crease_36 (by decide) rfl rfl (Nat.le_of_ble_eq_true rfl) (by omega) ?_
      refine ⟨?_, LO_push q0⟩
      unfold lb_creaseR
      rw [if_neg h1, if_pos h2]
      exact ev_X_of
  · refine ev_throwA dF_crease_12 dF_crease_15 dF_crease_16 dF_crease_18 dF_crease_21 (by decide) rfl rfl (Nat.le_of_ble_eq_true rfl) (by omega) ?_
    refine ⟨?_, LO_push q0⟩
    unfold lb_creaseR
    rw [if_pos h1]
    exact ev_X_of
theorem ct_FwhereIs {p : Int} (p1 : -2147483648 ≤ p) (p2 : p < 2147483648) (hh : LO s ty rs S mc e kn h) :
    ev_T g mF_whereIs (d + 6) [.ref 0, ev_i p] h 1 6 (fun o h' => lb_out (lb_where s p) o h' ∧ LO s ty rs S mc e kn h') := by
  have hh0 := hh
  obtain ⟨fo, kr, R, A, mk, x, tl, hL, hr, hk, hA⟩ := hh
  obtain ⟨L, n, tn, P, K⟩ := s
  obtain ⟨ok, B, lo, hi, rfl, gvv⟩ := hL
  have hL1 : 1 ≤ L := ok.1
  have hL2 : L ≤ 60 := ok.2.1
  refine ev_ofT (by decide +kernel) rfl (Nat.le_of_ble_eq_true rfl) rfl rfl ?_
  refine ev_iload_n dF_whereIs_0 rfl ?_
  refine ev_if_lt (tgt := 15) dF_whereIs_1 rfl (by omega) (by omega) (fun h1 => ?_) (fun h1 => ?_)
  · refine ev_throwA dF_whereIs_15 dF_whereIs_18 dF_whereIs_19 dF_whereIs_21 dF_whereIs_24 (by decide) rfl rfl (Nat.le_of_ble_eq_true rfl) (by omega) ?_
    refine ⟨?_, LO_push hh0⟩
    unfold lb_where
    rw [if_pos (Or.inl h1)]
    exact ev_X_of
  · refine ev_iload_n dF_whereIs_4 rfl ?_
    refine ev_aload_n dF_whereIs_5 rfl ?_
    refine ev_get dF_whereIs_6 fl_F_12 rfl rfl ?_
    refine ev_get dF_whereIs_9 fl_F_75 rfl rfl ?_
    refine ev_icmp_le (tgt := 25) dF_whereIs_12 rfl (by omega) (by omega) (by omega) (by omega) (fun h2 => ?_) (fun h2 => ?_)
    · refine ev_aload_n dF_whereIs_25 rfl ?_
      refine ev_get dF_whereIs_26 fl_F_12 rfl rfl ?_
      refine ev_iload_n dF_whereIs_29 rfl ?_
      refine ev_cV dF_whereIs_30 cv_F_113 (ct_foldedPlace (d := d + 3) (L := L) (n := n) (tn := tn) (P := P) (K := K) (B := B) (lo := lo) (hi := hi) (by omega) (by omega) ok) rfl rfl rfl (Nat.le_of_ble_eq_true rfl) (Nat.le_of_ble_eq_true rfl) (Nat.le_of_ble_eq_true rfl) ?_
      refine ev_ireturn dF_whereIs_33 rfl ?_
      refine ⟨?_, hh0⟩
      have hb := sp_bef_spec (n := n) (P := P) (p := p) ok.2.2.1
      have hB := gvv.1 (sp_bef n P p) hb.1 (by have h3 : sp_bef n P p ≤ n := hb.2.1; show sp_bef n P p ≤ n + 1; omega)
      unfold lb_where
      rw [if_neg (by show ¬ (p < 0 ∨ L < p); omega)]
      show Sum.inl (some (ev_i (B (sp_bef n P p) + sp_dir (sp_bef n P p) * (p - sp_le P (sp_bef n P p))))) = Sum.inl (some (ev_i (sp_B L n P (sp_bef n P p) + sp_dir (sp_bef n P p) * (p - sp_le P (sp_bef n P p)))))
      rw [hB]
    · refine ev_throwA dF_whereIs_15 dF_whereIs_18 dF_whereIs_19 dF_whereIs_21 dF_whereIs_24 (by decide) rfl rfl (Nat.le_of_ble_eq_true rfl) (by omega) ?_
      refine ⟨?_, LO_push hh0⟩
      unfold lb_where
      rw [if_pos (Or.inr (by show L < p; omega))]
      exact ev_X_of
theorem ct_Ftype {w : Int} (w1 : -2147483648 ≤ w) (w2 : w < 2147483648) (t0 : 0 ≤ ty) (t1 : ty ≤ 60) (hh : LO s ty rs S mc e kn h) :
    ev_T g mF_type (d + 6) [.ref 0, ev_i w] h 1 6 (fun o h' => lb_out (lb_type ty w) o h' ∧ LO s (if (32 ≤ w ∧ w ≤ 126) ∧ ty < 60 then ty + 1 else ty) rs (if (32 ≤ w ∧ w ≤ 126) ∧ ty < 60 then ev_up S ty w else S) mc e kn h') := by
  have hh0 := hh
  obtain ⟨fo, kr, R, A, mk, x, tl, hL, hr, hk, hA⟩ := hh
  obtain ⟨ok, B, lo, hi, rfl, gvv⟩ := hL
  refine ev_ofT (by decide +kernel) rfl (Nat.le_of_ble_eq_true rfl) rfl rfl ?_
  refine ev_iload_n dF_type_0 rfl ?_
  refine ev_bipush dF_type_1 rfl ?_
  refine ev_icmp_lt (tgt := 12) dF_type_3 rfl (by omega) (by omega) (by omega) (by omega) (fun h1 => ?_) (fun h1 => ?_)
  · refine ev_throwA dF_type_12 dF_type_15 dF_type_16 dF_type_18 dF_type_21 (by decide) rfl rfl (Nat.le_of_ble_eq_true rfl) (by omega) ?_
    rw [if_neg (by omega), if_neg (by omega)]
    refine ⟨?_, LO_push hh0⟩
    unfold lb_type
    rw [if_pos (Or.inl h1)]
    exact ev_X_of
  · refine ev_iload_n dF_type_6 rfl ?_
    refine ev_bipush dF_type_7 rfl ?_
    refine ev_icmp_le (tgt := 22) dF_type_9 rfl (by omega) (by omega) (by omega) (by omega) (fun h2 => ?_) (fun h2 => ?_)
    · refine ev_aload_n dF_type_22 rfl ?_
      refine ev_get dF_type_23 fl_F_36 rfl rfl ?_
      refine ev_bipush dF_type_26 rfl ?_
      refine ev_icmp_lt (tgt := 41) dF_type_28 rfl (by omega) (by omega) (by omega) (by omega) (fun h3 => ?_) (fun h3 => ?_)
      · refine ev_aload_n dF_type_41 rfl ?_
        refine ev_get dF_type_42 fl_F_32 rfl rfl ?_
        refine ev_aload_n dF_type_45 rfl ?_
        refine ev_get dF_type_46 fl_F_36 rfl rfl ?_
        refine ev_iload_n dF_type_49 rfl ?_
        refine ev_iast dF_type_50 rfl (by omega) (by omega) (by decide) ?_
        refine ev_aload_n dF_type_51 rfl ?_
        refine ev_dup dF_type_52 rfl ?_
        refine ev_get dF_type_53 fl_F_36 rfl rfl ?_
        refine ev_iconst dF_type_56 ?_
        refine ev_iadd dF_type_57 ?_
        refine ev_put dF_type_58 fp_F_36 (fun q => by cases q) rfl (Nat.le_of_ble_eq_true rfl) rfl rfl ?_
        refine ev_aload_n dF_type_61 rfl ?_
        refine ev_get dF_type_62 fl_F_36 rfl rfl ?_
        refine ev_ireturn dF_type_65 rfl ?_
        rw [if_pos (by omega), if_pos (by omega)]
        refine ⟨?_, fo, kr, R, A, mk, x, tl, ⟨ok, B, lo, hi, rfl, gvv⟩, ly_rw_y hr (by omega), hk, hA⟩
        unfold lb_type
        rw [if_neg (by omega), if_neg (by omega)]
        rfl
      · refine ev_throwU dF_type_31 dF_type_34 dF_type_35 dF_type_37 dF_type_40 (by decide) rfl rfl (Nat.le_of_ble_eq_true rfl) (by omega) ?_
        rw [if_neg (by omega), if_neg (by omega)]
        refine ⟨?_, LO_push hh0⟩
        unfold lb_type
        rw [if_neg (by omega), if_pos (by omega)]
        exact ev_X_of
    · refine ev_throwA dF_type_12 dF_type_15 dF_type_16 dF_type_18 dF_type_21 (by decide) rfl rfl (Nat.le_of_ble_eq_true rfl) (by omega) ?_
      rw [if_neg (by omega), if_neg (by omega)]
      refine ⟨?_, LO_push hh0⟩
      unfold lb_type
      rw [if_pos (by omega)]
      exact ev_X_of
end LB5
end
section
/-! The laboratory's throwing methods: segment, step -/
def lb_seg (s : SG) (i w : Int) : Int ⊕ Nat :=
  if 0 ≤ i ∧ i ≤ s.2.1 then
    (if w = 0 then .inl (sp_le s.2.2.2.1 i) else if w = 1 then .inl (sp_re s.1 s.2.1 s.2.2.2.1 i) else if w = 2 then .inl (sp_lo s.1 s.2.1 s.2.2.2.1 i) else if w = 3 then .inl (sp_hi s.1 s.2.1 s.2.2.2.1 i)
     else if w = 4 then .inl (ev_b (sp_up s.2.2.1 i)) else if w = 5 then .inl (if i < s.2.1 then s.2.2.2.2 i else -1) else .inr 5)
  else .inr 7
/-- how many reductions -/
def lb_steps (s : SG) (rs : RS) : Int := if 0 < sp_fr s.2.2.2.2 s.2.1.toNat then -1 else (rd_go s rs).2.1
def lb_step (s : SG) (rs : RS) (i w : Int) : Int ⊕ Nat :=
  if i < 0 ∨ lb_steps s rs ≤ i then .inr 7 else if w = 0 then .inl ((rd_go s rs).2.2.2.2.2.1 i) else if w = 1 then .inl ((rd_go s rs).2.2.2.2.2.2 i) else .inr 5
theorem rd_iter_b2 : ∀ (k i : Nat) (s : RS), i + k ≤ 6 → rd_inv i s → 1 ≤ (rd_iter k s).1 ∧ (rd_iter k s).2.1 + (rd_iter k s).1 ≤ 7
  | 0, _, s, _, h => ⟨h.1, h.2.2.2.1⟩
  | k + 1, i, s, hk, h => by
    unfold rd_iter
    by_cases h1 : 1 < s.1
    · rw [if_pos h1]
      cases he : rd_step s with
      | none => exact ⟨h.1, h.2.2.2.1⟩
      | some s' => exact rd_iter_b2 k (i + 1) s' (by omega) (rd_inv_s (by omega) h h1 he)
    · rw [if_neg h1]
      exact ⟨h.1, h.2.2.2.1⟩
theorem lb_steps_bd {s : SG} {rs : RS} (ok : sg_ok s) : -1 ≤ lb_steps s rs ∧ lb_steps s rs ≤ 6 := by
  unfold lb_steps
  split
  · omega
  · rename_i h
    rw [show rd_go s rs = rd_iter 6 (rd_st s rs) from if_neg h]
    have h1 := rd_iter_b2 6 0 _ (by omega) (rd_st_inv (rs := rs) ok)
    have h2 := rd_iter_bd 6 0 _ (by omega) (rd_st_inv (rs := rs) ok)
    omega
section LB6
variable {g : ev_G} {d : Nat} {s s' : SG} {ty : Int} {rs : RS} {kn : Bool} {S : Int → Int} {mc : List ev_AC} {e : Nat} {h : List ev_AC}
theorem ct_Fsegment {i w : Int} (i1 : -2147483648 ≤ i) (i2 : i < 2147483648) (w1 : -2147483648 ≤ w) (w2 : w < 2147483648) (hh : LO s ty rs S mc e kn h) :
    ev_T g mF_segment (d + 6) [.ref 0, ev_i i, ev_i w] h 1 6 (fun o h' => lb_out (lb_seg s i w) o h' ∧ LO s ty rs S mc e kn h') := by
  have hh0 := hh
  obtain ⟨fo, kr, R, A, mk, x, tl, hL, hr, hk, hA⟩ := hh
  obtain ⟨L, n, tn, P, K⟩ := s
  obtain ⟨ok, B, lo, hi, rfl, gvv⟩ := hL
  have hn0 : 0 ≤ n := ok.2.2.1
  have hn : n ≤ 6 := ok.2.2.2.1
  unfold lb_seg
  refine ev_ofT (by decide +kernel) rfl (Nat.le_of_ble_eq_true rfl) rfl rfl ?_
  refine ev_aload_n dF_segment_0 rfl ?_
  refine ev_get dF_segment_1 fl_F_12 rfl rfl ?_
  refine ev_iload_n dF_segment_4 rfl ?_
  refine ev_cV dF_segment_5 cv_F_82 (ct_hasSeg (d := d + 5) (L := L) (n := n) (tn := tn) (P := P) (K := K) (B := B) (lo := lo) (hi := hi) i1 i2 hn0 hn) rfl rfl rfl (Nat.le_of_ble_eq_true rfl) (Nat.le_of_ble_eq_true rfl) (Nat.le_of_ble_eq_true rfl) ?_
  refine ev_bn (tgt := 21) dF_segment_8 rfl (fun hb => ?_) (fun hb => ?_)
  · have hi' : 0 ≤ i ∧ i ≤ n := of_decide_eq_true hb
    rw [if_pos (show 0 ≤ i ∧ i ≤ (L, n, tn, P, K).2.1 from hi')]
    refine ev_iload_n dF_segment_21 rfl ?_
    by_cases h0 : w = 0
    · subst h0
      refine ev_tableIn (tgt := 60) dF_segment_22 w1 w2 (by decide) (by decide) rfl rfl ?_
      refine ev_aload_n dF_segment_60 rfl ?_
      refine ev_get dF_segment_61 fl_F_12 rfl rfl ?_
      refine ev_iload_n dF_segment_64 rfl ?_
      refine ev_cV dF_segment_65 cv_F_91 (ct_leftEnd (d := d + 5) (L := L) (n := n) (tn := tn) (P := P) (K := K) (B := B) (lo := lo) (hi := hi) hi'.1 (by omega)) rfl rfl rfl (Nat.le_of_ble_eq_true rfl) (Nat.le_of_ble_eq_true rfl) (Nat.le_of_ble_eq_true rfl) ?_
      refine ev_ireturn dF_segment_68 rfl ?_
      exact ⟨rfl, hh0⟩
    · by_cases h1 : w = 1
      · subst h1
        refine ev_tableIn (tgt := 69) dF_segment_22 w1 w2 (by decide) (by decide) rfl rfl ?_
        refine ev_aload_n dF_segment_69 rfl ?_
        refine ev_get dF_segment_70 fl_F_12 rfl rfl ?_
        refine ev_iload_n dF_segment_73 rfl ?_
        refine ev_cV dF_segment_74 cv_F_94 (ct_rightEnd (d := d + 5) (L := L) (n := n) (tn := tn) (P := P) (K := K) (B := B) (lo := lo) (hi := hi) hi'.1 (by omega) hn0 hn) rfl rfl rfl (Nat.le_of_ble_eq_true rfl) (Nat.le_of_ble_eq_true rfl) (Nat.le_of_ble_eq_true rfl) ?_
        refine ev_ireturn dF_segment_77 rfl ?_
        exact ⟨rfl, hh0⟩
      · by_cases h2 : w = 2
        · subst h2
          refine ev_tableIn (tgt := 78) dF_segment_22 w1 w2 (by decide) (by decide) rfl rfl ?_
          refine ev_aload_n dF_segment_78 rfl ?_
          refine ev_get dF_segment_79 fl_F_12 rfl rfl ?_
          refine ev_get dF_segment_82 fl_F_97 rfl rfl ?_
          refine ev_iload_n dF_segment_85 rfl ?_
          refine ev_iald dF_segment_86 rfl (by omega) (by omega) (by decide) ?_
          refine ev_ireturn dF_segment_87 rfl ?_
          refine ⟨?_, hh0⟩
          rw [(gvv.2 i hi'.1 hi'.2).1]
          rfl
        · by_cases h3 : w = 3
          · subst h3
            refine ev_tableIn (tgt := 88) dF_segment_22 w1 w2 (by decide) (by decide) rfl rfl ?_
            refine ev_aload_n dF_segment_88 rfl ?_
            refine ev_get dF_segment_89 fl_F_12 rfl rfl ?_
            refine ev_get dF_segment_92 fl_F_100 rfl rfl ?_
            refine ev_iload_n dF_segment_95 rfl ?_
            refine ev_iald dF_segment_96 rfl (by omega) (by omega) (by decide) ?_
            refine ev_ireturn dF_segment_97 rfl ?_
            refine ⟨?_, hh0⟩
            rw [(gvv.2 i hi'.1 hi'.2).2]
            rfl
          · by_cases h4 : w = 4
            · subst h4
              refine ev_tableIn (tgt := 98) dF_segment_22 w1 w2 (by decide) (by decide) rfl rfl ?_
              refine ev_aload_n dF_segment_98 rfl ?_
              refine ev_get dF_segment_99 fl_F_12 rfl rfl ?_
              refine ev_iload_n dF_segment_102 rfl ?_
              refine ev_cV dF_segment_103 cv_F_103 (ct_frontUp (d := d + 5) (L := L) (n := n) (tn := tn) (P := P) (K := K) (B := B) (lo := lo) (hi := hi) hi'.1 i2) rfl rfl rfl (Nat.le_of_ble_eq_true rfl) (Nat.le_of_ble_eq_true rfl) (Nat.le_of_ble_eq_true rfl) ?_
              refine ev_bz (tgt := 113) dF_segment_106 rfl (fun hu => ?_) (fun hu => ?_)
              · refine ev_iconst dF_segment_113 ?_
                refine ev_ireturn dF_segment_114 rfl ?_
                refine ⟨?_, hh0⟩
                show Sum.inl (some (ev_i 0)) = Sum.inl (some (ev_i (ev_b (sp_up tn i))))
                rw [hu]; rfl
              · refine ev_iconst dF_segment_109 ?_
                refine ev_goto (tgt := 114) dF_segment_110 rfl ?_
                refine ev_ireturn dF_segment_114 rfl ?_
                refine ⟨?_, hh0⟩
                show Sum.inl (some (ev_i 1)) = Sum.inl (some (ev_i (ev_b (sp_up tn i))))
                rw [hu]; rfl
            · by_cases h5 : w = 5
              · subst h5
                refine ev_tableIn (tgt := 115) dF_segment_22 w1 w2 (by decide) (by decide) rfl rfl ?_
                refine ev_iload_n dF_segment_115 rfl ?_
                refine ev_aload_n dF_segment_116 rfl ?_
                refine ev_get dF_segment_117 fl_F_12 rfl rfl ?_
                refine ev_get dF_segment_120 fl_F_62 rfl rfl ?_
                refine ev_icmp_ge (tgt := 138) dF_segment_123 rfl (by omega) (by omega) (by omega) (by omega) (fun hc => ?_) (fun hc => ?_)
                · refine ev_iconst dF_segment_138 ?_
                  refine ev_ireturn dF_segment_139 rfl ?_
                  refine ⟨?_, hh0⟩
                  show Sum.inl (some (ev_i (-1))) = Sum.inl (some (ev_i (if i < n then K i else -1)))
                  rw [if_neg (by omega)]
                · refine ev_aload_n dF_segment_126 rfl ?_
                  refine ev_get dF_segment_127 fl_F_12 rfl rfl ?_
                  refine ev_get dF_segment_130 fl_F_106 rfl rfl ?_
                  refine ev_iload_n dF_segment_133 rfl ?_
                  refine ev_iald dF_segment_134 rfl (by omega) (by omega) (by decide) ?_
                  refine ev_goto (tgt := 139) dF_segment_135 rfl ?_
                  refine ev_ireturn dF_segment_139 rfl ?_
                  refine ⟨?_, hh0⟩
                  show Sum.inl (some (ev_i (K i))) = Sum.inl (some (ev_i (if i < n then K i else -1)))
                  rw [if_pos (by omega)]
              · refine ev_tableOut (tgt := 140) dF_segment_22 w1 w2 (by omega) rfl ?_
                refine ev_throwA dF_segment_140 dF_segment_143 dF_segment_144 dF_segment_146 dF_segment_149 (by decide) rfl rfl (Nat.le_of_ble_eq_true rfl) (by omega) ?_
                refine ⟨?_, LO_push hh0⟩
                rw [if_neg h0, if_neg h1, if_neg h2, if_neg h3, if_neg h4, if_neg h5]
                exact ev_X_of
  · have hi' : ¬ (0 ≤ i ∧ i ≤ n) := of_decide_eq_false hb
    rw [if_neg (show ¬ (0 ≤ i ∧ i ≤ (L, n, tn, P, K).2.1) from hi')]
    refine ev_throwO dF_segment_11 dF_segment_14 dF_segment_15 dF_segment_17 dF_segment_20 (by decide) rfl rfl (Nat.le_of_ble_eq_true rfl) (by omega) ?_
    exact ⟨ev_X_of, LO_push hh0⟩
theorem ct_Fstep {i w : Int} (i1 : -2147483648 ≤ i) (i2 : i < 2147483648) (w1 : -2147483648 ≤ w) (w2 : w < 2147483648) (hh : LO s ty rs S mc e kn h) :
    ev_T g mF_step (d + 6) [.ref 0, ev_i i, ev_i w] h 1 6 (fun o h' => lb_out (lb_step s rs i w) o h' ∧ LO s ty (if i < 0 then rs else rd_go s rs) S mc e kn h') := by
  have hh0 := hh
  obtain ⟨fo, kr, R, A, mk, x, tl, hL, hr, hk, hA⟩ := hh
  have hL0 := hL
  obtain ⟨ok, B, lo, hi, rfl, gvv⟩ := hL
  have hb := lb_steps_bd (rs := rs) ok
  unfold lb_step
  refine ev_ofT (by decide +kernel) rfl (Nat.le_of_ble_eq_true rfl) rfl rfl ?_
  refine ev_iload_n dF_step_0 rfl ?_
  refine ev_if_lt (tgt := 12) dF_step_1 rfl (by omega) (by omega) (fun h1 => ?_) (fun h1 => ?_)
  · rw [if_pos (Or.inl h1), if_pos h1]
    refine ev_throwO dF_step_12 dF_step_15 dF_step_16 dF_step_18 dF_step_21 (by decide) rfl rfl (Nat.le_of_ble_eq_true rfl) (by omega) ?_
    exact ⟨ev_X_of, LO_push hh0⟩
  · rw [if_neg (show ¬ i < 0 by omega)]
    refine ev_iload_n dF_step_4 rfl ?_
    refine ev_aload_n dF_step_5 rfl ?_
    refine ev_callV dF_step_6 cv_F_131 rfl rfl (Nat.le_of_ble_eq_true rfl) (ct_Fsteps (d := d + 1) hL0) (Nat.zero_le _) (Nat.zero_le _) rfl (fun v h' q => ?_)
    obtain ⟨qv, q⟩ := q
    have hv : v = some (ev_i (lb_steps s rs)) := Sum.inl.inj qv
    subst hv
    have q0 : LO s ty (rd_go s rs) S mc e kn h' := ⟨fo, kr, R, A, mk, x, tl, q, hr, hk, hA⟩
    obtain ⟨ok', B', lo', hi', rfl, gvv'⟩ := q
    refine ev_icmp_lt (tgt := 22) dF_step_9 rfl (by omega) (by omega) (by omega) (by omega) (fun h2 => ?_) (fun h2 => ?_)
    · rw [if_neg (by omega)]
      refine ev_iload_n dF_step_22 rfl ?_
      refine ev_if_eq (tgt := 41) dF_step_23 rfl (by omega) (by omega) (fun h3 => ?_) (fun h3 => ?_)
      · rw [if_pos h3]
        subst h3
        refine ev_iload_n dF_step_41 rfl ?_
        refine ev_if_ne (tgt := 57) dF_step_42 rfl (by decide) (by decide) (fun hb => absurd rfl hb) (fun hb => ?_)
        refine ev_aload_n dF_step_45 rfl ?_
        refine ev_get dF_step_46 fl_F_21 rfl rfl ?_
        refine ev_get dF_step_49 fl_F_138 rfl rfl ?_
        refine ev_iload_n dF_step_52 rfl ?_
        refine ev_iald dF_step_53 rfl (by omega) (by omega) (by decide) ?_
        refine ev_goto (tgt := 66) dF_step_54 rfl ?_
        refine ev_ireturn dF_step_66 rfl ?_
        exact ⟨rfl, q0⟩
      · rw [if_neg h3]
        refine ev_iload_n dF_step_26 rfl ?_
        refine ev_iconst dF_step_27 ?_
        refine ev_icmp_eq (tgt := 41) dF_step_28 rfl (by omega) (by omega) (by omega) (by omega) (fun h4 => ?_) (fun h4 => ?_)
        · rw [if_pos h4]
          refine ev_iload_n dF_step_41 rfl ?_
          refine ev_if_ne (tgt := 57) dF_step_42 rfl (by omega) (by omega) (fun h5 => ?_) (fun h5 => ?_)
          · refine ev_aload_n dF_step_57 rfl ?_
            refine ev_get dF_step_58 fl_F_21 rfl rfl ?_
            refine ev_get dF_step_61 fl_F_141 rfl rfl ?_
            refine ev_iload_n dF_step_64 rfl ?_
            refine ev_iald dF_step_65 rfl (by omega) (by omega) (by decide) ?_
            refine ev_ireturn dF_step_66 rfl ?_
            exact ⟨rfl, q0⟩
          · exact absurd h5 h3
        · rw [if_neg h4]
          refine ev_throwA dF_step_31 dF_step_34 dF_step_35 dF_step_37 dF_step_40 (by decide) rfl rfl (Nat.le_of_ble_eq_true rfl) (by omega) ?_
          exact ⟨ev_X_of, LO_push q0⟩
    · rw [if_pos (by omega)]
      refine ev_throwO dF_step_12 dF_step_15 dF_step_16 dF_step_18 dF_step_21 (by decide) rfl rfl (Nat.le_of_ble_eq_true rfl) (by omega) ?_
      exact ⟨ev_X_of, LO_push q0⟩
end LB6
end
section
/-! The laboratory's throwing methods: above, layer -/
theorem ly_all_len {s : SG} (ok : sg_ok s) : (ly_all s).length ≤ 2097152 := by
  have h1 := ly_go_len (K := s.2.2.2.2) (tn := s.2.2.1) (B := sp_B s.1 s.2.1 s.2.2.2.1) (lo := sp_lo s.1 s.2.1 s.2.2.2.1) (hi := sp_hi s.1 s.2.1 s.2.2.2.1) ((s.2.1 + 1) * s.2.1 / 2).toNat 0 1 0
  have hn0 := ok.2.2.1
  have hn := ok.2.2.2.1
  have hk21 : ((s.2.1 + 1) * s.2.1 / 2).toNat ≤ 21 := by
    generalize s.2.1 = n at *
    have h7 : n = 0 ∨ n = 1 ∨ n = 2 ∨ n = 3 ∨ n = 4 ∨ n = 5 ∨ n = 6 := by omega
    rcases h7 with rfl | rfl | rfl | rfl | rfl | rfl | rfl <;> decide
  have hp := Nat.pow_le_pow_right (n := 2) (by decide) hk21
  exact Nat.le_trans h1 (Nat.le_trans hp (by decide))
/-- the order numbered i -/
def ly_nth (s : SG) (i : Int) : Nat := ((ly_all s)[i.toNat]?).getD 0
theorem ly_nth_R {s : SG} {e k : Nat} {R : Int → Int} {t : List ev_AC} {i : Int} (hr : ly_rw (ly_all s) e k R t) (i0 : 0 ≤ i) (i1 : i < ((ly_all s).length : Nat)) : R i = ((ly_nth s i : Nat) : Int) := by
  have h1 : i.toNat < (ly_all s).length := by omega
  have h2 := List.getElem?_eq_getElem h1
  have h3 := hr.2.2 i.toNat _ h2
  rw [show ((i.toNat : Nat) : Int) = i by omega] at h3
  unfold ly_nth
  rw [h2]
  exact h3
theorem ly_bw_cg {n : Int} {lo hi lo' hi' : Int → Int} (hl : ∀ i, 0 ≤ i → i ≤ n → lo i = lo' i ∧ hi i = hi' i) {o : Nat} {s q : Int} : ∀ k : Nat, (k : Int) ≤ n + 1 → ly_bw lo hi o s q k = ly_bw lo' hi' o s q k
  | 0, _ => rfl
  | k + 1, hk => by
    unfold ly_bw
    rw [ly_bw_cg hl k (by omega), (hl k (by omega) (by omega)).1, (hl k (by omega) (by omega)).2]
theorem ly_sgN_cg {n : Int} {lo hi lo' hi' : Int → Int} (hn0 : 0 ≤ n) (hl : ∀ i, 0 ≤ i → i ≤ n → lo i = lo' i ∧ hi i = hi' i) {o : Nat} {q k : Int} : ∀ (j : Nat) (s : Int), 0 ≤ s → s + j ≤ n + 1 → ly_sgN n lo hi o q k j s = ly_sgN n lo' hi' o q k j s
  | 0, _, _, _ => rfl
  | j + 1, s, s0, s1 => by
    unfold ly_sgN
    rw [ly_sgN_cg hn0 hl j (s + 1) (by omega) (by omega), ly_bw_cg hl (n + 1).toNat (by omega), (hl s s0 (by omega)).1, (hl s s0 (by omega)).2]
def lb_above (s : SG) (i a b : Int) : Int ⊕ Nat :=
  if i < 0 ∨ ((ly_all s).length : Nat) ≤ i ∨ ¬ (0 ≤ a ∧ a ≤ s.2.1) ∨ ¬ (0 ≤ b ∧ b ≤ s.2.1) then .inr 7
  else if a = b ∨ ¬ (ly_ov (sp_lo s.1 s.2.1 s.2.2.2.1) (sp_hi s.1 s.2.1 s.2.2.2.1) a b = true) then .inl (-1) else .inl (ev_b (ly_ab (ly_nth s i) a b))
def lb_layer (s : SG) (i q k : Int) : Int ⊕ Nat :=
  if i < 0 ∨ ((ly_all s).length : Nat) ≤ i then .inr 7 else .inl (ly_sgN s.2.1 (sp_lo s.1 s.2.1 s.2.2.2.1) (sp_hi s.1 s.2.1 s.2.2.2.1) (ly_nth s i) q k (s.2.1 + 1).toNat 0)
section LB7
variable {g : ev_G} {d : Nat} {s s' : SG} {ty : Int} {rs : RS} {kn : Bool} {S : Int → Int} {mc : List ev_AC} {e : Nat} {h : List ev_AC}
theorem ct_Flayer {i w u : Int} (i1 : -2147483648 ≤ i) (i2 : i < 2147483648) (w1 : -2147483648 ≤ w) (w2 : w < 2147483648) (u1 : -2147483648 ≤ u) (u2 : u < 2147483648) (hh : LO s ty rs S mc e kn h) :
    ev_T g mF_layer (d + 27) [.ref 0, ev_i i, ev_i w, ev_i u] h (ly_e kn e s - e + 1) (128 * 2 ^ ly_e kn e s - 128 * 2 ^ e + 6) (fun o h' => lb_out (lb_layer s i w u) o h' ∧ LO s ty rs S mc (ly_e kn e s) true h') := by
  have hh0 := hh
  obtain ⟨fo, kr, R, A, mk, x, tl, hL, hr, hk, hA⟩ := hh
  obtain ⟨ok, B, lo, hi, rfl, gvv⟩ := hL
  have hN := ly_all_len ok
  refine ev_ofT (by decide +kernel) rfl (Nat.le_of_ble_eq_true rfl) rfl rfl ?_
  refine ev_aload_n dF_layer_0 rfl ?_
  refine ev_get dF_layer_1 fl_F_28 rfl rfl ?_
  refine ev_callV dF_layer_4 cv_F_144 rfl rfl (Nat.le_of_ble_eq_true rfl) (ct_find (d := d) hh0) (Nat.le_add_right _ _) (Nat.le_add_right _ _) rfl (fun v h' q => ?_)
  rw [Nat.add_sub_cancel_left, Nat.add_sub_cancel_left]
  obtain ⟨qv, q⟩ := q
  have hv : v = none := Sum.inl.inj qv
  subst hv
  have q0 := q
  clear hA hr hk
  obtain ⟨fo, kr, R, A, mk, x, tl, hL, hr, hk, hA⟩ := q
  obtain ⟨ok, B, lo, hi, rfl, gvv⟩ := hL
  obtain ⟨hfo, hAl, hmk⟩ := hA rfl
  subst hfo
  subst hAl
  have hr1 := hr.1
  have hp15 : 2 ^ ly_e kn e s ≤ 32768 := Nat.pow_le_pow_right (n := 2) (by decide) hr.2.1.2
  have hr2 := hr.2.1.1
  unfold lb_layer
  refine ev_iload_n dF_layer_7 rfl ?_
  refine ev_if_lt (tgt := 22) dF_layer_8 rfl (by omega) (by omega) (fun h1 => ?_) (fun h1 => ?_)
  · rw [if_pos (Or.inl h1)]
    refine ev_throwO dF_layer_22 dF_layer_25 dF_layer_26 dF_layer_28 dF_layer_31 (by decide) rfl rfl (Nat.le_of_ble_eq_true rfl) (by omega) ?_
    exact ⟨ev_X_of, LO_push q0⟩
  · refine ev_iload_n dF_layer_11 rfl ?_
    refine ev_aload_n dF_layer_12 rfl ?_
    refine ev_get dF_layer_13 fl_F_28 rfl rfl ?_
    refine ev_get dF_layer_16 fl_F_147 rfl rfl ?_
    refine ev_icmp_lt (tgt := 32) dF_layer_19 rfl (by omega) (by omega) (by omega) (by omega) (fun h2 => ?_) (fun h2 => ?_)
    · rw [if_neg (by omega)]
      refine ev_aload_n dF_layer_32 rfl ?_
      refine ev_get dF_layer_33 fl_F_28 rfl rfl ?_
      refine ev_aload_n dF_layer_36 rfl ?_
      refine ev_get dF_layer_37 fl_F_28 rfl rfl ?_
      refine ev_get dF_layer_40 fl_F_156 rfl rfl ?_
      refine ev_iload_n dF_layer_43 rfl ?_
      refine ev_iald dF_layer_44 hr1 (by omega) (by omega) (by omega) ?_
      rw [ly_nth_R hr (by omega) (by omega)]
      refine ev_iload_n dF_layer_45 rfl ?_
      refine ev_iload_n dF_layer_46 rfl ?_
      refine ev_cV dF_layer_47 cv_F_165 (ct_segAt (d := d + 23) (L := s.1) (n := s.2.1) (tn := s.2.2.1) (P := s.2.2.2.1) (K := s.2.2.2.2) (B := B) (lo := lo) (hi := hi) ok.2.2.1 ok.2.2.2.1 w1 w2 u1 u2 (gv_lo ok gvv) (gv_hi ok gvv)) rfl rfl rfl (Nat.le_of_ble_eq_true rfl) (Nat.zero_le _) (Nat.zero_le _) ?_
      rw [ly_sgN_cg ok.2.2.1 gvv.2 _ 0 (Int.le_refl 0) (by have := ok.2.2.1; omega)]
      refine ev_ireturn dF_layer_50 rfl ?_
      exact ⟨rfl, q0⟩
    · rw [if_pos (by omega)]
      refine ev_throwO dF_layer_22 dF_layer_25 dF_layer_26 dF_layer_28 dF_layer_31 (by decide) rfl rfl (Nat.le_of_ble_eq_true rfl) (by omega) ?_
      exact ⟨ev_X_of, LO_push q0⟩
theorem ct_Fabove {i a b : Int} (i1 : -2147483648 ≤ i) (i2 : i < 2147483648) (w1 : -2147483648 ≤ a) (w2 : a < 2147483648) (u1 : -2147483648 ≤ b) (u2 : b < 2147483648) (hh : LO s ty rs S mc e kn h) :
    ev_T g mF_above (d + 27) [.ref 0, ev_i i, ev_i a, ev_i b] h (ly_e kn e s - e + 1) (128 * 2 ^ ly_e kn e s - 128 * 2 ^ e + 6) (fun o h' => lb_out (lb_above s i a b) o h' ∧ LO s ty rs S mc (ly_e kn e s) true h') := by
  have hh0 := hh
  obtain ⟨fo, kr, R, A, mk, x, tl, hL, hr, hk, hA⟩ := hh
  obtain ⟨ok, B, lo, hi, rfl, gvv⟩ := hL
  have hN := ly_all_len ok
  refine ev_ofT (by decide +kernel) rfl (Nat.le_of_ble_eq_true rfl) rfl rfl ?_
  refine ev_aload_n dF_above_0 rfl ?_
  refine ev_get dF_above_1 fl_F_28 rfl rfl ?_
  refine ev_callV dF_above_4 cv_F_144 rfl rfl (Nat.le_of_ble_eq_true rfl) (ct_find (d := d) hh0) (Nat.le_add_right _ _) (Nat.le_add_right _ _) rfl (fun v h' q => ?_)
  rw [Nat.add_sub_cancel_left, Nat.add_sub_cancel_left]
  obtain ⟨qv, q⟩ := q
  have hv : v = none := Sum.inl.inj qv
  subst hv
  have q0 := q
  clear hA hr hk
  obtain ⟨fo, kr, R, A, mk, x, tl, hL, hr, hk, hA⟩ := q
  obtain ⟨ok, B, lo, hi, rfl, gvv⟩ := hL
  obtain ⟨hfo, hAl, hmk⟩ := hA rfl
  subst hfo
  subst hAl
  have hr1 := hr.1
  have hp15 : 2 ^ ly_e kn e s ≤ 32768 := Nat.pow_le_pow_right (n := 2) (by decide) hr.2.1.2
  have hr2 := hr.2.1.1
  have hn0 := ok.2.2.1
  have hn := ok.2.2.2.1
  unfold lb_above
  refine ev_iload_n dF_above_7 rfl ?_
  refine ev_if_lt (tgt := 44) dF_above_8 rfl (by omega) (by omega) (fun h1 => ?_) (fun h1 => ?_)
  · rw [if_pos (Or.inl h1)]
    refine ev_throwO dF_above_44 dF_above_47 dF_above_48 dF_above_50 dF_above_53 (by decide) rfl rfl (Nat.le_of_ble_eq_true rfl) (by omega) ?_
    exact ⟨ev_X_of, LO_push q0⟩
  · refine ev_iload_n dF_above_11 rfl ?_
    refine ev_aload_n dF_above_12 rfl ?_
    refine ev_get dF_above_13 fl_F_28 rfl rfl ?_
    refine ev_get dF_above_16 fl_F_147 rfl rfl ?_
    refine ev_icmp_ge (tgt := 44) dF_above_19 rfl (by omega) (by omega) (by omega) (by omega) (fun h2 => ?_) (fun h2 => ?_)
    · rw [if_pos (by omega)]
      refine ev_throwO dF_above_44 dF_above_47 dF_above_48 dF_above_50 dF_above_53 (by decide) rfl rfl (Nat.le_of_ble_eq_true rfl) (by omega) ?_
      exact ⟨ev_X_of, LO_push q0⟩
    · refine ev_aload_n dF_above_22 rfl ?_
      refine ev_get dF_above_23 fl_F_12 rfl rfl ?_
      refine ev_iload_n dF_above_26 rfl ?_
      refine ev_cV dF_above_27 cv_F_82 (ct_hasSeg (d := d + 26) (L := s.1) (n := s.2.1) (tn := s.2.2.1) (P := s.2.2.2.1) (K := s.2.2.2.2) (B := B) (lo := lo) (hi := hi) w1 w2 hn0 hn) rfl rfl rfl (Nat.le_of_ble_eq_true rfl) (Nat.le_of_ble_eq_true rfl) (Nat.le_of_ble_eq_true rfl) ?_
      refine ev_bz (tgt := 44) dF_above_30 rfl (fun h3 => ?_) (fun h3 => ?_)
      · have h3' := of_decide_eq_false h3
        rw [if_pos (Or.inr (Or.inr (Or.inl h3')))]
        refine ev_throwO dF_above_44 dF_above_47 dF_above_48 dF_above_50 dF_above_53 (by decide) rfl rfl (Nat.le_of_ble_eq_true rfl) (by omega) ?_
        exact ⟨ev_X_of, LO_push q0⟩
      · have h3' := of_decide_eq_true h3
        refine ev_aload_n dF_above_33 rfl ?_
        refine ev_get dF_above_34 fl_F_12 rfl rfl ?_
        refine ev_iload_n dF_above_37 rfl ?_
        refine ev_cV dF_above_38 cv_F_82 (ct_hasSeg (d := d + 26) (L := s.1) (n := s.2.1) (tn := s.2.2.1) (P := s.2.2.2.1) (K := s.2.2.2.2) (B := B) (lo := lo) (hi := hi) u1 u2 hn0 hn) rfl rfl rfl (Nat.le_of_ble_eq_true rfl) (Nat.le_of_ble_eq_true rfl) (Nat.le_of_ble_eq_true rfl) ?_
        refine ev_bn (tgt := 54) dF_above_41 rfl (fun h4 => ?_) (fun h4 => ?_)
        · have h4' := of_decide_eq_true h4
          rw [if_neg (by omega)]
          refine ev_iload_n dF_above_54 rfl ?_
          refine ev_iload_n dF_above_55 rfl ?_
          refine ev_icmp_eq (tgt := 71) dF_above_56 rfl (by omega) (by omega) (by omega) (by omega) (fun h5 => ?_) (fun h5 => ?_)
          · rw [if_pos (Or.inl h5)]
            refine ev_iconst dF_above_71 ?_
            refine ev_ireturn dF_above_72 rfl ?_
            exact ⟨rfl, q0⟩
          · refine ev_aload_n dF_above_59 rfl ?_
            refine ev_get dF_above_60 fl_F_12 rfl rfl ?_
            refine ev_iload_n dF_above_63 rfl ?_
            refine ev_iload_n dF_above_64 rfl ?_
            refine ev_cV dF_above_65 cv_F_152 (ct_overlap (d := d + 26) (L := s.1) (n := s.2.1) (tn := s.2.2.1) (P := s.2.2.2.1) (K := s.2.2.2.2) (B := B) (lo := lo) (hi := hi) (by omega) (by omega) (by omega) (by omega) (gv_lo ok gvv a h3'.1 h3'.2) (gv_hi ok gvv a h3'.1 h3'.2) (gv_lo ok gvv b h4'.1 h4'.2) (gv_hi ok gvv b h4'.1 h4'.2)) rfl rfl rfl (Nat.le_of_ble_eq_true rfl) (Nat.le_of_ble_eq_true rfl) (Nat.le_of_ble_eq_true rfl) ?_
            have hov : decide (lo a < hi b ∧ lo b < hi a) = ly_ov (sp_lo s.1 s.2.1 s.2.2.2.1) (sp_hi s.1 s.2.1 s.2.2.2.1) a b := ly_ov_cg gvv.2 h3'.1 h3'.2 h4'.1 h4'.2
            rw [hov]
            refine ev_bn (tgt := 73) dF_above_68 rfl (fun h6 => ?_) (fun h6 => ?_)
            · rw [if_neg (by intro q; rcases q with q | q; exact h5 q; exact q h6)]
              refine ev_aload_n dF_above_73 rfl ?_
              refine ev_get dF_above_74 fl_F_28 rfl rfl ?_
              refine ev_get dF_above_77 fl_F_156 rfl rfl ?_
              refine ev_iload_n dF_above_80 rfl ?_
              refine ev_iald dF_above_81 hr1 (by omega) (by omega) (by omega) ?_
              rw [ly_nth_R hr (by omega) (by omega)]
              refine ev_iload_n dF_above_82 rfl ?_
              refine ev_iload_n dF_above_83 rfl ?_
              refine ev_cS dF_above_84 cs_F_159 (ct_isAbove (d := d + 25) (by omega) (by omega) (by omega) (by omega)) rfl rfl (Nat.le_of_ble_eq_true rfl) (Nat.le_of_ble_eq_true rfl) (Nat.le_of_ble_eq_true rfl) ?_
              refine ev_bz (tgt := 94) dF_above_87 rfl (fun h7 => ?_) (fun h7 => ?_)
              · refine ev_iconst dF_above_94 ?_
                refine ev_ireturn dF_above_95 rfl ?_
                refine ⟨?_, q0⟩
                rw [h7]; rfl
              · refine ev_iconst dF_above_90 ?_
                refine ev_goto (tgt := 95) dF_above_91 rfl ?_
                refine ev_ireturn dF_above_95 rfl ?_
                refine ⟨?_, q0⟩
                rw [h7]; rfl
            · rw [if_pos (Or.inr (by rw [h6]; decide))]
              refine ev_iconst dF_above_71 ?_
              refine ev_ireturn dF_above_72 rfl ?_
              exact ⟨rfl, q0⟩
        · have h4' := of_decide_eq_false h4
          rw [if_pos (Or.inr (Or.inr (Or.inr h4')))]
          refine ev_throwO dF_above_44 dF_above_47 dF_above_48 dF_above_50 dF_above_53 (by decide) rfl rfl (Nat.le_of_ble_eq_true rfl) (by omega) ?_
          exact ⟨ev_X_of, LO_push q0⟩
end LB7
end
section
/-! The catch: a row of the table whose class is resolved there and then -/
section CA
variable {Q : Handler → Pre} {E : CtlPost} {e : Env} {d : Bool} {acts : List Action} {s : State} {f : JFrame} {a : Addr}
theorem ca_row {x : ExceptionTableEntry} {t : List ExceptionTableEntry} {c : ClassId} {cell : Cell} (hx : covers x f.pc = true) (h0 : x.catchType ≠ 0) (hl : s.vm.ClassLinks e.platform f.method.cls x.catchType c)
    (hcell : s.heap[a]? = some cell) (hvm : cell.vm = .none) (hk : ∃ k, s.vm.classes[cell.cls]? = some k) (hc : ∃ k, s.vm.classes[c]? = some k) :
    wp (findHandler.go f a (x :: t)) Q E e d acts s ↔ if s.vm.assignable cell.cls c = true then Q (.found x.handlerPc) d acts (s.setVm (s.vm.noted f.method.cls x.catchType (.cls c))) else wp (findHandler.go f a t) Q E e d acts (s.setVm (s.vm.noted f.method.cls x.catchType (.cls c))) := by
  obtain ⟨r1, r2⟩ := (resolveClass_links e.toSetting hl).op (op := VmOp.resolveClass f.method.cls x.catchType) rfl
  have al : s.vm.Alike (s.vm.noted f.method.cls x.catchType (.cls c)) := (Vm.Alike.refl s.vm).noted _ _ _
  obtain ⟨k1, hk⟩ := hk
  obtain ⟨k2, hc⟩ := hc
  obtain ⟨k3, hk3, -⟩ := al.2.2 _ _ hk
  obtain ⟨k4, hk4, -⟩ := al.2.2 _ _ hc
  have hs : ∀ k, cell.vm ≠ .statics k := fun k q => by rw [hvm] at q; cases q
  have hx' : (x.startPc ≤ f.pc && f.pc < x.endPc) = true := hx
  by_cases ha : s.vm.assignable cell.cls c = true
  · have ha' : (s.vm.noted f.method.cls x.catchType (.cls c)).assignable cell.cls c = true := by rw [al.assignable]; exact ha
    rw [if_pos ha]
    simp [findHandler.go, hx', h0, r1, r2, hcell, hs, hk3, hk4, ha', VmOp.dirties, VmOp.acts]
  · have ha' : (s.vm.noted f.method.cls x.catchType (.cls c)).assignable cell.cls c = false := by rw [al.assignable]; exact Bool.eq_false_iff.mpr ha
    rw [if_neg ha]
    simp [findHandler.go, hx', h0, r1, r2, hcell, hs, hk3, hk4, ha', VmOp.dirties, VmOp.acts]
/-- the search ends at pc, and the tables are warmer -/
def ca_finds (e : Env) (s : State) (f : JFrame) (a : Addr) (pc : Nat) (vm' : Vm) : Prop :=
  ∀ (Q : Handler → Pre) (E : CtlPost) (d : Bool) (acts : List Action), wp (findHandler f a) Q E e d acts s ↔ Q (.found pc) d acts (s.setVm vm')
theorem ca_step {r : List Frame} {pc : Nat} {vm' : Vm} (h : ca_finds e s f a pc vm') : (stepThrowing e s a (.java f :: r)).Is ((s.setVm vm').setFrames (.java { f with pc := pc, stack := [.ref a] } :: r)) [] := by
  simp only [stepThrowing, searchFrame, vmDo]
  generalize hr : Sem.go _ e false [] s = res
  obtain ⟨as, rfl, ha⟩ := Sem.eq_ok_of hr (a := Handler.found pc) (s' := s.setVm vm') (acts' := []) (by simp [h _ _ _ _])
  exact ⟨rfl, ha⟩
theorem ca_steps {tb : Tables} {T target : State} {g : JFrame} {c : Code} {below : List Frame} {pc : Nat} {vm' : Vm} (h : At T g.method c below) (hf : ca_finds e ((T.setTop g).pushFrame (.throwing a)) g a pc vm')
    (k : Steps tb e below ((T.setVm vm').setTop { g with pc := pc, stack := [.ref a] }) target) : Steps tb e below ((T.setTop g).pushFrame (.throwing a)) target := by
  obtain ⟨h1, h2⟩ := h.throwing a
  refine Steps.head h1 h2 ?_
  rw [stepThread_throwing (frames_entered h.top _), (ca_step (s := (T.setTop g).pushFrame (.throwing a)) hf).1]
  obtain ⟨g0, hg⟩ := Option.isSome_iff_exists.mp h.top
  obtain ⟨r, hr⟩ := State.topJava?_eq_some.mp hg
  have hr' : (T.setVm vm').frames = .java g0 :: r := hr
  rw [State.setTop_of_frames _ hr'] at k
  have e1 : ((T.setTop g).pushFrame (.throwing a)).setVm vm' = ((T.setVm vm').setTop g).pushFrame (.throwing a) := rfl
  rw [e1, State.pushFrame, State.setFrames_setFrames, State.setTop_of_frames _ hr', State.setFrames_setFrames, hr]
  exact k
theorem ca_note {s0 S : State} {x : ExceptionTableEntry} {c : ClassId} (hW : s0.WarmedH S.vm) (hl : s0.vm.ClassLinks e.platform f.method.cls x.catchType c) :
    S.vm.ClassLinks e.platform f.method.cls x.catchType c ∧ s0.WarmedH (S.vm.noted f.method.cls x.catchType (.cls c)) ∧ ∃ k, S.vm.classes[c]? = some k := by
  obtain ⟨dk, _, _, kt, hd, _, _, _, _, hkt, _, hop⟩ := hl.here
  obtain ⟨kt', hkt', -⟩ := hW.alike.2.2 _ _ hkt
  exact ⟨hW.classLinks hl, hW.noted hd hop (State.rightAt_cls hl), kt', hkt'⟩
/-- the first row catches -/
theorem ca_find1 {s0 S : State} {x : ExceptionTableEntry} {rest : List ExceptionTableEntry} {c : ClassId} {cell : Cell} {meth : Method} {code : Code} (hW : s0.WarmedH S.vm) (hm : S.vm.method? f.method = some meth) (hc : meth.code = some code)
    (ht : code.exceptionTable.toList = x :: rest) (hx : covers x f.pc = true) (h0 : x.catchType ≠ 0) (hl : s0.vm.ClassLinks e.platform f.method.cls x.catchType c) (hcell : S.heap[a]? = some cell) (hvm : cell.vm = .none) (hk : ∃ k, s0.vm.classes[cell.cls]? = some k)
    (has : s0.vm.assignable cell.cls c = true) : ∃ vm', s0.WarmedH vm' ∧ ca_finds e S f a x.handlerPc vm' := by
  obtain ⟨hl', hW', hk2⟩ := ca_note hW hl
  obtain ⟨k1, hk1⟩ := hk
  obtain ⟨k3, hk3, -⟩ := hW.alike.2.2 _ _ hk1
  refine ⟨_, hW', fun Q E d acts => ?_⟩
  rw [W.findHandler_eq hm hc, ht, ca_row hx h0 hl' hcell hvm ⟨k3, hk3⟩ hk2, if_pos (by rw [hW.alike.assignable]; exact has)]
/-- the first row passes, the second catches -/
theorem ca_find2 {s0 S : State} {x y : ExceptionTableEntry} {rest : List ExceptionTableEntry} {c c2 : ClassId} {cell : Cell} {meth : Method} {code : Code} (hW : s0.WarmedH S.vm) (hm : S.vm.method? f.method = some meth) (hc : meth.code = some code)
    (ht : code.exceptionTable.toList = x :: y :: rest) (hx : covers x f.pc = true) (h0 : x.catchType ≠ 0) (hl : s0.vm.ClassLinks e.platform f.method.cls x.catchType c) (hy : covers y f.pc = true) (g0 : y.catchType ≠ 0) (gl : s0.vm.ClassLinks e.platform f.method.cls y.catchType c2)
    (hcell : S.heap[a]? = some cell) (hvm : cell.vm = .none) (hk : ∃ k, s0.vm.classes[cell.cls]? = some k) (hno : s0.vm.assignable cell.cls c = false) (has : s0.vm.assignable cell.cls c2 = true) : ∃ vm', s0.WarmedH vm' ∧ ca_finds e S f a y.handlerPc vm' := by
  obtain ⟨hl', hW', hk2⟩ := ca_note hW hl
  obtain ⟨gl', gW', gk2⟩ := ca_note (S := S.setVm (S.vm.noted f.method.cls x.catchType (.cls c))) hW' gl
  obtain ⟨k1, hk1⟩ := hk
  obtain ⟨k3, hk3, -⟩ := hW.alike.2.2 _ _ hk1
  obtain ⟨k4, hk4, -⟩ := hW'.alike.2.2 _ _ hk1
  refine ⟨_, gW', fun Q E d acts => ?_⟩
  rw [W.findHandler_eq hm hc, ht, ca_row hx h0 hl' hcell hvm ⟨k3, hk3⟩ hk2, if_neg (by rw [hW.alike.assignable, hno]; decide), ca_row (s := S.setVm (S.vm.noted f.method.cls x.catchType (.cls c))) hy g0 gl' hcell hvm ⟨k4, hk4⟩ gk2, if_pos (by
    show (S.vm.noted f.method.cls x.catchType (.cls c)).assignable cell.cls c2 = true
    rw [hW'.alike.assignable]; exact has)]
  rfl
end CA
end
section
/-! A call that may throw -/
section CB
variable {p : Program} {l : Launch} {e : Env} {R : Room} {s : State} {m : MethodId} {args : Array Value} {below : List Frame} {meth : Method} {c : Code} {U : State} {locs : List Loc} {cells slots : Nat}
/-- where the caller stands behind the call -/
def ca_end (U : State) (g : JFrame) (len : Nat) : Outcome → State
  | .returned v => U.setTop { g with pc := g.pc + len, stack := v.toList ++ g.stack }
  | .threw x => (U.setTop g).pushFrame (.throwing x)
theorem ca_run (X : Stand p l e R s m args below meth c U locs cells slots) {y : MethodName} {S : Spec} {P : Array Value → State → Prop} {Q : Array Value → State → Outcome → State → Prop} (hM : MetFree l y S P (fun _ _ _ _ _ => True) Q)
    {a : Array Value} {g : JFrame} {ig : Instr} {len maxL k n : Nat} {mk : MethodId} {mY : Method} {cY : Code} {free : Addr → Prop} (hg : g.method = m) (hsize : g.locals.size = c.maxLocals) (hdg : decode c.code g.pc = .ok (ig, len))
    (hn : U.methodNamed? y = some mk) (hpre : S.pre.before a U = true) (hmY : U.vm.method? mk = some mY) (hcY : mY.code = some cY) (hlY : cY.maxLocals = maxL) (hini : (Cond.initialized y.cls).before a U = true)
    (hfr : S.room.frames + 1 ≤ R.frames) (hlo : 2 * g.monitorRoom + (g.stack.map fun v => v.category).sum + (maxL + 11) + S.room.locals ≤ R.locals) (hce : cells + S.room.cells ≤ R.cells) (hsl : slots + S.room.slots ≤ R.slots)
    (hP : P a (U.calling g mk a)) (hF : ∀ o t, Q a (U.calling g mk a) o t → ∃ L, (U.calling g mk a).WarmedH t.vm ∧ (U.calling g mk a).sameButNew ({ t with vm := (U.calling g mk a).vm } : State) L k n ∧ ∀ q ∈ L, free q.base) :
    ∃ (o : Outcome) (t U' : State) (L : List Loc), Q a (U.calling g mk a) o t ∧ Stand p l e R s m args below meth c U' (locs ++ L) (cells + k) (slots + n) ∧ (∀ q ∈ L, free q.base) ∧ U'.heap = t.heap ∧ U'.vm = t.vm ∧
      Steps p.tables e below (doInvoke e (U.setTop g) [] mk a).1 (ca_end U' g len o) := by
  obtain ⟨kY, hkY, -⟩ := className_of_methodNamed hn
  have hiY : kY.init = .initialized := Cond.initialized_spec (findClass_of_methodNamed hn) hkY hini
  have hAt : At U g.method c below := by rw [hg]; exact X.here
  have happ : S.appliesLoose y e.platform (U.calling g mk a) = true :=
    Spec.appliesLoose_calling (g := g) hAt hdg hn hkY hiY (X.room_calling (g := g) (R' := S.room) hsize hmY hcY hfr (by rw [hlY]; omega) hce hsl) hpre
  obtain ⟨mid, hmid⟩ := hAt.above
  have hfs : (U.setTop g).frames = (.java g :: mid) ++ below := by rw [State.frames_setTop' g hAt.top, hmid]; rfl
  obtain ⟨o, t, hst, -, hend, hq⟩ := Steps.callFree hM p X.admits X.cas X.clock (acts := []) hfs happ hP trivial
  obtain ⟨L, hW, hsm, hL⟩ := hF o t hq
  have hW' : U.WarmedH t.vm := hW
  rw [State.frames_setTop' g hAt.top] at hend
  obtain ⟨g0, hg0⟩ := Option.isSome_iff_exists.mp hAt.top
  obtain ⟨r, hr⟩ := State.topJava?_eq_some.mp hg0
  have hr' : (({ U with heap := t.heap, slotsUsed := t.slotsUsed } : State).setVm t.vm).frames = .java g0 :: r := hr
  have e3 : t = ({ (U.calling g mk a).setFrames t.frames with heap := t.heap, slotsUsed := t.slotsUsed } : State).setVm t.vm := by
    have e4 : t = ({ t with vm := (U.calling g mk a).vm } : State).setVm t.vm := rfl
    rw [hsm.1] at e4
    exact e4
  have hsame : U.sameButNew ({ U with heap := t.heap, slotsUsed := t.slotsUsed } : State) L k n := by
    obtain ⟨-, q2, q3, q4, q5, q6⟩ := hsm
    refine ⟨?_, q2, q3, q4, q5, q6⟩
    obtain ⟨th, ht, -⟩ := State.frames_cons hr
    show ({ U with heap := t.heap, slotsUsed := t.slotsUsed } : State) = { U.setFrames U.frames with heap := t.heap, slotsUsed := t.slotsUsed }
    rw [State.setFrames_self ht]
  have hto : t = ca_end (({ U with heap := t.heap, slotsUsed := t.slotsUsed } : State).setVm t.vm) g len o := by
    cases o with
    | returned v =>
      obtain ⟨c2, i2, len2, hc2, hd2, hf2⟩ := hend
      have hcc : c2 = c := by
        have h1 : t.code? g.method = U.code? g.method := by rw [State.code?_eq, State.code?_eq, hW'.alike.method?]
        exact Option.some.inj (hc2.symm.trans (h1.trans hAt.code))
      subst hcc
      rw [hdg] at hd2
      cases hd2
      refine e3.trans ?_
      show _ = State.setTop _ _
      rw [hf2, State.calling_eq hAt.top, State.setFrames_setFrames, State.setTop_of_frames _ hr', hr]
      rfl
    | threw x =>
      have hf2 : t.frames = .throwing x :: .java g :: U.frames.tail := hend
      refine e3.trans ?_
      show _ = State.pushFrame (State.setTop _ _) _
      rw [hf2, State.calling_eq hAt.top, State.setFrames_setFrames, State.pushFrame, State.frames_setTop _ hr', State.setTop_of_frames _ hr', State.setFrames_setFrames, hr]
      rfl
  subst hg
  refine ⟨o, t, ({ U with heap := t.heap, slotsUsed := t.slotsUsed } : State).setVm t.vm, L, hq,
    ⟨X.admits, X.cas, X.clock, X.frames, X.room, X.hears, X.method, X.code, (X.here.setHeapUsed t.heap t.slotsUsed).setVm hW'.alike, X.tail, State.WarmedH.trans X.warmed hW', X.limits, X.bytes, X.same.trans (hsame.setVm s.vm)⟩, hL, rfl, rfl, ?_⟩
  rw [← hto]
  exact hst
end CB
end
section
/-! The machine: a call that may throw, in a method that catches -/
def ca_H (M : ev_M) (pc cx hp : Nat) : Prop := ∃ C : String, ev_CL[cx]? = some (C, TX, 0) ∧ Cond.castable C C ∈ ev_XA ∧
  ((∃ a b ct rest, M.2.2.2.2 = (a, b, hp, ct) :: rest ∧ (a ≤ pc ∧ pc < b) ∧ ct ≠ 0 ∧ Cond.classLink M.1.cls ct C ∈ ev_WS) ∨
   ∃ a b hp' ct a2 b2 ct2 rest C', M.2.2.2.2 = (a, b, hp', ct) :: (a2, b2, hp, ct2) :: rest ∧ (a ≤ pc ∧ pc < b) ∧ (a2 ≤ pc ∧ pc < b2) ∧ ct ≠ 0 ∧ ct2 ≠ 0 ∧ Cond.classLink M.1.cls ct C' ∈ ev_WS ∧ Cond.classLink M.1.cls ct2 C ∈ ev_WS ∧ (C, C') ∈ ev_XN)
section CC
variable {g : ev_G} {X : Bool} {M : ev_M} {d pc : Nat} {ls : List (Option Value)} {st : List Value} {h : List ev_AC} {kc ks : Nat} {Q : ev_O → List ev_AC → Prop}
/-- the handler is found -/
theorem ca_hand {p : Program} {e : Env} {R : Room} {s : State} {m : MethodId} {args : Array Value} {below : List Frame} {meth : Method} {c : Code} {H : Heap} {locs locs' : List Loc} {cells slots cells' slots' : Nat} {rls : Array Slot} {T : State} {cx hp i : Nat} {h' : List ev_AC} {f : JFrame}
    (C : ev_Cx g M d ls h kc ks p R s m args meth c H locs cells slots rls) (Y : Stand p (ev_l g) e R s m args below meth c T locs' cells' slots') (hH : ev_HR g h' T.heap) (hi : h'[i]? = some (.inr (cx, []))) (hh : ca_H M pc cx hp) (hf : f.method = m) (hpc : f.pc = pc) :
    ∃ vm', s.WarmedH vm' ∧ ca_finds e ((T.setTop f).pushFrame (.throwing (ev_z g + i))) f (ev_z g + i) hp vm' := by
  obtain ⟨hx, hb, hml, hown, hts, hK, hN, hret, hlk, hnm, htab, h0, hXS⟩ := C.1
  obtain ⟨Cn, hcl, hca, hrows⟩ := hh
  have hpl : e.platform.magicAccessors = ({} : Platform).magicAccessors := by rw [Y.admits.platform]
  obtain ⟨q', hq', cell, c1, c2, c3, -⟩ := hH.2.2 i _ (ev_rl_at hi)
  have hfc : s.vm.findClass Cn = some cell.cls := by rw [c2]; exact (hK.1 cx _ hcl).2.1
  have hm : ((T.setTop f).pushFrame (.throwing (ev_z g + i))).vm.method? f.method = some meth := by
    show T.vm.method? f.method = some meth
    rw [hf, Y.warmed.alike.method?]; exact Y.method
  have hk : ∃ k, s.vm.classes[cell.cls]? = some k := Vm.classAt_of_findClass hfc
  have hself : s.vm.assignable cell.cls cell.cls = true := by
    obtain ⟨c4, c5, q1, q2, q3⟩ := Cond.castable_spec (hXS.2.1 _ hca #[])
    rw [hfc] at q1 q2
    cases q1; cases q2
    exact q3
  have hown' : s.vm.findClass M.1.cls = some f.method.cls := by rw [hf]; exact hown
  rcases hrows with ⟨a, b, ct, rest, e1, e2, e3, e4⟩ | ⟨a, b, hp', ct, a2, b2, ct2, rest, C', e1, e2, e2', e3, e3', e4, e4', e5⟩
  · obtain ⟨cc, q1, q2⟩ := Cond.classLink_spec hown' (hts _ e4) e.platform hpl
    rw [hfc] at q1
    cases q1
    rw [e1] at htab
    refine ca_find1 (s0 := s) (S := (T.setTop f).pushFrame (.throwing (ev_z g + i))) Y.warmed hm Y.code htab ?_ e3 q2 c1 c3 hk hself
    rw [hpc]
    simp [covers, e2.1, e2.2]
  · obtain ⟨cc, q1, q2⟩ := Cond.classLink_spec hown' (hts _ e4) e.platform hpl
    obtain ⟨cc2, r1, r2⟩ := Cond.classLink_spec hown' (hts _ e4') e.platform hpl
    rw [hfc] at r1
    cases r1
    obtain ⟨u, v, n1, n2, n3⟩ := hXS.2.2.2.2.2 _ e5
    have n1' : s.vm.findClass Cn = some u := n1
    have n2' : s.vm.findClass C' = some v := n2
    rw [hfc] at n1'
    cases n1'
    rw [q1] at n2'
    cases n2'
    rw [e1] at htab
    refine ca_find2 (s0 := s) (S := (T.setTop f).pushFrame (.throwing (ev_z g + i))) Y.warmed hm Y.code htab ?_ e3 q2 ?_ e3' r2 c1 c3 hk n3 hself
    · rw [hpc]; simp [covers, e2.1, e2.2]
    · rw [hpc]; simp [covers, e2'.1, e2'.2]
theorem ev_callT {M' : ev_M} {idx n ci b mc ms : Nat} {as rest : List Value} {fs : List Value} {Qc : ev_O → List ev_AC → Prop} (hd : decode M.2.1 pc = .ok (.invokevirtual idx, 3)) (hl : Cond.methodLink M.1.cls idx M'.1 ∈ ev_WS) (F : ev_CV M.1.cls idx M' n ci) (hn : as.length = n) (hc : h[b]? = some (.inr (ci, fs))) (hs : (rest.map fun v => v.category).sum ≤ 8)
    (hC : ev_T g M' d (.ref b :: as) h mc ms Qc) (hmc : mc ≤ kc) (hms : ms ≤ ks) (hst : as.reverse ++ .ref b :: rest = st)
    (kk : ∀ v h', Qc (.inl v) h' → ev_E g X M (d + 1) (pc + 3) ls (v.toList ++ rest) h' (kc - mc) (ks - ms) Q)
    (kt : ∀ i h', Qc (.inr i) h' → ∃ cx hp, h'[i]? = some (.inr (cx, [])) ∧ ca_H M pc cx hp ∧ ev_E g X M (d + 1) hp ls [.ref i] h' (kc - mc) (ks - ms) Q) : ev_E g X M (d + 1) pc ls st h kc ks Q := by
  intro p e R s m args below meth c H locs cells slots rls C
  subst hst
  obtain ⟨hx, hb, hml, hown, hts, hK, hN, -⟩ := C.1
  obtain ⟨⟨⟨-, wi, wc, wd, wl⟩, win, wp⟩, wsel, wci⟩ := F
  obtain ⟨q, hq, hqc⟩ : ∃ q, ev_CL[ci]? = some q ∧ q.1 = M'.1.cls := by
    cases hz : ev_CL[ci]? with
    | none => rw [hz] at wci; cases wci
    | some q => rw [hz] at wci; exact ⟨q, rfl, Option.some.inj wci⟩
  obtain ⟨cell, g1, g2, g3⟩ := va_recv hK C.2.2.1.2.2 hq (ev_rl_at hc)
  rw [hqc] at g3
  have hR := C.2.1
  have hcc := C.2.2.2.2.1
  intro T hT S
  obtain ⟨mk, methM, hnamed, hmethM, hstM, habM⟩ := Cond.instanceMethod_spec (hts _ win)
  obtain ⟨methM', cM, hmethM', hcM, -, hlM, -, -, -, hsigM⟩ := Cond.code_spec hnamed (hts _ wc)
  cases hmethM.symm.trans hmethM'
  obtain ⟨c2, r2, m2, q1, q2, q3, q4, kP, hkP, hkPi⟩ := Cond.selects_spec (hts _ wsel)
  cases g3.symm.trans q1
  cases (State.methodFound?_of_named hnamed wd).symm.trans q2
  cases hnamed.symm.trans q3
  have hselP : selectMethod e.platform s.vm cell.cls mk = .method mk := by rw [Launch.admits_selectMethod S.admits]; exact q4
  have hlen : (as.map (ev_rv g)).length = methM.sig.parameters.length := by
    rw [hsigM] at wp
    have wp' : methM.sig.parameters.length = n := Option.some.inj wp
    rw [wp', List.length_map]; exact hn
  have hstk : (as.reverse ++ .ref b :: rest).map (ev_rv g) = (as.map (ev_rv g)).reverse ++ .ref (ev_z g + b) :: rest.map (ev_rv g) := by simp [ev_rv]
  obtain ⟨vm₁, X₁, st1⟩ := S.invokevirtual hx hown (hts _ hl) hnamed hmethM hstM hkP hkPi wd (a := ev_z g + b) (cell := cell) (by rw [hT]; exact g1)
    (fun z hz => by rw [hz] at g2; cases g2) hselP hmethM habM hkP hkPi (g := F0 m pc rls ((as.reverse ++ .ref b :: rest).map (ev_rv g))) rfl (argsL := as.map (ev_rv g)) (rest := rest.map (ev_rv g)) hlen hstk (by rw [hb]; exact hd)
  have hpc := ev_Pc.of (as := .ref b :: as) C (T.setVm vm₁) hT X₁.warmed
  have hG := ev_GoodIn wc
  have hwd : ∀ w ∈ ev_ws M', ∀ a', w.before a' (T.setVm vm₁) = true := fun w hw a' => pay_in hts hG w hw a' (T.setVm vm₁) X₁.warmed
  have hsum := ev_rv_sum g rest
  obtain ⟨o, t, U', L, ⟨⟨out, h', ho, hqq, hHR⟩, -⟩, Y, hL, y1, y2, st2⟩ := ca_run X₁ hC (a := (((.ref b :: as).map (ev_rv g)).toArray)) (g := F0 m pc rls (rest.map (ev_rv g))) (ig := .invokevirtual idx) (len := 3) (maxL := M'.2.2.1) (k := mc) (n := ms) (free := fun q => ev_z g ≤ q)
    rfl (by rw [hml]; exact C.2.2.2.2.2.2.1.1) (by rw [hb]; exact hd) (X₁.named hnamed) (atoms_intro (fun w hw => hwd w hw _)) (by rw [X₁.warmed.alike.method?]; exact hmethM) hcM hlM (word_at X₁.warmed (Or.inl (by rfl)) (hts _ wi))
    hR.1 (by show 2 * 0 + ((rest.map (ev_rv g)).map fun v => v.category).sum + (M'.2.2.1 + 11) + 40 * d ≤ _; omega) (by show cells + mc ≤ _; omega) (by show slots + ms ≤ _; omega) (ev_blind _ _ _ _ hpc) (fun o t hq => by
      obtain ⟨-, L, ⟨-, f1, f2⟩, f3⟩ := hq
      exact ⟨L, f1, f2, f3⟩)
  have hlocs : ∀ q ∈ locs ++ L, ev_z g ≤ q.base := fun q hq => by
    rcases List.mem_append.mp hq with h1 | h1
    · exact C.2.2.2.1 q h1
    · exact hL q h1
  have hHR' : ev_HR g h' U'.heap := by rw [y1]; exact hHR
  cases out with
  | inl w =>
    cases ho
    obtain ⟨t2, a1, b1⟩ := kk w h' hqq p e R s m args below meth c U'.heap (locs ++ L) (cells + mc) (slots + ms) rls (C.heap hHR' hlocs ⟨by omega, by omega⟩) U' rfl Y
    refine ⟨t2, st1 _ (fun acts => ?_), b1⟩
    have hst : (w.toList ++ rest).map (ev_rv g) = (w.map (ev_rv g)).toList ++ rest.map (ev_rv g) := by cases w <;> simp
    rw [hst] at a1
    rw [doInvoke_state]
    exact st2.trans a1
  | inr i =>
    cases ho
    obtain ⟨cx, hp, k1, k2, k3⟩ := kt i h' hqq
    obtain ⟨vm', hW', hfi⟩ := ca_hand (f := F0 m pc rls (rest.map (ev_rv g))) C Y hHR' k1 k2 rfl rfl
    obtain ⟨t2, a1, b1⟩ := k3 p e R s m args below meth c U'.heap (locs ++ L) (cells + mc) (slots + ms) rls (C.heap hHR' hlocs ⟨by omega, by omega⟩) (U'.setVm vm') rfl (Y.noted hW')
    refine ⟨t2, st1 _ (fun acts => ?_), b1⟩
    rw [doInvoke_state]
    exact st2.trans (ca_steps Y.here hfi a1)
end CC
end
section
/-! Methods with handlers: their contracts, and the law's calls of them -/
def ev_wsW (M : ev_M) : List Cond := Cond.codeWith M.1 M.2.1 M.2.2.1 M.2.2.2.1 M.2.2.2.2 :: ev_WS
def ev_CW (g : ev_G) (M : ev_M) (d : Nat) (as : List Value) (h : List ev_AC) (kc ks : Nat) (Q : ev_O → List ev_AC → Prop) : Prop :=
  MetFree (ev_l g) M.1 (headSpec (ev_wsW M) { frames := d, cells := kc, slots := ks, locals := 40 * d }) (ev_Pc g as h) (fun _ _ _ _ _ => True)
    (fun a st o t => ev_QX g Q a st o t ∧ ∃ L, ev_FE false st o t L kc ks ∧ ∀ q ∈ L, ev_z g ≤ q.base)
section CW
variable {g : ev_G} {X : Bool} {M : ev_M} {d pc : Nat} {ls : List (Option Value)} {st : List Value} {h : List ev_AC} {kc ks : Nat} {Q : ev_O → List ev_AC → Prop}
theorem ev_tab {l : List ExceptionTableEntry} {hs : List (Nat × Nat × Nat × Nat)} (h : l.map (fun h => (h.startPc, h.endPc, h.handlerPc, h.catchType)) = hs) : l = tableOf hs := by
  subst h
  induction l with
  | nil => rfl
  | cons a l ih =>
    show a :: l = _ :: tableOf _
    rw [← ih]
theorem ev_ofCW {as : List Value} (hpl : plainName M.1.cls = true) (hn : as.length ≤ M.2.2.1) (hcat : as.all (fun v => v.category == 1) = true) (hls : as.map some ++ List.replicate (M.2.2.1 - as.length) none = ls)
    (k : ev_E g false M d 0 ls [] h kc ks Q) : ev_CW g M d as h kc ks Q := by
  subst hls
  refine MetFree.of_bodyS (code := M.2.1) (maxLocals := M.2.2.1) (ret := M.2.2.2.1) hpl ?_ ?_
  · intro args s m h hn
    obtain ⟨m9, meth, c, hn9, h1, h2, h3, h4, -, h5, h6, -⟩ := Cond.codeWith_spec (atoms_spec (ws := ev_wsW M) h _ List.mem_cons_self)
    cases hn.symm.trans hn9
    exact ⟨meth, c, h1, h2, h3, h4, h5, h6⟩
  · intro p e s m args below meth c s₁ B hml hv _
    have hh0 : s₁.heap = s.heap := by rw [B.state]; rfl
    obtain ⟨rfl, hH, hK, hN, hX⟩ := hv
    have hts := atoms_spec (ws := ev_wsW M) B.pre
    have hcat' : ∀ v ∈ as, v.category = 1 := fun v hv => by simpa using List.all_eq_true.mp hcat v hv
    have S := Stand.of_body B
    have htab : c.exceptionTable.toList = tableOf M.2.2.2.2 := by
      obtain ⟨m9, meth9, c9, hn9, h1, h2, -, -, h3, -⟩ := Cond.codeWith_spec (hts _ List.mem_cons_self)
      cases B.named.symm.trans hn9
      cases B.method.symm.trans h1
      cases S.code.symm.trans h2
      exact ev_tab h3
    have := k p e { frames := d, cells := kc, slots := ks, locals := 40 * d } s m _ below meth c s.heap [] 0 0 _
      ⟨⟨B.exec, B.bytes, hml, findClass_of_methodNamed B.named, fun w hw => hts w (List.mem_cons_of_mem _ hw), hK, hN, B.returns, B.notSynchronized, (name_of_methodNamed B.named B.method).1, htab, ⟨h, hH⟩, hX⟩,
        ⟨Nat.le_refl _, Nat.le_refl _⟩, hH, (fun q hq => by cases hq), ⟨by simp, by simp⟩, ev_LH.entry hn hcat'⟩
    rw [lg_entry_eq]
    obtain ⟨t, a, o, b1, b2, b3, L, b4, b5⟩ := this s₁ hh0 S
    exact ⟨t, o, a, b1, b2, b3, L, b4, b5⟩
theorem ev_callSW {M' : ev_M} {idx n mc ms : Nat} {as rest : List Value} {Qc : ev_O → List ev_AC → Prop} (hd : decode M.2.1 pc = .ok (.invokestatic idx, 3)) (hl : Cond.methodLink M.1.cls idx M'.1 ∈ ev_WS) (wi : Cond.initialized M'.1.cls ∈ ev_WS) (wst : Cond.static M'.1 ∈ ev_WS)
    (wc : Cond.codeWith M'.1 M'.2.1 M'.2.2.1 M'.2.2.2.1 M'.2.2.2.2 ∈ ev_WS) (wd : M'.1.cls ≠ "java/lang/invoke/MethodHandle" ∧ M'.1.cls ≠ "java/lang/invoke/VarHandle") (wp : (parseMethodDescriptor M'.1.desc).map (fun d => d.parameters.length) = some n) (wl : M'.2.2.1 ≤ 21)
    (hn : as.length = n) (hs : (rest.map fun v => v.category).sum ≤ 8) (hC : ev_CW g M' d as h mc ms Qc) (hmc : mc ≤ kc) (hms : ms ≤ ks) (hst : as.reverse ++ rest = st)
    (kk : ∀ v h', Qc (.inl v) h' → ev_E g X M (d + 1) (pc + 3) ls (v.toList ++ rest) h' (kc - mc) (ks - ms) Q) : ev_E g X M (d + 1) pc ls st h kc ks Q := by
  intro p e R s m args below meth c H locs cells slots rls C
  subst hst
  obtain ⟨hx, hb, hml, hown, hts, hK, hN, -⟩ := C.1
  have hR := C.2.1
  have hcc := C.2.2.2.2.1
  intro T hT S
  obtain ⟨mk, methM, cM, hnamed, hmethM, hcM, -, hlM, -, -, -, hsigM⟩ := Cond.codeWith_spec (hts _ wc)
  have hstatic : methM.isStatic = true := Cond.static_spec hnamed hmethM (hts _ wst)
  obtain ⟨kP, hkP, -⟩ := className_of_methodNamed hnamed
  have hinitP : kP.init = .initialized := Cond.initialized_spec (findClass_of_methodNamed hnamed) hkP (hts _ wi)
  have hlen : (as.map (ev_rv g)).length = methM.sig.parameters.length := by
    rw [hsigM] at wp
    have wp' : methM.sig.parameters.length = n := Option.some.inj wp
    rw [wp', List.length_map]; exact hn
  have hstk : (as.reverse ++ rest).map (ev_rv g) = (as.map (ev_rv g)).reverse ++ rest.map (ev_rv g) := by simp
  obtain ⟨vm₁, X₁, st1⟩ := S.invokestatic hx hown (hts _ hl) hnamed hmethM hstatic hkP hinitP wd (g := F0 m pc rls ((as.reverse ++ rest).map (ev_rv g))) rfl (argsL := as.map (ev_rv g)) (rest := rest.map (ev_rv g)) hlen hstk (by rw [hb]; exact hd)
  have hpc := ev_Pc.of (as := as) C (T.setVm vm₁) hT X₁.warmed
  have hwd : ∀ w ∈ ev_wsW M', ∀ a', w.before a' (T.setVm vm₁) = true := fun w hw a' => pay_in (big := ev_WS) (ws := ev_wsW M') hts (fun w hw => by
    rcases List.mem_cons.mp hw with h1 | h1
    · subst h1; exact ⟨wc, good_of_word (ev_good _ wc)⟩
    · exact ⟨h1, good_of_word (ev_good _ h1)⟩) w hw a' (T.setVm vm₁) X₁.warmed
  have hsum := ev_rv_sum g rest
  obtain ⟨o, t, U', L, ⟨⟨out, h', ho, hqq, hHR⟩, L9, ⟨hret, -⟩, -⟩, Y, hL, y1, y2, st2⟩ := ca_run X₁ hC (a := ((as.map (ev_rv g)).toArray)) (g := F0 m pc rls (rest.map (ev_rv g))) (ig := .invokestatic idx) (len := 3) (maxL := M'.2.2.1) (k := mc) (n := ms) (free := fun q => ev_z g ≤ q)
    rfl (by rw [hml]; exact C.2.2.2.2.2.2.1.1) (by rw [hb]; exact hd) (X₁.named hnamed) (atoms_intro (fun w hw => hwd w hw _)) (by rw [X₁.warmed.alike.method?]; exact hmethM) hcM hlM (word_at X₁.warmed (Or.inl (by rfl)) (hts _ wi))
    hR.1 (by show 2 * 0 + ((rest.map (ev_rv g)).map fun v => v.category).sum + (M'.2.2.1 + 11) + 40 * d ≤ _; omega) (by show cells + mc ≤ _; omega) (by show slots + ms ≤ _; omega) (ev_blind _ _ _ _ hpc) (fun o t hq => by
      obtain ⟨-, L, ⟨-, f1, f2⟩, f3⟩ := hq
      exact ⟨L, f1, f2, f3⟩)
  have hlocs : ∀ q ∈ locs ++ L, ev_z g ≤ q.base := fun q hq => by
    rcases List.mem_append.mp hq with h1 | h1
    · exact C.2.2.2.1 q h1
    · exact hL q h1
  have hHR' : ev_HR g h' U'.heap := by rw [y1]; exact hHR
  cases out with
  | inl w =>
    cases ho
    obtain ⟨t2, a1, b1⟩ := kk w h' hqq p e R s m args below meth c U'.heap (locs ++ L) (cells + mc) (slots + ms) rls (C.heap hHR' hlocs ⟨by omega, by omega⟩) U' rfl Y
    refine ⟨t2, st1 _ (fun acts => ?_), b1⟩
    have hst : (w.toList ++ rest).map (ev_rv g) = (w.map (ev_rv g)).toList ++ rest.map (ev_rv g) := by cases w <;> simp
    rw [hst] at a1
    rw [doInvoke_state]
    exact st2.trans a1
  | inr i =>
    cases ho
    rcases hret with q | ⟨v, q⟩
    · cases q
    · cases q
end CW
section WR
variable {g : ev_G} {d : Nat} {s : SG} {ty : Int} {rs : RS} {kn : Bool} {S : Int → Int} {mc : List ev_AC} {e : Nat} {h : List ev_AC}
/-- the law's strip -/
theorem ct_Lstrip {l : Int} (l1 : -2147483648 ≤ l) (l2 : l < 2147483648) (hh : LO s ty rs S mc e kn h) :
    ev_CW g mL_strip (d + 7) [.ref 0, ev_i l] h 1 6 (fun o h' => o = .inl (some (ev_i (lb_strip s l).1)) ∧ LO (lb_strip s l).2 ty rs S mc e (lb_kn (lb_strip s l).1 kn) h') := by
  have hh0 := hh
  have hc : (lb_strip s l).1 = 0 ∨ (lb_strip s l).1 = 1 := by
    unfold lb_strip
    split
    · exact Or.inl rfl
    · exact Or.inr rfl
  obtain ⟨fo, kr, R, A, mk, x, tl, hL, hr, hk, hA⟩ := hh
  obtain ⟨ok, B, lo, hi, rfl, gvv⟩ := hL
  refine ev_ofCW (by decide +kernel) (Nat.le_of_ble_eq_true rfl) rfl rfl ?_
  refine ev_aload_n dL_strip_0 rfl ?_
  refine ev_iload_n dL_strip_1 rfl ?_
  refine ev_callT (M' := mF_strip) dL_strip_2 wm_L_7 cv_L_7 rfl rfl (Nat.le_of_ble_eq_true rfl) (ct_Fstrip (d := d) l1 l2 hh0) (Nat.le_refl _) (Nat.le_refl _) rfl (fun v h' q => ?_) (fun i h' q => ?_)
  · obtain ⟨q1, q2⟩ := q
    rcases hc with h0 | h0
    · rw [if_pos h0] at q1
      cases q1
      refine ev_goto (tgt := 11) dL_strip_5 rfl ?_
      refine ev_iconst dL_strip_11 ?_
      refine ev_ireturn dL_strip_12 rfl ?_
      exact ⟨by rw [h0], q2⟩
    · rw [if_neg (by omega)] at q1
      obtain ⟨i, q1, -⟩ := q1
      cases q1
  · obtain ⟨q1, q2⟩ := q
    rcases hc with h0 | h0
    · rw [if_pos h0] at q1
      cases q1
    · rw [if_neg (by omega)] at q1
      obtain ⟨j, q1, q3⟩ := q1
      cases q1
      refine ⟨5, 8, q3, ⟨"java/lang/IllegalArgumentException", rfl, by decide +kernel, Or.inl ⟨0, 5, 13, [], rfl, by decide, by decide, ev_inB 169 rfl rfl⟩⟩, ?_⟩
      refine ev_astore_n dL_strip_8 (Nat.le_of_ble_eq_true rfl) ?_
      refine ev_iconst dL_strip_9 ?_
      refine ev_ireturn dL_strip_10 rfl ?_
      exact ⟨by rw [h0], q2⟩
end WR
end
section
/-! The law's wrappers with an out -/
def lw_out (r : Int ⊕ Nat) (cd : Nat → Int) (F : Nat → Int64) (mc : List ev_AC) (P : List ev_AC → List ev_AC → Prop) (o : ev_O) (h' : List ev_AC) : Prop := match r with
  | .inl v => o = .inl (some (ev_i 0)) ∧ P (mc.set 15 (ev_la 1 (vp_updL F 0 (Int32.ofInt v).toInt64))) h'
  | .inr ci => o = .inl (some (ev_i (cd ci))) ∧ P mc h'
def cd_A (ci : Nat) : Int := if ci = 5 then 1 else 2
def cd_O (ci : Nat) : Int := if ci = 7 then 1 else 2
section WS
variable {g : ev_G} {d : Nat} {s : SG} {ty : Int} {rs : RS} {kn : Bool} {S : Int → Int} {mc : List ev_AC} {e : Nat} {h : List ev_AC} {F : Nat → Int64}
theorem LO_out (hh : LO s ty rs S mc e kn h) {y : ev_AC} (hy : mc[15]? = some y) : h[31]? = some y ∧ ∀ x, LO s ty rs S (mc.set 15 x) e kn (h.set 31 x) := by
  obtain ⟨fo, kr, R, A, mk, x0, tl, hL, hr, hk, hA⟩ := hh
  obtain ⟨ok, B, lo, hi, rfl, gvv⟩ := hL
  have hlt : 15 < mc.length := (List.getElem?_eq_some_iff.mp hy).1
  have hm : (mc ++ tl)[15]? = some y := by rw [List.getElem?_append_left hlt]; exact hy
  refine ⟨hm, fun x => ⟨fo, kr, R, A, mk, x0, tl, ⟨ok, B, lo, hi, ?_, gvv⟩, ?_, by rw [List.length_set]; exact hk, hA⟩⟩
  · rw [← List.set_append_left _ _ hlt]
    rfl
  · rw [← List.set_append_left _ _ hlt]
    refine ⟨?_, hr.2⟩
    have h1 := hr.1
    have h2 : (x0 :: ev_ia 60 S :: (mc ++ tl)).set 17 x = x0 :: ev_ia 60 S :: (mc ++ tl).set 15 x := rfl
    rw [← h2, List.getElem?_set_ne (by omega)]
    exact h1
theorem ct_LwhereIs {p : Int} (p1 : -2147483648 ≤ p) (p2 : p < 2147483648) (hy : mc[15]? = some (ev_la 1 F)) (hh : LO s ty rs S mc e kn h) :
    ev_CW g mL_whereIs (d + 7) [.ref 0, ev_i p, .ref 31] h 1 6 (lw_out (lb_where s p) cd_A F mc (fun mc' => LO s ty rs S mc' e kn)) := by
  have hh0 := hh
  obtain ⟨fo, kr, R, A, mk, x, tl, hL, hr, hk, hA⟩ := hh
  obtain ⟨ok, B, lo, hi, rfl, gvv⟩ := hL
  refine ev_ofCW (by decide +kernel) (Nat.le_of_ble_eq_true rfl) rfl rfl ?_
  refine ev_aload_n dL_whereIs_0 rfl ?_
  refine ev_iconst dL_whereIs_1 ?_
  refine ev_aload_n dL_whereIs_2 rfl ?_
  refine ev_iload_n dL_whereIs_3 rfl ?_
  refine ev_callT (M' := mF_whereIs) dL_whereIs_4 wm_L_26 cv_L_26 rfl rfl (Nat.le_of_ble_eq_true rfl) (ct_FwhereIs (d := d) p1 p2 hh0) (Nat.le_refl _) (Nat.le_refl _) rfl (fun v h' q => ?_) (fun i h' q => ?_)
  · obtain ⟨q1, q2⟩ := q
    obtain ⟨o1, o2⟩ := LO_out q2 hy
    cases hv : lb_where s p with
    | inr ci => rw [hv] at q1; obtain ⟨i, q1, -⟩ := q1; cases q1
    | inl w =>
      rw [hv] at q1
      cases q1
      refine ev_i2l dL_whereIs_7 ?_
      refine ev_last dL_whereIs_8 o1 (Int.le_refl 0) (by decide) (by decide) ?_
      refine ev_goto (tgt := 15) dL_whereIs_9 rfl ?_
      refine ev_iconst dL_whereIs_15 ?_
      refine ev_ireturn dL_whereIs_16 rfl ?_
      exact ⟨rfl, o2 _⟩
  · obtain ⟨q1, q2⟩ := q
    unfold lb_where at q1 ⊢
    split at q1
    · rename_i hc
      rw [if_pos hc]
      obtain ⟨j, q1, q3⟩ := q1
      cases q1
      refine ⟨5, 12, q3, ⟨"java/lang/IllegalArgumentException", rfl, by decide +kernel, Or.inl ⟨0, 9, 13, [], rfl, by decide, by decide, ev_inB 169 rfl rfl⟩⟩, ?_⟩
      refine ev_astore_n dL_whereIs_12 (Nat.le_of_ble_eq_true rfl) ?_
      refine ev_iconst dL_whereIs_13 ?_
      refine ev_ireturn dL_whereIs_14 rfl ?_
      exact ⟨rfl, q2⟩
    · cases q1
end WS
end
