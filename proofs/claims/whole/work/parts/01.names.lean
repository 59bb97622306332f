-- ===== PART A: goes FIRST, ahead of the names: the tables' words, and 'selects' of the private methods out of them =====
/-- a private method of a class that the tables say can be made, by its rows of tables_1 -/
def lw_okq (q : MethodName × Nat) : Prop := (q.1.cls ≠ "java/lang/invoke/MethodHandle" ∧ q.1.cls ≠ "java/lang/invoke/VarHandle") ∧ Cond.instantiable q.1.cls q.2 ∈ tables_1 ∧ Cond.privateMethod q.1 ∈ tables_1 ∧ Cond.instanceMethod q.1 ∈ tables_1
theorem lw_p0 : lw_okq (⟨"MendedBank$Code", "bestFreeColumn", "()I"⟩, 5) := ⟨⟨by decide +kernel, by decide +kernel⟩, List.mem_of_getElem? (i := 20) (by decide +kernel), List.mem_of_getElem? (i := 178) (by decide +kernel), List.mem_of_getElem? (i := 179) (by decide +kernel)⟩
theorem lw_p1 : lw_okq (⟨"MendedBank$Code", "fullestRowWith", "(I)I"⟩, 5) := ⟨⟨by decide +kernel, by decide +kernel⟩, List.mem_of_getElem? (i := 20) (by decide +kernel), List.mem_of_getElem? (i := 188) (by decide +kernel), List.mem_of_getElem? (i := 189) (by decide +kernel)⟩
theorem lw_p2 : lw_okq (⟨"MendedBank$Code", "give", "(II)V"⟩, 5) := ⟨⟨by decide +kernel, by decide +kernel⟩, List.mem_of_getElem? (i := 20) (by decide +kernel), List.mem_of_getElem? (i := 195) (by decide +kernel), List.mem_of_getElem? (i := 196) (by decide +kernel)⟩
theorem lw_p3 : lw_okq (⟨"MendedBank", "hasWord", "(II)Z"⟩, 3) := ⟨⟨by decide +kernel, by decide +kernel⟩, List.mem_of_getElem? (i := 12) (by decide +kernel), List.mem_of_getElem? (i := 293) (by decide +kernel), List.mem_of_getElem? (i := 294) (by decide +kernel)⟩
theorem lw_p4 : lw_okq (⟨"MendedBank", "hasPage", "(I)Z"⟩, 3) := ⟨⟨by decide +kernel, by decide +kernel⟩, List.mem_of_getElem? (i := 12) (by decide +kernel), List.mem_of_getElem? (i := 297) (by decide +kernel), List.mem_of_getElem? (i := 298) (by decide +kernel)⟩
theorem lw_p5 : lw_okq (⟨"MendedBank$Bank", "putBits", "(III)V"⟩, 11) := ⟨⟨by decide +kernel, by decide +kernel⟩, List.mem_of_getElem? (i := 43) (by decide +kernel), List.mem_of_getElem? (i := 309) (by decide +kernel), List.mem_of_getElem? (i := 310) (by decide +kernel)⟩
theorem lw_p6 : lw_okq (⟨"MendedBank$Bank", "rowOf", "(II)I"⟩, 11) := ⟨⟨by decide +kernel, by decide +kernel⟩, List.mem_of_getElem? (i := 43) (by decide +kernel), List.mem_of_getElem? (i := 313) (by decide +kernel), List.mem_of_getElem? (i := 314) (by decide +kernel)⟩
theorem lw_p7 : lw_okq (⟨"MendedBank$Bank", "placesOf", "(I)I"⟩, 11) := ⟨⟨by decide +kernel, by decide +kernel⟩, List.mem_of_getElem? (i := 43) (by decide +kernel), List.mem_of_getElem? (i := 317) (by decide +kernel), List.mem_of_getElem? (i := 318) (by decide +kernel)⟩
theorem lw_p8 : lw_okq (⟨"MendedBank$Bank", "placesInUse", "()I"⟩, 11) := ⟨⟨by decide +kernel, by decide +kernel⟩, List.mem_of_getElem? (i := 43) (by decide +kernel), List.mem_of_getElem? (i := 321) (by decide +kernel), List.mem_of_getElem? (i := 322) (by decide +kernel)⟩
theorem lw_p9 : lw_okq (⟨"MendedBank$Bank", "swapIfDue", "(I)Z"⟩, 11) := ⟨⟨by decide +kernel, by decide +kernel⟩, List.mem_of_getElem? (i := 43) (by decide +kernel), List.mem_of_getElem? (i := 363) (by decide +kernel), List.mem_of_getElem? (i := 364) (by decide +kernel)⟩
theorem lw_p10 : lw_okq (⟨"MendedBank$Cells", "isBad", "(II)Z"⟩, 3) := ⟨⟨by decide +kernel, by decide +kernel⟩, List.mem_of_getElem? (i := 49) (by decide +kernel), List.mem_of_getElem? (i := 371) (by decide +kernel), List.mem_of_getElem? (i := 372) (by decide +kernel)⟩
theorem lw_p11 : lw_okq (⟨"MendedBank$Cells", "renewCell", "(III)V"⟩, 3) := ⟨⟨by decide +kernel, by decide +kernel⟩, List.mem_of_getElem? (i := 49) (by decide +kernel), List.mem_of_getElem? (i := 387) (by decide +kernel), List.mem_of_getElem? (i := 388) (by decide +kernel)⟩
theorem lw_p12 : lw_okq (⟨"MendedBank$Bank", "retireIfDue", "(I)Z"⟩, 11) := ⟨⟨by decide +kernel, by decide +kernel⟩, List.mem_of_getElem? (i := 43) (by decide +kernel), List.mem_of_getElem? (i := 399) (by decide +kernel), List.mem_of_getElem? (i := 400) (by decide +kernel)⟩
theorem lw_p13 : lw_okq (⟨"MendedBank$Bank", "spareFramesLeft", "()I"⟩, 11) := ⟨⟨by decide +kernel, by decide +kernel⟩, List.mem_of_getElem? (i := 43) (by decide +kernel), List.mem_of_getElem? (i := 403) (by decide +kernel), List.mem_of_getElem? (i := 404) (by decide +kernel)⟩
theorem lw_p14 : lw_okq (⟨"MendedBank$Bank", "stepScrubber", "()V"⟩, 11) := ⟨⟨by decide +kernel, by decide +kernel⟩, List.mem_of_getElem? (i := 43) (by decide +kernel), List.mem_of_getElem? (i := 467) (by decide +kernel), List.mem_of_getElem? (i := 468) (by decide +kernel)⟩
theorem lw_p15 : lw_okq (⟨"MendedBank$FlipTable", "countAll", "()V"⟩, 3) := ⟨⟨by decide +kernel, by decide +kernel⟩, List.mem_of_getElem? (i := 136) (by decide +kernel), List.mem_of_getElem? (i := 552) (by decide +kernel), List.mem_of_getElem? (i := 553) (by decide +kernel)⟩
def lw_privs_1 : List (MethodName × Nat) := [(⟨"MendedBank$Code", "bestFreeColumn", "()I"⟩, 5), (⟨"MendedBank$Code", "fullestRowWith", "(I)I"⟩, 5), (⟨"MendedBank$Code", "give", "(II)V"⟩, 5), (⟨"MendedBank", "hasWord", "(II)Z"⟩, 3), (⟨"MendedBank", "hasPage", "(I)Z"⟩, 3), (⟨"MendedBank$Bank", "putBits", "(III)V"⟩, 11), (⟨"MendedBank$Bank", "rowOf", "(II)I"⟩, 11), (⟨"MendedBank$Bank", "placesOf", "(I)I"⟩, 11), (⟨"MendedBank$Bank", "placesInUse", "()I"⟩, 11), (⟨"MendedBank$Bank", "swapIfDue", "(I)Z"⟩, 11), (⟨"MendedBank$Cells", "isBad", "(II)Z"⟩, 3), (⟨"MendedBank$Cells", "renewCell", "(III)V"⟩, 3), (⟨"MendedBank$Bank", "retireIfDue", "(I)Z"⟩, 11), (⟨"MendedBank$Bank", "spareFramesLeft", "()I"⟩, 11), (⟨"MendedBank$Bank", "stepScrubber", "()V"⟩, 11), (⟨"MendedBank$FlipTable", "countAll", "()V"⟩, 3)]
theorem lw_r1 : ∀ q ∈ lw_privs_1, lw_okq q := List.forall_mem_cons.mpr ⟨lw_p0, List.forall_mem_cons.mpr ⟨lw_p1, List.forall_mem_cons.mpr ⟨lw_p2, List.forall_mem_cons.mpr ⟨lw_p3, List.forall_mem_cons.mpr ⟨lw_p4, List.forall_mem_cons.mpr ⟨lw_p5, List.forall_mem_cons.mpr ⟨lw_p6, List.forall_mem_cons.mpr ⟨lw_p7, List.forall_mem_cons.mpr ⟨lw_p8, List.forall_mem_cons.mpr ⟨lw_p9, List.forall_mem_cons.mpr ⟨lw_p10, List.forall_mem_cons.mpr ⟨lw_p11, List.forall_mem_cons.mpr ⟨lw_p12, List.forall_mem_cons.mpr ⟨lw_p13, List.forall_mem_cons.mpr ⟨lw_p14, List.forall_mem_cons.mpr ⟨lw_p15, fun _ h => absurd h List.not_mem_nil⟩⟩⟩⟩⟩⟩⟩⟩⟩⟩⟩⟩⟩⟩⟩⟩
theorem lw_p16 : lw_okq (⟨"MendedBank$FlipTable", "allOf", "(I)I"⟩, 3) := ⟨⟨by decide +kernel, by decide +kernel⟩, List.mem_of_getElem? (i := 136) (by decide +kernel), List.mem_of_getElem? (i := 559) (by decide +kernel), List.mem_of_getElem? (i := 560) (by decide +kernel)⟩
theorem lw_p17 : lw_okq (⟨"MendedBank$FlipTable", "missedOf", "(I)I"⟩, 3) := ⟨⟨by decide +kernel, by decide +kernel⟩, List.mem_of_getElem? (i := 136) (by decide +kernel), List.mem_of_getElem? (i := 563) (by decide +kernel), List.mem_of_getElem? (i := 564) (by decide +kernel)⟩
theorem lw_p18 : lw_okq (⟨"MendedBank$FlipTable", "rightlyMendedOf", "(I)I"⟩, 3) := ⟨⟨by decide +kernel, by decide +kernel⟩, List.mem_of_getElem? (i := 136) (by decide +kernel), List.mem_of_getElem? (i := 567) (by decide +kernel), List.mem_of_getElem? (i := 568) (by decide +kernel)⟩
theorem lw_p19 : lw_okq (⟨"MendedBank$FlipTable", "mendedOf", "(I)I"⟩, 3) := ⟨⟨by decide +kernel, by decide +kernel⟩, List.mem_of_getElem? (i := 136) (by decide +kernel), List.mem_of_getElem? (i := 571) (by decide +kernel), List.mem_of_getElem? (i := 572) (by decide +kernel)⟩
theorem lw_p20 : lw_okq (⟨"MendedBank$Bank", "badInUse", "()I"⟩, 11) := ⟨⟨by decide +kernel, by decide +kernel⟩, List.mem_of_getElem? (i := 43) (by decide +kernel), List.mem_of_getElem? (i := 607) (by decide +kernel), List.mem_of_getElem? (i := 608) (by decide +kernel)⟩
theorem lw_p21 : lw_okq (⟨"MendedBank$Bank", "stuckInUse", "()I"⟩, 11) := ⟨⟨by decide +kernel, by decide +kernel⟩, List.mem_of_getElem? (i := 43) (by decide +kernel), List.mem_of_getElem? (i := 611) (by decide +kernel), List.mem_of_getElem? (i := 612) (by decide +kernel)⟩
theorem lw_p22 : lw_okq (⟨"MendedBankModel", "nextColumn", "(I)I"⟩, 20) := ⟨⟨by decide +kernel, by decide +kernel⟩, List.mem_of_getElem? (i := 619) (by decide +kernel), List.mem_of_getElem? (i := 697) (by decide +kernel), List.mem_of_getElem? (i := 698) (by decide +kernel)⟩
theorem lw_p23 : lw_okq (⟨"MendedBankModel", "isChosen", "(II)Z"⟩, 20) := ⟨⟨by decide +kernel, by decide +kernel⟩, List.mem_of_getElem? (i := 619) (by decide +kernel), List.mem_of_getElem? (i := 707) (by decide +kernel), List.mem_of_getElem? (i := 708) (by decide +kernel)⟩
theorem lw_p24 : lw_okq (⟨"MendedBankModel", "fullestWith", "(I)I"⟩, 20) := ⟨⟨by decide +kernel, by decide +kernel⟩, List.mem_of_getElem? (i := 619) (by decide +kernel), List.mem_of_getElem? (i := 711) (by decide +kernel), List.mem_of_getElem? (i := 712) (by decide +kernel)⟩
theorem lw_p25 : lw_okq (⟨"MendedBankModel", "begins", "()V"⟩, 20) := ⟨⟨by decide +kernel, by decide +kernel⟩, List.mem_of_getElem? (i := 619) (by decide +kernel), List.mem_of_getElem? (i := 715) (by decide +kernel), List.mem_of_getElem? (i := 716) (by decide +kernel)⟩
theorem lw_p26 : lw_okq (⟨"MendedBankModel", "bits", "()I"⟩, 20) := ⟨⟨by decide +kernel, by decide +kernel⟩, List.mem_of_getElem? (i := 619) (by decide +kernel), List.mem_of_getElem? (i := 719) (by decide +kernel), List.mem_of_getElem? (i := 720) (by decide +kernel)⟩
theorem lw_p27 : lw_okq (⟨"MendedBankModel", "isBit", "(I)Z"⟩, 20) := ⟨⟨by decide +kernel, by decide +kernel⟩, List.mem_of_getElem? (i := 619) (by decide +kernel), List.mem_of_getElem? (i := 727) (by decide +kernel), List.mem_of_getElem? (i := 728) (by decide +kernel)⟩
theorem lw_p28 : lw_okq (⟨"MendedBankModel", "wordOf", "(I)I"⟩, 20) := ⟨⟨by decide +kernel, by decide +kernel⟩, List.mem_of_getElem? (i := 619) (by decide +kernel), List.mem_of_getElem? (i := 739) (by decide +kernel), List.mem_of_getElem? (i := 740) (by decide +kernel)⟩
theorem lw_p29 : lw_okq (⟨"MendedBankModel", "syndromeOf", "(I)I"⟩, 20) := ⟨⟨by decide +kernel, by decide +kernel⟩, List.mem_of_getElem? (i := 619) (by decide +kernel), List.mem_of_getElem? (i := 743) (by decide +kernel), List.mem_of_getElem? (i := 744) (by decide +kernel)⟩
theorem lw_p30 : lw_okq (⟨"MendedBankModel", "isSet", "(I)Z"⟩, 20) := ⟨⟨by decide +kernel, by decide +kernel⟩, List.mem_of_getElem? (i := 619) (by decide +kernel), List.mem_of_getElem? (i := 751) (by decide +kernel), List.mem_of_getElem? (i := 752) (by decide +kernel)⟩
theorem lw_p31 : lw_okq (⟨"MendedBankModel", "mendedOf", "(I)I"⟩, 20) := ⟨⟨by decide +kernel, by decide +kernel⟩, List.mem_of_getElem? (i := 619) (by decide +kernel), List.mem_of_getElem? (i := 759) (by decide +kernel), List.mem_of_getElem? (i := 760) (by decide +kernel)⟩
def lw_privs_2 : List (MethodName × Nat) := [(⟨"MendedBank$FlipTable", "allOf", "(I)I"⟩, 3), (⟨"MendedBank$FlipTable", "missedOf", "(I)I"⟩, 3), (⟨"MendedBank$FlipTable", "rightlyMendedOf", "(I)I"⟩, 3), (⟨"MendedBank$FlipTable", "mendedOf", "(I)I"⟩, 3), (⟨"MendedBank$Bank", "badInUse", "()I"⟩, 11), (⟨"MendedBank$Bank", "stuckInUse", "()I"⟩, 11), (⟨"MendedBankModel", "nextColumn", "(I)I"⟩, 20), (⟨"MendedBankModel", "isChosen", "(II)Z"⟩, 20), (⟨"MendedBankModel", "fullestWith", "(I)I"⟩, 20), (⟨"MendedBankModel", "begins", "()V"⟩, 20), (⟨"MendedBankModel", "bits", "()I"⟩, 20), (⟨"MendedBankModel", "isBit", "(I)Z"⟩, 20), (⟨"MendedBankModel", "wordOf", "(I)I"⟩, 20), (⟨"MendedBankModel", "syndromeOf", "(I)I"⟩, 20), (⟨"MendedBankModel", "isSet", "(I)Z"⟩, 20), (⟨"MendedBankModel", "mendedOf", "(I)I"⟩, 20)]
theorem lw_r2 : ∀ q ∈ lw_privs_2, lw_okq q := List.forall_mem_cons.mpr ⟨lw_p16, List.forall_mem_cons.mpr ⟨lw_p17, List.forall_mem_cons.mpr ⟨lw_p18, List.forall_mem_cons.mpr ⟨lw_p19, List.forall_mem_cons.mpr ⟨lw_p20, List.forall_mem_cons.mpr ⟨lw_p21, List.forall_mem_cons.mpr ⟨lw_p22, List.forall_mem_cons.mpr ⟨lw_p23, List.forall_mem_cons.mpr ⟨lw_p24, List.forall_mem_cons.mpr ⟨lw_p25, List.forall_mem_cons.mpr ⟨lw_p26, List.forall_mem_cons.mpr ⟨lw_p27, List.forall_mem_cons.mpr ⟨lw_p28, List.forall_mem_cons.mpr ⟨lw_p29, List.forall_mem_cons.mpr ⟨lw_p30, List.forall_mem_cons.mpr ⟨lw_p31, fun _ h => absurd h List.not_mem_nil⟩⟩⟩⟩⟩⟩⟩⟩⟩⟩⟩⟩⟩⟩⟩⟩
theorem lw_p32 : lw_okq (⟨"MendedBankModel", "bitOf", "(I)I"⟩, 20) := ⟨⟨by decide +kernel, by decide +kernel⟩, List.mem_of_getElem? (i := 619) (by decide +kernel), List.mem_of_getElem? (i := 763) (by decide +kernel), List.mem_of_getElem? (i := 764) (by decide +kernel)⟩
theorem lw_p33 : lw_okq (⟨"MendedBankModel", "isWord", "(II)Z"⟩, 20) := ⟨⟨by decide +kernel, by decide +kernel⟩, List.mem_of_getElem? (i := 619) (by decide +kernel), List.mem_of_getElem? (i := 771) (by decide +kernel), List.mem_of_getElem? (i := 772) (by decide +kernel)⟩
theorem lw_p34 : lw_okq (⟨"MendedBankModel", "puts", "(III)V"⟩, 20) := ⟨⟨by decide +kernel, by decide +kernel⟩, List.mem_of_getElem? (i := 619) (by decide +kernel), List.mem_of_getElem? (i := 775) (by decide +kernel), List.mem_of_getElem? (i := 776) (by decide +kernel)⟩
theorem lw_p35 : lw_okq (⟨"MendedBankModel", "cellOf", "(III)I"⟩, 20) := ⟨⟨by decide +kernel, by decide +kernel⟩, List.mem_of_getElem? (i := 619) (by decide +kernel), List.mem_of_getElem? (i := 779) (by decide +kernel), List.mem_of_getElem? (i := 780) (by decide +kernel)⟩
theorem lw_p36 : lw_okq (⟨"MendedBankModel", "looksAt", "(II)I"⟩, 20) := ⟨⟨by decide +kernel, by decide +kernel⟩, List.mem_of_getElem? (i := 619) (by decide +kernel), List.mem_of_getElem? (i := 790) (by decide +kernel), List.mem_of_getElem? (i := 791) (by decide +kernel)⟩
theorem lw_p37 : lw_okq (⟨"MendedBankModel", "rawOf", "(II)I"⟩, 20) := ⟨⟨by decide +kernel, by decide +kernel⟩, List.mem_of_getElem? (i := 619) (by decide +kernel), List.mem_of_getElem? (i := 794) (by decide +kernel), List.mem_of_getElem? (i := 795) (by decide +kernel)⟩
theorem lw_p38 : lw_okq (⟨"MendedBankModel", "marksBit", "(III)V"⟩, 20) := ⟨⟨by decide +kernel, by decide +kernel⟩, List.mem_of_getElem? (i := 619) (by decide +kernel), List.mem_of_getElem? (i := 798) (by decide +kernel), List.mem_of_getElem? (i := 799) (by decide +kernel)⟩
theorem lw_p39 : lw_okq (⟨"MendedBankModel", "badIn", "(I)I"⟩, 20) := ⟨⟨by decide +kernel, by decide +kernel⟩, List.mem_of_getElem? (i := 619) (by decide +kernel), List.mem_of_getElem? (i := 802) (by decide +kernel), List.mem_of_getElem? (i := 803) (by decide +kernel)⟩
theorem lw_p40 : lw_okq (⟨"MendedBankModel", "swaps", "(I)V"⟩, 20) := ⟨⟨by decide +kernel, by decide +kernel⟩, List.mem_of_getElem? (i := 619) (by decide +kernel), List.mem_of_getElem? (i := 806) (by decide +kernel), List.mem_of_getElem? (i := 807) (by decide +kernel)⟩
theorem lw_p41 : lw_okq (⟨"MendedBankModel", "takesOver", "(II)V"⟩, 20) := ⟨⟨by decide +kernel, by decide +kernel⟩, List.mem_of_getElem? (i := 619) (by decide +kernel), List.mem_of_getElem? (i := 810) (by decide +kernel), List.mem_of_getElem? (i := 811) (by decide +kernel)⟩
theorem lw_p42 : lw_okq (⟨"MendedBankModel", "wrongIn", "(IZ)I"⟩, 20) := ⟨⟨by decide +kernel, by decide +kernel⟩, List.mem_of_getElem? (i := 619) (by decide +kernel), List.mem_of_getElem? (i := 814) (by decide +kernel), List.mem_of_getElem? (i := 815) (by decide +kernel)⟩
theorem lw_p43 : lw_okq (⟨"MendedBankModel", "isUsed", "(I)Z"⟩, 20) := ⟨⟨by decide +kernel, by decide +kernel⟩, List.mem_of_getElem? (i := 619) (by decide +kernel), List.mem_of_getElem? (i := 818) (by decide +kernel), List.mem_of_getElem? (i := 819) (by decide +kernel)⟩
theorem lw_p44 : lw_okq (⟨"MendedBankModel", "retires", "(I)V"⟩, 20) := ⟨⟨by decide +kernel, by decide +kernel⟩, List.mem_of_getElem? (i := 619) (by decide +kernel), List.mem_of_getElem? (i := 822) (by decide +kernel), List.mem_of_getElem? (i := 823) (by decide +kernel)⟩
theorem lw_p45 : lw_okq (⟨"MendedBankModel", "tells", "(I)V"⟩, 20) := ⟨⟨by decide +kernel, by decide +kernel⟩, List.mem_of_getElem? (i := 619) (by decide +kernel), List.mem_of_getElem? (i := 878) (by decide +kernel), List.mem_of_getElem? (i := 879) (by decide +kernel)⟩
theorem lw_p46 : lw_okq (⟨"MendedBankModel", "wrongInUse", "(Z)I"⟩, 20) := ⟨⟨by decide +kernel, by decide +kernel⟩, List.mem_of_getElem? (i := 619) (by decide +kernel), List.mem_of_getElem? (i := 900) (by decide +kernel), List.mem_of_getElem? (i := 901) (by decide +kernel)⟩
def lw_privs_3 : List (MethodName × Nat) := [(⟨"MendedBankModel", "bitOf", "(I)I"⟩, 20), (⟨"MendedBankModel", "isWord", "(II)Z"⟩, 20), (⟨"MendedBankModel", "puts", "(III)V"⟩, 20), (⟨"MendedBankModel", "cellOf", "(III)I"⟩, 20), (⟨"MendedBankModel", "looksAt", "(II)I"⟩, 20), (⟨"MendedBankModel", "rawOf", "(II)I"⟩, 20), (⟨"MendedBankModel", "marksBit", "(III)V"⟩, 20), (⟨"MendedBankModel", "badIn", "(I)I"⟩, 20), (⟨"MendedBankModel", "swaps", "(I)V"⟩, 20), (⟨"MendedBankModel", "takesOver", "(II)V"⟩, 20), (⟨"MendedBankModel", "wrongIn", "(IZ)I"⟩, 20), (⟨"MendedBankModel", "isUsed", "(I)Z"⟩, 20), (⟨"MendedBankModel", "retires", "(I)V"⟩, 20), (⟨"MendedBankModel", "tells", "(I)V"⟩, 20), (⟨"MendedBankModel", "wrongInUse", "(Z)I"⟩, 20)]
theorem lw_r3 : ∀ q ∈ lw_privs_3, lw_okq q := List.forall_mem_cons.mpr ⟨lw_p32, List.forall_mem_cons.mpr ⟨lw_p33, List.forall_mem_cons.mpr ⟨lw_p34, List.forall_mem_cons.mpr ⟨lw_p35, List.forall_mem_cons.mpr ⟨lw_p36, List.forall_mem_cons.mpr ⟨lw_p37, List.forall_mem_cons.mpr ⟨lw_p38, List.forall_mem_cons.mpr ⟨lw_p39, List.forall_mem_cons.mpr ⟨lw_p40, List.forall_mem_cons.mpr ⟨lw_p41, List.forall_mem_cons.mpr ⟨lw_p42, List.forall_mem_cons.mpr ⟨lw_p43, List.forall_mem_cons.mpr ⟨lw_p44, List.forall_mem_cons.mpr ⟨lw_p45, List.forall_mem_cons.mpr ⟨lw_p46, fun _ h => absurd h List.not_mem_nil⟩⟩⟩⟩⟩⟩⟩⟩⟩⟩⟩⟩⟩⟩⟩
def lw_privs : List (MethodName × Nat) := lw_privs_1 ++ (lw_privs_2 ++ (lw_privs_3))
def lw_tbl : List Cond := k2_sels lw_privs ++ tables_1
theorem lw_privs_ok : ∀ q ∈ lw_privs, lw_okq q := by
  show ∀ q ∈ lw_privs_1 ++ (lw_privs_2 ++ (lw_privs_3)), lw_okq q
  exact List.forall_mem_append.mpr ⟨lw_r1, List.forall_mem_append.mpr ⟨lw_r2, lw_r3⟩⟩
def RX0 : String := "MendedBank$Bank"
def TX0 : u_T := fun k => match k with
  | 0 => ("MendedBank$Bank", "rules", "LMendedBank$Code;", true)
  | 1 => ("MendedBank$Bank", "cells", "LMendedBank$Cells;", true)
  | 2 => ("MendedBank$Bank", "history", "LMendedBank$Log;", true)
  | 3 => ("MendedBank$Bank", "frames", "[I", true)
  | 4 => ("MendedBank$Bank", "keptValues", "[I", true)
  | 5 => ("MendedBank$Bank", "retiredFrames", "[I", true)
  | 6 => ("MendedBank$Bank", "retiredCount", "I", false)
  | 7 => ("MendedBank$Bank", "swappedBit", "I", false)
  | 8 => ("MendedBank$Bank", "sparePlace", "I", false)
  | 9 => ("MendedBank$Bank", "scrubPage", "I", false)
  | _ => ("MendedBank$Bank", "scrubWord", "I", false)
def tyX0 : Nat → FieldType := fun k => match k with
  | 0 => .object "MendedBank$Code"
  | 1 => .object "MendedBank$Cells"
  | 2 => .object "MendedBank$Log"
  | 3 => .array .int
  | 4 => .array .int
  | 5 => .array .int
  | 6 => .int
  | 7 => .int
  | 8 => .int
  | 9 => .int
  | _ => .int
abbrev wsX00 : List Cond := u_ws RX0 TX0 11
theorem nmX0 : ∀ a, a < 11 → ∀ b, b < 11 → a ≠ b → (TX0 a).2.1 ≠ (TX0 b).2.1 := by decide +kernel
theorem tyX0_ok : ∀ k, k < 11 → parseFieldDescriptor (TX0 k).2.2.1 = some (tyX0 k) := by decide +kernel
abbrev cX0_init : ByteArray := prog_2_method_1_code
def yX0_init : MethodName := ⟨RX0, "<init>", "(LMendedBank$Code;)V"⟩
abbrev cX0_renew : ByteArray := prog_2_method_2_code
def yX0_renew : MethodName := ⟨RX0, "renew", "()V"⟩
abbrev cX0_log : ByteArray := prog_2_method_3_code
def yX0_log : MethodName := ⟨RX0, "log", "()LMendedBank$Log;"⟩
abbrev cX0_frameOf : ByteArray := prog_2_method_4_code
def yX0_frameOf : MethodName := ⟨RX0, "frameOf", "(I)I"⟩
abbrev cX0_placeOf : ByteArray := prog_2_method_5_code
def yX0_placeOf : MethodName := ⟨RX0, "placeOf", "(I)I"⟩
abbrev cX0_retiredFrame : ByteArray := prog_2_method_6_code
def yX0_retiredFrame : MethodName := ⟨RX0, "retiredFrame", "(I)I"⟩
abbrev cX0_marksOf : ByteArray := prog_2_method_7_code
def yX0_marksOf : MethodName := ⟨RX0, "marksOf", "(III)I"⟩
abbrev cX0_keptValue : ByteArray := prog_2_method_8_code
def yX0_keptValue : MethodName := ⟨RX0, "keptValue", "(II)I"⟩
abbrev cX0_keep : ByteArray := prog_2_method_9_code
def yX0_keep : MethodName := ⟨RX0, "keep", "(III)V"⟩
abbrev cX0_bitsOf : ByteArray := prog_2_method_10_code
def yX0_bitsOf : MethodName := ⟨RX0, "bitsOf", "(II)I"⟩
abbrev cX0_turn : ByteArray := prog_2_method_11_code
def yX0_turn : MethodName := ⟨RX0, "turn", "(III)I"⟩
abbrev cX0_hold : ByteArray := prog_2_method_12_code
def yX0_hold : MethodName := ⟨RX0, "hold", "(IIII)I"⟩
abbrev cX0_loosen : ByteArray := prog_2_method_13_code
def yX0_loosen : MethodName := ⟨RX0, "loosen", "(III)I"⟩
abbrev cX0_lookAt : ByteArray := prog_2_method_14_code
def yX0_lookAt : MethodName := ⟨RX0, "lookAt", "(II)I"⟩
abbrev cX0_scrubNext : ByteArray := prog_2_method_15_code
def yX0_scrubNext : MethodName := ⟨RX0, "scrubNext", "()Z"⟩
abbrev cX0_tally : ByteArray := prog_2_method_16_code
def yX0_tally : MethodName := ⟨RX0, "tally", "(I)I"⟩
abbrev cX0_rowOf : ByteArray := prog_2_method_17_code
def yX0_rowOf : MethodName := ⟨RX0, "rowOf", "(II)I"⟩
abbrev cX0_placesOf : ByteArray := prog_2_method_18_code
def yX0_placesOf : MethodName := ⟨RX0, "placesOf", "(I)I"⟩
abbrev cX0_placesInUse : ByteArray := prog_2_method_19_code
def yX0_placesInUse : MethodName := ⟨RX0, "placesInUse", "()I"⟩
abbrev cX0_putBits : ByteArray := prog_2_method_20_code
def yX0_putBits : MethodName := ⟨RX0, "putBits", "(III)V"⟩
abbrev cX0_swapIfDue : ByteArray := prog_2_method_21_code
def yX0_swapIfDue : MethodName := ⟨RX0, "swapIfDue", "(I)Z"⟩
abbrev cX0_retireIfDue : ByteArray := prog_2_method_22_code
def yX0_retireIfDue : MethodName := ⟨RX0, "retireIfDue", "(I)Z"⟩
abbrev cX0_spareFramesLeft : ByteArray := prog_2_method_23_code
def yX0_spareFramesLeft : MethodName := ⟨RX0, "spareFramesLeft", "()I"⟩
abbrev cX0_badInUse : ByteArray := prog_2_method_24_code
def yX0_badInUse : MethodName := ⟨RX0, "badInUse", "()I"⟩
abbrev cX0_stuckInUse : ByteArray := prog_2_method_25_code
def yX0_stuckInUse : MethodName := ⟨RX0, "stuckInUse", "()I"⟩
abbrev cX0_stepScrubber : ByteArray := prog_2_method_26_code
def yX0_stepScrubber : MethodName := ⟨RX0, "stepScrubber", "()V"⟩
def RX1 : String := "MendedBank$Cells"
def TX1 : u_T := fun k => match k with
  | 0 => ("MendedBank$Cells", "values", "[I", true)
  | 1 => ("MendedBank$Cells", "stuck", "[I", true)
  | _ => ("MendedBank$Cells", "markCounts", "[I", true)
def tyX1 : Nat → FieldType := fun k => match k with
  | 0 => .array .int
  | 1 => .array .int
  | _ => .array .int
abbrev wsX10 : List Cond := u_ws RX1 TX1 3
theorem nmX1 : ∀ a, a < 3 → ∀ b, b < 3 → a ≠ b → (TX1 a).2.1 ≠ (TX1 b).2.1 := by decide +kernel
theorem tyX1_ok : ∀ k, k < 3 → parseFieldDescriptor (TX1 k).2.2.1 = some (tyX1 k) := by decide +kernel
abbrev cX1_init : ByteArray := prog_3_method_1_code
def yX1_init : MethodName := ⟨RX1, "<init>", "()V"⟩
abbrev cX1_clear : ByteArray := prog_3_method_2_code
def yX1_clear : MethodName := ⟨RX1, "clear", "()V"⟩
abbrev cX1_valuesIn : ByteArray := prog_3_method_3_code
def yX1_valuesIn : MethodName := ⟨RX1, "valuesIn", "(I)I"⟩
abbrev cX1_put : ByteArray := prog_3_method_4_code
def yX1_put : MethodName := ⟨RX1, "put", "(III)V"⟩
abbrev cX1_turn : ByteArray := prog_3_method_5_code
def yX1_turn : MethodName := ⟨RX1, "turn", "(II)I"⟩
abbrev cX1_valueAt : ByteArray := prog_3_method_6_code
def yX1_valueAt : MethodName := ⟨RX1, "valueAt", "(II)I"⟩
abbrev cX1_setValue : ByteArray := prog_3_method_7_code
def yX1_setValue : MethodName := ⟨RX1, "setValue", "(III)V"⟩
abbrev cX1_hold : ByteArray := prog_3_method_8_code
def yX1_hold : MethodName := ⟨RX1, "hold", "(III)V"⟩
abbrev cX1_loosen : ByteArray := prog_3_method_9_code
def yX1_loosen : MethodName := ⟨RX1, "loosen", "(II)V"⟩
abbrev cX1_addMark : ByteArray := prog_3_method_10_code
def yX1_addMark : MethodName := ⟨RX1, "addMark", "(II)V"⟩
abbrev cX1_marksAt : ByteArray := prog_3_method_11_code
def yX1_marksAt : MethodName := ⟨RX1, "marksAt", "(II)I"⟩
abbrev cX1_isBad : ByteArray := prog_3_method_12_code
def yX1_isBad : MethodName := ⟨RX1, "isBad", "(II)Z"⟩
abbrev cX1_renewCell : ByteArray := prog_3_method_13_code
def yX1_renewCell : MethodName := ⟨RX1, "renewCell", "(III)V"⟩
abbrev cX1_copyPlace : ByteArray := prog_3_method_14_code
def yX1_copyPlace : MethodName := ⟨RX1, "copyPlace", "(II)V"⟩
abbrev cX1_copyFrame : ByteArray := prog_3_method_15_code
def yX1_copyFrame : MethodName := ⟨RX1, "copyFrame", "(II)V"⟩
abbrev cX1_badInPlace : ByteArray := prog_3_method_16_code
def yX1_badInPlace : MethodName := ⟨RX1, "badInPlace", "(I)I"⟩
abbrev cX1_badInFrame : ByteArray := prog_3_method_17_code
def yX1_badInFrame : MethodName := ⟨RX1, "badInFrame", "(II)I"⟩
abbrev cX1_stuckInFrame : ByteArray := prog_3_method_18_code
def yX1_stuckInFrame : MethodName := ⟨RX1, "stuckInFrame", "(II)I"⟩
def RX2 : String := "MendedBank$Code"
def TX2 : u_T := fun k => match k with
  | 0 => ("MendedBank$Code", "columns", "[I", true)
  | 1 => ("MendedBank$Code", "rowOnes", "[I", true)
  | 2 => ("MendedBank$Code", "bitByColumn", "[I", true)
  | 3 => ("MendedBank$Code", "dataBits", "I", false)
  | _ => ("MendedBank$Code", "rows", "I", false)
def tyX2 : Nat → FieldType := fun k => match k with
  | 0 => .array .int
  | 1 => .array .int
  | 2 => .array .int
  | 3 => .int
  | _ => .int
abbrev wsX20 : List Cond := u_ws RX2 TX2 5
theorem nmX2 : ∀ a, a < 5 → ∀ b, b < 5 → a ≠ b → (TX2 a).2.1 ≠ (TX2 b).2.1 := by decide +kernel
theorem tyX2_ok : ∀ k, k < 5 → parseFieldDescriptor (TX2 k).2.2.1 = some (tyX2 k) := by decide +kernel
abbrev cX2_init : ByteArray := prog_4_method_1_code
def yX2_init : MethodName := ⟨RX2, "<init>", "()V"⟩
abbrev cX2_allows : ByteArray := prog_4_method_2_code
def yX2_allows : MethodName := ⟨RX2, "allows", "(II)Z"⟩
abbrev cX2_choose : ByteArray := prog_4_method_3_code
def yX2_choose : MethodName := ⟨RX2, "choose", "(II)V"⟩
abbrev cX2_give : ByteArray := prog_4_method_4_code
def yX2_give : MethodName := ⟨RX2, "give", "(II)V"⟩
abbrev cX2_bestFreeColumn : ByteArray := prog_4_method_5_code
def yX2_bestFreeColumn : MethodName := ⟨RX2, "bestFreeColumn", "()I"⟩
abbrev cX2_fullestRowWith : ByteArray := prog_4_method_6_code
def yX2_fullestRowWith : MethodName := ⟨RX2, "fullestRowWith", "(I)I"⟩
abbrev cX2_stands : ByteArray := prog_4_method_7_code
def yX2_stands : MethodName := ⟨RX2, "stands", "()Z"⟩
abbrev cX2_width : ByteArray := prog_4_method_8_code
def yX2_width : MethodName := ⟨RX2, "width", "()I"⟩
abbrev cX2_allBits : ByteArray := prog_4_method_9_code
def yX2_allBits : MethodName := ⟨RX2, "allBits", "()I"⟩
abbrev cX2_hasBit : ByteArray := prog_4_method_10_code
def yX2_hasBit : MethodName := ⟨RX2, "hasBit", "(I)Z"⟩
abbrev cX2_hasRow : ByteArray := prog_4_method_11_code
def yX2_hasRow : MethodName := ⟨RX2, "hasRow", "(I)Z"⟩
abbrev cX2_hasPlace : ByteArray := prog_4_method_12_code
def yX2_hasPlace : MethodName := ⟨RX2, "hasPlace", "(I)Z"⟩
abbrev cX2_hasValue : ByteArray := prog_4_method_13_code
def yX2_hasValue : MethodName := ⟨RX2, "hasValue", "(I)Z"⟩
abbrev cX2_hasSet : ByteArray := prog_4_method_14_code
def yX2_hasSet : MethodName := ⟨RX2, "hasSet", "(I)Z"⟩
abbrev cX2_columnOf : ByteArray := prog_4_method_15_code
def yX2_columnOf : MethodName := ⟨RX2, "columnOf", "(I)I"⟩
abbrev cX2_onesOfRow : ByteArray := prog_4_method_16_code
def yX2_onesOfRow : MethodName := ⟨RX2, "onesOfRow", "(I)I"⟩
abbrev cX2_onesOfAllRows : ByteArray := prog_4_method_17_code
def yX2_onesOfAllRows : MethodName := ⟨RX2, "onesOfAllRows", "()I"⟩
abbrev cX2_syndromeOf : ByteArray := prog_4_method_18_code
def yX2_syndromeOf : MethodName := ⟨RX2, "syndromeOf", "(I)I"⟩
abbrev cX2_wordOf : ByteArray := prog_4_method_19_code
def yX2_wordOf : MethodName := ⟨RX2, "wordOf", "(I)I"⟩
abbrev cX2_valueOf : ByteArray := prog_4_method_20_code
def yX2_valueOf : MethodName := ⟨RX2, "valueOf", "(I)I"⟩
abbrev cX2_bitWithColumn : ByteArray := prog_4_method_21_code
def yX2_bitWithColumn : MethodName := ⟨RX2, "bitWithColumn", "(I)I"⟩
abbrev cX2_mend : ByteArray := prog_4_method_22_code
def yX2_mend : MethodName := ⟨RX2, "mend", "(I)I"⟩
def RX3 : String := "MendedBank$FlipTable"
def TX3 : u_T := fun k => match k with
  | 0 => ("MendedBank$FlipTable", "rules", "LMendedBank$Code;", true)
  | 1 => ("MendedBank$FlipTable", "counts", "[I", true)
  | _ => ("MendedBank$FlipTable", "counted", "Z", false)
def tyX3 : Nat → FieldType := fun k => match k with
  | 0 => .object "MendedBank$Code"
  | 1 => .array .int
  | _ => .boolean
abbrev wsX30 : List Cond := u_ws RX3 TX3 3
theorem nmX3 : ∀ a, a < 3 → ∀ b, b < 3 → a ≠ b → (TX3 a).2.1 ≠ (TX3 b).2.1 := by decide +kernel
theorem tyX3_ok : ∀ k, k < 3 → parseFieldDescriptor (TX3 k).2.2.1 = some (tyX3 k) := by decide +kernel
abbrev cX3_init : ByteArray := prog_5_method_1_code
def yX3_init : MethodName := ⟨RX3, "<init>", "(LMendedBank$Code;)V"⟩
abbrev cX3_forget : ByteArray := prog_5_method_2_code
def yX3_forget : MethodName := ⟨RX3, "forget", "()V"⟩
abbrev cX3_countOf : ByteArray := prog_5_method_3_code
def yX3_countOf : MethodName := ⟨RX3, "countOf", "(II)I"⟩
abbrev cX3_countAll : ByteArray := prog_5_method_4_code
def yX3_countAll : MethodName := ⟨RX3, "countAll", "()V"⟩
abbrev cX3_allOf : ByteArray := prog_5_method_5_code
def yX3_allOf : MethodName := ⟨RX3, "allOf", "(I)I"⟩
abbrev cX3_missedOf : ByteArray := prog_5_method_6_code
def yX3_missedOf : MethodName := ⟨RX3, "missedOf", "(I)I"⟩
abbrev cX3_rightlyMendedOf : ByteArray := prog_5_method_7_code
def yX3_rightlyMendedOf : MethodName := ⟨RX3, "rightlyMendedOf", "(I)I"⟩
abbrev cX3_mendedOf : ByteArray := prog_5_method_8_code
def yX3_mendedOf : MethodName := ⟨RX3, "mendedOf", "(I)I"⟩
def RX4 : String := "MendedBank$Log"
def TX4 : u_T := fun k => match k with
  | 0 => ("MendedBank$Log", "looksByKind", "[I", true)
  | 1 => ("MendedBank$Log", "mendsByPage", "[I", true)
  | 2 => ("MendedBank$Log", "troubledPages", "[I", true)
  | 3 => ("MendedBank$Log", "troubledCount", "I", false)
  | 4 => ("MendedBank$Log", "lastKind", "I", false)
  | 5 => ("MendedBank$Log", "lastBit", "I", false)
  | 6 => ("MendedBank$Log", "lastPage", "I", false)
  | 7 => ("MendedBank$Log", "lastWord", "I", false)
  | 8 => ("MendedBank$Log", "lastSwap", "I", false)
  | _ => ("MendedBank$Log", "lastRetiring", "I", false)
def tyX4 : Nat → FieldType := fun k => match k with
  | 0 => .array .int
  | 1 => .array .int
  | 2 => .array .int
  | 3 => .int
  | 4 => .int
  | 5 => .int
  | 6 => .int
  | 7 => .int
  | 8 => .int
  | _ => .int
abbrev wsX40 : List Cond := u_ws RX4 TX4 10
theorem nmX4 : ∀ a, a < 10 → ∀ b, b < 10 → a ≠ b → (TX4 a).2.1 ≠ (TX4 b).2.1 := by decide +kernel
theorem tyX4_ok : ∀ k, k < 10 → parseFieldDescriptor (TX4 k).2.2.1 = some (tyX4 k) := by decide +kernel
abbrev cX4_init : ByteArray := prog_6_method_1_code
def yX4_init : MethodName := ⟨RX4, "<init>", "()V"⟩
abbrev cX4_clear : ByteArray := prog_6_method_2_code
def yX4_clear : MethodName := ⟨RX4, "clear", "()V"⟩
abbrev cX4_noteLook : ByteArray := prog_6_method_3_code
def yX4_noteLook : MethodName := ⟨RX4, "noteLook", "(IIII)V"⟩
abbrev cX4_noteMending : ByteArray := prog_6_method_4_code
def yX4_noteMending : MethodName := ⟨RX4, "noteMending", "(IZZ)V"⟩
abbrev cX4_latest : ByteArray := prog_6_method_5_code
def yX4_latest : MethodName := ⟨RX4, "latest", "(I)I"⟩
abbrev cX4_troubledPage : ByteArray := prog_6_method_6_code
def yX4_troubledPage : MethodName := ⟨RX4, "troubledPage", "(I)I"⟩
abbrev cX4_mendsOf : ByteArray := prog_6_method_7_code
def yX4_mendsOf : MethodName := ⟨RX4, "mendsOf", "(I)I"⟩
abbrev cX4_looksOf : ByteArray := prog_6_method_8_code
def yX4_looksOf : MethodName := ⟨RX4, "looksOf", "(I)I"⟩
abbrev cX4_allLooks : ByteArray := prog_6_method_9_code
def yX4_allLooks : MethodName := ⟨RX4, "allLooks", "()I"⟩
def RX5 : String := "MendedBank"
def TX5 : u_T := fun k => match k with
  | 0 => ("MendedBank", "rules", "LMendedBank$Code;", true)
  | 1 => ("MendedBank", "bank", "LMendedBank$Bank;", true)
  | _ => ("MendedBank", "flips", "LMendedBank$FlipTable;", true)
def tyX5 : Nat → FieldType := fun k => match k with
  | 0 => .object "MendedBank$Code"
  | 1 => .object "MendedBank$Bank"
  | _ => .object "MendedBank$FlipTable"
abbrev wsX50 : List Cond := u_ws RX5 TX5 3
theorem nmX5 : ∀ a, a < 3 → ∀ b, b < 3 → a ≠ b → (TX5 a).2.1 ≠ (TX5 b).2.1 := by decide +kernel
theorem tyX5_ok : ∀ k, k < 3 → parseFieldDescriptor (TX5 k).2.2.1 = some (tyX5 k) := by decide +kernel
abbrev cX5_init : ByteArray := prog_1_method_1_code
def yX5_init : MethodName := ⟨RX5, "<init>", "()V"⟩
abbrev cX5_code : ByteArray := prog_1_method_2_code
def yX5_code : MethodName := ⟨RX5, "code", "(II)I"⟩
abbrev cX5_column : ByteArray := prog_1_method_3_code
def yX5_column : MethodName := ⟨RX5, "column", "(I)I"⟩
abbrev cX5_ones : ByteArray := prog_1_method_4_code
def yX5_ones : MethodName := ⟨RX5, "ones", "(I)I"⟩
abbrev cX5_word : ByteArray := prog_1_method_5_code
def yX5_word : MethodName := ⟨RX5, "word", "(I)I"⟩
abbrev cX5_syndrome : ByteArray := prog_1_method_6_code
def yX5_syndrome : MethodName := ⟨RX5, "syndrome", "(I)I"⟩
abbrev cX5_mended : ByteArray := prog_1_method_7_code
def yX5_mended : MethodName := ⟨RX5, "mended", "(I)I"⟩
abbrev cX5_write : ByteArray := prog_1_method_8_code
def yX5_write : MethodName := ⟨RX5, "write", "(III)I"⟩
abbrev cX5_read : ByteArray := prog_1_method_9_code
def yX5_read : MethodName := ⟨RX5, "read", "(II)I"⟩
abbrev cX5_raw : ByteArray := prog_1_method_10_code
def yX5_raw : MethodName := ⟨RX5, "raw", "(II)I"⟩
abbrev cX5_flip : ByteArray := prog_1_method_11_code
def yX5_flip : MethodName := ⟨RX5, "flip", "(III)I"⟩
abbrev cX5_stick : ByteArray := prog_1_method_12_code
def yX5_stick : MethodName := ⟨RX5, "stick", "(IIII)I"⟩
abbrev cX5_scrub : ByteArray := prog_1_method_13_code
def yX5_scrub : MethodName := ⟨RX5, "scrub", "(I)I"⟩
abbrev cX5_look : ByteArray := prog_1_method_14_code
def yX5_look : MethodName := ⟨RX5, "look", "(I)I"⟩
abbrev cX5_fate : ByteArray := prog_1_method_15_code
def yX5_fate : MethodName := ⟨RX5, "fate", "(III)I"⟩
abbrev cX5_marks : ByteArray := prog_1_method_16_code
def yX5_marks : MethodName := ⟨RX5, "marks", "(III)I"⟩
abbrev cX5_frame : ByteArray := prog_1_method_17_code
def yX5_frame : MethodName := ⟨RX5, "frame", "(I)I"⟩
abbrev cX5_place : ByteArray := prog_1_method_18_code
def yX5_place : MethodName := ⟨RX5, "place", "(I)I"⟩
abbrev cX5_retired : ByteArray := prog_1_method_19_code
def yX5_retired : MethodName := ⟨RX5, "retired", "(I)I"⟩
abbrev cX5_troubled : ByteArray := prog_1_method_20_code
def yX5_troubled : MethodName := ⟨RX5, "troubled", "(I)I"⟩
abbrev cX5_mends : ByteArray := prog_1_method_21_code
def yX5_mends : MethodName := ⟨RX5, "mends", "(I)I"⟩
abbrev cX5_patterns : ByteArray := prog_1_method_22_code
def yX5_patterns : MethodName := ⟨RX5, "patterns", "(II)I"⟩
abbrev cX5_weight : ByteArray := prog_1_method_23_code
def yX5_weight : MethodName := ⟨RX5, "weight", "()I"⟩
abbrev cX5_safe : ByteArray := prog_1_method_24_code
def yX5_safe : MethodName := ⟨RX5, "safe", "(III)J"⟩
abbrev cX5_many : ByteArray := prog_1_method_25_code
def yX5_many : MethodName := ⟨RX5, "many", "(I)I"⟩
abbrev cX5_safeWalks : ByteArray := prog_1_method_26_code
def yX5_safeWalks : MethodName := ⟨RX5, "safeWalks", "(II)J"⟩
abbrev cX5_isWord : ByteArray := prog_1_method_27_code
def yX5_isWord : MethodName := ⟨RX5, "isWord", "(I)Z"⟩
abbrev cX5_hasPage : ByteArray := prog_1_method_28_code
def yX5_hasPage : MethodName := ⟨RX5, "hasPage", "(I)Z"⟩
abbrev cX5_hasWord : ByteArray := prog_1_method_29_code
def yX5_hasWord : MethodName := ⟨RX5, "hasWord", "(II)Z"⟩
def RX6 : String := "MendedBankModel"
def TX6 : u_T := fun k => match k with
  | 0 => ("MendedBankModel", "data", "I", false)
  | 1 => ("MendedBankModel", "checks", "I", false)
  | 2 => ("MendedBankModel", "columnOf", "[I", true)
  | 3 => ("MendedBankModel", "onesOf", "[I", true)
  | 4 => ("MendedBankModel", "cell", "[I", true)
  | 5 => ("MendedBankModel", "isStuck", "[Z", true)
  | 6 => ("MendedBankModel", "markOf", "[I", true)
  | 7 => ("MendedBankModel", "frameOf", "[I", true)
  | 8 => ("MendedBankModel", "placeOf", "[I", true)
  | 9 => ("MendedBankModel", "lastWritten", "[I", true)
  | 10 => ("MendedBankModel", "mendsOf", "[I", true)
  | 11 => ("MendedBankModel", "troubles", "[I", true)
  | 12 => ("MendedBankModel", "manyTroubles", "I", false)
  | 13 => ("MendedBankModel", "retirees", "[I", true)
  | 14 => ("MendedBankModel", "manyRetired", "I", false)
  | 15 => ("MendedBankModel", "isSwapped", "Z", false)
  | 16 => ("MendedBankModel", "next", "I", false)
  | 17 => ("MendedBankModel", "looks", "[I", true)
  | 18 => ("MendedBankModel", "latest", "[I", true)
  | _ => ("MendedBankModel", "patternsOf", "[I", true)
def tyX6 : Nat → FieldType := fun k => match k with
  | 0 => .int
  | 1 => .int
  | 2 => .array .int
  | 3 => .array .int
  | 4 => .array .int
  | 5 => .array .boolean
  | 6 => .array .int
  | 7 => .array .int
  | 8 => .array .int
  | 9 => .array .int
  | 10 => .array .int
  | 11 => .array .int
  | 12 => .int
  | 13 => .array .int
  | 14 => .int
  | 15 => .boolean
  | 16 => .int
  | 17 => .array .int
  | 18 => .array .int
  | _ => .array .int
abbrev wsX60 : List Cond := u_ws RX6 TX6 20
theorem nmX6 : ∀ a, a < 20 → ∀ b, b < 20 → a ≠ b → (TX6 a).2.1 ≠ (TX6 b).2.1 := by decide +kernel
theorem tyX6_ok : ∀ k, k < 20 → parseFieldDescriptor (TX6 k).2.2.1 = some (tyX6 k) := by decide +kernel
abbrev cX6_init : ByteArray := prog_8_method_1_code
def yX6_init : MethodName := ⟨RX6, "<init>", "()V"⟩
abbrev cX6_within : ByteArray := prog_8_method_2_code
def yX6_within : MethodName := ⟨RX6, "within", "(III)Z"⟩
abbrev cX6_isIn : ByteArray := prog_8_method_3_code
def yX6_isIn : MethodName := ⟨RX6, "isIn", "(II)I"⟩
abbrev cX6_sizeOf : ByteArray := prog_8_method_4_code
def yX6_sizeOf : MethodName := ⟨RX6, "sizeOf", "(I)I"⟩
abbrev cX6_bits : ByteArray := prog_8_method_5_code
def yX6_bits : MethodName := ⟨RX6, "bits", "()I"⟩
abbrev cX6_isBit : ByteArray := prog_8_method_6_code
def yX6_isBit : MethodName := ⟨RX6, "isBit", "(I)Z"⟩
abbrev cX6_isSet : ByteArray := prog_8_method_7_code
def yX6_isSet : MethodName := ⟨RX6, "isSet", "(I)Z"⟩
abbrev cX6_mostData : ByteArray := prog_8_method_8_code
def yX6_mostData : MethodName := ⟨RX6, "mostData", "(I)I"⟩
abbrev cX6_isChosen : ByteArray := prog_8_method_9_code
def yX6_isChosen : MethodName := ⟨RX6, "isChosen", "(II)Z"⟩
abbrev cX6_fullestWith : ByteArray := prog_8_method_10_code
def yX6_fullestWith : MethodName := ⟨RX6, "fullestWith", "(I)I"⟩
abbrev cX6_nextColumn : ByteArray := prog_8_method_11_code
def yX6_nextColumn : MethodName := ⟨RX6, "nextColumn", "(I)I"⟩
abbrev cX6_code : ByteArray := prog_8_method_12_code
def yX6_code : MethodName := ⟨RX6, "code", "(II)I"⟩
abbrev cX6_column : ByteArray := prog_8_method_13_code
def yX6_column : MethodName := ⟨RX6, "column", "(I)I"⟩
abbrev cX6_ones : ByteArray := prog_8_method_14_code
def yX6_ones : MethodName := ⟨RX6, "ones", "(I)I"⟩
abbrev cX6_syndromeOf : ByteArray := prog_8_method_15_code
def yX6_syndromeOf : MethodName := ⟨RX6, "syndromeOf", "(I)I"⟩
abbrev cX6_wordOf : ByteArray := prog_8_method_16_code
def yX6_wordOf : MethodName := ⟨RX6, "wordOf", "(I)I"⟩
abbrev cX6_bitOf : ByteArray := prog_8_method_17_code
def yX6_bitOf : MethodName := ⟨RX6, "bitOf", "(I)I"⟩
abbrev cX6_mendedOf : ByteArray := prog_8_method_18_code
def yX6_mendedOf : MethodName := ⟨RX6, "mendedOf", "(I)I"⟩
abbrev cX6_word : ByteArray := prog_8_method_19_code
def yX6_word : MethodName := ⟨RX6, "word", "(I)I"⟩
abbrev cX6_syndrome : ByteArray := prog_8_method_20_code
def yX6_syndrome : MethodName := ⟨RX6, "syndrome", "(I)I"⟩
abbrev cX6_mended : ByteArray := prog_8_method_21_code
def yX6_mended : MethodName := ⟨RX6, "mended", "(I)I"⟩
abbrev cX6_begins : ByteArray := prog_8_method_22_code
def yX6_begins : MethodName := ⟨RX6, "begins", "()V"⟩
abbrev cX6_at : ByteArray := prog_8_method_23_code
def yX6_at : MethodName := ⟨RX6, "at", "(III)I"⟩
abbrev cX6_cellOf : ByteArray := prog_8_method_24_code
def yX6_cellOf : MethodName := ⟨RX6, "cellOf", "(III)I"⟩
abbrev cX6_isWord : ByteArray := prog_8_method_25_code
def yX6_isWord : MethodName := ⟨RX6, "isWord", "(II)Z"⟩
abbrev cX6_puts : ByteArray := prog_8_method_26_code
def yX6_puts : MethodName := ⟨RX6, "puts", "(III)V"⟩
abbrev cX6_rawOf : ByteArray := prog_8_method_27_code
def yX6_rawOf : MethodName := ⟨RX6, "rawOf", "(II)I"⟩
abbrev cX6_write : ByteArray := prog_8_method_28_code
def yX6_write : MethodName := ⟨RX6, "write", "(III)I"⟩
abbrev cX6_badIn : ByteArray := prog_8_method_29_code
def yX6_badIn : MethodName := ⟨RX6, "badIn", "(I)I"⟩
abbrev cX6_isUsed : ByteArray := prog_8_method_30_code
def yX6_isUsed : MethodName := ⟨RX6, "isUsed", "(I)Z"⟩
abbrev cX6_wrongIn : ByteArray := prog_8_method_31_code
def yX6_wrongIn : MethodName := ⟨RX6, "wrongIn", "(IZ)I"⟩
abbrev cX6_takesOver : ByteArray := prog_8_method_32_code
def yX6_takesOver : MethodName := ⟨RX6, "takesOver", "(II)V"⟩
abbrev cX6_swaps : ByteArray := prog_8_method_33_code
def yX6_swaps : MethodName := ⟨RX6, "swaps", "(I)V"⟩
abbrev cX6_retires : ByteArray := prog_8_method_34_code
def yX6_retires : MethodName := ⟨RX6, "retires", "(I)V"⟩
abbrev cX6_marksBit : ByteArray := prog_8_method_35_code
def yX6_marksBit : MethodName := ⟨RX6, "marksBit", "(III)V"⟩
abbrev cX6_looksAt : ByteArray := prog_8_method_36_code
def yX6_looksAt : MethodName := ⟨RX6, "looksAt", "(II)I"⟩
abbrev cX6_read : ByteArray := prog_8_method_37_code
def yX6_read : MethodName := ⟨RX6, "read", "(II)I"⟩
abbrev cX6_raw : ByteArray := prog_8_method_38_code
def yX6_raw : MethodName := ⟨RX6, "raw", "(II)I"⟩
abbrev cX6_flip : ByteArray := prog_8_method_39_code
def yX6_flip : MethodName := ⟨RX6, "flip", "(III)I"⟩
abbrev cX6_stick : ByteArray := prog_8_method_40_code
def yX6_stick : MethodName := ⟨RX6, "stick", "(IIII)I"⟩
abbrev cX6_scrub : ByteArray := prog_8_method_41_code
def yX6_scrub : MethodName := ⟨RX6, "scrub", "(I)I"⟩
abbrev cX6_look : ByteArray := prog_8_method_42_code
def yX6_look : MethodName := ⟨RX6, "look", "(I)I"⟩
abbrev cX6_fate : ByteArray := prog_8_method_43_code
def yX6_fate : MethodName := ⟨RX6, "fate", "(III)I"⟩
abbrev cX6_marks : ByteArray := prog_8_method_44_code
def yX6_marks : MethodName := ⟨RX6, "marks", "(III)I"⟩
abbrev cX6_frame : ByteArray := prog_8_method_45_code
def yX6_frame : MethodName := ⟨RX6, "frame", "(I)I"⟩
abbrev cX6_place : ByteArray := prog_8_method_46_code
def yX6_place : MethodName := ⟨RX6, "place", "(I)I"⟩
abbrev cX6_retired : ByteArray := prog_8_method_47_code
def yX6_retired : MethodName := ⟨RX6, "retired", "(I)I"⟩
abbrev cX6_troubled : ByteArray := prog_8_method_48_code
def yX6_troubled : MethodName := ⟨RX6, "troubled", "(I)I"⟩
abbrev cX6_mends : ByteArray := prog_8_method_49_code
def yX6_mends : MethodName := ⟨RX6, "mends", "(I)I"⟩
abbrev cX6_tells : ByteArray := prog_8_method_50_code
def yX6_tells : MethodName := ⟨RX6, "tells", "(I)V"⟩
abbrev cX6_patterns : ByteArray := prog_8_method_51_code
def yX6_patterns : MethodName := ⟨RX6, "patterns", "(II)I"⟩
abbrev cX6_nextSet : ByteArray := prog_8_method_52_code
def yX6_nextSet : MethodName := ⟨RX6, "nextSet", "(I)I"⟩
abbrev cX6_weight : ByteArray := prog_8_method_53_code
def yX6_weight : MethodName := ⟨RX6, "weight", "()I"⟩
abbrev cX6_safe : ByteArray := prog_8_method_54_code
def yX6_safe : MethodName := ⟨RX6, "safe", "(III)J"⟩
abbrev cX6_wrongInUse : ByteArray := prog_8_method_55_code
def yX6_wrongInUse : MethodName := ⟨RX6, "wrongInUse", "(Z)I"⟩
abbrev cX6_many : ByteArray := prog_8_method_56_code
def yX6_many : MethodName := ⟨RX6, "many", "(I)I"⟩
def RJ6 : String := "java/lang/Integer"
abbrev cJ6_bitCount_0f7a4 : ByteArray := prog_9_method_49_code
def yJ6_bitCount_0f7a4 : MethodName := ⟨RJ6, "bitCount", "(I)I"⟩
def RJ9 : String := "java/lang/Math"
abbrev cJ9_max_7cf53 : ByteArray := prog_10_method_65_code
def yJ9_max_7cf53 : MethodName := ⟨RJ9, "max", "(II)I"⟩
def RJ7 : String := "java/util/Arrays"
abbrev cJ7_fill_53178 : ByteArray := prog_11_method_103_code
def yJ7_fill_53178 : MethodName := ⟨RJ7, "fill", "([II)V"⟩
def RL : String := "MendedBankLaw"
abbrev cL_law : ByteArray := code
abbrev vwCl : List vw_C := [(RX0, TX0, 11), (RX1, TX1, 3), (RX2, TX2, 5), (RX3, TX3, 3), (RX4, TX4, 10), (RX5, TX5, 3), (RX6, TX6, 20)]
/-- the words that stay, whatever a call resolves -/
def r_tbl : List Cond := lw_tbl.filter goodWord
theorem lk {w : Cond} (i : Nat) (h : tables_1[i]? = some w) (g : goodWord w = true := by rfl) : w ∈ r_tbl := List.mem_filter.mpr ⟨List.mem_append_right _ (List.mem_of_getElem? h), g⟩
theorem lks {w : Cond} (i : Nat) (h : (k2_sels lw_privs)[i]? = some w) (g : goodWord w = true := by rfl) : w ∈ r_tbl := List.mem_filter.mpr ⟨List.mem_append_left _ (List.mem_of_getElem? h), g⟩
abbrev r_M : Type := MethodName × ByteArray × Nat × Option FieldType
abbrev MX5_init : r_M := (yX5_init, cX5_init, 1, none)
abbrev MX2_init : r_M := (yX2_init, cX2_init, 1, none)
abbrev MX0_init : r_M := (yX0_init, cX0_init, 2, none)
abbrev MX1_init : r_M := (yX1_init, cX1_init, 1, none)
abbrev MX4_init : r_M := (yX4_init, cX4_init, 1, none)
abbrev MX3_init : r_M := (yX3_init, cX3_init, 2, none)
abbrev MX5_code : r_M := (yX5_code, cX5_code, 3, (some .int))
abbrev MX2_allows : r_M := (yX2_allows, cX2_allows, 2, (some .boolean))
abbrev MX2_choose : r_M := (yX2_choose, cX2_choose, 6, none)
abbrev MJ7_fill_53178 : r_M := (yJ7_fill_53178, cJ7_fill_53178, 4, none)
abbrev MX2_bestFreeColumn : r_M := (yX2_bestFreeColumn, cX2_bestFreeColumn, 7, (some .int))
abbrev MJ6_bitCount_0f7a4 : r_M := (yJ6_bitCount_0f7a4, cJ6_bitCount_0f7a4, 1, (some .int))
abbrev MX2_fullestRowWith : r_M := (yX2_fullestRowWith, cX2_fullestRowWith, 4, (some .int))
abbrev MJ9_max_7cf53 : r_M := (yJ9_max_7cf53, cJ9_max_7cf53, 2, (some .int))
abbrev MX2_give : r_M := (yX2_give, cX2_give, 3, none)
abbrev MX0_renew : r_M := (yX0_renew, cX0_renew, 2, none)
abbrev MX1_clear : r_M := (yX1_clear, cX1_clear, 1, none)
abbrev MX4_clear : r_M := (yX4_clear, cX4_clear, 1, none)
abbrev MX2_width : r_M := (yX2_width, cX2_width, 1, (some .int))
abbrev MX3_forget : r_M := (yX3_forget, cX3_forget, 1, none)
abbrev MX5_column : r_M := (yX5_column, cX5_column, 2, (some .int))
abbrev MX2_hasBit : r_M := (yX2_hasBit, cX2_hasBit, 2, (some .boolean))
abbrev MX2_columnOf : r_M := (yX2_columnOf, cX2_columnOf, 2, (some .int))
abbrev MX5_ones : r_M := (yX5_ones, cX5_ones, 2, (some .int))
abbrev MX2_hasRow : r_M := (yX2_hasRow, cX2_hasRow, 2, (some .boolean))
abbrev MX2_onesOfRow : r_M := (yX2_onesOfRow, cX2_onesOfRow, 2, (some .int))
abbrev MX5_word : r_M := (yX5_word, cX5_word, 2, (some .int))
abbrev MX2_stands : r_M := (yX2_stands, cX2_stands, 1, (some .boolean))
abbrev MX2_hasValue : r_M := (yX2_hasValue, cX2_hasValue, 2, (some .boolean))
abbrev MX2_wordOf : r_M := (yX2_wordOf, cX2_wordOf, 2, (some .int))
abbrev MX2_syndromeOf : r_M := (yX2_syndromeOf, cX2_syndromeOf, 4, (some .int))
abbrev MX5_syndrome : r_M := (yX5_syndrome, cX5_syndrome, 2, (some .int))
abbrev MX2_hasSet : r_M := (yX2_hasSet, cX2_hasSet, 2, (some .boolean))
abbrev MX2_allBits : r_M := (yX2_allBits, cX2_allBits, 1, (some .int))
abbrev MX5_mended : r_M := (yX5_mended, cX5_mended, 2, (some .int))
abbrev MX2_mend : r_M := (yX2_mend, cX2_mend, 4, (some .int))
abbrev MX5_write : r_M := (yX5_write, cX5_write, 4, (some .int))
abbrev MX5_hasWord : r_M := (yX5_hasWord, cX5_hasWord, 3, (some .boolean))
abbrev MX5_hasPage : r_M := (yX5_hasPage, cX5_hasPage, 2, (some .boolean))
abbrev MX5_isWord : r_M := (yX5_isWord, cX5_isWord, 1, (some .boolean))
abbrev MX0_keep : r_M := (yX0_keep, cX0_keep, 4, none)
abbrev MX0_putBits : r_M := (yX0_putBits, cX0_putBits, 4, none)
abbrev MX0_rowOf : r_M := (yX0_rowOf, cX0_rowOf, 3, (some .int))
abbrev MX0_placesOf : r_M := (yX0_placesOf, cX0_placesOf, 2, (some .int))
abbrev MX0_placesInUse : r_M := (yX0_placesInUse, cX0_placesInUse, 1, (some .int))
abbrev MX1_put : r_M := (yX1_put, cX1_put, 5, none)
abbrev MX5_read : r_M := (yX5_read, cX5_read, 4, (some .int))
abbrev MX0_lookAt : r_M := (yX0_lookAt, cX0_lookAt, 8, (some .int))
abbrev MX0_bitsOf : r_M := (yX0_bitsOf, cX0_bitsOf, 5, (some .int))
abbrev MX1_valuesIn : r_M := (yX1_valuesIn, cX1_valuesIn, 2, (some .int))
abbrev MX4_noteLook : r_M := (yX4_noteLook, cX4_noteLook, 5, none)
abbrev MX2_bitWithColumn : r_M := (yX2_bitWithColumn, cX2_bitWithColumn, 2, (some .int))
abbrev MX0_placeOf : r_M := (yX0_placeOf, cX0_placeOf, 2, (some .int))
abbrev MX1_addMark : r_M := (yX1_addMark, cX1_addMark, 3, none)
abbrev MX0_swapIfDue : r_M := (yX0_swapIfDue, cX0_swapIfDue, 2, (some .boolean))
abbrev MX1_badInPlace : r_M := (yX1_badInPlace, cX1_badInPlace, 4, (some .int))
abbrev MX1_isBad : r_M := (yX1_isBad, cX1_isBad, 3, (some .boolean))
abbrev MX1_marksAt : r_M := (yX1_marksAt, cX1_marksAt, 3, (some .int))
abbrev MX1_copyPlace : r_M := (yX1_copyPlace, cX1_copyPlace, 4, none)
abbrev MX1_valueAt : r_M := (yX1_valueAt, cX1_valueAt, 3, (some .int))
abbrev MX1_renewCell : r_M := (yX1_renewCell, cX1_renewCell, 4, none)
abbrev MX1_setValue : r_M := (yX1_setValue, cX1_setValue, 4, none)
abbrev MX1_loosen : r_M := (yX1_loosen, cX1_loosen, 3, none)
abbrev MX0_retireIfDue : r_M := (yX0_retireIfDue, cX0_retireIfDue, 4, (some .boolean))
abbrev MX0_spareFramesLeft : r_M := (yX0_spareFramesLeft, cX0_spareFramesLeft, 1, (some .int))
abbrev MX1_badInFrame : r_M := (yX1_badInFrame, cX1_badInFrame, 6, (some .int))
abbrev MX1_copyFrame : r_M := (yX1_copyFrame, cX1_copyFrame, 7, none)
abbrev MX4_noteMending : r_M := (yX4_noteMending, cX4_noteMending, 4, none)
abbrev MX2_valueOf : r_M := (yX2_valueOf, cX2_valueOf, 2, (some .int))
abbrev MX5_raw : r_M := (yX5_raw, cX5_raw, 3, (some .int))
abbrev MX5_flip : r_M := (yX5_flip, cX5_flip, 4, (some .int))
abbrev MX0_turn : r_M := (yX0_turn, cX0_turn, 4, (some .int))
abbrev MX1_turn : r_M := (yX1_turn, cX1_turn, 4, (some .int))
abbrev MX5_stick : r_M := (yX5_stick, cX5_stick, 5, (some .int))
abbrev MX0_loosen : r_M := (yX0_loosen, cX0_loosen, 5, (some .int))
abbrev MX0_hold : r_M := (yX0_hold, cX0_hold, 7, (some .int))
abbrev MX1_hold : r_M := (yX1_hold, cX1_hold, 4, none)
abbrev MX5_scrub : r_M := (yX5_scrub, cX5_scrub, 4, (some .int))
abbrev MX0_scrubNext : r_M := (yX0_scrubNext, cX0_scrubNext, 4, (some .boolean))
abbrev MX0_stepScrubber : r_M := (yX0_stepScrubber, cX0_stepScrubber, 1, none)
abbrev MX4_latest : r_M := (yX4_latest, cX4_latest, 2, (some .int))
abbrev MX5_look : r_M := (yX5_look, cX5_look, 2, (some .int))
abbrev MX0_log : r_M := (yX0_log, cX0_log, 1, (some (.object "MendedBank$Log")))
abbrev MX5_fate : r_M := (yX5_fate, cX5_fate, 6, (some .int))
abbrev MX0_keptValue : r_M := (yX0_keptValue, cX0_keptValue, 3, (some .int))
abbrev MX5_marks : r_M := (yX5_marks, cX5_marks, 5, (some .int))
abbrev MX2_hasPlace : r_M := (yX2_hasPlace, cX2_hasPlace, 2, (some .boolean))
abbrev MX0_marksOf : r_M := (yX0_marksOf, cX0_marksOf, 4, (some .int))
abbrev MX5_frame : r_M := (yX5_frame, cX5_frame, 2, (some .int))
abbrev MX0_frameOf : r_M := (yX0_frameOf, cX0_frameOf, 2, (some .int))
abbrev MX5_place : r_M := (yX5_place, cX5_place, 2, (some .int))
abbrev MX5_retired : r_M := (yX5_retired, cX5_retired, 2, (some .int))
abbrev MX0_retiredFrame : r_M := (yX0_retiredFrame, cX0_retiredFrame, 2, (some .int))
abbrev MX5_troubled : r_M := (yX5_troubled, cX5_troubled, 2, (some .int))
abbrev MX4_troubledPage : r_M := (yX4_troubledPage, cX4_troubledPage, 2, (some .int))
abbrev MX5_mends : r_M := (yX5_mends, cX5_mends, 2, (some .int))
abbrev MX4_mendsOf : r_M := (yX4_mendsOf, cX4_mendsOf, 2, (some .int))
abbrev MX5_patterns : r_M := (yX5_patterns, cX5_patterns, 3, (some .int))
abbrev MX3_countOf : r_M := (yX3_countOf, cX3_countOf, 3, (some .int))
abbrev MX3_countAll : r_M := (yX3_countAll, cX3_countAll, 5, none)
abbrev MX3_allOf : r_M := (yX3_allOf, cX3_allOf, 4, (some .int))
abbrev MX3_missedOf : r_M := (yX3_missedOf, cX3_missedOf, 2, (some .int))
abbrev MX3_rightlyMendedOf : r_M := (yX3_rightlyMendedOf, cX3_rightlyMendedOf, 2, (some .int))
abbrev MX3_mendedOf : r_M := (yX3_mendedOf, cX3_mendedOf, 4, (some .int))
abbrev MX5_weight : r_M := (yX5_weight, cX5_weight, 1, (some .int))
abbrev MX2_onesOfAllRows : r_M := (yX2_onesOfAllRows, cX2_onesOfAllRows, 3, (some .int))
abbrev MX5_safe : r_M := (yX5_safe, cX5_safe, 9, (some .long))
abbrev MX5_safeWalks : r_M := (yX5_safeWalks, cX5_safeWalks, 6, (some .long))
abbrev MX5_many : r_M := (yX5_many, cX5_many, 2, (some .int))
abbrev MX0_tally : r_M := (yX0_tally, cX0_tally, 2, (some .int))
abbrev MX4_allLooks : r_M := (yX4_allLooks, cX4_allLooks, 1, (some .int))
abbrev MX4_looksOf : r_M := (yX4_looksOf, cX4_looksOf, 2, (some .int))
abbrev MX0_badInUse : r_M := (yX0_badInUse, cX0_badInUse, 3, (some .int))
abbrev MX0_stuckInUse : r_M := (yX0_stuckInUse, cX0_stuckInUse, 3, (some .int))
abbrev MX1_stuckInFrame : r_M := (yX1_stuckInFrame, cX1_stuckInFrame, 5, (some .int))
abbrev MX6_init : r_M := (yX6_init, cX6_init, 1, none)
abbrev MX6_code : r_M := (yX6_code, cX6_code, 5, (some .int))
abbrev MX6_within : r_M := (yX6_within, cX6_within, 3, (some .boolean))
abbrev MX6_mostData : r_M := (yX6_mostData, cX6_mostData, 1, (some .int))
abbrev MX6_nextColumn : r_M := (yX6_nextColumn, cX6_nextColumn, 7, (some .int))
abbrev MX6_sizeOf : r_M := (yX6_sizeOf, cX6_sizeOf, 3, (some .int))
abbrev MX6_isIn : r_M := (yX6_isIn, cX6_isIn, 2, (some .int))
abbrev MX6_isChosen : r_M := (yX6_isChosen, cX6_isChosen, 4, (some .boolean))
abbrev MX6_fullestWith : r_M := (yX6_fullestWith, cX6_fullestWith, 5, (some .int))
abbrev MX6_begins : r_M := (yX6_begins, cX6_begins, 2, none)
abbrev MX6_bits : r_M := (yX6_bits, cX6_bits, 1, (some .int))
abbrev MX6_column : r_M := (yX6_column, cX6_column, 2, (some .int))
abbrev MX6_isBit : r_M := (yX6_isBit, cX6_isBit, 2, (some .boolean))
abbrev MX6_ones : r_M := (yX6_ones, cX6_ones, 2, (some .int))
abbrev MX6_word : r_M := (yX6_word, cX6_word, 2, (some .int))
abbrev MX6_wordOf : r_M := (yX6_wordOf, cX6_wordOf, 2, (some .int))
abbrev MX6_syndromeOf : r_M := (yX6_syndromeOf, cX6_syndromeOf, 4, (some .int))
abbrev MX6_syndrome : r_M := (yX6_syndrome, cX6_syndrome, 2, (some .int))
abbrev MX6_isSet : r_M := (yX6_isSet, cX6_isSet, 2, (some .boolean))
abbrev MX6_mended : r_M := (yX6_mended, cX6_mended, 2, (some .int))
abbrev MX6_mendedOf : r_M := (yX6_mendedOf, cX6_mendedOf, 4, (some .int))
abbrev MX6_bitOf : r_M := (yX6_bitOf, cX6_bitOf, 3, (some .int))
abbrev MX6_write : r_M := (yX6_write, cX6_write, 4, (some .int))
abbrev MX6_isWord : r_M := (yX6_isWord, cX6_isWord, 3, (some .boolean))
abbrev MX6_puts : r_M := (yX6_puts, cX6_puts, 6, none)
abbrev MX6_cellOf : r_M := (yX6_cellOf, cX6_cellOf, 4, (some .int))
abbrev MX6_at : r_M := (yX6_at, cX6_at, 3, (some .int))
abbrev MX6_read : r_M := (yX6_read, cX6_read, 4, (some .int))
abbrev MX6_looksAt : r_M := (yX6_looksAt, cX6_looksAt, 7, (some .int))
abbrev MX6_rawOf : r_M := (yX6_rawOf, cX6_rawOf, 5, (some .int))
abbrev MX6_marksBit : r_M := (yX6_marksBit, cX6_marksBit, 4, none)
abbrev MX6_badIn : r_M := (yX6_badIn, cX6_badIn, 4, (some .int))
abbrev MX6_swaps : r_M := (yX6_swaps, cX6_swaps, 4, none)
abbrev MX6_takesOver : r_M := (yX6_takesOver, cX6_takesOver, 3, none)
abbrev MX6_wrongIn : r_M := (yX6_wrongIn, cX6_wrongIn, 8, (some .int))
abbrev MX6_isUsed : r_M := (yX6_isUsed, cX6_isUsed, 3, (some .boolean))
abbrev MX6_retires : r_M := (yX6_retires, cX6_retires, 5, none)
abbrev MX6_raw : r_M := (yX6_raw, cX6_raw, 3, (some .int))
abbrev MX6_flip : r_M := (yX6_flip, cX6_flip, 7, (some .int))
abbrev MX6_stick : r_M := (yX6_stick, cX6_stick, 7, (some .int))
abbrev MX6_scrub : r_M := (yX6_scrub, cX6_scrub, 7, (some .int))
abbrev MX6_look : r_M := (yX6_look, cX6_look, 2, (some .int))
abbrev MX6_fate : r_M := (yX6_fate, cX6_fate, 7, (some .int))
abbrev MX6_marks : r_M := (yX6_marks, cX6_marks, 4, (some .int))
abbrev MX6_frame : r_M := (yX6_frame, cX6_frame, 2, (some .int))
abbrev MX6_place : r_M := (yX6_place, cX6_place, 2, (some .int))
abbrev MX6_retired : r_M := (yX6_retired, cX6_retired, 2, (some .int))
abbrev MX6_troubled : r_M := (yX6_troubled, cX6_troubled, 2, (some .int))
abbrev MX6_mends : r_M := (yX6_mends, cX6_mends, 2, (some .int))
abbrev MX6_patterns : r_M := (yX6_patterns, cX6_patterns, 4, (some .int))
abbrev MX6_tells : r_M := (yX6_tells, cX6_tells, 4, none)
abbrev MX6_nextSet : r_M := (yX6_nextSet, cX6_nextSet, 3, (some .int))
abbrev MX6_weight : r_M := (yX6_weight, cX6_weight, 3, (some .int))
abbrev MX6_safe : r_M := (yX6_safe, cX6_safe, 9, (some .long))
abbrev MX6_many : r_M := (yX6_many, cX6_many, 2, (some .int))
abbrev MX6_wrongInUse : r_M := (yX6_wrongInUse, cX6_wrongInUse, 4, (some .int))
theorem iwX0 : ∀ w ∈ u_ws RX0 TX0 11, w ∈ r_tbl := by decide +kernel
theorem iwX1 : ∀ w ∈ u_ws RX1 TX1 3, w ∈ r_tbl := by decide +kernel
theorem iwX2 : ∀ w ∈ u_ws RX2 TX2 5, w ∈ r_tbl := by decide +kernel
theorem iwX3 : ∀ w ∈ u_ws RX3 TX3 3, w ∈ r_tbl := by decide +kernel
theorem iwX4 : ∀ w ∈ u_ws RX4 TX4 10, w ∈ r_tbl := by decide +kernel
theorem iwX5 : ∀ w ∈ u_ws RX5 TX5 3, w ∈ r_tbl := by decide +kernel
theorem iwX6 : ∀ w ∈ u_ws RX6 TX6 20, w ∈ r_tbl := by decide +kernel
