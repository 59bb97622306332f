section
-- ===== PART A: goes FIRST, ahead of the names: the tables' words, and 'selects' of the private methods out of them =====
/-- a private method of a class that the tables say can be made, by its rows of tables_1 -/
def lw_okq (q : MethodName × Nat) : Prop := (q.1.cls ≠ "java/lang/invoke/MethodHandle" ∧ q.1.cls ≠ "java/lang/invoke/VarHandle") ∧ Cond.instantiable q.1.cls q.2 ∈ tables_1 ∧ Cond.privateMethod q.1 ∈ tables_1 ∧ Cond.instanceMethod q.1 ∈ tables_1
theorem lw_p0 : lw_okq (⟨"MendedBank$Code", "bestFreeColumn", "()I"⟩, 5) := ⟨⟨by decide +kernel, by decide +kernel⟩, List.mem_of_getElem? (i := 20) (by decide +kernel), List.mem_of_getElem? (i := 178) (by decide +kernel), List.mem_of_getElem? (i := 179) (by decide +kernel)⟩
theorem lw_p1 : lw_okq (⟨"MendedBank$Code", "fullestRowWith", "(I)I"⟩, 5) := ⟨⟨by decide +kernel, by decide +kernel⟩, List.mem_of_getElem? (i := 20) (by decide +kernel), List.mem_of_getElem? (i := 188) (by decide +kernel), List.mem_of_getElem? (i := 189) (by decide +kernel)⟩
theorem lw_p2 : lw_okq (⟨"MendedBank$Code", "give", "(II)V"⟩, 5) := ⟨⟨by decide +kernel, by decide +kernel⟩, List.mem_of_getElem? (i := 20) (by decide +kernel), List.mem_of_getElem? (i := 195) (by decide +kernel), List.mem_of_getElem? (i := 196) (by decide +kernel)⟩
theorem lw_p3 : lw_okq (⟨"MendedBank", "hasWord", "(II)Z"⟩, 3) := ⟨⟨by decide +kernel, by decide +kernel⟩, List.mem_of_getElem? (i := 12) (by decide +kernel), List.mem_of_getElem? (i := 293) (by decide +kernel), List.mem_of_getElem? (i := 294) (by decide +kernel)⟩
theorem lw_p4 : lw_okq (⟨"MendedBank", "hasPage", "(I)Z"⟩, 3) := ⟨⟨by decide +kernel, by decide +kernel⟩, List.mem_of_getElem? (i := 12) (by decide +kernel), List.mem_of_getElem? (i := 297) (by decide +kernel), List.mem_of_getElem? (i := 298) (by decide +kernel)⟩
theorem lw_p5 : lw_okq (⟨"MendedBank$Bank", "putBits", "(III)V"⟩, 11) := ⟨⟨by decide +kernel, by decide +kernel⟩, List.mem_of_getElem? (i := 43) (by decide +kernel), List.mem_of_getElem? (i := 309) (by decide +kernel), List.mem_of_getElem? (i := 310) (by decide +kernel)⟩
theorem lw_p6 : lw_okq (⟨"MendedBank$Bank", "rowOf", "(II)I"⟩, 11) := ⟨⟨by decide +kernel, by decide +kernel⟩, List.mem_of_getElem? (i := 43) (by decide +kernel), List.mem_of_getElem? (i := 313) (by decide +kernel), List.mem_of_getElem? (i := 314) (by decide +kernel)⟩
theorem lw_p7 : lw_okq (⟨"MendedBank$Bank", "placesOf", "(I)I"⟩, 11) := ⟨⟨by decide +kernel, by decide +kernel⟩, List.mem_of_getElem? (i := 43) (by decide +kernel), List.mem_of_getElem? (i := 317) (by decide +kernel), List.mem_of_getElem? (i := 318) (by decide +kernel)⟩
theorem lw_p8 : lw_okq (⟨"MendedBank$Bank", "placesInUse", "()I"⟩, 11) := ⟨⟨by decide +kernel, by decide +kernel⟩, List.mem_of_getElem? (i := 43) (by decide +kernel), List.mem_of_getElem? (i := 321) (by decide +kernel), List.mem_of_getElem? (i := 322) (by decide +kernel)⟩
theorem lw_p9 : lw_okq (⟨"MendedBank$Bank", "swapIfDue", "(I)Z"⟩, 11) := ⟨⟨by decide +kernel, by decide +kernel⟩, List.mem_of_getElem? (i := 43) (by decide +kernel), List.mem_of_getElem? (i := 363) (by decide +kernel), List.mem_of_getElem? (i := 364) (by decide +kernel)⟩
theorem lw_p10 : lw_okq (⟨"MendedBank$Cells", "isBad", "(II)Z"⟩, 3) := ⟨⟨by decide +kernel, by decide +kernel⟩, List.mem_of_getElem? (i := 49) (by decide +kernel), List.mem_of_getElem? (i := 371) (by decide +kernel), List.mem_of_getElem? (i := 372) (by decide +kernel)⟩
theorem lw_p11 : lw_okq (⟨"MendedBank$Cells", "renewCell", "(III)V"⟩, 3) := ⟨⟨by decide +kernel, by decide +kernel⟩, List.mem_of_getElem? (i := 49) (by decide +kernel), List.mem_of_getElem? (i := 387) (by decide +kernel), List.mem_of_getElem? (i := 388) (by decide +kernel)⟩
theorem lw_p12 : lw_okq (⟨"MendedBank$Bank", "retireIfDue", "(I)Z"⟩, 11) := ⟨⟨by decide +kernel, by decide +kernel⟩, List.mem_of_getElem? (i := 43) (by decide +kernel), List.mem_of_getElem? (i := 399) (by decide +kernel), List.mem_of_getElem? (i := 400) (by decide +kernel)⟩
theorem lw_p13 : lw_okq (⟨"MendedBank$Bank", "spareFramesLeft", "()I"⟩, 11) := ⟨⟨by decide +kernel, by decide +kernel⟩, List.mem_of_getElem? (i := 43) (by decide +kernel), List.mem_of_getElem? (i := 403) (by decide +kernel), List.mem_of_getElem? (i := 404) (by decide +kernel)⟩
theorem lw_p14 : lw_okq (⟨"MendedBank$Bank", "stepScrubber", "()V"⟩, 11) := ⟨⟨by decide +kernel, by decide +kernel⟩, List.mem_of_getElem? (i := 43) (by decide +kernel), List.mem_of_getElem? (i := 467) (by decide +kernel), List.mem_of_getElem? (i := 468) (by decide +kernel)⟩
theorem lw_p15 : lw_okq (⟨"MendedBank$FlipTable", "countAll", "()V"⟩, 3) := ⟨⟨by decide +kernel, by decide +kernel⟩, List.mem_of_getElem? (i := 136) (by decide +kernel), List.mem_of_getElem? (i := 552) (by decide +kernel), List.mem_of_getElem? (i := 553) (by decide +kernel)⟩
def lw_privs_1 : List (MethodName × Nat) := [(⟨"MendedBank$Code", "bestFreeColumn", "()I"⟩, 5), (⟨"MendedBank$Code", "fullestRowWith", "(I)I"⟩, 5), (⟨"MendedBank$Code", "give", "(II)V"⟩, 5), (⟨"MendedBank", "hasWord", "(II)Z"⟩, 3), (⟨"MendedBank", "hasPage", "(I)Z"⟩, 3), (⟨"MendedBank$Bank", "putBits", "(III)V"⟩, 11), (⟨"MendedBank$Bank", "rowOf", "(II)I"⟩, 11), (⟨"MendedBank$Bank", "placesOf", "(I)I"⟩, 11), (⟨"MendedBank$Bank", "placesInUse", "()I"⟩, 11), (⟨"MendedBank$Bank", "swapIfDue", "(I)Z"⟩, 11), (⟨"MendedBank$Cells", "isBad", "(II)Z"⟩, 3), (⟨"MendedBank$Cells", "renewCell", "(III)V"⟩, 3), (⟨"MendedBank$Bank", "retireIfDue", "(I)Z"⟩, 11), (⟨"MendedBank$Bank", "spareFramesLeft", "()I"⟩, 11), (⟨"MendedBank$Bank", "stepScrubber", "()V"⟩, 11), (⟨"MendedBank$FlipTable", "countAll", "()V"⟩, 3)]
theorem lw_r1 : ∀ q ∈ lw_privs_1, lw_okq q := List.forall_mem_cons.mpr ⟨lw_p0, List.forall_mem_cons.mpr ⟨lw_p1, List.forall_mem_cons.mpr ⟨lw_p2, List.forall_mem_cons.mpr ⟨lw_p3, List.forall_mem_cons.mpr ⟨lw_p4, List.forall_mem_cons.mpr ⟨lw_p5, List.forall_mem_cons.mpr ⟨lw_p6, List.forall_mem_cons.mpr ⟨lw_p7, List.forall_mem_cons.mpr ⟨lw_p8, List.forall_mem_cons.mpr ⟨lw_p9, List.forall_mem_cons.mpr ⟨lw_p10, List.forall_mem_cons.mpr ⟨lw_p11, List.forall_mem_cons.mpr ⟨lw_p12, List.forall_mem_cons.mpr ⟨lw_p13, List.forall_mem_cons.mpr ⟨lw_p14, List.forall_mem_cons.mpr ⟨lw_p15, fun _ h => absurd h List.not_mem_nil⟩⟩⟩⟩⟩⟩⟩⟩⟩⟩⟩⟩⟩⟩⟩⟩
theorem lw_p16 : lw_okq (⟨"MendedBank$FlipTable", "allOf", "(I)I"⟩, 3) := ⟨⟨by decide +kernel, by decide +kernel⟩, List.mem_of_getElem? (i := 136) (by decide +kernel), List.mem_of_getElem? (i := 559) (by decide +kernel), List.mem_of_getElem? (i := 560) (by decide +kernel)⟩
theorem lw_p17 : lw_okq (⟨"MendedBank$FlipTable", "missedOf", "(I)I"⟩, 3) := ⟨⟨by decide +kernel, by decide +kernel⟩, List.mem_of_getElem? (i := 136) (by decide +kernel), List.mem_of_getElem? (i := 563) (by decide +kernel), List.mem_of_getElem? (i := 564) (by decide +kernel)⟩
theorem lw_p18 : lw_okq (⟨"MendedBank$FlipTable", "rightlyMendedOf", "(I)I"⟩, 3) := ⟨⟨by decide +kernel, by decide +kernel⟩, List.mem_of_getElem? (i := 136) (by decide +kernel), List.mem_of_getElem? (i := 567) (by decide +kernel), List.mem_of_getElem? (i := 568) (by decide +kernel)⟩
theorem lw_p19 : lw_okq (⟨"MendedBank$FlipTable", "mendedOf", "(I)I"⟩, 3) := ⟨⟨by decide +kernel, by decide +kernel⟩, List.mem_of_getElem? (i := 136) (by decide +kernel), List.mem_of_getElem? (i := 571) (by decide +kernel), List.mem_of_getElem? (i := 572) (by decide +kernel)⟩
theorem lw_p20 : lw_okq (⟨"MendedBank$Bank", "badInUse", "()I"⟩, 11) := ⟨⟨by decide +kernel, by decide +kernel⟩, List.mem_of_getElem? (i := 43) (by decide +kernel), List.mem_of_getElem? (i := 607) (by decide +kernel), List.mem_of_getElem? (i := 608) (by decide +kernel)⟩
theorem lw_p21 : lw_okq (⟨"MendedBank$Bank", "stuckInUse", "()I"⟩, 11) := ⟨⟨by decide +kernel, by decide +kernel⟩, List.mem_of_getElem? (i := 43) (by decide +kernel), List.mem_of_getElem? (i := 611) (by decide +kernel), List.mem_of_getElem? (i := 612) (by decide +kernel)⟩
theorem lw_p22 : lw_okq (⟨"MendedBankModel", "nextColumn", "(I)I"⟩, 20) := ⟨⟨by decide +kernel, by decide +kernel⟩, List.mem_of_getElem? (i := 619) (by decide +kernel), List.mem_of_getElem? (i := 697) (by decide +kernel), List.mem_of_getElem? (i := 698) (by decide +kernel)⟩
theorem lw_p23 : lw_okq (⟨"MendedBankModel", "isChosen", "(II)Z"⟩, 20) := ⟨⟨by decide +kernel, by decide +kernel⟩, List.mem_of_getElem? (i := 619) (by decide +kernel), List.mem_of_getElem? (i := 707) (by decide +kernel), List.mem_of_getElem? (i := 708) (by decide +kernel)⟩
theorem lw_p24 : lw_okq (⟨"MendedBankModel", "fullestWith", "(I)I"⟩, 20) := ⟨⟨by decide +kernel, by decide +kernel⟩, List.mem_of_getElem? (i := 619) (by decide +kernel), List.mem_of_getElem? (i := 711) (by decide +kernel), List.mem_of_getElem? (i := 712) (by decide +kernel)⟩
theorem lw_p25 : lw_okq (⟨"MendedBankModel", "begins", "()V"⟩, 20) := ⟨⟨by decide +kernel, by decide +kernel⟩, List.mem_of_getElem? (i := 619) (by decide +kernel), List.mem_of_getElem? (i := 715) (by decide +kernel), List.mem_of_getElem? (i := 716) (by decide +kernel)⟩
theorem lw_p26 : lw_okq (⟨"MendedBankModel", "bits", "()I"⟩, 20) := ⟨⟨by decide +kernel, by decide +kernel⟩, List.mem_of_getElem? (i := 619) (by decide +kernel), List.mem_of_getElem? (i := 719) (by decide +kernel), List.mem_of_getElem? (i := 720) (by decide +kernel)⟩
theorem lw_p27 : lw_okq (⟨"MendedBankModel", "isBit", "(I)Z"⟩, 20) := ⟨⟨by decide +kernel, by decide +kernel⟩, List.mem_of_getElem? (i := 619) (by decide +kernel), List.mem_of_getElem? (i := 727) (by decide +kernel), List.mem_of_getElem? (i := 728) (by decide +kernel)⟩
theorem lw_p28 : lw_okq (⟨"MendedBankModel", "wordOf", "(I)I"⟩, 20) := ⟨⟨by decide +kernel, by decide +kernel⟩, List.mem_of_getElem? (i := 619) (by decide +kernel), List.mem_of_getElem? (i := 739) (by decide +kernel), List.mem_of_getElem? (i := 740) (by decide +kernel)⟩
theorem lw_p29 : lw_okq (⟨"MendedBankModel", "syndromeOf", "(I)I"⟩, 20) := ⟨⟨by decide +kernel, by decide +kernel⟩, List.mem_of_getElem? (i := 619) (by decide +kernel), List.mem_of_getElem? (i := 743) (by decide +kernel), List.mem_of_getElem? (i := 744) (by decide +kernel)⟩
theorem lw_p30 : lw_okq (⟨"MendedBankModel", "isSet", "(I)Z"⟩, 20) := ⟨⟨by decide +kernel, by decide +kernel⟩, List.mem_of_getElem? (i := 619) (by decide +kernel), List.mem_of_getElem? (i := 751) (by decide +kernel), List.mem_of_getElem? (i := 752) (by decide +kernel)⟩
theorem lw_p31 : lw_okq (⟨"MendedBankModel", "mendedOf", "(I)I"⟩, 20) := ⟨⟨by decide +kernel, by decide +kernel⟩, List.mem_of_getElem? (i := 619) (by decide +kernel), List.mem_of_getElem? (i := 759) (by decide +kernel), List.mem_of_getElem? (i := 760) (by decide +kernel)⟩
def lw_privs_2 : List (MethodName × Nat) := [(⟨"MendedBank$FlipTable", "allOf", "(I)I"⟩, 3), (⟨"MendedBank$FlipTable", "missedOf", "(I)I"⟩, 3), (⟨"MendedBank$FlipTable", "rightlyMendedOf", "(I)I"⟩, 3), (⟨"MendedBank$FlipTable", "mendedOf", "(I)I"⟩, 3), (⟨"MendedBank$Bank", "badInUse", "()I"⟩, 11), (⟨"MendedBank$Bank", "stuckInUse", "()I"⟩, 11), (⟨"MendedBankModel", "nextColumn", "(I)I"⟩, 20), (⟨"MendedBankModel", "isChosen", "(II)Z"⟩, 20), (⟨"MendedBankModel", "fullestWith", "(I)I"⟩, 20), (⟨"MendedBankModel", "begins", "()V"⟩, 20), (⟨"MendedBankModel", "bits", "()I"⟩, 20), (⟨"MendedBankModel", "isBit", "(I)Z"⟩, 20), (⟨"MendedBankModel", "wordOf", "(I)I"⟩, 20), (⟨"MendedBankModel", "syndromeOf", "(I)I"⟩, 20), (⟨"MendedBankModel", "isSet", "(I)Z"⟩, 20), (⟨"MendedBankModel", "mendedOf", "(I)I"⟩, 20)]
theorem lw_r2 : ∀ q ∈ lw_privs_2, lw_okq q := List.forall_mem_cons.mpr ⟨lw_p16, List.forall_mem_cons.mpr ⟨lw_p17, List.forall_mem_cons.mpr ⟨lw_p18, List.forall_mem_cons.mpr ⟨lw_p19, List.forall_mem_cons.mpr ⟨lw_p20, List.forall_mem_cons.mpr ⟨lw_p21, List.forall_mem_cons.mpr ⟨lw_p22, List.forall_mem_cons.mpr ⟨lw_p23, List.forall_mem_cons.mpr ⟨lw_p24, List.forall_mem_cons.mpr ⟨lw_p25, List.forall_mem_cons.mpr ⟨lw_p26, List.forall_mem_cons.mpr ⟨lw_p27, List.forall_mem_cons.mpr ⟨lw_p28, List.forall_mem_cons.mpr ⟨lw_p29, List.forall_mem_cons.mpr ⟨lw_p30, List.forall_mem_cons.mpr ⟨lw_p31, fun _ h => absurd h List.not_mem_nil⟩⟩⟩⟩⟩⟩⟩⟩⟩⟩⟩⟩⟩⟩⟩⟩
theorem lw_p32 : lw_okq (⟨"MendedBankModel", "bitOf", "(I)I"⟩, 20) := ⟨⟨by decide +kernel, by decide +kernel⟩, List.mem_of_getElem? (i := 619) (by decide +kernel), List.mem_of_getElem? (i := 763) (by decide +kernel), List.mem_of_getElem? (i := 764) (by decide +kernel)⟩
theorem lw_p33 : lw_okq (⟨"MendedBankModel", "isWord", "(II)Z"⟩, 20) := ⟨⟨by decide +kernel, by decide +kernel⟩, List.mem_of_getElem? (i := 619) (by decide +kernel), List.mem_of_getElem? (i := 771) (by decide +kernel), List.mem_of_getElem? (i := 772) (by decide +kernel)⟩
theorem lw_p34 : lw_okq (⟨"MendedBankModel", "puts", "(III)V"⟩, 20) := ⟨⟨by decide +kernel, by decide +kernel⟩, List.mem_of_getElem? (i := 619) (by decide +kernel), List.mem_of_getElem? (i := 775) (by decide +kernel), List.mem_of_getElem? (i := 776) (by decide +kernel)⟩
theorem lw_p35 : lw_okq (⟨"MendedBankModel", "cellOf", "(III)I"⟩, 20) := ⟨⟨by decide +kernel, by decide +kernel⟩, List.mem_of_getElem? (i := 619) (by decide +kernel), List.mem_of_getElem? (i := 779) (by decide +kernel), List.mem_of_getElem? (i := 780) (by decide +kernel)⟩
theorem lw_p36 : lw_okq (⟨"MendedBankModel", "looksAt", "(II)I"⟩, 20) := ⟨⟨by decide +kernel, by decide +kernel⟩, List.mem_of_getElem? (i := 619) (by decide +kernel), List.mem_of_getElem? (i := 790) (by decide +kernel), List.mem_of_getElem? (i := 791) (by decide +kernel)⟩
theorem lw_p37 : lw_okq (⟨"MendedBankModel", "rawOf", "(II)I"⟩, 20) := ⟨⟨by decide +kernel, by decide +kernel⟩, List.mem_of_getElem? (i := 619) (by decide +kernel), List.mem_of_getElem? (i := 794) (by decide +kernel), List.mem_of_getElem? (i := 795) (by decide +kernel)⟩
theorem lw_p38 : lw_okq (⟨"MendedBankModel", "marksBit", "(III)V"⟩, 20) := ⟨⟨by decide +kernel, by decide +kernel⟩, List.mem_of_getElem? (i := 619) (by decide +kernel), List.mem_of_getElem? (i := 798) (by decide +kernel), List.mem_of_getElem? (i := 799) (by decide +kernel)⟩
theorem lw_p39 : lw_okq (⟨"MendedBankModel", "badIn", "(I)I"⟩, 20) := ⟨⟨by decide +kernel, by decide +kernel⟩, List.mem_of_getElem? (i := 619) (by decide +kernel), List.mem_of_getElem? (i := 802) (by decide +kernel), List.mem_of_getElem? (i := 803) (by decide +kernel)⟩
theorem lw_p40 : lw_okq (⟨"MendedBankModel", "swaps", "(I)V"⟩, 20) := ⟨⟨by decide +kernel, by decide +kernel⟩, List.mem_of_getElem? (i := 619) (by decide +kernel), List.mem_of_getElem? (i := 806) (by decide +kernel), List.mem_of_getElem? (i := 807) (by decide +kernel)⟩
theorem lw_p41 : lw_okq (⟨"MendedBankModel", "takesOver", "(II)V"⟩, 20) := ⟨⟨by decide +kernel, by decide +kernel⟩, List.mem_of_getElem? (i := 619) (by decide +kernel), List.mem_of_getElem? (i := 810) (by decide +kernel), List.mem_of_getElem? (i := 811) (by decide +kernel)⟩
theorem lw_p42 : lw_okq (⟨"MendedBankModel", "wrongIn", "(IZ)I"⟩, 20) := ⟨⟨by decide +kernel, by decide +kernel⟩, List.mem_of_getElem? (i := 619) (by decide +kernel), List.mem_of_getElem? (i := 814) (by decide +kernel), List.mem_of_getElem? (i := 815) (by decide +kernel)⟩
theorem lw_p43 : lw_okq (⟨"MendedBankModel", "isUsed", "(I)Z"⟩, 20) := ⟨⟨by decide +kernel, by decide +kernel⟩, List.mem_of_getElem? (i := 619) (by decide +kernel), List.mem_of_getElem? (i := 818) (by decide +kernel), List.mem_of_getElem? (i := 819) (by decide +kernel)⟩
theorem lw_p44 : lw_okq (⟨"MendedBankModel", "retires", "(I)V"⟩, 20) := ⟨⟨by decide +kernel, by decide +kernel⟩, List.mem_of_getElem? (i := 619) (by decide +kernel), List.mem_of_getElem? (i := 822) (by decide +kernel), List.mem_of_getElem? (i := 823) (by decide +kernel)⟩
theorem lw_p45 : lw_okq (⟨"MendedBankModel", "tells", "(I)V"⟩, 20) := ⟨⟨by decide +kernel, by decide +kernel⟩, List.mem_of_getElem? (i := 619) (by decide +kernel), List.mem_of_getElem? (i := 878) (by decide +kernel), List.mem_of_getElem? (i := 879) (by decide +kernel)⟩
theorem lw_p46 : lw_okq (⟨"MendedBankModel", "wrongInUse", "(Z)I"⟩, 20) := ⟨⟨by decide +kernel, by decide +kernel⟩, List.mem_of_getElem? (i := 619) (by decide +kernel), List.mem_of_getElem? (i := 900) (by decide +kernel), List.mem_of_getElem? (i := 901) (by decide +kernel)⟩
def lw_privs_3 : List (MethodName × Nat) := [(⟨"MendedBankModel", "bitOf", "(I)I"⟩, 20), (⟨"MendedBankModel", "isWord", "(II)Z"⟩, 20), (⟨"MendedBankModel", "puts", "(III)V"⟩, 20), (⟨"MendedBankModel", "cellOf", "(III)I"⟩, 20), (⟨"MendedBankModel", "looksAt", "(II)I"⟩, 20), (⟨"MendedBankModel", "rawOf", "(II)I"⟩, 20), (⟨"MendedBankModel", "marksBit", "(III)V"⟩, 20), (⟨"MendedBankModel", "badIn", "(I)I"⟩, 20), (⟨"MendedBankModel", "swaps", "(I)V"⟩, 20), (⟨"MendedBankModel", "takesOver", "(II)V"⟩, 20), (⟨"MendedBankModel", "wrongIn", "(IZ)I"⟩, 20), (⟨"MendedBankModel", "isUsed", "(I)Z"⟩, 20), (⟨"MendedBankModel", "retires", "(I)V"⟩, 20), (⟨"MendedBankModel", "tells", "(I)V"⟩, 20), (⟨"MendedBankModel", "wrongInUse", "(Z)I"⟩, 20)]
theorem lw_r3 : ∀ q ∈ lw_privs_3, lw_okq q := List.forall_mem_cons.mpr ⟨lw_p32, List.forall_mem_cons.mpr ⟨lw_p33, List.forall_mem_cons.mpr ⟨lw_p34, List.forall_mem_cons.mpr ⟨lw_p35, List.forall_mem_cons.mpr ⟨lw_p36, List.forall_mem_cons.mpr ⟨lw_p37, List.forall_mem_cons.mpr ⟨lw_p38, List.forall_mem_cons.mpr ⟨lw_p39, List.forall_mem_cons.mpr ⟨lw_p40, List.forall_mem_cons.mpr ⟨lw_p41, List.forall_mem_cons.mpr ⟨lw_p42, List.forall_mem_cons.mpr ⟨lw_p43, List.forall_mem_cons.mpr ⟨lw_p44, List.forall_mem_cons.mpr ⟨lw_p45, List.forall_mem_cons.mpr ⟨lw_p46, fun _ h => absurd h List.not_mem_nil⟩⟩⟩⟩⟩⟩⟩⟩⟩⟩⟩⟩⟩⟩⟩
def lw_privs : List (MethodName × Nat) := lw_privs_1 ++ (lw_privs_2 ++ (lw_privs_3))
def lw_tbl : List Cond := k2_sels lw_privs ++ tables_1
theorem lw_privs_ok : ∀ q ∈ lw_privs, lw_okq q := by
  show ∀ q ∈ lw_privs_1 ++ (lw_privs_2 ++ (lw_privs_3)), lw_okq q
  exact List.forall_mem_append.mpr ⟨lw_r1, List.forall_mem_append.mpr ⟨lw_r2, lw_r3⟩⟩
def RX0 : String := "MendedBank$Bank"
def TX0 : u_T := fun k => match k with
  | 0 => ("MendedBank$Bank", "rules", "LMendedBank$Code;", true)
  | 1 => ("MendedBank$Bank", "cells", "LMendedBank$Cells;", true)
  | 2 => ("MendedBank$Bank", "history", "LMendedBank$Log;", true)
  | 3 => ("MendedBank$Bank", "frames", "[I", true)
  | 4 => ("MendedBank$Bank", "keptValues", "[I", true)
  | 5 => ("MendedBank$Bank", "retiredFrames", "[I", true)
  | 6 => ("MendedBank$Bank", "retiredCount", "I", false)
  | 7 => ("MendedBank$Bank", "swappedBit", "I", false)
  | 8 => ("MendedBank$Bank", "sparePlace", "I", false)
  | 9 => ("MendedBank$Bank", "scrubPage", "I", false)
  | _ => ("MendedBank$Bank", "scrubWord", "I", false)
def tyX0 : Nat → FieldType := fun k => match k with
  | 0 => .object "MendedBank$Code"
  | 1 => .object "MendedBank$Cells"
  | 2 => .object "MendedBank$Log"
  | 3 => .array .int
  | 4 => .array .int
  | 5 => .array .int
  | 6 => .int
  | 7 => .int
  | 8 => .int
  | 9 => .int
  | _ => .int
abbrev wsX00 : List Cond := u_ws RX0 TX0 11
theorem nmX0 : ∀ a, a < 11 → ∀ b, b < 11 → a ≠ b → (TX0 a).2.1 ≠ (TX0 b).2.1 := by decide +kernel
theorem tyX0_ok : ∀ k, k < 11 → parseFieldDescriptor (TX0 k).2.2.1 = some (tyX0 k) := by decide +kernel
abbrev cX0_init : ByteArray := prog_2_method_1_code
def yX0_init : MethodName := ⟨RX0, "<init>", "(LMendedBank$Code;)V"⟩
abbrev cX0_renew : ByteArray := prog_2_method_2_code
def yX0_renew : MethodName := ⟨RX0, "renew", "()V"⟩
abbrev cX0_log : ByteArray := prog_2_method_3_code
def yX0_log : MethodName := ⟨RX0, "log", "()LMendedBank$Log;"⟩
abbrev cX0_frameOf : ByteArray := prog_2_method_4_code
def yX0_frameOf : MethodName := ⟨RX0, "frameOf", "(I)I"⟩
abbrev cX0_placeOf : ByteArray := prog_2_method_5_code
def yX0_placeOf : MethodName := ⟨RX0, "placeOf", "(I)I"⟩
abbrev cX0_retiredFrame : ByteArray := prog_2_method_6_code
def yX0_retiredFrame : MethodName := ⟨RX0, "retiredFrame", "(I)I"⟩
abbrev cX0_marksOf : ByteArray := prog_2_method_7_code
def yX0_marksOf : MethodName := ⟨RX0, "marksOf", "(III)I"⟩
abbrev cX0_keptValue : ByteArray := prog_2_method_8_code
def yX0_keptValue : MethodName := ⟨RX0, "keptValue", "(II)I"⟩
abbrev cX0_keep : ByteArray := prog_2_method_9_code
def yX0_keep : MethodName := ⟨RX0, "keep", "(III)V"⟩
abbrev cX0_bitsOf : ByteArray := prog_2_method_10_code
def yX0_bitsOf : MethodName := ⟨RX0, "bitsOf", "(II)I"⟩
abbrev cX0_turn : ByteArray := prog_2_method_11_code
def yX0_turn : MethodName := ⟨RX0, "turn", "(III)I"⟩
abbrev cX0_hold : ByteArray := prog_2_method_12_code
def yX0_hold : MethodName := ⟨RX0, "hold", "(IIII)I"⟩
abbrev cX0_loosen : ByteArray := prog_2_method_13_code
def yX0_loosen : MethodName := ⟨RX0, "loosen", "(III)I"⟩
abbrev cX0_lookAt : ByteArray := prog_2_method_14_code
def yX0_lookAt : MethodName := ⟨RX0, "lookAt", "(II)I"⟩
abbrev cX0_scrubNext : ByteArray := prog_2_method_15_code
def yX0_scrubNext : MethodName := ⟨RX0, "scrubNext", "()Z"⟩
abbrev cX0_tally : ByteArray := prog_2_method_16_code
def yX0_tally : MethodName := ⟨RX0, "tally", "(I)I"⟩
abbrev cX0_rowOf : ByteArray := prog_2_method_17_code
def yX0_rowOf : MethodName := ⟨RX0, "rowOf", "(II)I"⟩
abbrev cX0_placesOf : ByteArray := prog_2_method_18_code
def yX0_placesOf : MethodName := ⟨RX0, "placesOf", "(I)I"⟩
abbrev cX0_placesInUse : ByteArray := prog_2_method_19_code
def yX0_placesInUse : MethodName := ⟨RX0, "placesInUse", "()I"⟩
abbrev cX0_putBits : ByteArray := prog_2_method_20_code
def yX0_putBits : MethodName := ⟨RX0, "putBits", "(III)V"⟩
abbrev cX0_swapIfDue : ByteArray := prog_2_method_21_code
def yX0_swapIfDue : MethodName := ⟨RX0, "swapIfDue", "(I)Z"⟩
abbrev cX0_retireIfDue : ByteArray := prog_2_method_22_code
def yX0_retireIfDue : MethodName := ⟨RX0, "retireIfDue", "(I)Z"⟩
abbrev cX0_spareFramesLeft : ByteArray := prog_2_method_23_code
def yX0_spareFramesLeft : MethodName := ⟨RX0, "spareFramesLeft", "()I"⟩
abbrev cX0_badInUse : ByteArray := prog_2_method_24_code
def yX0_badInUse : MethodName := ⟨RX0, "badInUse", "()I"⟩
abbrev cX0_stuckInUse : ByteArray := prog_2_method_25_code
def yX0_stuckInUse : MethodName := ⟨RX0, "stuckInUse", "()I"⟩
abbrev cX0_stepScrubber : ByteArray := prog_2_method_26_code
def yX0_stepScrubber : MethodName := ⟨RX0, "stepScrubber", "()V"⟩
def RX1 : String := "MendedBank$Cells"
def TX1 : u_T := fun k => match k with
  | 0 => ("MendedBank$Cells", "values", "[I", true)
  | 1 => ("MendedBank$Cells", "stuck", "[I", true)
  | _ => ("MendedBank$Cells", "markCounts", "[I", true)
def tyX1 : Nat → FieldType := fun k => match k with
  | 0 => .array .int
  | 1 => .array .int
  | _ => .array .int
abbrev wsX10 : List Cond := u_ws RX1 TX1 3
theorem nmX1 : ∀ a, a < 3 → ∀ b, b < 3 → a ≠ b → (TX1 a).2.1 ≠ (TX1 b).2.1 := by decide +kernel
theorem tyX1_ok : ∀ k, k < 3 → parseFieldDescriptor (TX1 k).2.2.1 = some (tyX1 k) := by decide +kernel
abbrev cX1_init : ByteArray := prog_3_method_1_code
def yX1_init : MethodName := ⟨RX1, "<init>", "()V"⟩
abbrev cX1_clear : ByteArray := prog_3_method_2_code
def yX1_clear : MethodName := ⟨RX1, "clear", "()V"⟩
abbrev cX1_valuesIn : ByteArray := prog_3_method_3_code
def yX1_valuesIn : MethodName := ⟨RX1, "valuesIn", "(I)I"⟩
abbrev cX1_put : ByteArray := prog_3_method_4_code
def yX1_put : MethodName := ⟨RX1, "put", "(III)V"⟩
abbrev cX1_turn : ByteArray := prog_3_method_5_code
def yX1_turn : MethodName := ⟨RX1, "turn", "(II)I"⟩
abbrev cX1_valueAt : ByteArray := prog_3_method_6_code
def yX1_valueAt : MethodName := ⟨RX1, "valueAt", "(II)I"⟩
abbrev cX1_setValue : ByteArray := prog_3_method_7_code
def yX1_setValue : MethodName := ⟨RX1, "setValue", "(III)V"⟩
abbrev cX1_hold : ByteArray := prog_3_method_8_code
def yX1_hold : MethodName := ⟨RX1, "hold", "(III)V"⟩
abbrev cX1_loosen : ByteArray := prog_3_method_9_code
def yX1_loosen : MethodName := ⟨RX1, "loosen", "(II)V"⟩
abbrev cX1_addMark : ByteArray := prog_3_method_10_code
def yX1_addMark : MethodName := ⟨RX1, "addMark", "(II)V"⟩
abbrev cX1_marksAt : ByteArray := prog_3_method_11_code
def yX1_marksAt : MethodName := ⟨RX1, "marksAt", "(II)I"⟩
abbrev cX1_isBad : ByteArray := prog_3_method_12_code
def yX1_isBad : MethodName := ⟨RX1, "isBad", "(II)Z"⟩
abbrev cX1_renewCell : ByteArray := prog_3_method_13_code
def yX1_renewCell : MethodName := ⟨RX1, "renewCell", "(III)V"⟩
abbrev cX1_copyPlace : ByteArray := prog_3_method_14_code
def yX1_copyPlace : MethodName := ⟨RX1, "copyPlace", "(II)V"⟩
abbrev cX1_copyFrame : ByteArray := prog_3_method_15_code
def yX1_copyFrame : MethodName := ⟨RX1, "copyFrame", "(II)V"⟩
abbrev cX1_badInPlace : ByteArray := prog_3_method_16_code
def yX1_badInPlace : MethodName := ⟨RX1, "badInPlace", "(I)I"⟩
abbrev cX1_badInFrame : ByteArray := prog_3_method_17_code
def yX1_badInFrame : MethodName := ⟨RX1, "badInFrame", "(II)I"⟩
abbrev cX1_stuckInFrame : ByteArray := prog_3_method_18_code
def yX1_stuckInFrame : MethodName := ⟨RX1, "stuckInFrame", "(II)I"⟩
def RX2 : String := "MendedBank$Code"
def TX2 : u_T := fun k => match k with
  | 0 => ("MendedBank$Code", "columns", "[I", true)
  | 1 => ("MendedBank$Code", "rowOnes", "[I", true)
  | 2 => ("MendedBank$Code", "bitByColumn", "[I", true)
  | 3 => ("MendedBank$Code", "dataBits", "I", false)
  | _ => ("MendedBank$Code", "rows", "I", false)
def tyX2 : Nat → FieldType := fun k => match k with
  | 0 => .array .int
  | 1 => .array .int
  | 2 => .array .int
  | 3 => .int
  | _ => .int
abbrev wsX20 : List Cond := u_ws RX2 TX2 5
theorem nmX2 : ∀ a, a < 5 → ∀ b, b < 5 → a ≠ b → (TX2 a).2.1 ≠ (TX2 b).2.1 := by decide +kernel
theorem tyX2_ok : ∀ k, k < 5 → parseFieldDescriptor (TX2 k).2.2.1 = some (tyX2 k) := by decide +kernel
abbrev cX2_init : ByteArray := prog_4_method_1_code
def yX2_init : MethodName := ⟨RX2, "<init>", "()V"⟩
abbrev cX2_allows : ByteArray := prog_4_method_2_code
def yX2_allows : MethodName := ⟨RX2, "allows", "(II)Z"⟩
abbrev cX2_choose : ByteArray := prog_4_method_3_code
def yX2_choose : MethodName := ⟨RX2, "choose", "(II)V"⟩
abbrev cX2_give : ByteArray := prog_4_method_4_code
def yX2_give : MethodName := ⟨RX2, "give", "(II)V"⟩
abbrev cX2_bestFreeColumn : ByteArray := prog_4_method_5_code
def yX2_bestFreeColumn : MethodName := ⟨RX2, "bestFreeColumn", "()I"⟩
abbrev cX2_fullestRowWith : ByteArray := prog_4_method_6_code
def yX2_fullestRowWith : MethodName := ⟨RX2, "fullestRowWith", "(I)I"⟩
abbrev cX2_stands : ByteArray := prog_4_method_7_code
def yX2_stands : MethodName := ⟨RX2, "stands", "()Z"⟩
abbrev cX2_width : ByteArray := prog_4_method_8_code
def yX2_width : MethodName := ⟨RX2, "width", "()I"⟩
abbrev cX2_allBits : ByteArray := prog_4_method_9_code
def yX2_allBits : MethodName := ⟨RX2, "allBits", "()I"⟩
abbrev cX2_hasBit : ByteArray := prog_4_method_10_code
def yX2_hasBit : MethodName := ⟨RX2, "hasBit", "(I)Z"⟩
abbrev cX2_hasRow : ByteArray := prog_4_method_11_code
def yX2_hasRow : MethodName := ⟨RX2, "hasRow", "(I)Z"⟩
abbrev cX2_hasPlace : ByteArray := prog_4_method_12_code
def yX2_hasPlace : MethodName := ⟨RX2, "hasPlace", "(I)Z"⟩
abbrev cX2_hasValue : ByteArray := prog_4_method_13_code
def yX2_hasValue : MethodName := ⟨RX2, "hasValue", "(I)Z"⟩
abbrev cX2_hasSet : ByteArray := prog_4_method_14_code
def yX2_hasSet : MethodName := ⟨RX2, "hasSet", "(I)Z"⟩
abbrev cX2_columnOf : ByteArray := prog_4_method_15_code
def yX2_columnOf : MethodName := ⟨RX2, "columnOf", "(I)I"⟩
abbrev cX2_onesOfRow : ByteArray := prog_4_method_16_code
def yX2_onesOfRow : MethodName := ⟨RX2, "onesOfRow", "(I)I"⟩
abbrev cX2_onesOfAllRows : ByteArray := prog_4_method_17_code
def yX2_onesOfAllRows : MethodName := ⟨RX2, "onesOfAllRows", "()I"⟩
abbrev cX2_syndromeOf : ByteArray := prog_4_method_18_code
def yX2_syndromeOf : MethodName := ⟨RX2, "syndromeOf", "(I)I"⟩
abbrev cX2_wordOf : ByteArray := prog_4_method_19_code
def yX2_wordOf : MethodName := ⟨RX2, "wordOf", "(I)I"⟩
abbrev cX2_valueOf : ByteArray := prog_4_method_20_code
def yX2_valueOf : MethodName := ⟨RX2, "valueOf", "(I)I"⟩
abbrev cX2_bitWithColumn : ByteArray := prog_4_method_21_code
def yX2_bitWithColumn : MethodName := ⟨RX2, "bitWithColumn", "(I)I"⟩
abbrev cX2_mend : ByteArray := prog_4_method_22_code
def yX2_mend : MethodName := ⟨RX2, "mend", "(I)I"⟩
def RX3 : String := "MendedBank$FlipTable"
def TX3 : u_T := fun k => match k with
  | 0 => ("MendedBank$FlipTable", "rules", "LMendedBank$Code;", true)
  | 1 => ("MendedBank$FlipTable", "counts", "[I", true)
  | _ => ("MendedBank$FlipTable", "counted", "Z", false)
def tyX3 : Nat → FieldType := fun k => match k with
  | 0 => .object "MendedBank$Code"
  | 1 => .array .int
  | _ => .boolean
abbrev wsX30 : List Cond := u_ws RX3 TX3 3
theorem nmX3 : ∀ a, a < 3 → ∀ b, b < 3 → a ≠ b → (TX3 a).2.1 ≠ (TX3 b).2.1 := by decide +kernel
theorem tyX3_ok : ∀ k, k < 3 → parseFieldDescriptor (TX3 k).2.2.1 = some (tyX3 k) := by decide +kernel
abbrev cX3_init : ByteArray := prog_5_method_1_code
def yX3_init : MethodName := ⟨RX3, "<init>", "(LMendedBank$Code;)V"⟩
abbrev cX3_forget : ByteArray := prog_5_method_2_code
def yX3_forget : MethodName := ⟨RX3, "forget", "()V"⟩
abbrev cX3_countOf : ByteArray := prog_5_method_3_code
def yX3_countOf : MethodName := ⟨RX3, "countOf", "(II)I"⟩
abbrev cX3_countAll : ByteArray := prog_5_method_4_code
def yX3_countAll : MethodName := ⟨RX3, "countAll", "()V"⟩
abbrev cX3_allOf : ByteArray := prog_5_method_5_code
def yX3_allOf : MethodName := ⟨RX3, "allOf", "(I)I"⟩
abbrev cX3_missedOf : ByteArray := prog_5_method_6_code
def yX3_missedOf : MethodName := ⟨RX3, "missedOf", "(I)I"⟩
abbrev cX3_rightlyMendedOf : ByteArray := prog_5_method_7_code
def yX3_rightlyMendedOf : MethodName := ⟨RX3, "rightlyMendedOf", "(I)I"⟩
abbrev cX3_mendedOf : ByteArray := prog_5_method_8_code
def yX3_mendedOf : MethodName := ⟨RX3, "mendedOf", "(I)I"⟩
def RX4 : String := "MendedBank$Log"
def TX4 : u_T := fun k => match k with
  | 0 => ("MendedBank$Log", "looksByKind", "[I", true)
  | 1 => ("MendedBank$Log", "mendsByPage", "[I", true)
  | 2 => ("MendedBank$Log", "troubledPages", "[I", true)
  | 3 => ("MendedBank$Log", "troubledCount", "I", false)
  | 4 => ("MendedBank$Log", "lastKind", "I", false)
  | 5 => ("MendedBank$Log", "lastBit", "I", false)
  | 6 => ("MendedBank$Log", "lastPage", "I", false)
  | 7 => ("MendedBank$Log", "lastWord", "I", false)
  | 8 => ("MendedBank$Log", "lastSwap", "I", false)
  | _ => ("MendedBank$Log", "lastRetiring", "I", false)
def tyX4 : Nat → FieldType := fun k => match k with
  | 0 => .array .int
  | 1 => .array .int
  | 2 => .array .int
  | 3 => .int
  | 4 => .int
  | 5 => .int
  | 6 => .int
  | 7 => .int
  | 8 => .int
  | _ => .int
abbrev wsX40 : List Cond := u_ws RX4 TX4 10
theorem nmX4 : ∀ a, a < 10 → ∀ b, b < 10 → a ≠ b → (TX4 a).2.1 ≠ (TX4 b).2.1 := by decide +kernel
theorem tyX4_ok : ∀ k, k < 10 → parseFieldDescriptor (TX4 k).2.2.1 = some (tyX4 k) := by decide +kernel
abbrev cX4_init : ByteArray := prog_6_method_1_code
def yX4_init : MethodName := ⟨RX4, "<init>", "()V"⟩
abbrev cX4_clear : ByteArray := prog_6_method_2_code
def yX4_clear : MethodName := ⟨RX4, "clear", "()V"⟩
abbrev cX4_noteLook : ByteArray := prog_6_method_3_code
def yX4_noteLook : MethodName := ⟨RX4, "noteLook", "(IIII)V"⟩
abbrev cX4_noteMending : ByteArray := prog_6_method_4_code
def yX4_noteMending : MethodName := ⟨RX4, "noteMending", "(IZZ)V"⟩
abbrev cX4_latest : ByteArray := prog_6_method_5_code
def yX4_latest : MethodName := ⟨RX4, "latest", "(I)I"⟩
abbrev cX4_troubledPage : ByteArray := prog_6_method_6_code
def yX4_troubledPage : MethodName := ⟨RX4, "troubledPage", "(I)I"⟩
abbrev cX4_mendsOf : ByteArray := prog_6_method_7_code
def yX4_mendsOf : MethodName := ⟨RX4, "mendsOf", "(I)I"⟩
abbrev cX4_looksOf : ByteArray := prog_6_method_8_code
def yX4_looksOf : MethodName := ⟨RX4, "looksOf", "(I)I"⟩
abbrev cX4_allLooks : ByteArray := prog_6_method_9_code
def yX4_allLooks : MethodName := ⟨RX4, "allLooks", "()I"⟩
def RX5 : String := "MendedBank"
def TX5 : u_T := fun k => match k with
  | 0 => ("MendedBank", "rules", "LMendedBank$Code;", true)
  | 1 => ("MendedBank", "bank", "LMendedBank$Bank;", true)
  | _ => ("MendedBank", "flips", "LMendedBank$FlipTable;", true)
def tyX5 : Nat → FieldType := fun k => match k with
  | 0 => .object "MendedBank$Code"
  | 1 => .object "MendedBank$Bank"
  | _ => .object "MendedBank$FlipTable"
abbrev wsX50 : List Cond := u_ws RX5 TX5 3
theorem nmX5 : ∀ a, a < 3 → ∀ b, b < 3 → a ≠ b → (TX5 a).2.1 ≠ (TX5 b).2.1 := by decide +kernel
theorem tyX5_ok : ∀ k, k < 3 → parseFieldDescriptor (TX5 k).2.2.1 = some (tyX5 k) := by decide +kernel
abbrev cX5_init : ByteArray := prog_1_method_1_code
def yX5_init : MethodName := ⟨RX5, "<init>", "()V"⟩
abbrev cX5_code : ByteArray := prog_1_method_2_code
def yX5_code : MethodName := ⟨RX5, "code", "(II)I"⟩
abbrev cX5_column : ByteArray := prog_1_method_3_code
def yX5_column : MethodName := ⟨RX5, "column", "(I)I"⟩
abbrev cX5_ones : ByteArray := prog_1_method_4_code
def yX5_ones : MethodName := ⟨RX5, "ones", "(I)I"⟩
abbrev cX5_word : ByteArray := prog_1_method_5_code
def yX5_word : MethodName := ⟨RX5, "word", "(I)I"⟩
abbrev cX5_syndrome : ByteArray := prog_1_method_6_code
def yX5_syndrome : MethodName := ⟨RX5, "syndrome", "(I)I"⟩
abbrev cX5_mended : ByteArray := prog_1_method_7_code
def yX5_mended : MethodName := ⟨RX5, "mended", "(I)I"⟩
abbrev cX5_write : ByteArray := prog_1_method_8_code
def yX5_write : MethodName := ⟨RX5, "write", "(III)I"⟩
abbrev cX5_read : ByteArray := prog_1_method_9_code
def yX5_read : MethodName := ⟨RX5, "read", "(II)I"⟩
abbrev cX5_raw : ByteArray := prog_1_method_10_code
def yX5_raw : MethodName := ⟨RX5, "raw", "(II)I"⟩
abbrev cX5_flip : ByteArray := prog_1_method_11_code
def yX5_flip : MethodName := ⟨RX5, "flip", "(III)I"⟩
abbrev cX5_stick : ByteArray := prog_1_method_12_code
def yX5_stick : MethodName := ⟨RX5, "stick", "(IIII)I"⟩
abbrev cX5_scrub : ByteArray := prog_1_method_13_code
def yX5_scrub : MethodName := ⟨RX5, "scrub", "(I)I"⟩
abbrev cX5_look : ByteArray := prog_1_method_14_code
def yX5_look : MethodName := ⟨RX5, "look", "(I)I"⟩
abbrev cX5_fate : ByteArray := prog_1_method_15_code
def yX5_fate : MethodName := ⟨RX5, "fate", "(III)I"⟩
abbrev cX5_marks : ByteArray := prog_1_method_16_code
def yX5_marks : MethodName := ⟨RX5, "marks", "(III)I"⟩
abbrev cX5_frame : ByteArray := prog_1_method_17_code
def yX5_frame : MethodName := ⟨RX5, "frame", "(I)I"⟩
abbrev cX5_place : ByteArray := prog_1_method_18_code
def yX5_place : MethodName := ⟨RX5, "place", "(I)I"⟩
abbrev cX5_retired : ByteArray := prog_1_method_19_code
def yX5_retired : MethodName := ⟨RX5, "retired", "(I)I"⟩
abbrev cX5_troubled : ByteArray := prog_1_method_20_code
def yX5_troubled : MethodName := ⟨RX5, "troubled", "(I)I"⟩
abbrev cX5_mends : ByteArray := prog_1_method_21_code
def yX5_mends : MethodName := ⟨RX5, "mends", "(I)I"⟩
abbrev cX5_patterns : ByteArray := prog_1_method_22_code
def yX5_patterns : MethodName := ⟨RX5, "patterns", "(II)I"⟩
abbrev cX5_weight : ByteArray := prog_1_method_23_code
def yX5_weight : MethodName := ⟨RX5, "weight", "()I"⟩
abbrev cX5_safe : ByteArray := prog_1_method_24_code
def yX5_safe : MethodName := ⟨RX5, "safe", "(III)J"⟩
abbrev cX5_many : ByteArray := prog_1_method_25_code
def yX5_many : MethodName := ⟨RX5, "many", "(I)I"⟩
abbrev cX5_safeWalks : ByteArray := prog_1_method_26_code
def yX5_safeWalks : MethodName := ⟨RX5, "safeWalks", "(II)J"⟩
abbrev cX5_isWord : ByteArray := prog_1_method_27_code
def yX5_isWord : MethodName := ⟨RX5, "isWord", "(I)Z"⟩
abbrev cX5_hasPage : ByteArray := prog_1_method_28_code
def yX5_hasPage : MethodName := ⟨RX5, "hasPage", "(I)Z"⟩
abbrev cX5_hasWord : ByteArray := prog_1_method_29_code
def yX5_hasWord : MethodName := ⟨RX5, "hasWord", "(II)Z"⟩
def RX6 : String := "MendedBankModel"
def TX6 : u_T := fun k => match k with
  | 0 => ("MendedBankModel", "data", "I", false)
  | 1 => ("MendedBankModel", "checks", "I", false)
  | 2 => ("MendedBankModel", "columnOf", "[I", true)
  | 3 => ("MendedBankModel", "onesOf", "[I", true)
  | 4 => ("MendedBankModel", "cell", "[I", true)
  | 5 => ("MendedBankModel", "isStuck", "[Z", true)
  | 6 => ("MendedBankModel", "markOf", "[I", true)
  | 7 => ("MendedBankModel", "frameOf", "[I", true)
  | 8 => ("MendedBankModel", "placeOf", "[I", true)
  | 9 => ("MendedBankModel", "lastWritten", "[I", true)
  | 10 => ("MendedBankModel", "mendsOf", "[I", true)
  | 11 => ("MendedBankModel", "troubles", "[I", true)
  | 12 => ("MendedBankModel", "manyTroubles", "I", false)
  | 13 => ("MendedBankModel", "retirees", "[I", true)
  | 14 => ("MendedBankModel", "manyRetired", "I", false)
  | 15 => ("MendedBankModel", "isSwapped", "Z", false)
  | 16 => ("MendedBankModel", "next", "I", false)
  | 17 => ("MendedBankModel", "looks", "[I", true)
  | 18 => ("MendedBankModel", "latest", "[I", true)
  | _ => ("MendedBankModel", "patternsOf", "[I", true)
def tyX6 : Nat → FieldType := fun k => match k with
  | 0 => .int
  | 1 => .int
  | 2 => .array .int
  | 3 => .array .int
  | 4 => .array .int
  | 5 => .array .boolean
  | 6 => .array .int
  | 7 => .array .int
  | 8 => .array .int
  | 9 => .array .int
  | 10 => .array .int
  | 11 => .array .int
  | 12 => .int
  | 13 => .array .int
  | 14 => .int
  | 15 => .boolean
  | 16 => .int
  | 17 => .array .int
  | 18 => .array .int
  | _ => .array .int
abbrev wsX60 : List Cond := u_ws RX6 TX6 20
theorem nmX6 : ∀ a, a < 20 → ∀ b, b < 20 → a ≠ b → (TX6 a).2.1 ≠ (TX6 b).2.1 := by decide +kernel
theorem tyX6_ok : ∀ k, k < 20 → parseFieldDescriptor (TX6 k).2.2.1 = some (tyX6 k) := by decide +kernel
abbrev cX6_init : ByteArray := prog_8_method_1_code
def yX6_init : MethodName := ⟨RX6, "<init>", "()V"⟩
abbrev cX6_within : ByteArray := prog_8_method_2_code
def yX6_within : MethodName := ⟨RX6, "within", "(III)Z"⟩
abbrev cX6_isIn : ByteArray := prog_8_method_3_code
def yX6_isIn : MethodName := ⟨RX6, "isIn", "(II)I"⟩
abbrev cX6_sizeOf : ByteArray := prog_8_method_4_code
def yX6_sizeOf : MethodName := ⟨RX6, "sizeOf", "(I)I"⟩
abbrev cX6_bits : ByteArray := prog_8_method_5_code
def yX6_bits : MethodName := ⟨RX6, "bits", "()I"⟩
abbrev cX6_isBit : ByteArray := prog_8_method_6_code
def yX6_isBit : MethodName := ⟨RX6, "isBit", "(I)Z"⟩
abbrev cX6_isSet : ByteArray := prog_8_method_7_code
def yX6_isSet : MethodName := ⟨RX6, "isSet", "(I)Z"⟩
abbrev cX6_mostData : ByteArray := prog_8_method_8_code
def yX6_mostData : MethodName := ⟨RX6, "mostData", "(I)I"⟩
abbrev cX6_isChosen : ByteArray := prog_8_method_9_code
def yX6_isChosen : MethodName := ⟨RX6, "isChosen", "(II)Z"⟩
abbrev cX6_fullestWith : ByteArray := prog_8_method_10_code
def yX6_fullestWith : MethodName := ⟨RX6, "fullestWith", "(I)I"⟩
abbrev cX6_nextColumn : ByteArray := prog_8_method_11_code
def yX6_nextColumn : MethodName := ⟨RX6, "nextColumn", "(I)I"⟩
abbrev cX6_code : ByteArray := prog_8_method_12_code
def yX6_code : MethodName := ⟨RX6, "code", "(II)I"⟩
abbrev cX6_column : ByteArray := prog_8_method_13_code
def yX6_column : MethodName := ⟨RX6, "column", "(I)I"⟩
abbrev cX6_ones : ByteArray := prog_8_method_14_code
def yX6_ones : MethodName := ⟨RX6, "ones", "(I)I"⟩
abbrev cX6_syndromeOf : ByteArray := prog_8_method_15_code
def yX6_syndromeOf : MethodName := ⟨RX6, "syndromeOf", "(I)I"⟩
abbrev cX6_wordOf : ByteArray := prog_8_method_16_code
def yX6_wordOf : MethodName := ⟨RX6, "wordOf", "(I)I"⟩
abbrev cX6_bitOf : ByteArray := prog_8_method_17_code
def yX6_bitOf : MethodName := ⟨RX6, "bitOf", "(I)I"⟩
abbrev cX6_mendedOf : ByteArray := prog_8_method_18_code
def yX6_mendedOf : MethodName := ⟨RX6, "mendedOf", "(I)I"⟩
abbrev cX6_word : ByteArray := prog_8_method_19_code
def yX6_word : MethodName := ⟨RX6, "word", "(I)I"⟩
abbrev cX6_syndrome : ByteArray := prog_8_method_20_code
def yX6_syndrome : MethodName := ⟨RX6, "syndrome", "(I)I"⟩
abbrev cX6_mended : ByteArray := prog_8_method_21_code
def yX6_mended : MethodName := ⟨RX6, "mended", "(I)I"⟩
abbrev cX6_begins : ByteArray := prog_8_method_22_code
def yX6_begins : MethodName := ⟨RX6, "begins", "()V"⟩
abbrev cX6_at : ByteArray := prog_8_method_23_code
def yX6_at : MethodName := ⟨RX6, "at", "(III)I"⟩
abbrev cX6_cellOf : ByteArray := prog_8_method_24_code
def yX6_cellOf : MethodName := ⟨RX6, "cellOf", "(III)I"⟩
abbrev cX6_isWord : ByteArray := prog_8_method_25_code
def yX6_isWord : MethodName := ⟨RX6, "isWord", "(II)Z"⟩
abbrev cX6_puts : ByteArray := prog_8_method_26_code
def yX6_puts : MethodName := ⟨RX6, "puts", "(III)V"⟩
abbrev cX6_rawOf : ByteArray := prog_8_method_27_code
def yX6_rawOf : MethodName := ⟨RX6, "rawOf", "(II)I"⟩
abbrev cX6_write : ByteArray := prog_8_method_28_code
def yX6_write : MethodName := ⟨RX6, "write", "(III)I"⟩
abbrev cX6_badIn : ByteArray := prog_8_method_29_code
def yX6_badIn : MethodName := ⟨RX6, "badIn", "(I)I"⟩
abbrev cX6_isUsed : ByteArray := prog_8_method_30_code
def yX6_isUsed : MethodName := ⟨RX6, "isUsed", "(I)Z"⟩
abbrev cX6_wrongIn : ByteArray := prog_8_method_31_code
def yX6_wrongIn : MethodName := ⟨RX6, "wrongIn", "(IZ)I"⟩
abbrev cX6_takesOver : ByteArray := prog_8_method_32_code
def yX6_takesOver : MethodName := ⟨RX6, "takesOver", "(II)V"⟩
abbrev cX6_swaps : ByteArray := prog_8_method_33_code
def yX6_swaps : MethodName := ⟨RX6, "swaps", "(I)V"⟩
abbrev cX6_retires : ByteArray := prog_8_method_34_code
def yX6_retires : MethodName := ⟨RX6, "retires", "(I)V"⟩
abbrev cX6_marksBit : ByteArray := prog_8_method_35_code
def yX6_marksBit : MethodName := ⟨RX6, "marksBit", "(III)V"⟩
abbrev cX6_looksAt : ByteArray := prog_8_method_36_code
def yX6_looksAt : MethodName := ⟨RX6, "looksAt", "(II)I"⟩
abbrev cX6_read : ByteArray := prog_8_method_37_code
def yX6_read : MethodName := ⟨RX6, "read", "(II)I"⟩
abbrev cX6_raw : ByteArray := prog_8_method_38_code
def yX6_raw : MethodName := ⟨RX6, "raw", "(II)I"⟩
abbrev cX6_flip : ByteArray := prog_8_method_39_code
def yX6_flip : MethodName := ⟨RX6, "flip", "(III)I"⟩
abbrev cX6_stick : ByteArray := prog_8_method_40_code
def yX6_stick : MethodName := ⟨RX6, "stick", "(IIII)I"⟩
abbrev cX6_scrub : ByteArray := prog_8_method_41_code
def yX6_scrub : MethodName := ⟨RX6, "scrub", "(I)I"⟩
abbrev cX6_look : ByteArray := prog_8_method_42_code
def yX6_look : MethodName := ⟨RX6, "look", "(I)I"⟩
abbrev cX6_fate : ByteArray := prog_8_method_43_code
def yX6_fate : MethodName := ⟨RX6, "fate", "(III)I"⟩
abbrev cX6_marks : ByteArray := prog_8_method_44_code
def yX6_marks : MethodName := ⟨RX6, "marks", "(III)I"⟩
abbrev cX6_frame : ByteArray := prog_8_method_45_code
def yX6_frame : MethodName := ⟨RX6, "frame", "(I)I"⟩
abbrev cX6_place : ByteArray := prog_8_method_46_code
def yX6_place : MethodName := ⟨RX6, "place", "(I)I"⟩
abbrev cX6_retired : ByteArray := prog_8_method_47_code
def yX6_retired : MethodName := ⟨RX6, "retired", "(I)I"⟩
abbrev cX6_troubled : ByteArray := prog_8_method_48_code
def yX6_troubled : MethodName := ⟨RX6, "troubled", "(I)I"⟩
abbrev cX6_mends : ByteArray := prog_8_method_49_code
def yX6_mends : MethodName := ⟨RX6, "mends", "(I)I"⟩
abbrev cX6_tells : ByteArray := prog_8_method_50_code
def yX6_tells : MethodName := ⟨RX6, "tells", "(I)V"⟩
abbrev cX6_patterns : ByteArray := prog_8_method_51_code
def yX6_patterns : MethodName := ⟨RX6, "patterns", "(II)I"⟩
abbrev cX6_nextSet : ByteArray := prog_8_method_52_code
def yX6_nextSet : MethodName := ⟨RX6, "nextSet", "(I)I"⟩
abbrev cX6_weight : ByteArray := prog_8_method_53_code
def yX6_weight : MethodName := ⟨RX6, "weight", "()I"⟩
abbrev cX6_safe : ByteArray := prog_8_method_54_code
def yX6_safe : MethodName := ⟨RX6, "safe", "(III)J"⟩
abbrev cX6_wrongInUse : ByteArray := prog_8_method_55_code
def yX6_wrongInUse : MethodName := ⟨RX6, "wrongInUse", "(Z)I"⟩
abbrev cX6_many : ByteArray := prog_8_method_56_code
def yX6_many : MethodName := ⟨RX6, "many", "(I)I"⟩
def RJ6 : String := "java/lang/Integer"
abbrev cJ6_bitCount_0f7a4 : ByteArray := prog_9_method_49_code
def yJ6_bitCount_0f7a4 : MethodName := ⟨RJ6, "bitCount", "(I)I"⟩
def RJ9 : String := "java/lang/Math"
abbrev cJ9_max_7cf53 : ByteArray := prog_10_method_65_code
def yJ9_max_7cf53 : MethodName := ⟨RJ9, "max", "(II)I"⟩
def RJ7 : String := "java/util/Arrays"
abbrev cJ7_fill_53178 : ByteArray := prog_11_method_103_code
def yJ7_fill_53178 : MethodName := ⟨RJ7, "fill", "([II)V"⟩
def RL : String := "MendedBankLaw"
abbrev cL_law : ByteArray := code
abbrev vwCl : List vw_C := [(RX0, TX0, 11), (RX1, TX1, 3), (RX2, TX2, 5), (RX3, TX3, 3), (RX4, TX4, 10), (RX5, TX5, 3), (RX6, TX6, 20)]
/-- the words that stay, whatever a call resolves -/
def r_tbl : List Cond := lw_tbl.filter goodWord
theorem lk {w : Cond} (i : Nat) (h : tables_1[i]? = some w) (g : goodWord w = true := by rfl) : w ∈ r_tbl := List.mem_filter.mpr ⟨List.mem_append_right _ (List.mem_of_getElem? h), g⟩
theorem lks {w : Cond} (i : Nat) (h : (k2_sels lw_privs)[i]? = some w) (g : goodWord w = true := by rfl) : w ∈ r_tbl := List.mem_filter.mpr ⟨List.mem_append_left _ (List.mem_of_getElem? h), g⟩
abbrev r_M : Type := MethodName × ByteArray × Nat × Option FieldType
abbrev MX5_init : r_M := (yX5_init, cX5_init, 1, none)
abbrev MX2_init : r_M := (yX2_init, cX2_init, 1, none)
abbrev MX0_init : r_M := (yX0_init, cX0_init, 2, none)
abbrev MX1_init : r_M := (yX1_init, cX1_init, 1, none)
abbrev MX4_init : r_M := (yX4_init, cX4_init, 1, none)
abbrev MX3_init : r_M := (yX3_init, cX3_init, 2, none)
abbrev MX5_code : r_M := (yX5_code, cX5_code, 3, (some .int))
abbrev MX2_allows : r_M := (yX2_allows, cX2_allows, 2, (some .boolean))
abbrev MX2_choose : r_M := (yX2_choose, cX2_choose, 6, none)
abbrev MJ7_fill_53178 : r_M := (yJ7_fill_53178, cJ7_fill_53178, 4, none)
abbrev MX2_bestFreeColumn : r_M := (yX2_bestFreeColumn, cX2_bestFreeColumn, 7, (some .int))
abbrev MJ6_bitCount_0f7a4 : r_M := (yJ6_bitCount_0f7a4, cJ6_bitCount_0f7a4, 1, (some .int))
abbrev MX2_fullestRowWith : r_M := (yX2_fullestRowWith, cX2_fullestRowWith, 4, (some .int))
abbrev MJ9_max_7cf53 : r_M := (yJ9_max_7cf53, cJ9_max_7cf53, 2, (some .int))
abbrev MX2_give : r_M := (yX2_give, cX2_give, 3, none)
abbrev MX0_renew : r_M := (yX0_renew, cX0_renew, 2, none)
abbrev MX1_clear : r_M := (yX1_clear, cX1_clear, 1, none)
abbrev MX4_clear : r_M := (yX4_clear, cX4_clear, 1, none)
abbrev MX2_width : r_M := (yX2_width, cX2_width, 1, (some .int))
abbrev MX3_forget : r_M := (yX3_forget, cX3_forget, 1, none)
abbrev MX5_column : r_M := (yX5_column, cX5_column, 2, (some .int))
abbrev MX2_hasBit : r_M := (yX2_hasBit, cX2_hasBit, 2, (some .boolean))
abbrev MX2_columnOf : r_M := (yX2_columnOf, cX2_columnOf, 2, (some .int))
abbrev MX5_ones : r_M := (yX5_ones, cX5_ones, 2, (some .int))
abbrev MX2_hasRow : r_M := (yX2_hasRow, cX2_hasRow, 2, (some .boolean))
abbrev MX2_onesOfRow : r_M := (yX2_onesOfRow, cX2_onesOfRow, 2, (some .int))
abbrev MX5_word : r_M := (yX5_word, cX5_word, 2, (some .int))
abbrev MX2_stands : r_M := (yX2_stands, cX2_stands, 1, (some .boolean))
abbrev MX2_hasValue : r_M := (yX2_hasValue, cX2_hasValue, 2, (some .boolean))
abbrev MX2_wordOf : r_M := (yX2_wordOf, cX2_wordOf, 2, (some .int))
abbrev MX2_syndromeOf : r_M := (yX2_syndromeOf, cX2_syndromeOf, 4, (some .int))
abbrev MX5_syndrome : r_M := (yX5_syndrome, cX5_syndrome, 2, (some .int))
abbrev MX2_hasSet : r_M := (yX2_hasSet, cX2_hasSet, 2, (some .boolean))
abbrev MX2_allBits : r_M := (yX2_allBits, cX2_allBits, 1, (some .int))
abbrev MX5_mended : r_M := (yX5_mended, cX5_mended, 2, (some .int))
abbrev MX2_mend : r_M := (yX2_mend, cX2_mend, 4, (some .int))
abbrev MX5_write : r_M := (yX5_write, cX5_write, 4, (some .int))
abbrev MX5_hasWord : r_M := (yX5_hasWord, cX5_hasWord, 3, (some .boolean))
abbrev MX5_hasPage : r_M := (yX5_hasPage, cX5_hasPage, 2, (some .boolean))
abbrev MX5_isWord : r_M := (yX5_isWord, cX5_isWord, 1, (some .boolean))
abbrev MX0_keep : r_M := (yX0_keep, cX0_keep, 4, none)
abbrev MX0_putBits : r_M := (yX0_putBits, cX0_putBits, 4, none)
abbrev MX0_rowOf : r_M := (yX0_rowOf, cX0_rowOf, 3, (some .int))
abbrev MX0_placesOf : r_M := (yX0_placesOf, cX0_placesOf, 2, (some .int))
abbrev MX0_placesInUse : r_M := (yX0_placesInUse, cX0_placesInUse, 1, (some .int))
abbrev MX1_put : r_M := (yX1_put, cX1_put, 5, none)
abbrev MX5_read : r_M := (yX5_read, cX5_read, 4, (some .int))
abbrev MX0_lookAt : r_M := (yX0_lookAt, cX0_lookAt, 8, (some .int))
abbrev MX0_bitsOf : r_M := (yX0_bitsOf, cX0_bitsOf, 5, (some .int))
abbrev MX1_valuesIn : r_M := (yX1_valuesIn, cX1_valuesIn, 2, (some .int))
abbrev MX4_noteLook : r_M := (yX4_noteLook, cX4_noteLook, 5, none)
abbrev MX2_bitWithColumn : r_M := (yX2_bitWithColumn, cX2_bitWithColumn, 2, (some .int))
abbrev MX0_placeOf : r_M := (yX0_placeOf, cX0_placeOf, 2, (some .int))
abbrev MX1_addMark : r_M := (yX1_addMark, cX1_addMark, 3, none)
abbrev MX0_swapIfDue : r_M := (yX0_swapIfDue, cX0_swapIfDue, 2, (some .boolean))
abbrev MX1_badInPlace : r_M := (yX1_badInPlace, cX1_badInPlace, 4, (some .int))
abbrev MX1_isBad : r_M := (yX1_isBad, cX1_isBad, 3, (some .boolean))
abbrev MX1_marksAt : r_M := (yX1_marksAt, cX1_marksAt, 3, (some .int))
abbrev MX1_copyPlace : r_M := (yX1_copyPlace, cX1_copyPlace, 4, none)
abbrev MX1_valueAt : r_M := (yX1_valueAt, cX1_valueAt, 3, (some .int))
abbrev MX1_renewCell : r_M := (yX1_renewCell, cX1_renewCell, 4, none)
abbrev MX1_setValue : r_M := (yX1_setValue, cX1_setValue, 4, none)
abbrev MX1_loosen : r_M := (yX1_loosen, cX1_loosen, 3, none)
abbrev MX0_retireIfDue : r_M := (yX0_retireIfDue, cX0_retireIfDue, 4, (some .boolean))
abbrev MX0_spareFramesLeft : r_M := (yX0_spareFramesLeft, cX0_spareFramesLeft, 1, (some .int))
abbrev MX1_badInFrame : r_M := (yX1_badInFrame, cX1_badInFrame, 6, (some .int))
abbrev MX1_copyFrame : r_M := (yX1_copyFrame, cX1_copyFrame, 7, none)
abbrev MX4_noteMending : r_M := (yX4_noteMending, cX4_noteMending, 4, none)
abbrev MX2_valueOf : r_M := (yX2_valueOf, cX2_valueOf, 2, (some .int))
abbrev MX5_raw : r_M := (yX5_raw, cX5_raw, 3, (some .int))
abbrev MX5_flip : r_M := (yX5_flip, cX5_flip, 4, (some .int))
abbrev MX0_turn : r_M := (yX0_turn, cX0_turn, 4, (some .int))
abbrev MX1_turn : r_M := (yX1_turn, cX1_turn, 4, (some .int))
abbrev MX5_stick : r_M := (yX5_stick, cX5_stick, 5, (some .int))
abbrev MX0_loosen : r_M := (yX0_loosen, cX0_loosen, 5, (some .int))
abbrev MX0_hold : r_M := (yX0_hold, cX0_hold, 7, (some .int))
abbrev MX1_hold : r_M := (yX1_hold, cX1_hold, 4, none)
abbrev MX5_scrub : r_M := (yX5_scrub, cX5_scrub, 4, (some .int))
abbrev MX0_scrubNext : r_M := (yX0_scrubNext, cX0_scrubNext, 4, (some .boolean))
abbrev MX0_stepScrubber : r_M := (yX0_stepScrubber, cX0_stepScrubber, 1, none)
abbrev MX4_latest : r_M := (yX4_latest, cX4_latest, 2, (some .int))
abbrev MX5_look : r_M := (yX5_look, cX5_look, 2, (some .int))
abbrev MX0_log : r_M := (yX0_log, cX0_log, 1, (some (.object "MendedBank$Log")))
abbrev MX5_fate : r_M := (yX5_fate, cX5_fate, 6, (some .int))
abbrev MX0_keptValue : r_M := (yX0_keptValue, cX0_keptValue, 3, (some .int))
abbrev MX5_marks : r_M := (yX5_marks, cX5_marks, 5, (some .int))
abbrev MX2_hasPlace : r_M := (yX2_hasPlace, cX2_hasPlace, 2, (some .boolean))
abbrev MX0_marksOf : r_M := (yX0_marksOf, cX0_marksOf, 4, (some .int))
abbrev MX5_frame : r_M := (yX5_frame, cX5_frame, 2, (some .int))
abbrev MX0_frameOf : r_M := (yX0_frameOf, cX0_frameOf, 2, (some .int))
abbrev MX5_place : r_M := (yX5_place, cX5_place, 2, (some .int))
abbrev MX5_retired : r_M := (yX5_retired, cX5_retired, 2, (some .int))
abbrev MX0_retiredFrame : r_M := (yX0_retiredFrame, cX0_retiredFrame, 2, (some .int))
abbrev MX5_troubled : r_M := (yX5_troubled, cX5_troubled, 2, (some .int))
abbrev MX4_troubledPage : r_M := (yX4_troubledPage, cX4_troubledPage, 2, (some .int))
abbrev MX5_mends : r_M := (yX5_mends, cX5_mends, 2, (some .int))
abbrev MX4_mendsOf : r_M := (yX4_mendsOf, cX4_mendsOf, 2, (some .int))
abbrev MX5_patterns : r_M := (yX5_patterns, cX5_patterns, 3, (some .int))
abbrev MX3_countOf : r_M := (yX3_countOf, cX3_countOf, 3, (some .int))
abbrev MX3_countAll : r_M := (yX3_countAll, cX3_countAll, 5, none)
abbrev MX3_allOf : r_M := (yX3_allOf, cX3_allOf, 4, (some .int))
abbrev MX3_missedOf : r_M := (yX3_missedOf, cX3_missedOf, 2, (some .int))
abbrev MX3_rightlyMendedOf : r_M := (yX3_rightlyMendedOf, cX3_rightlyMendedOf, 2, (some .int))
abbrev MX3_mendedOf : r_M := (yX3_mendedOf, cX3_mendedOf, 4, (some .int))
abbrev MX5_weight : r_M := (yX5_weight, cX5_weight, 1, (some .int))
abbrev MX2_onesOfAllRows : r_M := (yX2_onesOfAllRows, cX2_onesOfAllRows, 3, (some .int))
abbrev MX5_safe : r_M := (yX5_safe, cX5_safe, 9, (some .long))
abbrev MX5_safeWalks : r_M := (yX5_safeWalks, cX5_safeWalks, 6, (some .long))
abbrev MX5_many : r_M := (yX5_many, cX5_many, 2, (some .int))
abbrev MX0_tally : r_M := (yX0_tally, cX0_tally, 2, (some .int))
abbrev MX4_allLooks : r_M := (yX4_allLooks, cX4_allLooks, 1, (some .int))
abbrev MX4_looksOf : r_M := (yX4_looksOf, cX4_looksOf, 2, (some .int))
abbrev MX0_badInUse : r_M := (yX0_badInUse, cX0_badInUse, 3, (some .int))
abbrev MX0_stuckInUse : r_M := (yX0_stuckInUse, cX0_stuckInUse, 3, (some .int))
abbrev MX1_stuckInFrame : r_M := (yX1_stuckInFrame, cX1_stuckInFrame, 5, (some .int))
abbrev MX6_init : r_M := (yX6_init, cX6_init, 1, none)
abbrev MX6_code : r_M := (yX6_code, cX6_code, 5, (some .int))
abbrev MX6_within : r_M := (yX6_within, cX6_within, 3, (some .boolean))
abbrev MX6_mostData : r_M := (yX6_mostData, cX6_mostData, 1, (some .int))
abbrev MX6_nextColumn : r_M := (yX6_nextColumn, cX6_nextColumn, 7, (some .int))
abbrev MX6_sizeOf : r_M := (yX6_sizeOf, cX6_sizeOf, 3, (some .int))
abbrev MX6_isIn : r_M := (yX6_isIn, cX6_isIn, 2, (some .int))
abbrev MX6_isChosen : r_M := (yX6_isChosen, cX6_isChosen, 4, (some .boolean))
abbrev MX6_fullestWith : r_M := (yX6_fullestWith, cX6_fullestWith, 5, (some .int))
abbrev MX6_begins : r_M := (yX6_begins, cX6_begins, 2, none)
abbrev MX6_bits : r_M := (yX6_bits, cX6_bits, 1, (some .int))
abbrev MX6_column : r_M := (yX6_column, cX6_column, 2, (some .int))
abbrev MX6_isBit : r_M := (yX6_isBit, cX6_isBit, 2, (some .boolean))
abbrev MX6_ones : r_M := (yX6_ones, cX6_ones, 2, (some .int))
abbrev MX6_word : r_M := (yX6_word, cX6_word, 2, (some .int))
abbrev MX6_wordOf : r_M := (yX6_wordOf, cX6_wordOf, 2, (some .int))
abbrev MX6_syndromeOf : r_M := (yX6_syndromeOf, cX6_syndromeOf, 4, (some .int))
abbrev MX6_syndrome : r_M := (yX6_syndrome, cX6_syndrome, 2, (some .int))
abbrev MX6_isSet : r_M := (yX6_isSet, cX6_isSet, 2, (some .boolean))
abbrev MX6_mended : r_M := (yX6_mended, cX6_mended, 2, (some .int))
abbrev MX6_mendedOf : r_M := (yX6_mendedOf, cX6_mendedOf, 4, (some .int))
abbrev MX6_bitOf : r_M := (yX6_bitOf, cX6_bitOf, 3, (some .int))
abbrev MX6_write : r_M := (yX6_write, cX6_write, 4, (some .int))
abbrev MX6_isWord : r_M := (yX6_isWord, cX6_isWord, 3, (some .boolean))
abbrev MX6_puts : r_M := (yX6_puts, cX6_puts, 6, none)
abbrev MX6_cellOf : r_M := (yX6_cellOf, cX6_cellOf, 4, (some .int))
abbrev MX6_at : r_M := (yX6_at, cX6_at, 3, (some .int))
abbrev MX6_read : r_M := (yX6_read, cX6_read, 4, (some .int))
abbrev MX6_looksAt : r_M := (yX6_looksAt, cX6_looksAt, 7, (some .int))
abbrev MX6_rawOf : r_M := (yX6_rawOf, cX6_rawOf, 5, (some .int))
abbrev MX6_marksBit : r_M := (yX6_marksBit, cX6_marksBit, 4, none)
abbrev MX6_badIn : r_M := (yX6_badIn, cX6_badIn, 4, (some .int))
abbrev MX6_swaps : r_M := (yX6_swaps, cX6_swaps, 4, none)
abbrev MX6_takesOver : r_M := (yX6_takesOver, cX6_takesOver, 3, none)
abbrev MX6_wrongIn : r_M := (yX6_wrongIn, cX6_wrongIn, 8, (some .int))
abbrev MX6_isUsed : r_M := (yX6_isUsed, cX6_isUsed, 3, (some .boolean))
abbrev MX6_retires : r_M := (yX6_retires, cX6_retires, 5, none)
abbrev MX6_raw : r_M := (yX6_raw, cX6_raw, 3, (some .int))
abbrev MX6_flip : r_M := (yX6_flip, cX6_flip, 7, (some .int))
abbrev MX6_stick : r_M := (yX6_stick, cX6_stick, 7, (some .int))
abbrev MX6_scrub : r_M := (yX6_scrub, cX6_scrub, 7, (some .int))
abbrev MX6_look : r_M := (yX6_look, cX6_look, 2, (some .int))
abbrev MX6_fate : r_M := (yX6_fate, cX6_fate, 7, (some .int))
abbrev MX6_marks : r_M := (yX6_marks, cX6_marks, 4, (some .int))
abbrev MX6_frame : r_M := (yX6_frame, cX6_frame, 2, (some .int))
abbrev MX6_place : r_M := (yX6_place, cX6_place, 2, (some .int))
abbrev MX6_retired : r_M := (yX6_retired, cX6_retired, 2, (some .int))
abbrev MX6_troubled : r_M := (yX6_troubled, cX6_troubled, 2, (some .int))
abbrev MX6_mends : r_M := (yX6_mends, cX6_mends, 2, (some .int))
abbrev MX6_patterns : r_M := (yX6_patterns, cX6_patterns, 4, (some .int))
abbrev MX6_tells : r_M := (yX6_tells, cX6_tells, 4, none)
abbrev MX6_nextSet : r_M := (yX6_nextSet, cX6_nextSet, 3, (some .int))
abbrev MX6_weight : r_M := (yX6_weight, cX6_weight, 3, (some .int))
abbrev MX6_safe : r_M := (yX6_safe, cX6_safe, 9, (some .long))
abbrev MX6_many : r_M := (yX6_many, cX6_many, 2, (some .int))
abbrev MX6_wrongInUse : r_M := (yX6_wrongInUse, cX6_wrongInUse, 4, (some .int))
theorem iwX0 : ∀ w ∈ u_ws RX0 TX0 11, w ∈ r_tbl := by decide +kernel
theorem iwX1 : ∀ w ∈ u_ws RX1 TX1 3, w ∈ r_tbl := by decide +kernel
theorem iwX2 : ∀ w ∈ u_ws RX2 TX2 5, w ∈ r_tbl := by decide +kernel
theorem iwX3 : ∀ w ∈ u_ws RX3 TX3 3, w ∈ r_tbl := by decide +kernel
theorem iwX4 : ∀ w ∈ u_ws RX4 TX4 10, w ∈ r_tbl := by decide +kernel
theorem iwX5 : ∀ w ∈ u_ws RX5 TX5 3, w ∈ r_tbl := by decide +kernel
theorem iwX6 : ∀ w ∈ u_ws RX6 TX6 20, w ∈ r_tbl := by decide +kernel
end
section
/-! The walk of a method over ONE pool of 34 cells whose numbers are fixed ahead (class and reference together), its ints a function s c i (cell c, place i): 'G' (go on from here), 'Ev' (a call comes to its end), a row an instruction. -/
abbrev r_Sg : Type := Nat → Nat → Int32
abbrev r_Sh : Type := (Nat × Bool) ⊕ (Nat × List (Option Nat))
/-- the cells: 0 MendedBank, 1 Code (2 columns, 3 rowOnes, 4 bitByColumn), 5 Bank (6 Cells: 7 values, 8 stuck, 9 marks; 10 Log: 11 looks, 12 mends, 13 troubled; 14 frames, 15 kept, 16 retired), 17 FlipTable (18 counts), 19 the reference and its arrays -/
def r_SH : List r_Sh := [.inr (5, [some 1, some 5, some 17]), .inr (2, [some 2, some 3, some 4, none, none]), .inl (20, false), .inl (6, false), .inl (64, false),
  .inr (0, [some 1, some 6, some 10, some 14, some 15, some 16, none, none, none, none, none]), .inr (1, [some 7, some 8, some 9]), .inl (24, false), .inl (24, false), .inl (504, false),
  .inr (4, [some 11, some 12, some 13, none, none, none, none, none, none, none]), .inl (3, false), .inl (4, false), .inl (4, false), .inl (4, false), .inl (16, false), .inl (2, false),
  .inr (3, [some 1, some 18, none]), .inl (320, false),
  .inr (6, [none, none, some 20, some 21, some 22, some 23, some 24, some 25, some 26, some 27, some 28, some 29, none, some 30, none, none, none, some 31, some 32, some 33]),
  .inl (20, false), .inl (6, false), .inl (504, false), .inl (504, true), .inl (504, false), .inl (4, false), .inl (20, false), .inl (16, false), .inl (4, false), .inl (4, false), .inl (2, false), .inl (3, false), .inl (6, false), .inl (5, false)]
abbrev r_En : Type := ((Nat → ClassId) × (Nat → Nat → Nat)) × (Nat → Nat) × ClassId × ClassId
def r_fs (ad : Nat → Nat) (s : r_Sg) (k : Nat) (fl : List (Option Nat)) : List Value := fl.mapIdx (fun i o => match o with
  | some j => .ref (ad j)
  | none => .int (s k i))
def r_e (E : r_En) (s : r_Sg) (k : Nat) (sh : r_Sh) : Nat × va_E := (E.2.1 k, match sh with
  | .inl q => .inl (bif q.2 then E.2.2.2 else E.2.2.1, q.1, .inl (s k))
  | .inr q => .inr (q.1, r_fs E.2.1 s k q.2))
def r_W (E : r_En) (s : r_Sg) : va_W := r_SH.mapIdx (r_e E s)
def r_up (s : r_Sg) (k i : Nat) (v : Int32) : r_Sg := fun k' => if k' = k then upd (s k') i v else s k'
theorem r_at (E : r_En) (s : r_Sg) {k : Nat} {sh : r_Sh} (h : r_SH[k]? = some sh) : (r_W E s)[k]? = some (r_e E s k sh) := by simp [r_W, List.getElem?_mapIdx, h]
theorem r_at_inv {E : r_En} {s : r_Sg} {k : Nat} {q : Nat × va_E} (h : (r_W E s)[k]? = some q) : ∃ sh, r_SH[k]? = some sh ∧ q = r_e E s k sh := by
  simp only [r_W, List.getElem?_mapIdx] at h
  cases hs : r_SH[k]? with
  | none => rw [hs] at h; cases h
  | some sh => rw [hs] at h; exact ⟨sh, rfl, (Option.some.inj h).symm⟩
theorem r_len (E : r_En) (s : r_Sg) : (r_W E s).length = 34 := by simp [r_W, r_SH]
theorem r_kk {k : Nat} {sh : r_Sh} (h : r_SH[k]? = some sh) : k < 34 := (List.getElem?_eq_some_iff.mp h).1
theorem r_up_ne (s : r_Sg) {k c : Nat} (i : Nat) (v : Int32) (h : c ≠ k) : r_up s k i v c = s c := by simp [r_up, h]
theorem r_up_eq (s : r_Sg) (k i : Nat) (v : Int32) : r_up s k i v k = upd (s k) i v := by simp [r_up]
theorem r_set (E : r_En) (s : r_Sg) {k : Nat} {sh : r_Sh} (h : r_SH[k]? = some sh) (i : Nat) (v : Int32) {e : va_E} (he : r_e E (r_up s k i v) k sh = (E.2.1 k, e)) : (r_W E s).set k (E.2.1 k, e) = r_W E (r_up s k i v) := by
  have hl : k < (r_W E s).length := by rw [r_len]; exact r_kk h
  apply List.ext_getElem?
  intro j
  by_cases hj : j = k
  · subst hj
    rw [List.getElem?_set_self hl, r_at E (r_up s j i v) h, he]
  · rw [List.getElem?_set_ne (Ne.symm hj)]
    simp only [r_W, List.getElem?_mapIdx]
    cases hs : r_SH[j]? with
    | none => rfl
    | some sh2 =>
      simp only [Option.map_some]
      congr 1
      unfold r_e
      cases sh2 with
      | inl q => simp only [r_up_ne s i v hj]
      | inr q =>
        simp only [r_fs]
        rw [r_up_ne s i v hj]
theorem r_setF (E : r_En) (s : r_Sg) {k ci i : Nat} {fl : List (Option Nat)} (h : r_SH[k]? = some (.inr (ci, fl))) (hf : fl[i]? = some none) (v : Int32) : (r_W E s).set k (E.2.1 k, .inr (ci, (r_fs E.2.1 s k fl).set i (.int v))) = r_W E (r_up s k i v) := by
  refine r_set E s h i v ?_
  refine Prod.ext rfl (congrArg Sum.inr (Prod.ext rfl ?_))
  show r_fs E.2.1 (r_up s k i v) k fl = (r_fs E.2.1 s k fl).set i (.int v)
  apply List.ext_getElem?
  intro j
  by_cases hj : j = i
  · subst hj
    have hl : j < fl.length := (List.getElem?_eq_some_iff.mp hf).1
    rw [List.getElem?_set_self (by simpa [r_fs] using hl)]
    simp only [r_fs, List.getElem?_mapIdx, hf, Option.map_some, r_up_eq]
    simp [upd]
  · rw [List.getElem?_set_ne (Ne.symm hj)]
    simp only [r_fs, List.getElem?_mapIdx, r_up_eq]
    cases fl[j]? with
    | none => rfl
    | some o => cases o with
      | none => simp [upd, hj]
      | some x => rfl
theorem r_setA (E : r_En) (s : r_Sg) {k n : Nat} {b : Bool} (h : r_SH[k]? = some (.inl (n, b))) (i : Nat) (v : Int32) : (r_W E s).set k (E.2.1 k, .inl (bif b then E.2.2.2 else E.2.2.1, n, .inl (upd (s k) i v))) = r_W E (r_up s k i v) := by
  refine r_set E s h i v ?_
  simp [r_e, r_up_eq]
/-- which cells a call may change -/
def r_A (ad : Nat → Nat) (sz : Nat) : Nat → Prop := fun q => (∃ k, k < 34 ∧ q = ad k) ∨ sz ≤ q
def r_v (ad : Nat → Nat) : Value → Value
  | .ref k => .ref (ad k)
  | v => v
theorem r_v_cat (ad : Nat → Nat) (v : Value) : (r_v ad v).category = v.category := by cases v <;> rfl
/-- the locals: null is 'nothing known' -/
def r_L (ad : Nat → Nat) (ls : Array Slot) (nL : Nat) (L : List Value) : Prop := ls.size = nL ∧ lv_wf ls ∧ ∀ (i : Nat) (v : Value), L[i]? = some v → v ≠ .null → ls[i]? = some (.val (r_v ad v))
def r_lv (ad : Nat → Nat) : Nat → List Value → List (Nat × Value)
  | _, [] => []
  | k, v :: L => if v = .null then r_lv ad (k + 1) L else (k, r_v ad v) :: r_lv ad (k + 1) L
theorem r_lv_mem (ad : Nat → Nat) : ∀ (L : List Value) (k i : Nat) (v : Value), L[i]? = some v → v ≠ .null → (k + i, r_v ad v) ∈ r_lv ad k L
  | [], k, i, v, h, _ => by simp at h
  | w :: L, k, i, v, h, hv => by
    cases i with
    | zero =>
      simp at h
      subst h
      simp [r_lv, hv]
    | succ i =>
      have h2 : L[i]? = some v := by simpa using h
      have h3 := r_lv_mem ad L (k + 1) i v h2 hv
      rw [show k + 1 + i = k + (i + 1) by omega] at h3
      unfold r_lv
      split
      · exact h3
      · exact List.mem_cons_of_mem _ h3
theorem r_lv_inv (ad : Nat → Nat) : ∀ (L : List Value) (k : Nat) (q : Nat × Value), q ∈ r_lv ad k L → ∃ i v, L[i]? = some v ∧ v ≠ .null ∧ q = (k + i, r_v ad v)
  | [], k, q, h => by simp [r_lv] at h
  | w :: L, k, q, h => by
    unfold r_lv at h
    split at h
    · obtain ⟨i, v, h1, h2, h3⟩ := r_lv_inv ad L (k + 1) q h
      exact ⟨i + 1, v, by simpa using h1, h2, by rw [h3]; congr 1; omega⟩
    · rcases List.mem_cons.mp h with rfl | h
      · exact ⟨0, w, by simp, by assumption, rfl⟩
      · obtain ⟨i, v, h1, h2, h3⟩ := r_lv_inv ad L (k + 1) q h
        exact ⟨i + 1, v, by simpa using h1, h2, by rw [h3]; congr 1; omega⟩
theorem r_L.has {ad : Nat → Nat} {ls : Array Slot} {nL : Nat} {L : List Value} (h : r_L ad ls nL L) : lv_has ls nL (r_lv ad 0 L) := by
  refine ⟨h.1, h.2.1, fun q hq => ?_⟩
  obtain ⟨i, v, h1, h2, h3⟩ := r_lv_inv ad L 0 q hq
  subst h3
  simpa using h.2.2 i v h1 h2
/-- a local by its place -/
def r_lg : List Value → Nat → Value
  | [], _ => .null
  | v :: _, 0 => v
  | _ :: L, i + 1 => r_lg L i
theorem r_lg_some : ∀ {L : List Value} {i : Nat} {v : Value}, r_lg L i = v → v ≠ .null → L[i]? = some v
  | [], i, v, h, hv => absurd h.symm hv
  | w :: L, 0, v, h, hv => by simpa [r_lg] using h
  | w :: L, i + 1, v, h, hv => by simpa using r_lg_some (L := L) (i := i) h hv
/-- a store of one place: the place before it holds no long -/
def r_ls : List Value → Nat → Value → List Value
  | [], _, _ => []
  | _ :: L, 0, v => v :: L
  | w :: L, i + 1, v => w :: r_ls L i v
theorem r_ls_set : ∀ (L : List Value) (i : Nat) (v : Value), r_ls L i v = L.set i v
  | [], _, _ => rfl
  | _ :: _, 0, _ => rfl
  | w :: L, i + 1, v => by simp [r_ls, r_ls_set L i v]
def r_lg2 : Value → Bool
  | .long _ => true
  | .double _ => true
  | _ => false
def r_pv (L : List Value) : Nat → Bool
  | 0 => true
  | i + 1 => !(r_lg2 (r_lg L i))
theorem r_lg2_cat {v : Value} (h : r_lg2 v = false) : ¬ v.category = 2 := by cases v <;> simp_all [r_lg2, Value.category]
theorem r_lg_get {L : List Value} {i : Nat} {v : Value} (h : L[i]? = some v) : r_lg L i = v := by
  induction L generalizing i with
  | nil => simp at h
  | cons w L ih =>
    cases i with
    | zero => simpa [r_lg] using h
    | succ i => exact ih (by simpa using h)
theorem r_L.set {ad : Nat → Nat} {ls ls' : Array Slot} {nL : Nat} {L : List Value} (h : r_L ad ls nL L) {i : Nat} {v : Value} (hp : r_pv L i = true) (h2 : lv_has ls' nL ((i, r_v ad v) :: (r_lv ad 0 L).filter (fun q => !(q.1 == i) && !(q.1 + 1 == i && q.2.category == 2)))) : r_L ad ls' nL (r_ls L i v) := by
  refine ⟨h2.1, h2.2.1, fun j w hj hw => ?_⟩
  rw [r_ls_set] at hj
  by_cases hji : j = i
  · subst hji
    have hl : j < L.length := by
      have := (List.getElem?_eq_some_iff.mp hj).1
      simpa using this
    rw [List.getElem?_set_self hl] at hj
    cases hj
    exact h2.2.2 (j, r_v ad v) (List.mem_cons_self)
  · rw [List.getElem?_set_ne (Ne.symm hji)] at hj
    refine h2.2.2 (j, r_v ad w) (List.mem_cons_of_mem _ (List.mem_filter.mpr ⟨by simpa using r_lv_mem ad L 0 j w hj hw, ?_⟩))
    simp only [r_v_cat]
    by_cases hc : j + 1 = i
    · subst hc
      have h3 : r_lg2 w = false := by
        simp only [r_pv, r_lg_get hj] at hp
        simpa using hp
      have h4 := r_lg2_cat h3
      simp [h4]
    · simp [hji, hc]
theorem r_L.set2 {ad : Nat → Nat} {ls ls' : Array Slot} {nL : Nat} {L : List Value} (h : r_L ad ls nL L) {i : Nat} {v : Value} (hp : r_pv L i = true) (h2 : lv_has ls' nL ((i, r_v ad v) :: (r_lv ad 0 L).filter (fun q => !(q.1 == i) && (!(q.1 == i + 1) && !(q.1 + 1 == i && q.2.category == 2))))) : r_L ad ls' nL (r_ls (r_ls L i v) (i + 1) .null) := by
  refine ⟨h2.1, h2.2.1, fun j w hj hw => ?_⟩
  rw [r_ls_set, r_ls_set] at hj
  by_cases hj1 : j = i + 1
  · subst hj1
    rw [List.getElem?_set] at hj
    simp only [if_true] at hj
    split at hj
    · cases hj; exact absurd rfl hw
    · cases hj
  · rw [List.getElem?_set_ne (Ne.symm hj1)] at hj
    by_cases hji : j = i
    · subst hji
      have hl : j < L.length := by
        have := (List.getElem?_eq_some_iff.mp hj).1
        simpa using this
      rw [List.getElem?_set_self hl] at hj
      cases hj
      exact h2.2.2 (j, r_v ad v) (List.mem_cons_self)
    · rw [List.getElem?_set_ne (Ne.symm hji)] at hj
      refine h2.2.2 (j, r_v ad w) (List.mem_cons_of_mem _ (List.mem_filter.mpr ⟨by simpa using r_lv_mem ad L 0 j w hj hw, ?_⟩))
      simp only [r_v_cat]
      by_cases hc : j + 1 = i
      · subst hc
        have h3 : r_lg2 w = false := by
          simp only [r_pv, r_lg_get hj] at hp
          simpa using hp
        have h4 := r_lg2_cat h3
        simp [h4, hj1]
      · simp [hji, hc, hj1]
/-- the static array of the class: 4, 11, 14; it is 'cell 98', the script 'cell 99' -/
def r_md : Nat → Value := fun j => .int (if j = 0 then 4 else if j = 1 then 11 else 14)
def r_St (ad : Nat → Nat) (A : Nat → Prop) (U : State) (H : Heap) : Prop := va_Z "MendedBank$Code" "MOST_DATA" "[I" (.ref (ad 98)) A U H ∧ va_T .int (ad 98) 3 r_md A U H
abbrev r_X : Type := Option (Nat × (Nat → Int32))
def r_XF (ad : Nat → Nat) (A : Nat → Prop) (s : State) (X : r_X) : Prop := ∀ q, X = some q → va_X (ad 99) q.1 q.2 s s.heap ∧ ad 99 < s.heap.size ∧ ¬ A (ad 99)
abbrev r_ty (E : r_En) : List (ClassId × FieldType) := [(E.2.2.1, .int), (E.2.2.2, .boolean)]
abbrev r_rm (h : Nat) : Room := { frames := h, cells := 0, slots := 0, locals := 30 * h }
/-- a call of a method comes to its end: its answer, and what the ints are then -/
def Ev (h : Nat) (M : r_M) (as : List Value) (s : r_Sg) (r : Option Value) (s' : r_Sg) : Prop := ∀ (l : Launch) (E : r_En) (sz : Nat),
  Met l M.1 (.code M.1 M.2.1 M.2.2.1 M.2.2.2 :: r_tbl) (r_rm h) (va_Pc (as.map (r_v E.2.1)) (fun U => U.heap.size = sz ∧ va_P E.1 vwCl (r_W E s) U.heap ∧ va_K E.1 vwCl (r_ty E) U ∧ va_D (fun _ => True) (r_W E s) ∧ r_St E.2.1 (r_A E.2.1 sz) U U.heap))
    (fun _ st oc t => (oc = .returned (r.map (r_v E.2.1)) ∧ va_P E.1 vwCl (r_W E s') t.heap) ∧ va_F (r_A E.2.1 sz) st t) 0 0 (r_A E.2.1 sz)
/-- what a return gives -/
def r_rt : Option FieldType → Option Value → Prop
  | none, none => True
  | some ty, some (.int v) => narrow ty (.int v) = .int v ∧ (ty = .int ∨ ty = .boolean)
  | some ty, some (.long _) => ty = .long
  | some ty, some (.ref _) => ∃ n, ty = .object n
  | _, _ => False
def r_ri : Instr → List Value → Option Value → Prop
  | .ireturn, [.int v], some (.int w) => v = w
  | .lreturn, [.long v], some (.long w) => v = w
  | .areturn, [.ref v], some (.ref w) => v = w
  | .return_, [], none => True
  | _, _, _ => False
/-- what stands fast while a method runs -/
def r_C (M : r_M) (h : Nat) (X : r_X) (Post : Option Value → r_Sg → Prop) (E : r_En) (p : Program) (l : Launch) (e : Env) (R : Room) (s : State) (m : MethodId) (args : Array Value) (below : List Frame) (meth : Method) (c : Code) (A : Nat → Prop) (cells slots : Nat) (Q : State → Prop) : Prop :=
  p.tables.exec = Jvm.exec ∧ c.code = M.2.1 ∧ c.maxLocals = M.2.2.1 ∧ s.vm.findClass M.1.cls = some m.cls ∧ (∀ w ∈ r_tbl, w.before args s = true) ∧ va_K E.1 vwCl (r_ty E) s ∧ (∀ q, s.heap.size ≤ q → A q) ∧ (∀ k, k < 34 → A (E.2.1 k)) ∧ r_St E.2.1 A s s.heap ∧ r_XF E.2.1 A s X ∧
  (h ≤ R.frames ∧ 30 * h ≤ R.locals) ∧ (cells ≤ R.cells ∧ slots ≤ R.slots) ∧
  (∀ (pc : Nat) (i : Instr) (r : Option Value) (σ : r_Sg) (S : List Value) (H : Heap) (locs : List Loc) (ls : Array Slot), decode M.2.1 pc = .ok (i, 1) → r_ri i S r → r_rt M.2.2.2 r → Post r σ → va_P E.1 vwCl (r_W E σ) H → va_D A (r_W E σ) → va_S A s.heap H locs →
    W p l e R s m args below meth c H locs cells slots Q (F0 m pc ls (S.map (r_v E.2.1))))
/-- from here the method comes to its end, with Post of its answer and its ints -/
def G (M : r_M) (h : Nat) (X : r_X) (Post : Option Value → r_Sg → Prop) (pc : Nat) (L S : List Value) (σ : r_Sg) : Prop :=
  ∀ (E : r_En) (p : Program) (l : Launch) (e : Env) (R : Room) (s : State) (m : MethodId) (args : Array Value) (below : List Frame) (meth : Method) (c : Code) (A : Nat → Prop) (cells slots : Nat) (Q : State → Prop), r_C M h X Post E p l e R s m args below meth c A cells slots Q →
  ∀ (H : Heap) (locs : List Loc) (ls : Array Slot), va_P E.1 vwCl (r_W E σ) H → va_D A (r_W E σ) → va_S A s.heap H locs → r_L E.2.1 ls M.2.2.1 L → W p l e R s m args below meth c H locs cells slots Q (F0 m pc ls (S.map (r_v E.2.1)))
end
section
section Rows
variable {M : r_M} {h : Nat} {X : r_X} {Post : Option Value → r_Sg → Prop} {pc : Nat} {L S : List Value} {σ : r_Sg}
theorem g_iconst {n : Int} {v : Int32} (d : decode M.2.1 pc = .ok (.iconst n, 1)) (hv : Int32.ofInt n = v) (k : G M h X Post (pc + 1) L (.int v :: S) σ) : G M h X Post pc L S σ := by
  intro E p l e R s m args below meth c A cells slots Q C H locs ls hP hD hS hL
  exact lv_iconst C.1 C.2.1 d hv (k E p l e R s m args below meth c A cells slots Q C H locs ls hP hD hS hL)
theorem g_bipush {n : Int} {v : Int32} (d : decode M.2.1 pc = .ok (.bipush n, 2)) (hv : (Int8.ofInt n).toInt32 = v) (k : G M h X Post (pc + 2) L (.int v :: S) σ) : G M h X Post pc L S σ := by
  intro E p l e R s m args below meth c A cells slots Q C H locs ls hP hD hS hL
  exact lv_bipush C.1 C.2.1 d hv (k E p l e R s m args below meth c A cells slots Q C H locs ls hP hD hS hL)
theorem g_sipush {n : Int} {v : Int32} (d : decode M.2.1 pc = .ok (.sipush n, 3)) (hv : (Int16.ofInt n).toInt32 = v) (k : G M h X Post (pc + 3) L (.int v :: S) σ) : G M h X Post pc L S σ := by
  intro E p l e R s m args below meth c A cells slots Q C H locs ls hP hD hS hL
  exact lv_sipush C.1 C.2.1 d hv (k E p l e R s m args below meth c A cells slots Q C H locs ls hP hD hS hL)
theorem g_lconst {n : Fin 2} {v : Int64} (d : decode M.2.1 pc = .ok (.lconst n, 1)) (hv : Int64.ofNat (n : Nat) = v) (k : G M h X Post (pc + 1) L (.long v :: S) σ) : G M h X Post pc L S σ := by
  intro E p l e R s m args below meth c A cells slots Q C H locs ls hP hD hS hL
  exact lv_lconst C.1 C.2.1 d hv (k E p l e R s m args below meth c A cells slots Q C H locs ls hP hD hS hL)
theorem g_ldcw {n : Nat} {v : Int32} (d : decode M.2.1 pc = .ok (.ldc_w n, 3)) (hv : Cond.constant M.1.cls n v ∈ r_tbl) (k : G M h X Post (pc + 3) L (.int v :: S) σ) : G M h X Post pc L S σ := by
  intro E p l e R s m args below meth c A cells slots Q C H locs ls hP hD hS hL
  exact lv_ldcw C.1 C.2.1 C.2.2.2.1 (C.2.2.2.2.1 _ hv) d (k E p l e R s m args below meth c A cells slots Q C H locs ls hP hD hS hL)
theorem g_ldc2 {n : Nat} {v : Int64} (d : decode M.2.1 pc = .ok (.ldc2_w n, 3)) (hv : Cond.constantLong M.1.cls n v ∈ r_tbl) (k : G M h X Post (pc + 3) L (.long v :: S) σ) : G M h X Post pc L S σ := by
  intro E p l e R s m args below meth c A cells slots Q C H locs ls hP hD hS hL
  exact lv_ldc2 C.1 C.2.1 C.2.2.2.1 (C.2.2.2.2.1 _ hv) d (k E p l e R s m args below meth c A cells slots Q C H locs ls hP hD hS hL)
theorem g_iload_n {n : Fin 4} {x : Int32} (d : decode M.2.1 pc = .ok (.iload_n n, 1)) (hl : r_lg L n = .int x) (k : G M h X Post (pc + 1) L (.int x :: S) σ) : G M h X Post pc L S σ := by
  intro E p l e R s m args below meth c A cells slots Q C H locs ls hP hD hS hL
  exact lv_iload_n C.1 C.2.1 d rfl (hL.2.2 n _ (r_lg_some hl (by intro q; cases q)) (by intro q; cases q)) (k E p l e R s m args below meth c A cells slots Q C H locs ls hP hD hS hL)
theorem g_iload {n : Nat} {x : Int32} (d : decode M.2.1 pc = .ok (.iload n, 2)) (hl : r_lg L n = .int x) (k : G M h X Post (pc + 2) L (.int x :: S) σ) : G M h X Post pc L S σ := by
  intro E p l e R s m args below meth c A cells slots Q C H locs ls hP hD hS hL
  exact lv_iload C.1 C.2.1 d (hL.2.2 n _ (r_lg_some hl (by intro q; cases q)) (by intro q; cases q)) (k E p l e R s m args below meth c A cells slots Q C H locs ls hP hD hS hL)
theorem g_lload_n {n : Fin 4} {x : Int64} (d : decode M.2.1 pc = .ok (.lload_n n, 1)) (hl : r_lg L n = .long x) (k : G M h X Post (pc + 1) L (.long x :: S) σ) : G M h X Post pc L S σ := by
  intro E p l e R s m args below meth c A cells slots Q C H locs ls hP hD hS hL
  exact lv_lload_n C.1 C.2.1 d rfl (hL.2.2 n _ (r_lg_some hl (by intro q; cases q)) (by intro q; cases q)) (k E p l e R s m args below meth c A cells slots Q C H locs ls hP hD hS hL)
theorem g_lload {n : Nat} {x : Int64} (d : decode M.2.1 pc = .ok (.lload n, 2)) (hl : r_lg L n = .long x) (k : G M h X Post (pc + 2) L (.long x :: S) σ) : G M h X Post pc L S σ := by
  intro E p l e R s m args below meth c A cells slots Q C H locs ls hP hD hS hL
  exact lv_lload C.1 C.2.1 d (hL.2.2 n _ (r_lg_some hl (by intro q; cases q)) (by intro q; cases q)) (k E p l e R s m args below meth c A cells slots Q C H locs ls hP hD hS hL)
theorem g_aload_n {n : Fin 4} {x : Nat} (d : decode M.2.1 pc = .ok (.aload_n n, 1)) (hl : r_lg L n = .ref x) (k : G M h X Post (pc + 1) L (.ref x :: S) σ) : G M h X Post pc L S σ := by
  intro E p l e R s m args below meth c A cells slots Q C H locs ls hP hD hS hL
  exact lv_aload_n C.1 C.2.1 d rfl (hL.2.2 n _ (r_lg_some hl (by intro q; cases q)) (by intro q; cases q)) (k E p l e R s m args below meth c A cells slots Q C H locs ls hP hD hS hL)
theorem g_aload {n : Nat} {x : Nat} (d : decode M.2.1 pc = .ok (.aload n, 2)) (hl : r_lg L n = .ref x) (k : G M h X Post (pc + 2) L (.ref x :: S) σ) : G M h X Post pc L S σ := by
  intro E p l e R s m args below meth c A cells slots Q C H locs ls hP hD hS hL
  exact lv_aload C.1 C.2.1 d (hL.2.2 n _ (r_lg_some hl (by intro q; cases q)) (by intro q; cases q)) (k E p l e R s m args below meth c A cells slots Q C H locs ls hP hD hS hL)
theorem g_istore_n {n : Fin 4} {x : Int32} (d : decode M.2.1 pc = .ok (.istore_n n, 1)) (hn : n.val < M.2.2.1) (hp : r_pv L n.val = true) (k : G M h X Post (pc + 1) (r_ls L n.val (.int x)) S σ) : G M h X Post pc L ((.int x) :: S) σ := by
  intro E p l e R s m args below meth c A cells slots Q C H locs ls hP hD hS hL
  exact lv_istore_n C.1 C.2.1 d rfl hL.has hn rfl (fun ls2 hl2 => k E p l e R s m args below meth c A cells slots Q C H locs ls2 hP hD hS (hL.set hp hl2))
theorem g_istore {n : Nat} {x : Int32} (d : decode M.2.1 pc = .ok (.istore n, 2)) (hn : n < M.2.2.1) (hp : r_pv L n = true) (k : G M h X Post (pc + 2) (r_ls L n (.int x)) S σ) : G M h X Post pc L ((.int x) :: S) σ := by
  intro E p l e R s m args below meth c A cells slots Q C H locs ls hP hD hS hL
  exact lv_istore C.1 C.2.1 d hL.has hn rfl (fun ls2 hl2 => k E p l e R s m args below meth c A cells slots Q C H locs ls2 hP hD hS (hL.set hp hl2))
theorem g_lstore_n {n : Fin 4} {x : Int64} (d : decode M.2.1 pc = .ok (.lstore_n n, 1)) (hn : n.val + 1 < M.2.2.1) (hp : r_pv L n.val = true) (k : G M h X Post (pc + 1) (r_ls (r_ls L n.val (.long x)) (n.val + 1) .null) S σ) : G M h X Post pc L ((.long x) :: S) σ := by
  intro E p l e R s m args below meth c A cells slots Q C H locs ls hP hD hS hL
  exact lv_lstore_n C.1 C.2.1 d rfl hL.has hn rfl (fun ls2 hl2 => k E p l e R s m args below meth c A cells slots Q C H locs ls2 hP hD hS (hL.set2 hp hl2))
theorem g_lstore {n : Nat} {x : Int64} (d : decode M.2.1 pc = .ok (.lstore n, 2)) (hn : n + 1 < M.2.2.1) (hp : r_pv L n = true) (k : G M h X Post (pc + 2) (r_ls (r_ls L n (.long x)) (n + 1) .null) S σ) : G M h X Post pc L ((.long x) :: S) σ := by
  intro E p l e R s m args below meth c A cells slots Q C H locs ls hP hD hS hL
  exact lv_lstore C.1 C.2.1 d hL.has hn rfl (fun ls2 hl2 => k E p l e R s m args below meth c A cells slots Q C H locs ls2 hP hD hS (hL.set2 hp hl2))
theorem g_astore_n {n : Fin 4} {x : Nat} (d : decode M.2.1 pc = .ok (.astore_n n, 1)) (hn : n.val < M.2.2.1) (hp : r_pv L n.val = true) (k : G M h X Post (pc + 1) (r_ls L n.val (.ref x)) S σ) : G M h X Post pc L ((.ref x) :: S) σ := by
  intro E p l e R s m args below meth c A cells slots Q C H locs ls hP hD hS hL
  exact lv_astore_n C.1 C.2.1 d rfl hL.has hn rfl (fun ls2 hl2 => k E p l e R s m args below meth c A cells slots Q C H locs ls2 hP hD hS (hL.set hp hl2))
theorem g_iinc {n : Nat} {z : Int} {x v : Int32} (d : decode M.2.1 pc = .ok (.iinc n z, 3)) (hx : r_lg L n = .int x) (hv : x + Int32.ofInt z = v) (hn : n < M.2.2.1) (hp : r_pv L n = true) (k : G M h X Post (pc + 3) (r_ls L n (.int v)) S σ) : G M h X Post pc L S σ := by
  intro E p l e R s m args below meth c A cells slots Q C H locs ls hP hD hS hL
  have hm : (n, Value.int x) ∈ r_lv E.2.1 0 L := by simpa [r_v] using r_lv_mem E.2.1 L 0 n (.int x) (r_lg_some hx (by intro q; cases q)) (by intro q; cases q)
  obtain ⟨j, hj⟩ := List.getElem?_of_mem hm
  exact lv_iinc C.1 C.2.1 d hL.has hj hv hn rfl (fun ls2 hl2 => k E p l e R s m args below meth c A cells slots Q C H locs ls2 hP hD hS (hL.set hp hl2))
theorem g_iadd {x y : Int32} (d : decode M.2.1 pc = .ok (.iadd, 1))  (k : G M h X Post (pc + 1) L (.int (x + y) :: S) σ) : G M h X Post pc L (.int y :: .int x :: S) σ := by
  intro E p l e R s m args below meth c A cells slots Q C H locs ls hP hD hS hL
  exact lv_iadd C.1 C.2.1 d (k E p l e R s m args below meth c A cells slots Q C H locs ls hP hD hS hL)
theorem g_isub {x y : Int32} (d : decode M.2.1 pc = .ok (.isub, 1))  (k : G M h X Post (pc + 1) L (.int (x - y) :: S) σ) : G M h X Post pc L (.int y :: .int x :: S) σ := by
  intro E p l e R s m args below meth c A cells slots Q C H locs ls hP hD hS hL
  exact lv_isub C.1 C.2.1 d (k E p l e R s m args below meth c A cells slots Q C H locs ls hP hD hS hL)
theorem g_imul {x y : Int32} (d : decode M.2.1 pc = .ok (.imul, 1))  (k : G M h X Post (pc + 1) L (.int (x * y) :: S) σ) : G M h X Post pc L (.int y :: .int x :: S) σ := by
  intro E p l e R s m args below meth c A cells slots Q C H locs ls hP hD hS hL
  exact lv_imul C.1 C.2.1 d (k E p l e R s m args below meth c A cells slots Q C H locs ls hP hD hS hL)
theorem g_iand {x y : Int32} (d : decode M.2.1 pc = .ok (.iand, 1))  (k : G M h X Post (pc + 1) L (.int (x &&& y) :: S) σ) : G M h X Post pc L (.int y :: .int x :: S) σ := by
  intro E p l e R s m args below meth c A cells slots Q C H locs ls hP hD hS hL
  exact lv_iand C.1 C.2.1 d (k E p l e R s m args below meth c A cells slots Q C H locs ls hP hD hS hL)
theorem g_ior {x y : Int32} (d : decode M.2.1 pc = .ok (.ior, 1))  (k : G M h X Post (pc + 1) L (.int (x ||| y) :: S) σ) : G M h X Post pc L (.int y :: .int x :: S) σ := by
  intro E p l e R s m args below meth c A cells slots Q C H locs ls hP hD hS hL
  exact lv_ior C.1 C.2.1 d (k E p l e R s m args below meth c A cells slots Q C H locs ls hP hD hS hL)
theorem g_ixor {x y : Int32} (d : decode M.2.1 pc = .ok (.ixor, 1))  (k : G M h X Post (pc + 1) L (.int (x ^^^ y) :: S) σ) : G M h X Post pc L (.int y :: .int x :: S) σ := by
  intro E p l e R s m args below meth c A cells slots Q C H locs ls hP hD hS hL
  exact lv_ixor C.1 C.2.1 d (k E p l e R s m args below meth c A cells slots Q C H locs ls hP hD hS hL)
theorem g_ishl {x y : Int32} (d : decode M.2.1 pc = .ok (.ishl, 1))  (k : G M h X Post (pc + 1) L (.int (x <<< (y &&& 31)) :: S) σ) : G M h X Post pc L (.int y :: .int x :: S) σ := by
  intro E p l e R s m args below meth c A cells slots Q C H locs ls hP hD hS hL
  exact lv_ishl C.1 C.2.1 d (k E p l e R s m args below meth c A cells slots Q C H locs ls hP hD hS hL)
theorem g_ishr {x y : Int32} (d : decode M.2.1 pc = .ok (.ishr, 1))  (k : G M h X Post (pc + 1) L (.int (x >>> (y &&& 31)) :: S) σ) : G M h X Post pc L (.int y :: .int x :: S) σ := by
  intro E p l e R s m args below meth c A cells slots Q C H locs ls hP hD hS hL
  exact lv_ishr C.1 C.2.1 d (k E p l e R s m args below meth c A cells slots Q C H locs ls hP hD hS hL)
theorem g_iushr {x y v : Int32} (d : decode M.2.1 pc = .ok (.iushr, 1)) (hv : (x.toUInt32 >>> (y.toUInt32 &&& Int32.toUInt32 31)).toInt32 = v) (k : G M h X Post (pc + 1) L (.int v :: S) σ) : G M h X Post pc L (.int y :: .int x :: S) σ := by
  intro E p l e R s m args below meth c A cells slots Q C H locs ls hP hD hS hL
  exact lv_iushr C.1 C.2.1 d hv (k E p l e R s m args below meth c A cells slots Q C H locs ls hP hD hS hL)
theorem g_idiv {x y : Int32} (d : decode M.2.1 pc = .ok (.idiv, 1)) (hy : ¬ y = 0) (k : G M h X Post (pc + 1) L (.int (x / y) :: S) σ) : G M h X Post pc L (.int y :: .int x :: S) σ := by
  intro E p l e R s m args below meth c A cells slots Q C H locs ls hP hD hS hL
  exact lv_idiv C.1 C.2.1 d hy (k E p l e R s m args below meth c A cells slots Q C H locs ls hP hD hS hL)
theorem g_irem {x y : Int32} (d : decode M.2.1 pc = .ok (.irem, 1)) (hy : ¬ y = 0) (k : G M h X Post (pc + 1) L (.int (x - x / y * y) :: S) σ) : G M h X Post pc L (.int y :: .int x :: S) σ := by
  intro E p l e R s m args below meth c A cells slots Q C H locs ls hP hD hS hL
  exact lv_irem C.1 C.2.1 d hy (k E p l e R s m args below meth c A cells slots Q C H locs ls hP hD hS hL)
theorem g_ineg {x : Int32} (d : decode M.2.1 pc = .ok (.ineg, 1))  (k : G M h X Post (pc + 1) L (.int (-x) :: S) σ) : G M h X Post pc L (.int x :: S) σ := by
  intro E p l e R s m args below meth c A cells slots Q C H locs ls hP hD hS hL
  exact lv_ineg C.1 C.2.1 d (k E p l e R s m args below meth c A cells slots Q C H locs ls hP hD hS hL)
theorem g_lmul {x y : Int64} (d : decode M.2.1 pc = .ok (.lmul, 1))  (k : G M h X Post (pc + 1) L (.long (x * y) :: S) σ) : G M h X Post pc L (.long y :: .long x :: S) σ := by
  intro E p l e R s m args below meth c A cells slots Q C H locs ls hP hD hS hL
  exact lv_lmul C.1 C.2.1 d (k E p l e R s m args below meth c A cells slots Q C H locs ls hP hD hS hL)
theorem g_land {x y : Int64} (d : decode M.2.1 pc = .ok (.land, 1))  (k : G M h X Post (pc + 1) L (.long (x &&& y) :: S) σ) : G M h X Post pc L (.long y :: .long x :: S) σ := by
  intro E p l e R s m args below meth c A cells slots Q C H locs ls hP hD hS hL
  exact lv_land C.1 C.2.1 d (k E p l e R s m args below meth c A cells slots Q C H locs ls hP hD hS hL)
theorem g_ldiv {x y : Int64} (d : decode M.2.1 pc = .ok (.ldiv, 1)) (hy : ¬ y = 0) (k : G M h X Post (pc + 1) L (.long (x / y) :: S) σ) : G M h X Post pc L (.long y :: .long x :: S) σ := by
  intro E p l e R s m args below meth c A cells slots Q C H locs ls hP hD hS hL
  exact lv_ldiv C.1 C.2.1 d hy (k E p l e R s m args below meth c A cells slots Q C H locs ls hP hD hS hL)
theorem g_lrem {x y : Int64} (d : decode M.2.1 pc = .ok (.lrem, 1)) (hy : ¬ y = 0) (k : G M h X Post (pc + 1) L (.long (x - x / y * y) :: S) σ) : G M h X Post pc L (.long y :: .long x :: S) σ := by
  intro E p l e R s m args below meth c A cells slots Q C H locs ls hP hD hS hL
  exact lv_lrem C.1 C.2.1 d hy (k E p l e R s m args below meth c A cells slots Q C H locs ls hP hD hS hL)
theorem g_lshl {x : Int64} {y : Int32} (d : decode M.2.1 pc = .ok (.lshl, 1))  (k : G M h X Post (pc + 1) L (.long (x <<< (y.toInt64 &&& 63)) :: S) σ) : G M h X Post pc L (.int y :: .long x :: S) σ := by
  intro E p l e R s m args below meth c A cells slots Q C H locs ls hP hD hS hL
  exact lv_lshl C.1 C.2.1 d rfl (k E p l e R s m args below meth c A cells slots Q C H locs ls hP hD hS hL)
theorem g_lshr {x : Int64} {y : Int32} (d : decode M.2.1 pc = .ok (.lshr, 1))  (k : G M h X Post (pc + 1) L (.long (x >>> (y.toInt64 &&& 63)) :: S) σ) : G M h X Post pc L (.int y :: .long x :: S) σ := by
  intro E p l e R s m args below meth c A cells slots Q C H locs ls hP hD hS hL
  exact lv_lshr C.1 C.2.1 d rfl (k E p l e R s m args below meth c A cells slots Q C H locs ls hP hD hS hL)
theorem g_i2l {x : Int32} (d : decode M.2.1 pc = .ok (.i2l, 1))  (k : G M h X Post (pc + 1) L (.long x.toInt64 :: S) σ) : G M h X Post pc L (.int x :: S) σ := by
  intro E p l e R s m args below meth c A cells slots Q C H locs ls hP hD hS hL
  exact lv_i2l C.1 C.2.1 d rfl (k E p l e R s m args below meth c A cells slots Q C H locs ls hP hD hS hL)
theorem g_dup {v : Value} (d : decode M.2.1 pc = .ok (.dup, 1)) (hv : v.category = 1) (k : G M h X Post (pc + 1) L (v :: v :: S) σ) : G M h X Post pc L (v :: S) σ := by
  intro E p l e R s m args below meth c A cells slots Q C H locs ls hP hD hS hL
  exact lv_dup C.1 C.2.1 d (by rw [r_v_cat]; exact hv) (k E p l e R s m args below meth c A cells slots Q C H locs ls hP hD hS hL)
theorem g_dup2 {v w : Value} (d : decode M.2.1 pc = .ok (.dup2, 1)) (hv : v.category = 1) (hw : w.category = 1) (k : G M h X Post (pc + 1) L (v :: w :: v :: w :: S) σ) : G M h X Post pc L (v :: w :: S) σ := by
  intro E p l e R s m args below meth c A cells slots Q C H locs ls hP hD hS hL
  exact lv_dup2_11 C.1 C.2.1 d (by rw [r_v_cat]; exact hv) (by rw [r_v_cat]; exact hw) (k E p l e R s m args below meth c A cells slots Q C H locs ls hP hD hS hL)
theorem g_pop {v : Value} (d : decode M.2.1 pc = .ok (.pop, 1)) (hv : v.category = 1) (k : G M h X Post (pc + 1) L S σ) : G M h X Post pc L (v :: S) σ := by
  intro E p l e R s m args below meth c A cells slots Q C H locs ls hP hD hS hL
  exact lv_pop C.1 C.2.1 d (by rw [r_v_cat]; exact hv) (k E p l e R s m args below meth c A cells slots Q C H locs ls hP hD hS hL)
theorem g_ifeq {x : Int32} {off : Int} {tgt : Nat} (d : decode M.2.1 pc = .ok (.ifCond .eq off, 3)) (ht : (pc : Int) + off = (tgt : Int)) (kt : x = 0 → G M h X Post tgt L S σ) (kf : ¬ x = 0 → G M h X Post (pc + 3) L S σ) : G M h X Post pc L (.int x :: S) σ := by
  intro E p l e R s m args below meth c A cells slots Q C H locs ls hP hD hS hL
  exact lv_if_eq C.1 C.2.1 d ht (fun q => kt q E p l e R s m args below meth c A cells slots Q C H locs ls hP hD hS hL) (fun q => kf q E p l e R s m args below meth c A cells slots Q C H locs ls hP hD hS hL)
theorem g_ifne {x : Int32} {off : Int} {tgt : Nat} (d : decode M.2.1 pc = .ok (.ifCond .ne off, 3)) (ht : (pc : Int) + off = (tgt : Int)) (kt : ¬ x = 0 → G M h X Post tgt L S σ) (kf : x = 0 → G M h X Post (pc + 3) L S σ) : G M h X Post pc L (.int x :: S) σ := by
  intro E p l e R s m args below meth c A cells slots Q C H locs ls hP hD hS hL
  exact lv_if_ne C.1 C.2.1 d ht (fun q => kt q E p l e R s m args below meth c A cells slots Q C H locs ls hP hD hS hL) (fun q => kf q E p l e R s m args below meth c A cells slots Q C H locs ls hP hD hS hL)
theorem g_iflt {x : Int32} {off : Int} {tgt : Nat} (d : decode M.2.1 pc = .ok (.ifCond .lt off, 3)) (ht : (pc : Int) + off = (tgt : Int)) (kt : x < 0 → G M h X Post tgt L S σ) (kf : ¬ x < 0 → G M h X Post (pc + 3) L S σ) : G M h X Post pc L (.int x :: S) σ := by
  intro E p l e R s m args below meth c A cells slots Q C H locs ls hP hD hS hL
  exact lv_if_lt C.1 C.2.1 d ht (fun q => kt q E p l e R s m args below meth c A cells slots Q C H locs ls hP hD hS hL) (fun q => kf q E p l e R s m args below meth c A cells slots Q C H locs ls hP hD hS hL)
theorem g_ifge {x : Int32} {off : Int} {tgt : Nat} (d : decode M.2.1 pc = .ok (.ifCond .ge off, 3)) (ht : (pc : Int) + off = (tgt : Int)) (kt : 0 ≤ x → G M h X Post tgt L S σ) (kf : ¬ 0 ≤ x → G M h X Post (pc + 3) L S σ) : G M h X Post pc L (.int x :: S) σ := by
  intro E p l e R s m args below meth c A cells slots Q C H locs ls hP hD hS hL
  exact lv_if_ge C.1 C.2.1 d ht (fun q => kt q E p l e R s m args below meth c A cells slots Q C H locs ls hP hD hS hL) (fun q => kf q E p l e R s m args below meth c A cells slots Q C H locs ls hP hD hS hL)
theorem g_ifgt {x : Int32} {off : Int} {tgt : Nat} (d : decode M.2.1 pc = .ok (.ifCond .gt off, 3)) (ht : (pc : Int) + off = (tgt : Int)) (kt : 0 < x → G M h X Post tgt L S σ) (kf : ¬ 0 < x → G M h X Post (pc + 3) L S σ) : G M h X Post pc L (.int x :: S) σ := by
  intro E p l e R s m args below meth c A cells slots Q C H locs ls hP hD hS hL
  exact lv_if_gt C.1 C.2.1 d ht (fun q => kt q E p l e R s m args below meth c A cells slots Q C H locs ls hP hD hS hL) (fun q => kf q E p l e R s m args below meth c A cells slots Q C H locs ls hP hD hS hL)
theorem g_ifle {x : Int32} {off : Int} {tgt : Nat} (d : decode M.2.1 pc = .ok (.ifCond .le off, 3)) (ht : (pc : Int) + off = (tgt : Int)) (kt : x ≤ 0 → G M h X Post tgt L S σ) (kf : ¬ x ≤ 0 → G M h X Post (pc + 3) L S σ) : G M h X Post pc L (.int x :: S) σ := by
  intro E p l e R s m args below meth c A cells slots Q C H locs ls hP hD hS hL
  exact lv_if_le C.1 C.2.1 d ht (fun q => kt q E p l e R s m args below meth c A cells slots Q C H locs ls hP hD hS hL) (fun q => kf q E p l e R s m args below meth c A cells slots Q C H locs ls hP hD hS hL)
theorem g_iceq {x y : Int32} {off : Int} {tgt : Nat} (d : decode M.2.1 pc = .ok (.if_icmp .eq off, 3)) (ht : (pc : Int) + off = (tgt : Int)) (kt : x = y → G M h X Post tgt L S σ) (kf : ¬ x = y → G M h X Post (pc + 3) L S σ) : G M h X Post pc L (.int y :: .int x :: S) σ := by
  intro E p l e R s m args below meth c A cells slots Q C H locs ls hP hD hS hL
  exact lv_icmp_eq C.1 C.2.1 d ht (fun q => kt q E p l e R s m args below meth c A cells slots Q C H locs ls hP hD hS hL) (fun q => kf q E p l e R s m args below meth c A cells slots Q C H locs ls hP hD hS hL)
theorem g_icne {x y : Int32} {off : Int} {tgt : Nat} (d : decode M.2.1 pc = .ok (.if_icmp .ne off, 3)) (ht : (pc : Int) + off = (tgt : Int)) (kt : ¬ x = y → G M h X Post tgt L S σ) (kf : x = y → G M h X Post (pc + 3) L S σ) : G M h X Post pc L (.int y :: .int x :: S) σ := by
  intro E p l e R s m args below meth c A cells slots Q C H locs ls hP hD hS hL
  exact lv_icmp_ne C.1 C.2.1 d ht (fun q => kt q E p l e R s m args below meth c A cells slots Q C H locs ls hP hD hS hL) (fun q => kf q E p l e R s m args below meth c A cells slots Q C H locs ls hP hD hS hL)
theorem g_iclt {x y : Int32} {off : Int} {tgt : Nat} (d : decode M.2.1 pc = .ok (.if_icmp .lt off, 3)) (ht : (pc : Int) + off = (tgt : Int)) (kt : x < y → G M h X Post tgt L S σ) (kf : ¬ x < y → G M h X Post (pc + 3) L S σ) : G M h X Post pc L (.int y :: .int x :: S) σ := by
  intro E p l e R s m args below meth c A cells slots Q C H locs ls hP hD hS hL
  exact lv_icmp_lt C.1 C.2.1 d ht (fun q => kt q E p l e R s m args below meth c A cells slots Q C H locs ls hP hD hS hL) (fun q => kf q E p l e R s m args below meth c A cells slots Q C H locs ls hP hD hS hL)
theorem g_icge {x y : Int32} {off : Int} {tgt : Nat} (d : decode M.2.1 pc = .ok (.if_icmp .ge off, 3)) (ht : (pc : Int) + off = (tgt : Int)) (kt : y ≤ x → G M h X Post tgt L S σ) (kf : ¬ y ≤ x → G M h X Post (pc + 3) L S σ) : G M h X Post pc L (.int y :: .int x :: S) σ := by
  intro E p l e R s m args below meth c A cells slots Q C H locs ls hP hD hS hL
  exact lv_icmp_ge C.1 C.2.1 d ht (fun q => kt q E p l e R s m args below meth c A cells slots Q C H locs ls hP hD hS hL) (fun q => kf q E p l e R s m args below meth c A cells slots Q C H locs ls hP hD hS hL)
theorem g_icgt {x y : Int32} {off : Int} {tgt : Nat} (d : decode M.2.1 pc = .ok (.if_icmp .gt off, 3)) (ht : (pc : Int) + off = (tgt : Int)) (kt : y < x → G M h X Post tgt L S σ) (kf : ¬ y < x → G M h X Post (pc + 3) L S σ) : G M h X Post pc L (.int y :: .int x :: S) σ := by
  intro E p l e R s m args below meth c A cells slots Q C H locs ls hP hD hS hL
  exact lv_icmp_gt C.1 C.2.1 d ht (fun q => kt q E p l e R s m args below meth c A cells slots Q C H locs ls hP hD hS hL) (fun q => kf q E p l e R s m args below meth c A cells slots Q C H locs ls hP hD hS hL)
theorem g_icle {x y : Int32} {off : Int} {tgt : Nat} (d : decode M.2.1 pc = .ok (.if_icmp .le off, 3)) (ht : (pc : Int) + off = (tgt : Int)) (kt : x ≤ y → G M h X Post tgt L S σ) (kf : ¬ x ≤ y → G M h X Post (pc + 3) L S σ) : G M h X Post pc L (.int y :: .int x :: S) σ := by
  intro E p l e R s m args below meth c A cells slots Q C H locs ls hP hD hS hL
  exact lv_icmp_le C.1 C.2.1 d ht (fun q => kt q E p l e R s m args below meth c A cells slots Q C H locs ls hP hD hS hL) (fun q => kf q E p l e R s m args below meth c A cells slots Q C H locs ls hP hD hS hL)
theorem g_goto {off : Int} {tgt : Nat} (d : decode M.2.1 pc = .ok (.goto off, 3)) (ht : (pc : Int) + off = (tgt : Int)) (k : G M h X Post tgt L S σ) : G M h X Post pc L S σ := by
  intro E p l e R s m args below meth c A cells slots Q C H locs ls hP hD hS hL
  exact lv_goto C.1 C.2.1 d ht (k E p l e R s m args below meth c A cells slots Q C H locs ls hP hD hS hL)
theorem g_tabIn {dflt lo hi : Int} {offs : Array Int} {len : Nat} {x : Int32} {off : Int} {tgt : Nat} (d : decode M.2.1 pc = .ok (.tableswitch dflt lo hi offs, len)) (h1 : ¬ x.toInt < lo) (h2 : ¬ hi < x.toInt) (ho : offs[(x.toInt - lo).toNat]? = some off) (ht : (pc : Int) + off = (tgt : Int)) (k : G M h X Post tgt L S σ) : G M h X Post pc L (.int x :: S) σ := by
  intro E p l e R s m args below meth c A cells slots Q C H locs ls hP hD hS hL
  exact lv_tableIn C.1 C.2.1 d h1 h2 ho ht (k E p l e R s m args below meth c A cells slots Q C H locs ls hP hD hS hL)
theorem g_tabOut {dflt lo hi : Int} {offs : Array Int} {len : Nat} {x : Int32} {tgt : Nat} (d : decode M.2.1 pc = .ok (.tableswitch dflt lo hi offs, len)) (h1 : x.toInt < lo ∨ hi < x.toInt) (ht : (pc : Int) + dflt = (tgt : Int)) (k : G M h X Post tgt L S σ) : G M h X Post pc L (.int x :: S) σ := by
  intro E p l e R s m args below meth c A cells slots Q C H locs ls hP hD hS hL
  exact lv_tableOut C.1 C.2.1 d h1 ht (k E p l e R s m args below meth c A cells slots Q C H locs ls hP hD hS hL)
theorem g_iret {v : Int32} (d : decode M.2.1 pc = .ok (.ireturn, 1)) (hr : M.2.2.2 = some .int) (k : Post (some (.int v)) σ) : G M h X Post pc L [.int v] σ := by
  intro E p l e R s m args below meth c A cells slots Q C H locs ls hP hD hS hL
  exact C.2.2.2.2.2.2.2.2.2.2.2.2 pc _ (some (.int v)) σ _ H locs ls d rfl (by rw [hr]; exact ⟨rfl, Or.inl rfl⟩) k hP hD hS
theorem g_zret {v : Int32} (d : decode M.2.1 pc = .ok (.ireturn, 1)) (hr : M.2.2.2 = some .boolean) (hz : v = 0 ∨ v = 1) (k : Post (some (.int v)) σ) : G M h X Post pc L [.int v] σ := by
  intro E p l e R s m args below meth c A cells slots Q C H locs ls hP hD hS hL
  exact C.2.2.2.2.2.2.2.2.2.2.2.2 pc _ (some (.int v)) σ _ H locs ls d rfl (by rw [hr]; refine ⟨?_, Or.inr rfl⟩; rcases hz with rfl | rfl <;> rfl) k hP hD hS
theorem g_lret {v : Int64} (d : decode M.2.1 pc = .ok (.lreturn, 1)) (hr : M.2.2.2 = some .long) (k : Post (some (.long v)) σ) : G M h X Post pc L [.long v] σ := by
  intro E p l e R s m args below meth c A cells slots Q C H locs ls hP hD hS hL
  exact C.2.2.2.2.2.2.2.2.2.2.2.2 pc _ (some (.long v)) σ _ H locs ls d rfl (by rw [hr]; exact rfl) k hP hD hS
theorem g_aret {v : Nat} (d : decode M.2.1 pc = .ok (.areturn, 1)) {cn : String} (hr : M.2.2.2 = some (.object cn)) (k : Post (some (.ref v)) σ) : G M h X Post pc L [.ref v] σ := by
  intro E p l e R s m args below meth c A cells slots Q C H locs ls hP hD hS hL
  exact C.2.2.2.2.2.2.2.2.2.2.2.2 pc _ (some (.ref v)) σ _ H locs ls d rfl (by rw [hr]; exact ⟨_, rfl⟩) k hP hD hS
theorem g_ret (d : decode M.2.1 pc = .ok (.return_, 1)) (hr : M.2.2.2 = none) (k : Post none σ) : G M h X Post pc L [] σ := by
  intro E p l e R s m args below meth c A cells slots Q C H locs ls hP hD hS hL
  exact C.2.2.2.2.2.2.2.2.2.2.2.2 pc _ none σ _ H locs ls d trivial (by rw [hr]; exact trivial) k hP hD hS
-- fields and arrays
def r_Fl (own : String) (idx ci k : Nat) : Prop := ∃ (C : String) (T : u_T) (N : Nat), vwCl[ci]? = some (C, T, N) ∧ (∀ w ∈ u_ws C T N, w ∈ r_tbl) ∧ k < N ∧ Cond.fieldLink own idx C (T k).2.1 (T k).2.2.1 ∈ r_tbl ∧ (T k).1 = C
def r_Fp (own : String) (idx ci k : Nat) (ty : FieldType) : Prop := ∃ (C : String) (T : u_T) (N : Nat), vwCl[ci]? = some (C, T, N) ∧ (∀ w ∈ u_ws C T N, w ∈ r_tbl) ∧ k < N ∧ Cond.fieldLink own idx C (T k).2.1 (T k).2.2.1 ∈ r_tbl ∧ (T k).1 = C ∧
  ∃ (ty0 : Nat → FieldType), (∀ k, k < N → parseFieldDescriptor (T k).2.2.1 = some (ty0 k)) ∧ (∀ a, a < N → ∀ b, b < N → a ≠ b → (T a).2.1 ≠ (T b).2.1) ∧ (T k).2.2.2 = false ∧ parseFieldDescriptor (T k).2.2.1 = some ty
theorem r_fs_at {ad : Nat → Nat} {k i j : Nat} {fl : List (Option Nat)} (h : fl[i]? = some (some j)) : (r_fs ad σ k fl)[i]? = some (.ref (ad j)) := by simp [r_fs, List.getElem?_mapIdx, h]
theorem r_fs_at0 {ad : Nat → Nat} {k i : Nat} {fl : List (Option Nat)} (h : fl[i]? = some none) : (r_fs ad σ k fl)[i]? = some (.int (σ k i)) := by simp [r_fs, List.getElem?_mapIdx, h]
theorem g_getI {idx ci f q : Nat} {fl : List (Option Nat)} (d : decode M.2.1 pc = .ok (.getfield idx, 3)) (hf : r_Fl M.1.cls idx ci f) (hs : r_SH[q]? = some (.inr (ci, fl))) (hk : fl[f]? = some none) (k : G M h X Post (pc + 3) L (.int (σ q f) :: S) σ) : G M h X Post pc L (.ref q :: S) σ := by
  intro E p l e R s m args below meth c A cells slots Q C H locs ls hP hD hS hL
  obtain ⟨Cn, T, N, h1, h2, h3, h4, h5⟩ := hf
  exact va_get C.1 C.2.1 C.2.2.2.2.1 h2 C.2.2.2.1 C.2.2.2.2.2.1 hP q (r_at E σ hs) h1 f h3 (C.2.2.2.2.1 _ h4) (fun _ h9 => by rw [h5] at h9; exact h9) (r_fs_at0 hk) d (k E p l e R s m args below meth c A cells slots Q C H locs ls hP hD hS hL)
theorem g_getR {idx ci f q j : Nat} {fl : List (Option Nat)} (d : decode M.2.1 pc = .ok (.getfield idx, 3)) (hf : r_Fl M.1.cls idx ci f) (hs : r_SH[q]? = some (.inr (ci, fl))) (hk : fl[f]? = some (some j)) (k : G M h X Post (pc + 3) L (.ref j :: S) σ) : G M h X Post pc L (.ref q :: S) σ := by
  intro E p l e R s m args below meth c A cells slots Q C H locs ls hP hD hS hL
  obtain ⟨Cn, T, N, h1, h2, h3, h4, h5⟩ := hf
  exact va_get C.1 C.2.1 C.2.2.2.2.1 h2 C.2.2.2.1 C.2.2.2.2.2.1 hP q (r_at E σ hs) h1 f h3 (C.2.2.2.2.1 _ h4) (fun _ h9 => by rw [h5] at h9; exact h9) (r_fs_at hk) d (k E p l e R s m args below meth c A cells slots Q C H locs ls hP hD hS hL)
theorem g_put0 {idx ci f q : Nat} {fl : List (Option Nat)} {ty : FieldType} {v : Int32} (d : decode M.2.1 pc = .ok (.putfield idx, 3)) (hf : r_Fp M.1.cls idx ci f ty) (hs : r_SH[q]? = some (.inr (ci, fl))) (hk : fl[f]? = some none) (hn : narrow ty (.int v) = .int v) (hfit : fits ty (.int v) = true) (k : G M h X Post (pc + 3) L S (r_up σ q f v)) : G M h X Post pc L (.int v :: .ref q :: S) σ := by
  intro E p l e R s m args below meth c A cells slots Q C H locs ls hP hD hS hL
  obtain ⟨Cn, T, N, h1, h2, h3, h4, h5, ty0, h6, h7, h8, h9⟩ := hf
  refine va_put C.1 C.2.1 C.2.2.2.2.1 h2 ty0 h6 h7 C.2.2.2.1 C.2.2.2.2.2.1 hP hD hS q (r_at E σ hs) h1 f h3 (C.2.2.2.2.1 _ h4) (fun _ h9 => by rw [h5] at h9; exact h9) h8 h9 hn hfit (by simpa [r_fs] using (List.getElem?_eq_some_iff.mp hk).1) d (fun H1 locs1 hP1 hD1 hS1 => ?_)
  have e1 := r_setF E σ hs hk v
  exact k E p l e R s m args below meth c A cells slots Q C H1 locs1 ls (by rw [← e1]; exact hP1) (by rw [← e1]; exact hD1) hS1 hL
theorem g_putI {idx ci f q : Nat} {fl : List (Option Nat)} {v : Int32} (d : decode M.2.1 pc = .ok (.putfield idx, 3)) (hf : r_Fp M.1.cls idx ci f .int) (hs : r_SH[q]? = some (.inr (ci, fl))) (hk : fl[f]? = some none) (k : G M h X Post (pc + 3) L S (r_up σ q f v)) : G M h X Post pc L (.int v :: .ref q :: S) σ := g_put0 d hf hs hk rfl rfl k
theorem g_putZ {idx ci f q : Nat} {fl : List (Option Nat)} {v : Int32} (d : decode M.2.1 pc = .ok (.putfield idx, 3)) (hf : r_Fp M.1.cls idx ci f .boolean) (hs : r_SH[q]? = some (.inr (ci, fl))) (hk : fl[f]? = some none) (hv : v = 0 ∨ v = 1) (k : G M h X Post (pc + 3) L S (r_up σ q f v)) : G M h X Post pc L (.int v :: .ref q :: S) σ := g_put0 d hf hs hk (by rcases hv with rfl | rfl <;> rfl) (by rcases hv with rfl | rfl <;> rfl) k
theorem g_iald {q n : Nat} {i : Int32} (d : decode M.2.1 pc = .ok (.iaload, 1)) (hs : r_SH[q]? = some (.inl (n, false))) (hi : vp_in i n) (k : G M h X Post (pc + 1) L (.int (σ q i.toNatClampNeg) :: S) σ) : G M h X Post pc L (.int i :: .ref q :: S) σ := by
  intro E p l e R s m args below meth c A cells slots Q C H locs ls hP hD hS hL
  exact va_iald C.1 C.2.1 C.2.2.2.2.2.1 hP q 0 (r_at E σ hs) rfl hi d (k E p l e R s m args below meth c A cells slots Q C H locs ls hP hD hS hL)
theorem g_zald {q n : Nat} {i : Int32} (d : decode M.2.1 pc = .ok (.baload, 1)) (hs : r_SH[q]? = some (.inl (n, true))) (hi : vp_in i n) (k : G M h X Post (pc + 1) L (.int (σ q i.toNatClampNeg) :: S) σ) : G M h X Post pc L (.int i :: .ref q :: S) σ := by
  intro E p l e R s m args below meth c A cells slots Q C H locs ls hP hD hS hL
  exact va_zald C.1 C.2.1 C.2.2.2.2.2.1 hP q 1 (r_at E σ hs) rfl hi d (k E p l e R s m args below meth c A cells slots Q C H locs ls hP hD hS hL)
theorem g_iast {q n : Nat} {i v : Int32} (d : decode M.2.1 pc = .ok (.iastore, 1)) (hs : r_SH[q]? = some (.inl (n, false))) (hi : vp_in i n) (k : G M h X Post (pc + 1) L S (r_up σ q i.toNatClampNeg v)) : G M h X Post pc L (.int v :: .int i :: .ref q :: S) σ := by
  intro E p l e R s m args below meth c A cells slots Q C H locs ls hP hD hS hL
  refine va_iast C.1 C.2.1 C.2.2.2.2.2.1 hP hD hS q 0 (r_at E σ hs) rfl hi d (fun H1 locs1 hP1 hD1 hS1 => ?_)
  have e1 := r_setA E σ hs i.toNatClampNeg v
  exact k E p l e R s m args below meth c A cells slots Q C H1 locs1 ls (by rw [← e1]; exact hP1) (by rw [← e1]; exact hD1) hS1 hL
theorem g_zast {q n : Nat} {i v : Int32} (d : decode M.2.1 pc = .ok (.bastore, 1)) (hs : r_SH[q]? = some (.inl (n, true))) (hi : vp_in i n) (hv : v = 0 ∨ v = 1) (k : G M h X Post (pc + 1) L S (r_up σ q i.toNatClampNeg v)) : G M h X Post pc L (.int v :: .int i :: .ref q :: S) σ := by
  intro E p l e R s m args below meth c A cells slots Q C H locs ls hP hD hS hL
  refine va_zast C.1 C.2.1 C.2.2.2.2.2.1 hP hD hS q 1 (r_at E σ hs) rfl hi d (fun H1 locs1 hP1 hD1 hS1 => ?_)
  have e0 : vp_nar .boolean v = v := by rcases hv with rfl | rfl <;> rfl
  rw [e0] at hP1 hD1
  have e1 := r_setA E σ hs i.toNatClampNeg v
  exact k E p l e R s m args below meth c A cells slots Q C H1 locs1 ls (by rw [← e1]; exact hP1) (by rw [← e1]; exact hD1) hS1 hL
theorem g_alen {q n : Nat} {b : Bool} {v : Int32} (d : decode M.2.1 pc = .ok (.arraylength, 1)) (hs : r_SH[q]? = some (.inl (n, b))) (hv : Int32.ofNat n = v) (k : G M h X Post (pc + 1) L (.int v :: S) σ) : G M h X Post pc L (.ref q :: S) σ := by
  intro E p l e R s m args below meth c A cells slots Q C H locs ls hP hD hS hL
  cases b with
  | false => exact va_alen C.1 C.2.1 C.2.2.2.2.2.1 hP q 0 (r_at E σ hs) rfl hv d (k E p l e R s m args below meth c A cells slots Q C H locs ls hP hD hS hL)
  | true => exact va_alen C.1 C.2.1 C.2.2.2.2.2.1 hP q 1 (r_at E σ hs) rfl hv d (k E p l e R s m args below meth c A cells slots Q C H locs ls hP hD hS hL)
-- the static array, the script
theorem g_gets {idx : Nat} (d : decode M.2.1 pc = .ok (.getstatic idx, 3)) (hl : Cond.fieldLink M.1.cls idx "MendedBank$Code" "MOST_DATA" "[I" ∈ r_tbl) (k : G M h X Post (pc + 3) L (.ref 98 :: S) σ) : G M h X Post pc L S σ := by
  intro E p l e R s m args below meth c A cells slots Q C H locs ls hP hD hS hL
  exact va_gets C.1 C.2.1 C.2.2.2.2.2.2.2.2.1.1 hS C.2.2.2.1 (C.2.2.2.2.1 _ hl) (fun _ h9 => h9) d (k E p l e R s m args below meth c A cells slots Q C H locs ls hP hD hS hL)
theorem g_tld {i v : Int32} (d : decode M.2.1 pc = .ok (.iaload, 1)) (hi : vp_in i 3) (hv : r_md i.toNatClampNeg = .int v) (k : G M h X Post (pc + 1) L (.int v :: S) σ) : G M h X Post pc L (.int i :: .ref 98 :: S) σ := by
  intro E p l e R s m args below meth c A cells slots Q C H locs ls hP hD hS hL
  obtain ⟨cell, h1, h2, h3, h4, h5, h6, h7⟩ := C.2.2.2.2.2.2.2.2.1.2
  have hlt : i.toNatClampNeg < 3 := Nat.not_le.mp fun q => hi (Or.inr q)
  have hb : E.2.1 98 < s.heap.size := (Array.getElem?_eq_some_iff.mp h1).1
  exact W.iald (v := .int v) C.1 C.2.1 (by rw [hS.2.1 _ hb h7]; exact h1) h2 h3 (fun q => q.elim (fun z => hi (Or.inl z)) (fun z => by omega)) (by rw [h6 _ hlt, hv]) rfl rfl d (k E p l e R s m args below meth c A cells slots Q C H locs ls hP hD hS hL)
theorem g_sld {N : Nat} {xs : Nat → Int32} {i : Int32} (d : decode M.2.1 pc = .ok (.iaload, 1)) (hi : vp_in i N) (k : G M h (some (N, xs)) Post (pc + 1) L (.int (xs i.toNatClampNeg) :: S) σ) : G M h (some (N, xs)) Post pc L (.int i :: .ref 99 :: S) σ := by
  intro E p l e R s m args below meth c A cells slots Q C H locs ls hP hD hS hL
  obtain ⟨h1, h2, h3⟩ := C.2.2.2.2.2.2.2.2.2.1 _ rfl
  exact va_sld C.1 C.2.1 h1 h2 h3 hS hi d (k E p l e R s m args below meth c A cells slots Q C H locs ls hP hD hS hL)
theorem g_slen {N : Nat} {xs : Nat → Int32} (d : decode M.2.1 pc = .ok (.arraylength, 1)) (k : G M h (some (N, xs)) Post (pc + 1) L (.int (Int32.ofNat N) :: S) σ) : G M h (some (N, xs)) Post pc L (.ref 99 :: S) σ := by
  intro E p l e R s m args below meth c A cells slots Q C H locs ls hP hD hS hL
  obtain ⟨h1, h2, h3⟩ := C.2.2.2.2.2.2.2.2.2.1 _ rfl
  exact va_slen C.1 C.2.1 h1 h2 h3 hS d (k E p l e R s m args below meth c A cells slots Q C H locs ls hP hD hS hL)
end Rows
end
section
/-! calls; a method's walk gives its call -/
theorem r_good {ws : List Cond} (h : ∀ w ∈ ws, w ∈ r_tbl) : GoodIn r_tbl ws := fun w hw => ⟨h w hw, good_of_word (List.mem_filter.mp (h w hw)).2⟩
def r_Vl (own : String) (idx : Nat) (M : r_M) (ci n : Nat) : Prop := Cond.methodLink own idx M.1 ∈ r_tbl ∧ Cond.instanceMethod M.1 ∈ r_tbl ∧ Cond.selects M.1.cls M.1 M.1 ∈ r_tbl ∧ Cond.initialized M.1.cls ∈ r_tbl ∧ Cond.code M.1 M.2.1 M.2.2.1 M.2.2.2 ∈ r_tbl ∧ (vwCl[ci]?).map (fun q => q.1) = some M.1.cls ∧ M.1.cls ≠ "java/lang/invoke/MethodHandle" ∧ M.1.cls ≠ "java/lang/invoke/VarHandle" ∧ (parseMethodDescriptor M.1.desc).map (fun d => d.parameters.length) = some n ∧ M.2.2.1 ≤ 11
def r_Sl (own : String) (idx : Nat) (M : r_M) (n : Nat) : Prop := Cond.methodLink own idx M.1 ∈ r_tbl ∧ Cond.static M.1 ∈ r_tbl ∧ Cond.initialized M.1.cls ∈ r_tbl ∧ Cond.code M.1 M.2.1 M.2.2.1 M.2.2.2 ∈ r_tbl ∧ M.1.cls ≠ "java/lang/invoke/MethodHandle" ∧ M.1.cls ≠ "java/lang/invoke/VarHandle" ∧ (parseMethodDescriptor M.1.desc).map (fun d => d.parameters.length) = some n ∧ M.2.2.1 ≤ 11
theorem r_D {A : Nat → Prop} {E : r_En} {σ : r_Sg} (h : va_D A (r_W E σ)) (σ' : r_Sg) : va_D A (r_W E σ') := by
  have key : ∀ (k : Nat) (q : Nat × va_E), (r_W E σ')[k]? = some q → ∃ q0, (r_W E σ)[k]? = some q0 ∧ q0.1 = q.1 := by
    intro k q hq
    obtain ⟨sh, h1, h2⟩ := r_at_inv hq
    exact ⟨_, r_at E σ h1, by rw [h2]; rfl⟩
  refine ⟨fun i j x y hi hj hxy => ?_, fun k q hk => ?_⟩
  · obtain ⟨x0, h1, h2⟩ := key i x hi
    obtain ⟨y0, h3, h4⟩ := key j y hj
    exact h.1 i j x0 y0 h1 h3 (h2.trans (hxy.trans h4.symm))
  · obtain ⟨q0, h1, h2⟩ := key k q hk
    rw [← h2]
    exact h.2 k q0 h1
theorem r_St.at {ad : Nat → Nat} {A : Nat → Prop} {s U : State} {H : Heap} {locs : List Loc} (h : r_St ad A s s.heap) (hS : va_S A s.heap H locs) (hA : ∀ q, s.heap.size ≤ q → A q) (hC : ∀ k, k < 34 → A (ad k)) (hU : U.heap = H) (hv : s.vm.Alike U.vm) : r_St ad (r_A ad H.size) U U.heap := by
  have hn : ∀ q, r_A ad H.size q → A q := by
    intro q hq
    rcases hq with ⟨k, hk, rfl⟩ | hq
    · exact hC k hk
    · exact hA q (Nat.le_trans hS.1 hq)
  rw [hU]
  exact ⟨((h.1.kept (fun a h1 h2 => hS.2.1 a h1 h2)).moved hv).narrow hn, ((h.2.kept (fun a h1 h2 => hS.2.1 a h1 h2)).moved hv).narrow hn⟩
def r_Pc (E : r_En) (σ : r_Sg) (sz : Nat) (as : List Value) : Array Value → State → Prop := va_Pc (as.map (r_v E.2.1)) (fun U => U.heap.size = sz ∧ va_P E.1 vwCl (r_W E σ) U.heap ∧ va_K E.1 vwCl (r_ty E) U ∧ va_D (fun _ => True) (r_W E σ) ∧ r_St E.2.1 (r_A E.2.1 sz) U U.heap)
theorem r_blind (E : r_En) (σ : r_Sg) (sz : Nat) (as : List Value) : FrameBlind (r_Pc E σ sz as) := by
  intro a U g mk q
  obtain ⟨q0, q1, qP, qK, qD, qS⟩ := q
  exact ⟨q0, q1, qP, va_K.moved (u := U) (U := U.calling g mk a) (Vm.Alike.refl U.vm) qK, qD, va_Z.moved (u := U) (U := U.calling g mk a) (Vm.Alike.refl U.vm) qS.1, va_T.moved (u := U) (U := U.calling g mk a) (Vm.Alike.refl U.vm) qS.2⟩
section Calls
variable {M : r_M} {h : Nat} {X : r_X} {Post : Option Value → r_Sg → Prop} {pc : Nat} {L S : List Value} {σ σ' : r_Sg}
theorem r_behind {p : Program} {l : Launch} {e : Env} {R : Room} {s : State} {m : MethodId} {args : Array Value} {below : List Frame} {meth : Method} {c : Code} {A : Nat → Prop} {cells slots : Nat} {Q : State → Prop} {E : r_En} {H : Heap} {locs : List Loc} {ls : Array Slot} {r : Option Value} {rest st0 : List Value}
    (k : G M h X Post (pc + 3) L (r.toList ++ rest) σ') (C : r_C M h X Post E p l e R s m args below meth c A cells slots Q) (hD : va_D A (r_W E σ)) (hS : va_S A s.heap H locs) (hL : r_L E.2.1 ls M.2.2.1 L)
    (hr : va_Run p l e R s m args below meth c H locs cells slots 0 0 (F0 m pc ls st0) (rest.map (r_v E.2.1)) (fun st oc t => (oc = .returned (r.map (r_v E.2.1)) ∧ va_P E.1 vwCl (r_W E σ') t.heap) ∧ va_F (r_A E.2.1 H.size) st t) (r_A E.2.1 H.size)) : W p l e R s m args below meth c H locs cells slots Q (F0 m pc ls st0) := by
  have hn : ∀ q, r_A E.2.1 H.size q → A q := by
    intro q hq
    rcases hq with ⟨k, hk, rfl⟩ | hq
    · exact C.2.2.2.2.2.2.2.1 k hk
    · exact C.2.2.2.2.2.2.1 q (Nat.le_trans hS.1 hq)
  intro T hT X0
  obtain ⟨v, st₀, t, T', L2, h0, X', hL2, e1, e2, ⟨⟨hv, hP1⟩, hz, hk⟩, st⟩ := hr T hT X0
  cases hv
  rw [h0] at hz hk
  have e3 : (r.map (r_v E.2.1)).toList ++ rest.map (r_v E.2.1) = (r.toList ++ rest).map (r_v E.2.1) := by cases r <;> simp
  obtain ⟨t2, a1, b1⟩ := k E p l e R s m args below meth c A cells slots Q C T'.heap (locs ++ L2) ls (by rw [e1]; exact hP1) (r_D hD σ')
    ⟨Nat.le_trans hS.1 (by rw [e1]; exact hz), fun q h1 h2 => by rw [e1, hk q (Nat.lt_of_lt_of_le h1 hS.1) (fun z => h2 (hn q z))]; exact hS.2.1 q h1 h2, fun q hq => by
      rcases List.mem_append.mp hq with h | h
      · exact hS.2.2 q h
      · exact hn _ (hL2 q h)⟩ hL T' rfl X'
  refine ⟨t2, st t2 ?_, b1⟩
  rw [e3]
  exact a1
theorem r_cats (ad : Nat → Nat) (rest : List Value) : ((rest.map (r_v ad)).map fun v => v.category).sum = (rest.map fun v => v.category).sum := by
  rw [List.map_map]
  congr 1
  apply List.map_congr_left
  intro v _
  exact r_v_cat ad v
theorem g_callV {idx ci q n h' : Nat} {M' : r_M} {fl : List (Option Nat)} {As rest : List Value} {r : Option Value} (d : decode M.2.1 pc = .ok (.invokevirtual idx, 3)) (hv : r_Vl M.1.cls idx M' ci n) (hs : r_SH[q]? = some (.inr (ci, fl))) (hn : As.length = n) (hc : (rest.map fun v => v.category).sum ≤ 8) (hh : h' + 1 ≤ h) (hev : Ev h' M' (.ref q :: As) σ r σ') (k : G M h X Post (pc + 3) L (r.toList ++ rest) σ') : G M h X Post pc L (As.reverse ++ .ref q :: rest) σ := by
  intro E p l e R s m args below meth c A cells slots Q C H locs ls hP hD hS hL
  obtain ⟨v1, v2, v3, v4, v5, v6, v7, v8, v9, v10⟩ := hv
  obtain ⟨hx, hb, hml, hown, hts, hK, hA, hC, hSt, hXF, ⟨hR1, hR2⟩, ⟨hc1, hc2⟩, hret⟩ := id C
  obtain ⟨cq, hcq, hcn⟩ : ∃ cq, vwCl[ci]? = some cq ∧ cq.1 = M'.1.cls := by
    cases hq : vwCl[ci]? with
    | none => rw [hq] at v6; cases v6
    | some cq => rw [hq] at v6; exact ⟨cq, rfl, Option.some.inj v6⟩
  have hM := hev l E H.size
  have hrec := va_recv hK hP hcq (r_at E σ hs)
  rw [hcn] at hrec
  refine r_behind k C hD hS hL (va_runV (As := As.map (r_v E.2.1)) (rest := rest.map (r_v E.2.1)) (b := E.2.1 q) ⟨hx, hb, hml, hown, hts⟩ hM (cwV n hts (r_good ?_) rfl rfl rfl ⟨rfl, v7, v8, v9⟩ ⟨Nat.le_trans hh hR1, ?_⟩) ⟨r_blind E σ H.size _, hrec, fun U hU hW => ⟨rfl, by rw [hU], by rw [hU]; exact hP, va_K.moved hW.alike hK, hD.weaken (fun _ _ _ _ => trivial), hSt.at hS hA hC hU hW.alike⟩⟩ rfl (by simpa using hn) hL.1 (by simp [List.map_reverse]; rfl) (lv_room (by rw [r_cats]; exact hc)) d ⟨hc1, hc2⟩)
  · intro w hw
    simp only [wsV, List.cons_append, List.nil_append, List.mem_cons] at hw
    rcases hw with rfl | rfl | rfl | rfl | rfl | hw
    · exact v1
    · exact v2
    · exact v3
    · exact v4
    · exact v5
    · exact hw
  · show 8 + (M'.2.2.1 + 11) + 30 * h' ≤ R.locals
    omega
theorem g_callS {idx n h' : Nat} {M' : r_M} {As rest : List Value} {r : Option Value} (d : decode M.2.1 pc = .ok (.invokestatic idx, 3)) (hv : r_Sl M.1.cls idx M' n) (hn : As.length = n) (hc : (rest.map fun v => v.category).sum ≤ 8) (hh : h' + 1 ≤ h) (hev : Ev h' M' As σ r σ') (k : G M h X Post (pc + 3) L (r.toList ++ rest) σ') : G M h X Post pc L (As.reverse ++ rest) σ := by
  intro E p l e R s m args below meth c A cells slots Q C H locs ls hP hD hS hL
  obtain ⟨v1, v2, v4, v5, v7, v8, v9, v10⟩ := hv
  obtain ⟨hx, hb, hml, hown, hts, hK, hA, hC, hSt, hXF, ⟨hR1, hR2⟩, ⟨hc1, hc2⟩, hret⟩ := id C
  have hM := hev l E H.size
  refine r_behind k C hD hS hL (va_runS (As := As.map (r_v E.2.1)) (rest := rest.map (r_v E.2.1)) ⟨hx, hb, hml, hown, hts⟩ hM (va_cwS n hts (r_good ?_) rfl rfl rfl ⟨v7, v8, v9⟩ ⟨Nat.le_trans hh hR1, ?_⟩) ⟨r_blind E σ H.size _, fun U hU hW => ⟨rfl, by rw [hU], by rw [hU]; exact hP, va_K.moved hW.alike hK, hD.weaken (fun _ _ _ _ => trivial), hSt.at hS hA hC hU hW.alike⟩⟩ rfl (by simpa using hn) hL.1 (by simp [List.map_reverse]) (lv_room (by rw [r_cats]; exact hc)) d ⟨hc1, hc2⟩)
  · intro w hw
    simp only [va_wsS, List.cons_append, List.nil_append, List.mem_cons] at hw
    rcases hw with rfl | rfl | rfl | rfl | hw
    · exact v1
    · exact v2
    · exact v4
    · exact v5
    · exact hw
  · show 8 + (M'.2.2.1 + 11) + 30 * h' ≤ R.locals
    omega
theorem g_lcmp {x y : Int64} (d : decode M.2.1 pc = .ok (.lcmp, 1)) (k : G M h X Post (pc + 1) L (.int (lg_cmp x y) :: S) σ) : G M h X Post pc L (.long y :: .long x :: S) σ := by
  intro E p l e R s m args below meth c A cells slots Q C H locs ls hP hD hS hL
  exact W.lcmp C.1 C.2.1 d (k E p l e R s m args below meth c A cells slots Q C H locs ls hP hD hS hL)
end Calls
theorem r_args : ∀ (vs : List Value) (k i : Nat) (v : Value), (∀ w ∈ vs, w.category = 1) → vs[i]? = some v → (k + i, v) ∈ lv_args k vs
  | [], k, i, v, _, h => by simp at h
  | w :: vs, k, i, v, hc, h => by
    have h1 : ¬ w.category = 2 := by rw [hc w List.mem_cons_self]; decide
    cases i with
    | zero =>
      simp at h
      subst h
      simp [lv_args]
    | succ i =>
      have h3 := r_args vs (k + 1) i v (fun z hz => hc z (List.mem_cons_of_mem _ hz)) (by simpa using h)
      simp only [lv_args, h1, if_false]
      refine List.mem_cons_of_mem _ ?_
      rw [show k + (i + 1) = k + 1 + i by omega]
      exact h3
theorem r_sl : ∀ (vs : List Value), (∀ w ∈ vs, w.category = 1) → (lg_sl vs).length = vs.length
  | [], _ => rfl
  | w :: vs, hc => by
    have h1 : ¬ w.category = 2 := by rw [hc w List.mem_cons_self]; decide
    have h2 := r_sl vs (fun z hz => hc z (List.mem_cons_of_mem _ hz))
    simp only [lg_sl, List.flatMap_cons, h1, if_false, List.length_append, List.length_cons] at h2 ⊢
    simp only [List.length_nil]
    omega
theorem r_entry (ad : Nat → Nat) (as : List Value) (n : Nat) (hc : ∀ w ∈ as, w.category = 1) (hl : as.length ≤ n) : r_L ad ((lg_sl (as.map (r_v ad)) ++ List.replicate (n - (lg_sl (as.map (r_v ad))).length) Slot.unset).toArray) n (as ++ List.replicate (n - as.length) .null) := by
  have hc2 : ∀ w ∈ as.map (r_v ad), w.category = 1 := by
    intro w hw
    obtain ⟨v, hv, rfl⟩ := List.mem_map.mp hw
    rw [r_v_cat]
    exact hc v hv
  have he := lv_entry (as.map (r_v ad)) (n := n) (by rw [r_sl _ hc2]; simpa using hl)
  refine ⟨he.1, he.2.1, fun i v hi hv => ?_⟩
  by_cases hil : i < as.length
  · rw [List.getElem?_append_left hil] at hi
    have h1 := r_args (as.map (r_v ad)) 0 i (r_v ad v) hc2 (by rw [List.getElem?_map, hi]; rfl)
    have h2 := he.2.2 _ h1
    simpa using h2
  · rw [List.getElem?_append_right (by omega)] at hi
    exact absurd (List.eq_of_mem_replicate (List.mem_of_getElem? hi)) hv
theorem Ev_of {h : Nat} {M : r_M} {as : List Value} {σ σ' : r_Sg} {r : Option Value} (hp : plainName M.1.cls = true) (hc : ∀ w ∈ as, w.category = 1) (hl : as.length ≤ M.2.2.1) (hg : G M h none (fun r1 s1 => r1 = r ∧ s1 = σ') 0 (as ++ List.replicate (M.2.2.1 - as.length) .null) [] σ) : Ev h M as σ r σ' := by
  intro l E sz
  refine Met.ofW (cc := M.2.1) (maxL := M.2.2.1) (ret := M.2.2.2) hp rfl ?_
  intro p e s m args below meth c s₁ B hml hv
  obtain ⟨rfl, hsz, hP, hK, hD0, hSt⟩ := hv
  subst hsz
  have hts := atoms_spec (ws := .code M.1 M.2.1 M.2.2.1 M.2.2.2 :: r_tbl) B.pre
  have hr := B.returns
  have hlocks := B.notSynchronized
  have hx := B.exec
  have hb := B.bytes
  rw [lg_entry_eq]
  refine hg E p l e _ s m _ below meth c (r_A E.2.1 s.heap.size) 0 0 _ ⟨B.exec, B.bytes, hml, findClass_of_methodNamed B.named, fun w hw => hts w (List.mem_cons_of_mem _ hw), hK, fun q h => Or.inr h, fun k hk => Or.inl ⟨k, hk, rfl⟩, hSt, (fun q h => by cases h), ⟨Nat.le_refl _, Nat.le_refl _⟩, ⟨Nat.zero_le _, Nat.zero_le _⟩, ?_⟩ s.heap [] _ hP ?_ va_S.rf (r_entry E.2.1 as _ hc hl)
  · intro pc i r2 σ2 S H locs ls d hri hrt hpost hP2 hD2 hS2
    obtain ⟨rfl, rfl⟩ := hpost
    unfold r_ri at hri
    split at hri
    · subst hri
      rename_i v
      cases hM : M.2.2.2 with
      | none => rw [hM] at hrt; exact absurd hrt (by simp [r_rt])
      | some ty =>
        rw [hM] at hrt hr
        exact W.zret hx hb hr hrt.1 (fun t ht hW => ⟨⟨rfl, by rw [ht]; exact hP2⟩, hS2.F ht⟩) hS2.2.2 d
    · subst hri
      cases hM : M.2.2.2 with
      | none => rw [hM] at hrt; exact absurd hrt (by simp [r_rt])
      | some ty =>
        rw [hM] at hrt hr
        have h9 : ty = .long := hrt
        subst h9
        exact W.lret hx hb hr (fun t ht hW => ⟨⟨rfl, by rw [ht]; exact hP2⟩, hS2.F ht⟩) hS2.2.2 d
    · subst hri
      cases hM : M.2.2.2 with
      | none => rw [hM] at hrt; exact absurd hrt (by simp [r_rt])
      | some ty =>
        rw [hM] at hrt hr
        exact W.aret hx hb hr (Or.inl hrt) (Or.inr ⟨_, rfl⟩) (fun t ht hW => ⟨⟨rfl, by rw [ht]; exact hP2⟩, hS2.F ht⟩) hS2.2.2 d
    · cases hM : M.2.2.2 with
      | some ty => rw [hM] at hrt; exact absurd hrt (by simp [r_rt])
      | none =>
        rw [hM] at hr
        exact W.vret hx hb hr (fun t ht hW => ⟨⟨rfl, by rw [ht]; exact hP2⟩, hS2.F ht⟩) hS2.2.2 d
    · exact absurd hri (by simp)
  · refine ⟨hD0.1, fun k q hk => ?_⟩
    obtain ⟨sh, h1, h2⟩ := r_at_inv hk
    rw [h2]
    exact Or.inl ⟨k, r_kk h1, rfl⟩
end
section
theorem dX0_init_0 : decode cX0_init 0 = .ok (.aload_n 0, 1) := by decide +kernel
theorem dX0_init_1 : decode cX0_init 1 = .ok (.invokespecial 3, 3) := by decide +kernel
theorem dX0_init_4 : decode cX0_init 4 = .ok (.aload_n 0, 1) := by decide +kernel
theorem dX0_init_5 : decode cX0_init 5 = .ok (.new 9, 3) := by decide +kernel
theorem dX0_init_8 : decode cX0_init 8 = .ok (.dup, 1) := by decide +kernel
theorem dX0_init_9 : decode cX0_init 9 = .ok (.invokespecial 11, 3) := by decide +kernel
theorem dX0_init_12 : decode cX0_init 12 = .ok (.putfield 12, 3) := by decide +kernel
theorem dX0_init_15 : decode cX0_init 15 = .ok (.aload_n 0, 1) := by decide +kernel
theorem dX0_init_16 : decode cX0_init 16 = .ok (.new 18, 3) := by decide +kernel
theorem dX0_init_19 : decode cX0_init 19 = .ok (.dup, 1) := by decide +kernel
theorem dX0_init_20 : decode cX0_init 20 = .ok (.invokespecial 20, 3) := by decide +kernel
theorem dX0_init_23 : decode cX0_init 23 = .ok (.putfield 21, 3) := by decide +kernel
theorem dX0_init_26 : decode cX0_init 26 = .ok (.aload_n 0, 1) := by decide +kernel
theorem dX0_init_27 : decode cX0_init 27 = .ok (.iconst 4, 1) := by decide +kernel
theorem dX0_init_28 : decode cX0_init 28 = .ok (.newarray .int, 2) := by decide +kernel
theorem dX0_init_30 : decode cX0_init 30 = .ok (.putfield 25, 3) := by decide +kernel
theorem dX0_init_33 : decode cX0_init 33 = .ok (.aload_n 0, 1) := by decide +kernel
theorem dX0_init_34 : decode cX0_init 34 = .ok (.bipush 16, 2) := by decide +kernel
theorem dX0_init_36 : decode cX0_init 36 = .ok (.newarray .int, 2) := by decide +kernel
theorem dX0_init_38 : decode cX0_init 38 = .ok (.putfield 29, 3) := by decide +kernel
theorem dX0_init_41 : decode cX0_init 41 = .ok (.aload_n 0, 1) := by decide +kernel
theorem dX0_init_42 : decode cX0_init 42 = .ok (.iconst 2, 1) := by decide +kernel
theorem dX0_init_43 : decode cX0_init 43 = .ok (.newarray .int, 2) := by decide +kernel
theorem dX0_init_45 : decode cX0_init 45 = .ok (.putfield 32, 3) := by decide +kernel
theorem dX0_init_48 : decode cX0_init 48 = .ok (.aload_n 0, 1) := by decide +kernel
theorem dX0_init_49 : decode cX0_init 49 = .ok (.bipush (-9), 2) := by decide +kernel
theorem dX0_init_51 : decode cX0_init 51 = .ok (.putfield 35, 3) := by decide +kernel
theorem dX0_init_54 : decode cX0_init 54 = .ok (.aload_n 0, 1) := by decide +kernel
theorem dX0_init_55 : decode cX0_init 55 = .ok (.aload_n 1, 1) := by decide +kernel
theorem dX0_init_56 : decode cX0_init 56 = .ok (.putfield 39, 3) := by decide +kernel
theorem dX0_init_59 : decode cX0_init 59 = .ok (.return_, 1) := by decide +kernel
theorem dX0_renew_0 : decode cX0_renew 0 = .ok (.aload_n 0, 1) := by decide +kernel
theorem dX0_renew_1 : decode cX0_renew 1 = .ok (.getfield 12, 3) := by decide +kernel
theorem dX0_renew_4 : decode cX0_renew 4 = .ok (.invokevirtual 43, 3) := by decide +kernel
theorem dX0_renew_7 : decode cX0_renew 7 = .ok (.aload_n 0, 1) := by decide +kernel
theorem dX0_renew_8 : decode cX0_renew 8 = .ok (.getfield 21, 3) := by decide +kernel
theorem dX0_renew_11 : decode cX0_renew 11 = .ok (.invokevirtual 46, 3) := by decide +kernel
theorem dX0_renew_14 : decode cX0_renew 14 = .ok (.iconst 0, 1) := by decide +kernel
theorem dX0_renew_15 : decode cX0_renew 15 = .ok (.istore_n 1, 1) := by decide +kernel
theorem dX0_renew_16 : decode cX0_renew 16 = .ok (.iload_n 1, 1) := by decide +kernel
theorem dX0_renew_17 : decode cX0_renew 17 = .ok (.iconst 4, 1) := by decide +kernel
theorem dX0_renew_18 : decode cX0_renew 18 = .ok (.if_icmp .ge 16, 3) := by decide +kernel
theorem dX0_renew_21 : decode cX0_renew 21 = .ok (.aload_n 0, 1) := by decide +kernel
theorem dX0_renew_22 : decode cX0_renew 22 = .ok (.getfield 25, 3) := by decide +kernel
theorem dX0_renew_25 : decode cX0_renew 25 = .ok (.iload_n 1, 1) := by decide +kernel
theorem dX0_renew_26 : decode cX0_renew 26 = .ok (.iload_n 1, 1) := by decide +kernel
theorem dX0_renew_27 : decode cX0_renew 27 = .ok (.iastore, 1) := by decide +kernel
theorem dX0_renew_28 : decode cX0_renew 28 = .ok (.iinc 1 1, 3) := by decide +kernel
theorem dX0_renew_31 : decode cX0_renew 31 = .ok (.goto (-15), 3) := by decide +kernel
theorem dX0_renew_34 : decode cX0_renew 34 = .ok (.aload_n 0, 1) := by decide +kernel
theorem dX0_renew_35 : decode cX0_renew 35 = .ok (.getfield 29, 3) := by decide +kernel
theorem dX0_renew_38 : decode cX0_renew 38 = .ok (.iconst 0, 1) := by decide +kernel
theorem dX0_renew_39 : decode cX0_renew 39 = .ok (.invokestatic 47, 3) := by decide +kernel
theorem dX0_renew_42 : decode cX0_renew 42 = .ok (.aload_n 0, 1) := by decide +kernel
theorem dX0_renew_43 : decode cX0_renew 43 = .ok (.iconst 0, 1) := by decide +kernel
theorem dX0_renew_44 : decode cX0_renew 44 = .ok (.putfield 53, 3) := by decide +kernel
theorem dX0_renew_47 : decode cX0_renew 47 = .ok (.aload_n 0, 1) := by decide +kernel
theorem dX0_renew_48 : decode cX0_renew 48 = .ok (.bipush (-9), 2) := by decide +kernel
theorem dX0_renew_50 : decode cX0_renew 50 = .ok (.putfield 35, 3) := by decide +kernel
theorem dX0_renew_53 : decode cX0_renew 53 = .ok (.aload_n 0, 1) := by decide +kernel
theorem dX0_renew_54 : decode cX0_renew 54 = .ok (.aload_n 0, 1) := by decide +kernel
theorem dX0_renew_55 : decode cX0_renew 55 = .ok (.getfield 39, 3) := by decide +kernel
theorem dX0_renew_58 : decode cX0_renew 58 = .ok (.invokevirtual 56, 3) := by decide +kernel
theorem dX0_renew_61 : decode cX0_renew 61 = .ok (.putfield 62, 3) := by decide +kernel
theorem dX0_renew_64 : decode cX0_renew 64 = .ok (.aload_n 0, 1) := by decide +kernel
theorem dX0_renew_65 : decode cX0_renew 65 = .ok (.iconst 0, 1) := by decide +kernel
theorem dX0_renew_66 : decode cX0_renew 66 = .ok (.putfield 65, 3) := by decide +kernel
theorem dX0_renew_69 : decode cX0_renew 69 = .ok (.aload_n 0, 1) := by decide +kernel
theorem dX0_renew_70 : decode cX0_renew 70 = .ok (.iconst 0, 1) := by decide +kernel
theorem dX0_renew_71 : decode cX0_renew 71 = .ok (.putfield 68, 3) := by decide +kernel
theorem dX0_renew_74 : decode cX0_renew 74 = .ok (.return_, 1) := by decide +kernel
theorem dX0_log_0 : decode cX0_log 0 = .ok (.aload_n 0, 1) := by decide +kernel
theorem dX0_log_1 : decode cX0_log 1 = .ok (.getfield 21, 3) := by decide +kernel
theorem dX0_log_4 : decode cX0_log 4 = .ok (.areturn, 1) := by decide +kernel
theorem dX0_frameOf_0 : decode cX0_frameOf 0 = .ok (.aload_n 0, 1) := by decide +kernel
theorem dX0_frameOf_1 : decode cX0_frameOf 1 = .ok (.getfield 25, 3) := by decide +kernel
theorem dX0_frameOf_4 : decode cX0_frameOf 4 = .ok (.iload_n 1, 1) := by decide +kernel
theorem dX0_frameOf_5 : decode cX0_frameOf 5 = .ok (.iaload, 1) := by decide +kernel
theorem dX0_frameOf_6 : decode cX0_frameOf 6 = .ok (.ireturn, 1) := by decide +kernel
theorem dX0_placeOf_0 : decode cX0_placeOf 0 = .ok (.iload_n 1, 1) := by decide +kernel
theorem dX0_placeOf_1 : decode cX0_placeOf 1 = .ok (.aload_n 0, 1) := by decide +kernel
theorem dX0_placeOf_2 : decode cX0_placeOf 2 = .ok (.getfield 35, 3) := by decide +kernel
theorem dX0_placeOf_5 : decode cX0_placeOf 5 = .ok (.if_icmp .ne 10, 3) := by decide +kernel
theorem dX0_placeOf_8 : decode cX0_placeOf 8 = .ok (.aload_n 0, 1) := by decide +kernel
theorem dX0_placeOf_9 : decode cX0_placeOf 9 = .ok (.getfield 62, 3) := by decide +kernel
theorem dX0_placeOf_12 : decode cX0_placeOf 12 = .ok (.goto 4, 3) := by decide +kernel
theorem dX0_placeOf_15 : decode cX0_placeOf 15 = .ok (.iload_n 1, 1) := by decide +kernel
theorem dX0_placeOf_16 : decode cX0_placeOf 16 = .ok (.ireturn, 1) := by decide +kernel
theorem dX0_retiredFrame_0 : decode cX0_retiredFrame 0 = .ok (.iload_n 1, 1) := by decide +kernel
theorem dX0_retiredFrame_1 : decode cX0_retiredFrame 1 = .ok (.ifCond .lt 20, 3) := by decide +kernel
theorem dX0_retiredFrame_4 : decode cX0_retiredFrame 4 = .ok (.iload_n 1, 1) := by decide +kernel
theorem dX0_retiredFrame_5 : decode cX0_retiredFrame 5 = .ok (.aload_n 0, 1) := by decide +kernel
theorem dX0_retiredFrame_6 : decode cX0_retiredFrame 6 = .ok (.getfield 53, 3) := by decide +kernel
theorem dX0_retiredFrame_9 : decode cX0_retiredFrame 9 = .ok (.if_icmp .ge 12, 3) := by decide +kernel
theorem dX0_retiredFrame_12 : decode cX0_retiredFrame 12 = .ok (.aload_n 0, 1) := by decide +kernel
theorem dX0_retiredFrame_13 : decode cX0_retiredFrame 13 = .ok (.getfield 32, 3) := by decide +kernel
theorem dX0_retiredFrame_16 : decode cX0_retiredFrame 16 = .ok (.iload_n 1, 1) := by decide +kernel
theorem dX0_retiredFrame_17 : decode cX0_retiredFrame 17 = .ok (.iaload, 1) := by decide +kernel
theorem dX0_retiredFrame_18 : decode cX0_retiredFrame 18 = .ok (.goto 4, 3) := by decide +kernel
theorem dX0_retiredFrame_21 : decode cX0_retiredFrame 21 = .ok (.iconst (-1), 1) := by decide +kernel
theorem dX0_retiredFrame_22 : decode cX0_retiredFrame 22 = .ok (.ireturn, 1) := by decide +kernel
theorem dX0_marksOf_0 : decode cX0_marksOf 0 = .ok (.aload_n 0, 1) := by decide +kernel
theorem dX0_marksOf_1 : decode cX0_marksOf 1 = .ok (.getfield 12, 3) := by decide +kernel
theorem dX0_marksOf_4 : decode cX0_marksOf 4 = .ok (.iload_n 1, 1) := by decide +kernel
theorem dX0_marksOf_5 : decode cX0_marksOf 5 = .ok (.iconst 4, 1) := by decide +kernel
theorem dX0_marksOf_6 : decode cX0_marksOf 6 = .ok (.imul, 1) := by decide +kernel
theorem dX0_marksOf_7 : decode cX0_marksOf 7 = .ok (.iload_n 2, 1) := by decide +kernel
theorem dX0_marksOf_8 : decode cX0_marksOf 8 = .ok (.iadd, 1) := by decide +kernel
theorem dX0_marksOf_9 : decode cX0_marksOf 9 = .ok (.iload_n 3, 1) := by decide +kernel
theorem dX0_marksOf_10 : decode cX0_marksOf 10 = .ok (.invokevirtual 71, 3) := by decide +kernel
theorem dX0_marksOf_13 : decode cX0_marksOf 13 = .ok (.ireturn, 1) := by decide +kernel
theorem dX0_keptValue_0 : decode cX0_keptValue 0 = .ok (.aload_n 0, 1) := by decide +kernel
theorem dX0_keptValue_1 : decode cX0_keptValue 1 = .ok (.getfield 29, 3) := by decide +kernel
theorem dX0_keptValue_4 : decode cX0_keptValue 4 = .ok (.iload_n 1, 1) := by decide +kernel
theorem dX0_keptValue_5 : decode cX0_keptValue 5 = .ok (.iconst 4, 1) := by decide +kernel
theorem dX0_keptValue_6 : decode cX0_keptValue 6 = .ok (.imul, 1) := by decide +kernel
theorem dX0_keptValue_7 : decode cX0_keptValue 7 = .ok (.iload_n 2, 1) := by decide +kernel
theorem dX0_keptValue_8 : decode cX0_keptValue 8 = .ok (.iadd, 1) := by decide +kernel
theorem dX0_keptValue_9 : decode cX0_keptValue 9 = .ok (.iaload, 1) := by decide +kernel
theorem dX0_keptValue_10 : decode cX0_keptValue 10 = .ok (.ireturn, 1) := by decide +kernel
theorem dX0_keep_0 : decode cX0_keep 0 = .ok (.aload_n 0, 1) := by decide +kernel
theorem dX0_keep_1 : decode cX0_keep 1 = .ok (.getfield 29, 3) := by decide +kernel
theorem dX0_keep_4 : decode cX0_keep 4 = .ok (.iload_n 1, 1) := by decide +kernel
theorem dX0_keep_5 : decode cX0_keep 5 = .ok (.iconst 4, 1) := by decide +kernel
theorem dX0_keep_6 : decode cX0_keep 6 = .ok (.imul, 1) := by decide +kernel
theorem dX0_keep_7 : decode cX0_keep 7 = .ok (.iload_n 2, 1) := by decide +kernel
theorem dX0_keep_8 : decode cX0_keep 8 = .ok (.iadd, 1) := by decide +kernel
theorem dX0_keep_9 : decode cX0_keep 9 = .ok (.iload_n 3, 1) := by decide +kernel
theorem dX0_keep_10 : decode cX0_keep 10 = .ok (.iastore, 1) := by decide +kernel
theorem dX0_keep_11 : decode cX0_keep 11 = .ok (.aload_n 0, 1) := by decide +kernel
theorem dX0_keep_12 : decode cX0_keep 12 = .ok (.iload_n 1, 1) := by decide +kernel
theorem dX0_keep_13 : decode cX0_keep 13 = .ok (.iload_n 2, 1) := by decide +kernel
theorem dX0_keep_14 : decode cX0_keep 14 = .ok (.aload_n 0, 1) := by decide +kernel
theorem dX0_keep_15 : decode cX0_keep 15 = .ok (.getfield 39, 3) := by decide +kernel
theorem dX0_keep_18 : decode cX0_keep 18 = .ok (.iload_n 3, 1) := by decide +kernel
theorem dX0_keep_19 : decode cX0_keep 19 = .ok (.invokevirtual 75, 3) := by decide +kernel
theorem dX0_keep_22 : decode cX0_keep 22 = .ok (.invokevirtual 79, 3) := by decide +kernel
theorem dX0_keep_25 : decode cX0_keep 25 = .ok (.return_, 1) := by decide +kernel
theorem dX0_bitsOf_0 : decode cX0_bitsOf 0 = .ok (.aload_n 0, 1) := by decide +kernel
theorem dX0_bitsOf_1 : decode cX0_bitsOf 1 = .ok (.getfield 12, 3) := by decide +kernel
theorem dX0_bitsOf_4 : decode cX0_bitsOf 4 = .ok (.aload_n 0, 1) := by decide +kernel
theorem dX0_bitsOf_5 : decode cX0_bitsOf 5 = .ok (.iload_n 1, 1) := by decide +kernel
theorem dX0_bitsOf_6 : decode cX0_bitsOf 6 = .ok (.iload_n 2, 1) := by decide +kernel
theorem dX0_bitsOf_7 : decode cX0_bitsOf 7 = .ok (.invokevirtual 83, 3) := by decide +kernel
theorem dX0_bitsOf_10 : decode cX0_bitsOf 10 = .ok (.invokevirtual 86, 3) := by decide +kernel
theorem dX0_bitsOf_13 : decode cX0_bitsOf 13 = .ok (.istore_n 3, 1) := by decide +kernel
theorem dX0_bitsOf_14 : decode cX0_bitsOf 14 = .ok (.aload_n 0, 1) := by decide +kernel
theorem dX0_bitsOf_15 : decode cX0_bitsOf 15 = .ok (.getfield 35, 3) := by decide +kernel
theorem dX0_bitsOf_18 : decode cX0_bitsOf 18 = .ok (.bipush (-9), 2) := by decide +kernel
theorem dX0_bitsOf_20 : decode cX0_bitsOf 20 = .ok (.if_icmp .ne 13, 3) := by decide +kernel
theorem dX0_bitsOf_23 : decode cX0_bitsOf 23 = .ok (.iload_n 3, 1) := by decide +kernel
theorem dX0_bitsOf_24 : decode cX0_bitsOf 24 = .ok (.aload_n 0, 1) := by decide +kernel
theorem dX0_bitsOf_25 : decode cX0_bitsOf 25 = .ok (.getfield 39, 3) := by decide +kernel
theorem dX0_bitsOf_28 : decode cX0_bitsOf 28 = .ok (.invokevirtual 89, 3) := by decide +kernel
theorem dX0_bitsOf_31 : decode cX0_bitsOf 31 = .ok (.iand, 1) := by decide +kernel
theorem dX0_bitsOf_32 : decode cX0_bitsOf 32 = .ok (.ireturn, 1) := by decide +kernel
theorem dX0_bitsOf_33 : decode cX0_bitsOf 33 = .ok (.iload_n 3, 1) := by decide +kernel
theorem dX0_bitsOf_34 : decode cX0_bitsOf 34 = .ok (.aload_n 0, 1) := by decide +kernel
theorem dX0_bitsOf_35 : decode cX0_bitsOf 35 = .ok (.getfield 39, 3) := by decide +kernel
theorem dX0_bitsOf_38 : decode cX0_bitsOf 38 = .ok (.invokevirtual 89, 3) := by decide +kernel
theorem dX0_bitsOf_41 : decode cX0_bitsOf 41 = .ok (.iand, 1) := by decide +kernel
theorem dX0_bitsOf_42 : decode cX0_bitsOf 42 = .ok (.iconst 1, 1) := by decide +kernel
theorem dX0_bitsOf_43 : decode cX0_bitsOf 43 = .ok (.aload_n 0, 1) := by decide +kernel
theorem dX0_bitsOf_44 : decode cX0_bitsOf 44 = .ok (.getfield 35, 3) := by decide +kernel
theorem dX0_bitsOf_47 : decode cX0_bitsOf 47 = .ok (.ishl, 1) := by decide +kernel
theorem dX0_bitsOf_48 : decode cX0_bitsOf 48 = .ok (.iconst (-1), 1) := by decide +kernel
theorem dX0_bitsOf_49 : decode cX0_bitsOf 49 = .ok (.ixor, 1) := by decide +kernel
theorem dX0_bitsOf_50 : decode cX0_bitsOf 50 = .ok (.iand, 1) := by decide +kernel
theorem dX0_bitsOf_51 : decode cX0_bitsOf 51 = .ok (.istore 4, 2) := by decide +kernel
theorem dX0_bitsOf_53 : decode cX0_bitsOf 53 = .ok (.iload 4, 2) := by decide +kernel
theorem dX0_bitsOf_55 : decode cX0_bitsOf 55 = .ok (.iload_n 3, 1) := by decide +kernel
theorem dX0_bitsOf_56 : decode cX0_bitsOf 56 = .ok (.aload_n 0, 1) := by decide +kernel
theorem dX0_bitsOf_57 : decode cX0_bitsOf 57 = .ok (.getfield 62, 3) := by decide +kernel
theorem dX0_bitsOf_60 : decode cX0_bitsOf 60 = .ok (.ishr, 1) := by decide +kernel
theorem dX0_bitsOf_61 : decode cX0_bitsOf 61 = .ok (.iconst 1, 1) := by decide +kernel
theorem dX0_bitsOf_62 : decode cX0_bitsOf 62 = .ok (.iand, 1) := by decide +kernel
theorem dX0_bitsOf_63 : decode cX0_bitsOf 63 = .ok (.aload_n 0, 1) := by decide +kernel
theorem dX0_bitsOf_64 : decode cX0_bitsOf 64 = .ok (.getfield 35, 3) := by decide +kernel
theorem dX0_bitsOf_67 : decode cX0_bitsOf 67 = .ok (.ishl, 1) := by decide +kernel
theorem dX0_bitsOf_68 : decode cX0_bitsOf 68 = .ok (.ior, 1) := by decide +kernel
theorem dX0_bitsOf_69 : decode cX0_bitsOf 69 = .ok (.ireturn, 1) := by decide +kernel
theorem dX0_turn_0 : decode cX0_turn 0 = .ok (.aload_n 0, 1) := by decide +kernel
theorem dX0_turn_1 : decode cX0_turn 1 = .ok (.getfield 12, 3) := by decide +kernel
theorem dX0_turn_4 : decode cX0_turn 4 = .ok (.aload_n 0, 1) := by decide +kernel
theorem dX0_turn_5 : decode cX0_turn 5 = .ok (.iload_n 1, 1) := by decide +kernel
theorem dX0_turn_6 : decode cX0_turn 6 = .ok (.iload_n 2, 1) := by decide +kernel
theorem dX0_turn_7 : decode cX0_turn 7 = .ok (.invokevirtual 83, 3) := by decide +kernel
theorem dX0_turn_10 : decode cX0_turn 10 = .ok (.aload_n 0, 1) := by decide +kernel
theorem dX0_turn_11 : decode cX0_turn 11 = .ok (.iload_n 3, 1) := by decide +kernel
theorem dX0_turn_12 : decode cX0_turn 12 = .ok (.invokevirtual 92, 3) := by decide +kernel
theorem dX0_turn_15 : decode cX0_turn 15 = .ok (.invokevirtual 95, 3) := by decide +kernel
theorem dX0_turn_18 : decode cX0_turn 18 = .ok (.ireturn, 1) := by decide +kernel
theorem dX0_hold_0 : decode cX0_hold 0 = .ok (.aload_n 0, 1) := by decide +kernel
theorem dX0_hold_1 : decode cX0_hold 1 = .ok (.iload_n 1, 1) := by decide +kernel
theorem dX0_hold_2 : decode cX0_hold 2 = .ok (.iload_n 2, 1) := by decide +kernel
theorem dX0_hold_3 : decode cX0_hold 3 = .ok (.invokevirtual 83, 3) := by decide +kernel
theorem dX0_hold_6 : decode cX0_hold 6 = .ok (.istore 5, 2) := by decide +kernel
theorem dX0_hold_8 : decode cX0_hold 8 = .ok (.aload_n 0, 1) := by decide +kernel
theorem dX0_hold_9 : decode cX0_hold 9 = .ok (.getfield 12, 3) := by decide +kernel
theorem dX0_hold_12 : decode cX0_hold 12 = .ok (.iload 5, 2) := by decide +kernel
theorem dX0_hold_14 : decode cX0_hold 14 = .ok (.aload_n 0, 1) := by decide +kernel
theorem dX0_hold_15 : decode cX0_hold 15 = .ok (.iload_n 3, 1) := by decide +kernel
theorem dX0_hold_16 : decode cX0_hold 16 = .ok (.invokevirtual 98, 3) := by decide +kernel
theorem dX0_hold_19 : decode cX0_hold 19 = .ok (.invokevirtual 101, 3) := by decide +kernel
theorem dX0_hold_22 : decode cX0_hold 22 = .ok (.istore 6, 2) := by decide +kernel
theorem dX0_hold_24 : decode cX0_hold 24 = .ok (.aload_n 0, 1) := by decide +kernel
theorem dX0_hold_25 : decode cX0_hold 25 = .ok (.getfield 12, 3) := by decide +kernel
theorem dX0_hold_28 : decode cX0_hold 28 = .ok (.iload 5, 2) := by decide +kernel
theorem dX0_hold_30 : decode cX0_hold 30 = .ok (.aload_n 0, 1) := by decide +kernel
theorem dX0_hold_31 : decode cX0_hold 31 = .ok (.iload_n 3, 1) := by decide +kernel
theorem dX0_hold_32 : decode cX0_hold 32 = .ok (.invokevirtual 98, 3) := by decide +kernel
theorem dX0_hold_35 : decode cX0_hold 35 = .ok (.iload 4, 2) := by decide +kernel
theorem dX0_hold_37 : decode cX0_hold 37 = .ok (.invokevirtual 104, 3) := by decide +kernel
theorem dX0_hold_40 : decode cX0_hold 40 = .ok (.iload 6, 2) := by decide +kernel
theorem dX0_hold_42 : decode cX0_hold 42 = .ok (.ireturn, 1) := by decide +kernel
theorem dX0_loosen_0 : decode cX0_loosen 0 = .ok (.aload_n 0, 1) := by decide +kernel
theorem dX0_loosen_1 : decode cX0_loosen 1 = .ok (.iload_n 1, 1) := by decide +kernel
theorem dX0_loosen_2 : decode cX0_loosen 2 = .ok (.iload_n 2, 1) := by decide +kernel
theorem dX0_loosen_3 : decode cX0_loosen 3 = .ok (.invokevirtual 83, 3) := by decide +kernel
theorem dX0_loosen_6 : decode cX0_loosen 6 = .ok (.istore 4, 2) := by decide +kernel
theorem dX0_loosen_8 : decode cX0_loosen 8 = .ok (.aload_n 0, 1) := by decide +kernel
theorem dX0_loosen_9 : decode cX0_loosen 9 = .ok (.getfield 12, 3) := by decide +kernel
theorem dX0_loosen_12 : decode cX0_loosen 12 = .ok (.iload 4, 2) := by decide +kernel
theorem dX0_loosen_14 : decode cX0_loosen 14 = .ok (.aload_n 0, 1) := by decide +kernel
theorem dX0_loosen_15 : decode cX0_loosen 15 = .ok (.iload_n 3, 1) := by decide +kernel
theorem dX0_loosen_16 : decode cX0_loosen 16 = .ok (.invokevirtual 98, 3) := by decide +kernel
theorem dX0_loosen_19 : decode cX0_loosen 19 = .ok (.invokevirtual 107, 3) := by decide +kernel
theorem dX0_loosen_22 : decode cX0_loosen 22 = .ok (.aload_n 0, 1) := by decide +kernel
theorem dX0_loosen_23 : decode cX0_loosen 23 = .ok (.getfield 12, 3) := by decide +kernel
theorem dX0_loosen_26 : decode cX0_loosen 26 = .ok (.iload 4, 2) := by decide +kernel
theorem dX0_loosen_28 : decode cX0_loosen 28 = .ok (.aload_n 0, 1) := by decide +kernel
theorem dX0_loosen_29 : decode cX0_loosen 29 = .ok (.iload_n 3, 1) := by decide +kernel
theorem dX0_loosen_30 : decode cX0_loosen 30 = .ok (.invokevirtual 98, 3) := by decide +kernel
theorem dX0_loosen_33 : decode cX0_loosen 33 = .ok (.invokevirtual 101, 3) := by decide +kernel
theorem dX0_loosen_36 : decode cX0_loosen 36 = .ok (.ireturn, 1) := by decide +kernel
theorem dX0_lookAt_0 : decode cX0_lookAt 0 = .ok (.aload_n 0, 1) := by decide +kernel
theorem dX0_lookAt_1 : decode cX0_lookAt 1 = .ok (.iload_n 1, 1) := by decide +kernel
theorem dX0_lookAt_2 : decode cX0_lookAt 2 = .ok (.iload_n 2, 1) := by decide +kernel
theorem dX0_lookAt_3 : decode cX0_lookAt 3 = .ok (.invokevirtual 111, 3) := by decide +kernel
theorem dX0_lookAt_6 : decode cX0_lookAt 6 = .ok (.istore_n 3, 1) := by decide +kernel
theorem dX0_lookAt_7 : decode cX0_lookAt 7 = .ok (.aload_n 0, 1) := by decide +kernel
theorem dX0_lookAt_8 : decode cX0_lookAt 8 = .ok (.getfield 39, 3) := by decide +kernel
theorem dX0_lookAt_11 : decode cX0_lookAt 11 = .ok (.iload_n 3, 1) := by decide +kernel
theorem dX0_lookAt_12 : decode cX0_lookAt 12 = .ok (.invokevirtual 114, 3) := by decide +kernel
theorem dX0_lookAt_15 : decode cX0_lookAt 15 = .ok (.istore 4, 2) := by decide +kernel
theorem dX0_lookAt_17 : decode cX0_lookAt 17 = .ok (.iload 4, 2) := by decide +kernel
theorem dX0_lookAt_19 : decode cX0_lookAt 19 = .ok (.ifCond .ne 17, 3) := by decide +kernel
theorem dX0_lookAt_22 : decode cX0_lookAt 22 = .ok (.aload_n 0, 1) := by decide +kernel
theorem dX0_lookAt_23 : decode cX0_lookAt 23 = .ok (.getfield 21, 3) := by decide +kernel
theorem dX0_lookAt_26 : decode cX0_lookAt 26 = .ok (.iconst 0, 1) := by decide +kernel
theorem dX0_lookAt_27 : decode cX0_lookAt 27 = .ok (.bipush (-9), 2) := by decide +kernel
theorem dX0_lookAt_29 : decode cX0_lookAt 29 = .ok (.iload_n 1, 1) := by decide +kernel
theorem dX0_lookAt_30 : decode cX0_lookAt 30 = .ok (.iload_n 2, 1) := by decide +kernel
theorem dX0_lookAt_31 : decode cX0_lookAt 31 = .ok (.invokevirtual 117, 3) := by decide +kernel
theorem dX0_lookAt_34 : decode cX0_lookAt 34 = .ok (.iload_n 3, 1) := by decide +kernel
theorem dX0_lookAt_35 : decode cX0_lookAt 35 = .ok (.ireturn, 1) := by decide +kernel
theorem dX0_lookAt_36 : decode cX0_lookAt 36 = .ok (.aload_n 0, 1) := by decide +kernel
theorem dX0_lookAt_37 : decode cX0_lookAt 37 = .ok (.getfield 39, 3) := by decide +kernel
theorem dX0_lookAt_40 : decode cX0_lookAt 40 = .ok (.iload 4, 2) := by decide +kernel
theorem dX0_lookAt_42 : decode cX0_lookAt 42 = .ok (.invokevirtual 121, 3) := by decide +kernel
theorem dX0_lookAt_45 : decode cX0_lookAt 45 = .ok (.istore 5, 2) := by decide +kernel
theorem dX0_lookAt_47 : decode cX0_lookAt 47 = .ok (.iload 5, 2) := by decide +kernel
theorem dX0_lookAt_49 : decode cX0_lookAt 49 = .ok (.bipush (-9), 2) := by decide +kernel
theorem dX0_lookAt_51 : decode cX0_lookAt 51 = .ok (.if_icmp .ne 18, 3) := by decide +kernel
theorem dX0_lookAt_54 : decode cX0_lookAt 54 = .ok (.aload_n 0, 1) := by decide +kernel
theorem dX0_lookAt_55 : decode cX0_lookAt 55 = .ok (.getfield 21, 3) := by decide +kernel
theorem dX0_lookAt_58 : decode cX0_lookAt 58 = .ok (.iconst 2, 1) := by decide +kernel
theorem dX0_lookAt_59 : decode cX0_lookAt 59 = .ok (.bipush (-9), 2) := by decide +kernel
theorem dX0_lookAt_61 : decode cX0_lookAt 61 = .ok (.iload_n 1, 1) := by decide +kernel
theorem dX0_lookAt_62 : decode cX0_lookAt 62 = .ok (.iload_n 2, 1) := by decide +kernel
theorem dX0_lookAt_63 : decode cX0_lookAt 63 = .ok (.invokevirtual 117, 3) := by decide +kernel
theorem dX0_lookAt_66 : decode cX0_lookAt 66 = .ok (.bipush (-5), 2) := by decide +kernel
theorem dX0_lookAt_68 : decode cX0_lookAt 68 = .ok (.ireturn, 1) := by decide +kernel
theorem dX0_lookAt_69 : decode cX0_lookAt 69 = .ok (.aload_n 0, 1) := by decide +kernel
theorem dX0_lookAt_70 : decode cX0_lookAt 70 = .ok (.getfield 21, 3) := by decide +kernel
theorem dX0_lookAt_73 : decode cX0_lookAt 73 = .ok (.iconst 1, 1) := by decide +kernel
theorem dX0_lookAt_74 : decode cX0_lookAt 74 = .ok (.iload 5, 2) := by decide +kernel
theorem dX0_lookAt_76 : decode cX0_lookAt 76 = .ok (.iload_n 1, 1) := by decide +kernel
theorem dX0_lookAt_77 : decode cX0_lookAt 77 = .ok (.iload_n 2, 1) := by decide +kernel
theorem dX0_lookAt_78 : decode cX0_lookAt 78 = .ok (.invokevirtual 117, 3) := by decide +kernel
theorem dX0_lookAt_81 : decode cX0_lookAt 81 = .ok (.aload_n 0, 1) := by decide +kernel
theorem dX0_lookAt_82 : decode cX0_lookAt 82 = .ok (.getfield 12, 3) := by decide +kernel
theorem dX0_lookAt_85 : decode cX0_lookAt 85 = .ok (.aload_n 0, 1) := by decide +kernel
theorem dX0_lookAt_86 : decode cX0_lookAt 86 = .ok (.iload_n 1, 1) := by decide +kernel
theorem dX0_lookAt_87 : decode cX0_lookAt 87 = .ok (.iload_n 2, 1) := by decide +kernel
theorem dX0_lookAt_88 : decode cX0_lookAt 88 = .ok (.invokevirtual 83, 3) := by decide +kernel
theorem dX0_lookAt_91 : decode cX0_lookAt 91 = .ok (.aload_n 0, 1) := by decide +kernel
theorem dX0_lookAt_92 : decode cX0_lookAt 92 = .ok (.iload 5, 2) := by decide +kernel
theorem dX0_lookAt_94 : decode cX0_lookAt 94 = .ok (.invokevirtual 98, 3) := by decide +kernel
theorem dX0_lookAt_97 : decode cX0_lookAt 97 = .ok (.invokevirtual 124, 3) := by decide +kernel
theorem dX0_lookAt_100 : decode cX0_lookAt 100 = .ok (.aload_n 0, 1) := by decide +kernel
theorem dX0_lookAt_101 : decode cX0_lookAt 101 = .ok (.iload 5, 2) := by decide +kernel
theorem dX0_lookAt_103 : decode cX0_lookAt 103 = .ok (.invokevirtual 127, 3) := by decide +kernel
theorem dX0_lookAt_106 : decode cX0_lookAt 106 = .ok (.istore 6, 2) := by decide +kernel
theorem dX0_lookAt_108 : decode cX0_lookAt 108 = .ok (.aload_n 0, 1) := by decide +kernel
theorem dX0_lookAt_109 : decode cX0_lookAt 109 = .ok (.iload_n 1, 1) := by decide +kernel
theorem dX0_lookAt_110 : decode cX0_lookAt 110 = .ok (.invokevirtual 131, 3) := by decide +kernel
theorem dX0_lookAt_113 : decode cX0_lookAt 113 = .ok (.istore 7, 2) := by decide +kernel
theorem dX0_lookAt_115 : decode cX0_lookAt 115 = .ok (.aload_n 0, 1) := by decide +kernel
theorem dX0_lookAt_116 : decode cX0_lookAt 116 = .ok (.getfield 21, 3) := by decide +kernel
theorem dX0_lookAt_119 : decode cX0_lookAt 119 = .ok (.iload_n 1, 1) := by decide +kernel
theorem dX0_lookAt_120 : decode cX0_lookAt 120 = .ok (.iload 6, 2) := by decide +kernel
theorem dX0_lookAt_122 : decode cX0_lookAt 122 = .ok (.iload 7, 2) := by decide +kernel
theorem dX0_lookAt_124 : decode cX0_lookAt 124 = .ok (.invokevirtual 134, 3) := by decide +kernel
theorem dX0_lookAt_127 : decode cX0_lookAt 127 = .ok (.iload_n 3, 1) := by decide +kernel
theorem dX0_lookAt_128 : decode cX0_lookAt 128 = .ok (.iconst 1, 1) := by decide +kernel
theorem dX0_lookAt_129 : decode cX0_lookAt 129 = .ok (.iload 5, 2) := by decide +kernel
theorem dX0_lookAt_131 : decode cX0_lookAt 131 = .ok (.ishl, 1) := by decide +kernel
theorem dX0_lookAt_132 : decode cX0_lookAt 132 = .ok (.ixor, 1) := by decide +kernel
theorem dX0_lookAt_133 : decode cX0_lookAt 133 = .ok (.ireturn, 1) := by decide +kernel
theorem dX0_scrubNext_0 : decode cX0_scrubNext 0 = .ok (.aload_n 0, 1) := by decide +kernel
theorem dX0_scrubNext_1 : decode cX0_scrubNext 1 = .ok (.getfield 65, 3) := by decide +kernel
theorem dX0_scrubNext_4 : decode cX0_scrubNext 4 = .ok (.istore_n 1, 1) := by decide +kernel
theorem dX0_scrubNext_5 : decode cX0_scrubNext 5 = .ok (.aload_n 0, 1) := by decide +kernel
theorem dX0_scrubNext_6 : decode cX0_scrubNext 6 = .ok (.getfield 68, 3) := by decide +kernel
theorem dX0_scrubNext_9 : decode cX0_scrubNext 9 = .ok (.istore_n 2, 1) := by decide +kernel
theorem dX0_scrubNext_10 : decode cX0_scrubNext 10 = .ok (.aload_n 0, 1) := by decide +kernel
theorem dX0_scrubNext_11 : decode cX0_scrubNext 11 = .ok (.invokevirtual 138, 3) := by decide +kernel
theorem dX0_scrubNext_14 : decode cX0_scrubNext 14 = .ok (.aload_n 0, 1) := by decide +kernel
theorem dX0_scrubNext_15 : decode cX0_scrubNext 15 = .ok (.iload_n 1, 1) := by decide +kernel
theorem dX0_scrubNext_16 : decode cX0_scrubNext 16 = .ok (.iload_n 2, 1) := by decide +kernel
theorem dX0_scrubNext_17 : decode cX0_scrubNext 17 = .ok (.invokevirtual 141, 3) := by decide +kernel
theorem dX0_scrubNext_20 : decode cX0_scrubNext 20 = .ok (.istore_n 3, 1) := by decide +kernel
theorem dX0_scrubNext_21 : decode cX0_scrubNext 21 = .ok (.aload_n 0, 1) := by decide +kernel
theorem dX0_scrubNext_22 : decode cX0_scrubNext 22 = .ok (.getfield 21, 3) := by decide +kernel
theorem dX0_scrubNext_25 : decode cX0_scrubNext 25 = .ok (.iconst 0, 1) := by decide +kernel
theorem dX0_scrubNext_26 : decode cX0_scrubNext 26 = .ok (.invokevirtual 144, 3) := by decide +kernel
theorem dX0_scrubNext_29 : decode cX0_scrubNext 29 = .ok (.iconst 1, 1) := by decide +kernel
theorem dX0_scrubNext_30 : decode cX0_scrubNext 30 = .ok (.if_icmp .eq 5, 3) := by decide +kernel
theorem dX0_scrubNext_33 : decode cX0_scrubNext 33 = .ok (.iconst 0, 1) := by decide +kernel
theorem dX0_scrubNext_34 : decode cX0_scrubNext 34 = .ok (.ireturn, 1) := by decide +kernel
theorem dX0_scrubNext_35 : decode cX0_scrubNext 35 = .ok (.aload_n 0, 1) := by decide +kernel
theorem dX0_scrubNext_36 : decode cX0_scrubNext 36 = .ok (.iload_n 1, 1) := by decide +kernel
theorem dX0_scrubNext_37 : decode cX0_scrubNext 37 = .ok (.iload_n 2, 1) := by decide +kernel
theorem dX0_scrubNext_38 : decode cX0_scrubNext 38 = .ok (.iload_n 3, 1) := by decide +kernel
theorem dX0_scrubNext_39 : decode cX0_scrubNext 39 = .ok (.invokevirtual 79, 3) := by decide +kernel
theorem dX0_scrubNext_42 : decode cX0_scrubNext 42 = .ok (.iconst 1, 1) := by decide +kernel
theorem dX0_scrubNext_43 : decode cX0_scrubNext 43 = .ok (.ireturn, 1) := by decide +kernel
theorem dX0_tally_0 : decode cX0_tally 0 = .ok (.iload_n 1, 1) := by decide +kernel
theorem dX0_tally_1 : decode cX0_tally 1 = .ok (.tableswitch 121 0 8 #[51, 59, 68, 77, 86, 91, 96, 111, 116], 51) := by decide +kernel
theorem dX0_tally_52 : decode cX0_tally 52 = .ok (.aload_n 0, 1) := by decide +kernel
theorem dX0_tally_53 : decode cX0_tally 53 = .ok (.getfield 21, 3) := by decide +kernel
theorem dX0_tally_56 : decode cX0_tally 56 = .ok (.invokevirtual 147, 3) := by decide +kernel
theorem dX0_tally_59 : decode cX0_tally 59 = .ok (.ireturn, 1) := by decide +kernel
theorem dX0_tally_60 : decode cX0_tally 60 = .ok (.aload_n 0, 1) := by decide +kernel
theorem dX0_tally_61 : decode cX0_tally 61 = .ok (.getfield 21, 3) := by decide +kernel
theorem dX0_tally_64 : decode cX0_tally 64 = .ok (.iconst 0, 1) := by decide +kernel
theorem dX0_tally_65 : decode cX0_tally 65 = .ok (.invokevirtual 150, 3) := by decide +kernel
theorem dX0_tally_68 : decode cX0_tally 68 = .ok (.ireturn, 1) := by decide +kernel
theorem dX0_tally_69 : decode cX0_tally 69 = .ok (.aload_n 0, 1) := by decide +kernel
theorem dX0_tally_70 : decode cX0_tally 70 = .ok (.getfield 21, 3) := by decide +kernel
theorem dX0_tally_73 : decode cX0_tally 73 = .ok (.iconst 1, 1) := by decide +kernel
theorem dX0_tally_74 : decode cX0_tally 74 = .ok (.invokevirtual 150, 3) := by decide +kernel
theorem dX0_tally_77 : decode cX0_tally 77 = .ok (.ireturn, 1) := by decide +kernel
theorem dX0_tally_78 : decode cX0_tally 78 = .ok (.aload_n 0, 1) := by decide +kernel
theorem dX0_tally_79 : decode cX0_tally 79 = .ok (.getfield 21, 3) := by decide +kernel
theorem dX0_tally_82 : decode cX0_tally 82 = .ok (.iconst 2, 1) := by decide +kernel
theorem dX0_tally_83 : decode cX0_tally 83 = .ok (.invokevirtual 150, 3) := by decide +kernel
theorem dX0_tally_86 : decode cX0_tally 86 = .ok (.ireturn, 1) := by decide +kernel
theorem dX0_tally_87 : decode cX0_tally 87 = .ok (.aload_n 0, 1) := by decide +kernel
theorem dX0_tally_88 : decode cX0_tally 88 = .ok (.invokevirtual 153, 3) := by decide +kernel
theorem dX0_tally_91 : decode cX0_tally 91 = .ok (.ireturn, 1) := by decide +kernel
theorem dX0_tally_92 : decode cX0_tally 92 = .ok (.aload_n 0, 1) := by decide +kernel
theorem dX0_tally_93 : decode cX0_tally 93 = .ok (.invokevirtual 156, 3) := by decide +kernel
theorem dX0_tally_96 : decode cX0_tally 96 = .ok (.ireturn, 1) := by decide +kernel
theorem dX0_tally_97 : decode cX0_tally 97 = .ok (.aload_n 0, 1) := by decide +kernel
theorem dX0_tally_98 : decode cX0_tally 98 = .ok (.getfield 35, 3) := by decide +kernel
theorem dX0_tally_101 : decode cX0_tally 101 = .ok (.bipush (-9), 2) := by decide +kernel
theorem dX0_tally_103 : decode cX0_tally 103 = .ok (.if_icmp .ne 7, 3) := by decide +kernel
theorem dX0_tally_106 : decode cX0_tally 106 = .ok (.iconst 0, 1) := by decide +kernel
theorem dX0_tally_107 : decode cX0_tally 107 = .ok (.goto 4, 3) := by decide +kernel
theorem dX0_tally_110 : decode cX0_tally 110 = .ok (.iconst 1, 1) := by decide +kernel
theorem dX0_tally_111 : decode cX0_tally 111 = .ok (.ireturn, 1) := by decide +kernel
theorem dX0_tally_112 : decode cX0_tally 112 = .ok (.aload_n 0, 1) := by decide +kernel
theorem dX0_tally_113 : decode cX0_tally 113 = .ok (.invokevirtual 159, 3) := by decide +kernel
theorem dX0_tally_116 : decode cX0_tally 116 = .ok (.ireturn, 1) := by decide +kernel
theorem dX0_tally_117 : decode cX0_tally 117 = .ok (.aload_n 0, 1) := by decide +kernel
theorem dX0_tally_118 : decode cX0_tally 118 = .ok (.getfield 65, 3) := by decide +kernel
theorem dX0_tally_121 : decode cX0_tally 121 = .ok (.ireturn, 1) := by decide +kernel
theorem dX0_tally_122 : decode cX0_tally 122 = .ok (.aload_n 0, 1) := by decide +kernel
theorem dX0_tally_123 : decode cX0_tally 123 = .ok (.getfield 68, 3) := by decide +kernel
theorem dX0_tally_126 : decode cX0_tally 126 = .ok (.ireturn, 1) := by decide +kernel
theorem dX0_rowOf_0 : decode cX0_rowOf 0 = .ok (.aload_n 0, 1) := by decide +kernel
theorem dX0_rowOf_1 : decode cX0_rowOf 1 = .ok (.getfield 25, 3) := by decide +kernel
theorem dX0_rowOf_4 : decode cX0_rowOf 4 = .ok (.iload_n 1, 1) := by decide +kernel
theorem dX0_rowOf_5 : decode cX0_rowOf 5 = .ok (.iaload, 1) := by decide +kernel
theorem dX0_rowOf_6 : decode cX0_rowOf 6 = .ok (.iconst 4, 1) := by decide +kernel
theorem dX0_rowOf_7 : decode cX0_rowOf 7 = .ok (.imul, 1) := by decide +kernel
theorem dX0_rowOf_8 : decode cX0_rowOf 8 = .ok (.iload_n 2, 1) := by decide +kernel
theorem dX0_rowOf_9 : decode cX0_rowOf 9 = .ok (.iadd, 1) := by decide +kernel
theorem dX0_rowOf_10 : decode cX0_rowOf 10 = .ok (.ireturn, 1) := by decide +kernel
theorem dX0_placesOf_0 : decode cX0_placesOf 0 = .ok (.aload_n 0, 1) := by decide +kernel
theorem dX0_placesOf_1 : decode cX0_placesOf 1 = .ok (.getfield 35, 3) := by decide +kernel
theorem dX0_placesOf_4 : decode cX0_placesOf 4 = .ok (.bipush (-9), 2) := by decide +kernel
theorem dX0_placesOf_6 : decode cX0_placesOf 6 = .ok (.if_icmp .ne 5, 3) := by decide +kernel
theorem dX0_placesOf_9 : decode cX0_placesOf 9 = .ok (.iload_n 1, 1) := by decide +kernel
theorem dX0_placesOf_10 : decode cX0_placesOf 10 = .ok (.ireturn, 1) := by decide +kernel
theorem dX0_placesOf_11 : decode cX0_placesOf 11 = .ok (.iload_n 1, 1) := by decide +kernel
theorem dX0_placesOf_12 : decode cX0_placesOf 12 = .ok (.iconst 1, 1) := by decide +kernel
theorem dX0_placesOf_13 : decode cX0_placesOf 13 = .ok (.aload_n 0, 1) := by decide +kernel
theorem dX0_placesOf_14 : decode cX0_placesOf 14 = .ok (.getfield 35, 3) := by decide +kernel
theorem dX0_placesOf_17 : decode cX0_placesOf 17 = .ok (.ishl, 1) := by decide +kernel
theorem dX0_placesOf_18 : decode cX0_placesOf 18 = .ok (.iconst (-1), 1) := by decide +kernel
theorem dX0_placesOf_19 : decode cX0_placesOf 19 = .ok (.ixor, 1) := by decide +kernel
theorem dX0_placesOf_20 : decode cX0_placesOf 20 = .ok (.iand, 1) := by decide +kernel
theorem dX0_placesOf_21 : decode cX0_placesOf 21 = .ok (.iload_n 1, 1) := by decide +kernel
theorem dX0_placesOf_22 : decode cX0_placesOf 22 = .ok (.aload_n 0, 1) := by decide +kernel
theorem dX0_placesOf_23 : decode cX0_placesOf 23 = .ok (.getfield 35, 3) := by decide +kernel
theorem dX0_placesOf_26 : decode cX0_placesOf 26 = .ok (.ishr, 1) := by decide +kernel
theorem dX0_placesOf_27 : decode cX0_placesOf 27 = .ok (.iconst 1, 1) := by decide +kernel
theorem dX0_placesOf_28 : decode cX0_placesOf 28 = .ok (.iand, 1) := by decide +kernel
theorem dX0_placesOf_29 : decode cX0_placesOf 29 = .ok (.aload_n 0, 1) := by decide +kernel
theorem dX0_placesOf_30 : decode cX0_placesOf 30 = .ok (.getfield 62, 3) := by decide +kernel
theorem dX0_placesOf_33 : decode cX0_placesOf 33 = .ok (.ishl, 1) := by decide +kernel
theorem dX0_placesOf_34 : decode cX0_placesOf 34 = .ok (.ior, 1) := by decide +kernel
theorem dX0_placesOf_35 : decode cX0_placesOf 35 = .ok (.ireturn, 1) := by decide +kernel
theorem dX0_placesInUse_0 : decode cX0_placesInUse 0 = .ok (.aload_n 0, 1) := by decide +kernel
theorem dX0_placesInUse_1 : decode cX0_placesInUse 1 = .ok (.aload_n 0, 1) := by decide +kernel
theorem dX0_placesInUse_2 : decode cX0_placesInUse 2 = .ok (.getfield 39, 3) := by decide +kernel
theorem dX0_placesInUse_5 : decode cX0_placesInUse 5 = .ok (.invokevirtual 89, 3) := by decide +kernel
theorem dX0_placesInUse_8 : decode cX0_placesInUse 8 = .ok (.invokevirtual 92, 3) := by decide +kernel
theorem dX0_placesInUse_11 : decode cX0_placesInUse 11 = .ok (.ireturn, 1) := by decide +kernel
theorem dX0_putBits_0 : decode cX0_putBits 0 = .ok (.aload_n 0, 1) := by decide +kernel
theorem dX0_putBits_1 : decode cX0_putBits 1 = .ok (.getfield 12, 3) := by decide +kernel
theorem dX0_putBits_4 : decode cX0_putBits 4 = .ok (.aload_n 0, 1) := by decide +kernel
theorem dX0_putBits_5 : decode cX0_putBits 5 = .ok (.iload_n 1, 1) := by decide +kernel
theorem dX0_putBits_6 : decode cX0_putBits 6 = .ok (.iload_n 2, 1) := by decide +kernel
theorem dX0_putBits_7 : decode cX0_putBits 7 = .ok (.invokevirtual 83, 3) := by decide +kernel
theorem dX0_putBits_10 : decode cX0_putBits 10 = .ok (.aload_n 0, 1) := by decide +kernel
theorem dX0_putBits_11 : decode cX0_putBits 11 = .ok (.iload_n 3, 1) := by decide +kernel
theorem dX0_putBits_12 : decode cX0_putBits 12 = .ok (.invokevirtual 92, 3) := by decide +kernel
theorem dX0_putBits_15 : decode cX0_putBits 15 = .ok (.aload_n 0, 1) := by decide +kernel
theorem dX0_putBits_16 : decode cX0_putBits 16 = .ok (.invokevirtual 162, 3) := by decide +kernel
theorem dX0_putBits_19 : decode cX0_putBits 19 = .ok (.invokevirtual 165, 3) := by decide +kernel
theorem dX0_putBits_22 : decode cX0_putBits 22 = .ok (.return_, 1) := by decide +kernel
theorem dX0_swapIfDue_0 : decode cX0_swapIfDue 0 = .ok (.aload_n 0, 1) := by decide +kernel
theorem dX0_swapIfDue_1 : decode cX0_swapIfDue 1 = .ok (.getfield 35, 3) := by decide +kernel
theorem dX0_swapIfDue_4 : decode cX0_swapIfDue 4 = .ok (.bipush (-9), 2) := by decide +kernel
theorem dX0_swapIfDue_6 : decode cX0_swapIfDue 6 = .ok (.if_icmp .ne 15, 3) := by decide +kernel
theorem dX0_swapIfDue_9 : decode cX0_swapIfDue 9 = .ok (.aload_n 0, 1) := by decide +kernel
theorem dX0_swapIfDue_10 : decode cX0_swapIfDue 10 = .ok (.getfield 12, 3) := by decide +kernel
theorem dX0_swapIfDue_13 : decode cX0_swapIfDue 13 = .ok (.iload_n 1, 1) := by decide +kernel
theorem dX0_swapIfDue_14 : decode cX0_swapIfDue 14 = .ok (.invokevirtual 168, 3) := by decide +kernel
theorem dX0_swapIfDue_17 : decode cX0_swapIfDue 17 = .ok (.iconst 3, 1) := by decide +kernel
theorem dX0_swapIfDue_18 : decode cX0_swapIfDue 18 = .ok (.if_icmp .ge 5, 3) := by decide +kernel
theorem dX0_swapIfDue_21 : decode cX0_swapIfDue 21 = .ok (.iconst 0, 1) := by decide +kernel
theorem dX0_swapIfDue_22 : decode cX0_swapIfDue 22 = .ok (.ireturn, 1) := by decide +kernel
theorem dX0_swapIfDue_23 : decode cX0_swapIfDue 23 = .ok (.aload_n 0, 1) := by decide +kernel
theorem dX0_swapIfDue_24 : decode cX0_swapIfDue 24 = .ok (.getfield 12, 3) := by decide +kernel
theorem dX0_swapIfDue_27 : decode cX0_swapIfDue 27 = .ok (.iload_n 1, 1) := by decide +kernel
theorem dX0_swapIfDue_28 : decode cX0_swapIfDue 28 = .ok (.aload_n 0, 1) := by decide +kernel
theorem dX0_swapIfDue_29 : decode cX0_swapIfDue 29 = .ok (.getfield 62, 3) := by decide +kernel
theorem dX0_swapIfDue_32 : decode cX0_swapIfDue 32 = .ok (.invokevirtual 171, 3) := by decide +kernel
theorem dX0_swapIfDue_35 : decode cX0_swapIfDue 35 = .ok (.aload_n 0, 1) := by decide +kernel
theorem dX0_swapIfDue_36 : decode cX0_swapIfDue 36 = .ok (.iload_n 1, 1) := by decide +kernel
theorem dX0_swapIfDue_37 : decode cX0_swapIfDue 37 = .ok (.putfield 35, 3) := by decide +kernel
theorem dX0_swapIfDue_40 : decode cX0_swapIfDue 40 = .ok (.iconst 1, 1) := by decide +kernel
theorem dX0_swapIfDue_41 : decode cX0_swapIfDue 41 = .ok (.ireturn, 1) := by decide +kernel
theorem dX0_retireIfDue_0 : decode cX0_retireIfDue 0 = .ok (.aload_n 0, 1) := by decide +kernel
theorem dX0_retireIfDue_1 : decode cX0_retireIfDue 1 = .ok (.getfield 25, 3) := by decide +kernel
theorem dX0_retireIfDue_4 : decode cX0_retireIfDue 4 = .ok (.iload_n 1, 1) := by decide +kernel
theorem dX0_retireIfDue_5 : decode cX0_retireIfDue 5 = .ok (.iaload, 1) := by decide +kernel
theorem dX0_retireIfDue_6 : decode cX0_retireIfDue 6 = .ok (.istore_n 2, 1) := by decide +kernel
theorem dX0_retireIfDue_7 : decode cX0_retireIfDue 7 = .ok (.aload_n 0, 1) := by decide +kernel
theorem dX0_retireIfDue_8 : decode cX0_retireIfDue 8 = .ok (.invokevirtual 159, 3) := by decide +kernel
theorem dX0_retireIfDue_11 : decode cX0_retireIfDue 11 = .ok (.ifCond .eq 19, 3) := by decide +kernel
theorem dX0_retireIfDue_14 : decode cX0_retireIfDue 14 = .ok (.aload_n 0, 1) := by decide +kernel
theorem dX0_retireIfDue_15 : decode cX0_retireIfDue 15 = .ok (.getfield 12, 3) := by decide +kernel
theorem dX0_retireIfDue_18 : decode cX0_retireIfDue 18 = .ok (.iload_n 2, 1) := by decide +kernel
theorem dX0_retireIfDue_19 : decode cX0_retireIfDue 19 = .ok (.aload_n 0, 1) := by decide +kernel
theorem dX0_retireIfDue_20 : decode cX0_retireIfDue 20 = .ok (.invokevirtual 162, 3) := by decide +kernel
theorem dX0_retireIfDue_23 : decode cX0_retireIfDue 23 = .ok (.invokevirtual 174, 3) := by decide +kernel
theorem dX0_retireIfDue_26 : decode cX0_retireIfDue 26 = .ok (.iconst 4, 1) := by decide +kernel
theorem dX0_retireIfDue_27 : decode cX0_retireIfDue 27 = .ok (.if_icmp .ge 5, 3) := by decide +kernel
theorem dX0_retireIfDue_30 : decode cX0_retireIfDue 30 = .ok (.iconst 0, 1) := by decide +kernel
theorem dX0_retireIfDue_31 : decode cX0_retireIfDue 31 = .ok (.ireturn, 1) := by decide +kernel
theorem dX0_retireIfDue_32 : decode cX0_retireIfDue 32 = .ok (.iconst 4, 1) := by decide +kernel
theorem dX0_retireIfDue_33 : decode cX0_retireIfDue 33 = .ok (.aload_n 0, 1) := by decide +kernel
theorem dX0_retireIfDue_34 : decode cX0_retireIfDue 34 = .ok (.getfield 53, 3) := by decide +kernel
theorem dX0_retireIfDue_37 : decode cX0_retireIfDue 37 = .ok (.iadd, 1) := by decide +kernel
theorem dX0_retireIfDue_38 : decode cX0_retireIfDue 38 = .ok (.istore_n 3, 1) := by decide +kernel
theorem dX0_retireIfDue_39 : decode cX0_retireIfDue 39 = .ok (.aload_n 0, 1) := by decide +kernel
theorem dX0_retireIfDue_40 : decode cX0_retireIfDue 40 = .ok (.getfield 12, 3) := by decide +kernel
theorem dX0_retireIfDue_43 : decode cX0_retireIfDue 43 = .ok (.iload_n 2, 1) := by decide +kernel
theorem dX0_retireIfDue_44 : decode cX0_retireIfDue 44 = .ok (.iload_n 3, 1) := by decide +kernel
theorem dX0_retireIfDue_45 : decode cX0_retireIfDue 45 = .ok (.invokevirtual 177, 3) := by decide +kernel
theorem dX0_retireIfDue_48 : decode cX0_retireIfDue 48 = .ok (.aload_n 0, 1) := by decide +kernel
theorem dX0_retireIfDue_49 : decode cX0_retireIfDue 49 = .ok (.getfield 25, 3) := by decide +kernel
theorem dX0_retireIfDue_52 : decode cX0_retireIfDue 52 = .ok (.iload_n 1, 1) := by decide +kernel
theorem dX0_retireIfDue_53 : decode cX0_retireIfDue 53 = .ok (.iload_n 3, 1) := by decide +kernel
theorem dX0_retireIfDue_54 : decode cX0_retireIfDue 54 = .ok (.iastore, 1) := by decide +kernel
theorem dX0_retireIfDue_55 : decode cX0_retireIfDue 55 = .ok (.aload_n 0, 1) := by decide +kernel
theorem dX0_retireIfDue_56 : decode cX0_retireIfDue 56 = .ok (.getfield 32, 3) := by decide +kernel
theorem dX0_retireIfDue_59 : decode cX0_retireIfDue 59 = .ok (.aload_n 0, 1) := by decide +kernel
theorem dX0_retireIfDue_60 : decode cX0_retireIfDue 60 = .ok (.getfield 53, 3) := by decide +kernel
theorem dX0_retireIfDue_63 : decode cX0_retireIfDue 63 = .ok (.iload_n 2, 1) := by decide +kernel
theorem dX0_retireIfDue_64 : decode cX0_retireIfDue 64 = .ok (.iastore, 1) := by decide +kernel
theorem dX0_retireIfDue_65 : decode cX0_retireIfDue 65 = .ok (.aload_n 0, 1) := by decide +kernel
theorem dX0_retireIfDue_66 : decode cX0_retireIfDue 66 = .ok (.dup, 1) := by decide +kernel
theorem dX0_retireIfDue_67 : decode cX0_retireIfDue 67 = .ok (.getfield 53, 3) := by decide +kernel
theorem dX0_retireIfDue_70 : decode cX0_retireIfDue 70 = .ok (.iconst 1, 1) := by decide +kernel
theorem dX0_retireIfDue_71 : decode cX0_retireIfDue 71 = .ok (.iadd, 1) := by decide +kernel
theorem dX0_retireIfDue_72 : decode cX0_retireIfDue 72 = .ok (.putfield 53, 3) := by decide +kernel
theorem dX0_retireIfDue_75 : decode cX0_retireIfDue 75 = .ok (.iconst 1, 1) := by decide +kernel
theorem dX0_retireIfDue_76 : decode cX0_retireIfDue 76 = .ok (.ireturn, 1) := by decide +kernel
theorem dX0_spareFramesLeft_0 : decode cX0_spareFramesLeft 0 = .ok (.iconst 2, 1) := by decide +kernel
theorem dX0_spareFramesLeft_1 : decode cX0_spareFramesLeft 1 = .ok (.aload_n 0, 1) := by decide +kernel
theorem dX0_spareFramesLeft_2 : decode cX0_spareFramesLeft 2 = .ok (.getfield 53, 3) := by decide +kernel
theorem dX0_spareFramesLeft_5 : decode cX0_spareFramesLeft 5 = .ok (.isub, 1) := by decide +kernel
theorem dX0_spareFramesLeft_6 : decode cX0_spareFramesLeft 6 = .ok (.ireturn, 1) := by decide +kernel
theorem dX0_badInUse_0 : decode cX0_badInUse 0 = .ok (.iconst 0, 1) := by decide +kernel
theorem dX0_badInUse_1 : decode cX0_badInUse 1 = .ok (.istore_n 1, 1) := by decide +kernel
theorem dX0_badInUse_2 : decode cX0_badInUse 2 = .ok (.iconst 0, 1) := by decide +kernel
theorem dX0_badInUse_3 : decode cX0_badInUse 3 = .ok (.istore_n 2, 1) := by decide +kernel
theorem dX0_badInUse_4 : decode cX0_badInUse 4 = .ok (.iload_n 2, 1) := by decide +kernel
theorem dX0_badInUse_5 : decode cX0_badInUse 5 = .ok (.iconst 4, 1) := by decide +kernel
theorem dX0_badInUse_6 : decode cX0_badInUse 6 = .ok (.if_icmp .ge 29, 3) := by decide +kernel
theorem dX0_badInUse_9 : decode cX0_badInUse 9 = .ok (.iload_n 1, 1) := by decide +kernel
theorem dX0_badInUse_10 : decode cX0_badInUse 10 = .ok (.aload_n 0, 1) := by decide +kernel
theorem dX0_badInUse_11 : decode cX0_badInUse 11 = .ok (.getfield 12, 3) := by decide +kernel
theorem dX0_badInUse_14 : decode cX0_badInUse 14 = .ok (.aload_n 0, 1) := by decide +kernel
theorem dX0_badInUse_15 : decode cX0_badInUse 15 = .ok (.getfield 25, 3) := by decide +kernel
theorem dX0_badInUse_18 : decode cX0_badInUse 18 = .ok (.iload_n 2, 1) := by decide +kernel
theorem dX0_badInUse_19 : decode cX0_badInUse 19 = .ok (.iaload, 1) := by decide +kernel
theorem dX0_badInUse_20 : decode cX0_badInUse 20 = .ok (.aload_n 0, 1) := by decide +kernel
theorem dX0_badInUse_21 : decode cX0_badInUse 21 = .ok (.invokevirtual 162, 3) := by decide +kernel
theorem dX0_badInUse_24 : decode cX0_badInUse 24 = .ok (.invokevirtual 174, 3) := by decide +kernel
theorem dX0_badInUse_27 : decode cX0_badInUse 27 = .ok (.iadd, 1) := by decide +kernel
theorem dX0_badInUse_28 : decode cX0_badInUse 28 = .ok (.istore_n 1, 1) := by decide +kernel
theorem dX0_badInUse_29 : decode cX0_badInUse 29 = .ok (.iinc 2 1, 3) := by decide +kernel
theorem dX0_badInUse_32 : decode cX0_badInUse 32 = .ok (.goto (-28), 3) := by decide +kernel
theorem dX0_badInUse_35 : decode cX0_badInUse 35 = .ok (.iload_n 1, 1) := by decide +kernel
theorem dX0_badInUse_36 : decode cX0_badInUse 36 = .ok (.ireturn, 1) := by decide +kernel
theorem dX0_stuckInUse_0 : decode cX0_stuckInUse 0 = .ok (.iconst 0, 1) := by decide +kernel
theorem dX0_stuckInUse_1 : decode cX0_stuckInUse 1 = .ok (.istore_n 1, 1) := by decide +kernel
theorem dX0_stuckInUse_2 : decode cX0_stuckInUse 2 = .ok (.iconst 0, 1) := by decide +kernel
theorem dX0_stuckInUse_3 : decode cX0_stuckInUse 3 = .ok (.istore_n 2, 1) := by decide +kernel
theorem dX0_stuckInUse_4 : decode cX0_stuckInUse 4 = .ok (.iload_n 2, 1) := by decide +kernel
theorem dX0_stuckInUse_5 : decode cX0_stuckInUse 5 = .ok (.iconst 4, 1) := by decide +kernel
theorem dX0_stuckInUse_6 : decode cX0_stuckInUse 6 = .ok (.if_icmp .ge 29, 3) := by decide +kernel
theorem dX0_stuckInUse_9 : decode cX0_stuckInUse 9 = .ok (.iload_n 1, 1) := by decide +kernel
theorem dX0_stuckInUse_10 : decode cX0_stuckInUse 10 = .ok (.aload_n 0, 1) := by decide +kernel
theorem dX0_stuckInUse_11 : decode cX0_stuckInUse 11 = .ok (.getfield 12, 3) := by decide +kernel
theorem dX0_stuckInUse_14 : decode cX0_stuckInUse 14 = .ok (.aload_n 0, 1) := by decide +kernel
theorem dX0_stuckInUse_15 : decode cX0_stuckInUse 15 = .ok (.getfield 25, 3) := by decide +kernel
theorem dX0_stuckInUse_18 : decode cX0_stuckInUse 18 = .ok (.iload_n 2, 1) := by decide +kernel
theorem dX0_stuckInUse_19 : decode cX0_stuckInUse 19 = .ok (.iaload, 1) := by decide +kernel
theorem dX0_stuckInUse_20 : decode cX0_stuckInUse 20 = .ok (.aload_n 0, 1) := by decide +kernel
theorem dX0_stuckInUse_21 : decode cX0_stuckInUse 21 = .ok (.invokevirtual 162, 3) := by decide +kernel
theorem dX0_stuckInUse_24 : decode cX0_stuckInUse 24 = .ok (.invokevirtual 180, 3) := by decide +kernel
theorem dX0_stuckInUse_27 : decode cX0_stuckInUse 27 = .ok (.iadd, 1) := by decide +kernel
theorem dX0_stuckInUse_28 : decode cX0_stuckInUse 28 = .ok (.istore_n 1, 1) := by decide +kernel
theorem dX0_stuckInUse_29 : decode cX0_stuckInUse 29 = .ok (.iinc 2 1, 3) := by decide +kernel
theorem dX0_stuckInUse_32 : decode cX0_stuckInUse 32 = .ok (.goto (-28), 3) := by decide +kernel
theorem dX0_stuckInUse_35 : decode cX0_stuckInUse 35 = .ok (.iload_n 1, 1) := by decide +kernel
theorem dX0_stuckInUse_36 : decode cX0_stuckInUse 36 = .ok (.ireturn, 1) := by decide +kernel
theorem dX0_stepScrubber_0 : decode cX0_stepScrubber 0 = .ok (.aload_n 0, 1) := by decide +kernel
theorem dX0_stepScrubber_1 : decode cX0_stepScrubber 1 = .ok (.dup, 1) := by decide +kernel
theorem dX0_stepScrubber_2 : decode cX0_stepScrubber 2 = .ok (.getfield 68, 3) := by decide +kernel
theorem dX0_stepScrubber_5 : decode cX0_stepScrubber 5 = .ok (.iconst 1, 1) := by decide +kernel
theorem dX0_stepScrubber_6 : decode cX0_stepScrubber 6 = .ok (.iadd, 1) := by decide +kernel
theorem dX0_stepScrubber_7 : decode cX0_stepScrubber 7 = .ok (.putfield 68, 3) := by decide +kernel
theorem dX0_stepScrubber_10 : decode cX0_stepScrubber 10 = .ok (.aload_n 0, 1) := by decide +kernel
theorem dX0_stepScrubber_11 : decode cX0_stepScrubber 11 = .ok (.getfield 68, 3) := by decide +kernel
theorem dX0_stepScrubber_14 : decode cX0_stepScrubber 14 = .ok (.iconst 4, 1) := by decide +kernel
theorem dX0_stepScrubber_15 : decode cX0_stepScrubber 15 = .ok (.if_icmp .ne 32, 3) := by decide +kernel
theorem dX0_stepScrubber_18 : decode cX0_stepScrubber 18 = .ok (.aload_n 0, 1) := by decide +kernel
theorem dX0_stepScrubber_19 : decode cX0_stepScrubber 19 = .ok (.iconst 0, 1) := by decide +kernel
theorem dX0_stepScrubber_20 : decode cX0_stepScrubber 20 = .ok (.putfield 68, 3) := by decide +kernel
theorem dX0_stepScrubber_23 : decode cX0_stepScrubber 23 = .ok (.aload_n 0, 1) := by decide +kernel
theorem dX0_stepScrubber_24 : decode cX0_stepScrubber 24 = .ok (.aload_n 0, 1) := by decide +kernel
theorem dX0_stepScrubber_25 : decode cX0_stepScrubber 25 = .ok (.getfield 65, 3) := by decide +kernel
theorem dX0_stepScrubber_28 : decode cX0_stepScrubber 28 = .ok (.iconst 1, 1) := by decide +kernel
theorem dX0_stepScrubber_29 : decode cX0_stepScrubber 29 = .ok (.iadd, 1) := by decide +kernel
theorem dX0_stepScrubber_30 : decode cX0_stepScrubber 30 = .ok (.iconst 4, 1) := by decide +kernel
theorem dX0_stepScrubber_31 : decode cX0_stepScrubber 31 = .ok (.if_icmp .ge 12, 3) := by decide +kernel
theorem dX0_stepScrubber_34 : decode cX0_stepScrubber 34 = .ok (.aload_n 0, 1) := by decide +kernel
theorem dX0_stepScrubber_35 : decode cX0_stepScrubber 35 = .ok (.getfield 65, 3) := by decide +kernel
theorem dX0_stepScrubber_38 : decode cX0_stepScrubber 38 = .ok (.iconst 1, 1) := by decide +kernel
theorem dX0_stepScrubber_39 : decode cX0_stepScrubber 39 = .ok (.iadd, 1) := by decide +kernel
theorem dX0_stepScrubber_40 : decode cX0_stepScrubber 40 = .ok (.goto 4, 3) := by decide +kernel
theorem dX0_stepScrubber_43 : decode cX0_stepScrubber 43 = .ok (.iconst 0, 1) := by decide +kernel
theorem dX0_stepScrubber_44 : decode cX0_stepScrubber 44 = .ok (.putfield 65, 3) := by decide +kernel
theorem dX0_stepScrubber_47 : decode cX0_stepScrubber 47 = .ok (.return_, 1) := by decide +kernel
theorem dX1_init_0 : decode cX1_init 0 = .ok (.aload_n 0, 1) := by decide +kernel
theorem dX1_init_1 : decode cX1_init 1 = .ok (.invokespecial 5, 3) := by decide +kernel
theorem dX1_init_4 : decode cX1_init 4 = .ok (.aload_n 0, 1) := by decide +kernel
theorem dX1_init_5 : decode cX1_init 5 = .ok (.bipush 24, 2) := by decide +kernel
theorem dX1_init_7 : decode cX1_init 7 = .ok (.newarray .int, 2) := by decide +kernel
theorem dX1_init_9 : decode cX1_init 9 = .ok (.putfield 13, 3) := by decide +kernel
theorem dX1_init_12 : decode cX1_init 12 = .ok (.aload_n 0, 1) := by decide +kernel
theorem dX1_init_13 : decode cX1_init 13 = .ok (.bipush 24, 2) := by decide +kernel
theorem dX1_init_15 : decode cX1_init 15 = .ok (.newarray .int, 2) := by decide +kernel
theorem dX1_init_17 : decode cX1_init 17 = .ok (.putfield 17, 3) := by decide +kernel
theorem dX1_init_20 : decode cX1_init 20 = .ok (.aload_n 0, 1) := by decide +kernel
theorem dX1_init_21 : decode cX1_init 21 = .ok (.sipush 504, 3) := by decide +kernel
theorem dX1_init_24 : decode cX1_init 24 = .ok (.newarray .int, 2) := by decide +kernel
theorem dX1_init_26 : decode cX1_init 26 = .ok (.putfield 20, 3) := by decide +kernel
theorem dX1_init_29 : decode cX1_init 29 = .ok (.return_, 1) := by decide +kernel
theorem dX1_clear_0 : decode cX1_clear 0 = .ok (.aload_n 0, 1) := by decide +kernel
theorem dX1_clear_1 : decode cX1_clear 1 = .ok (.getfield 13, 3) := by decide +kernel
theorem dX1_clear_4 : decode cX1_clear 4 = .ok (.iconst 0, 1) := by decide +kernel
theorem dX1_clear_5 : decode cX1_clear 5 = .ok (.invokestatic 23, 3) := by decide +kernel
theorem dX1_clear_8 : decode cX1_clear 8 = .ok (.aload_n 0, 1) := by decide +kernel
theorem dX1_clear_9 : decode cX1_clear 9 = .ok (.getfield 17, 3) := by decide +kernel
theorem dX1_clear_12 : decode cX1_clear 12 = .ok (.iconst 0, 1) := by decide +kernel
theorem dX1_clear_13 : decode cX1_clear 13 = .ok (.invokestatic 23, 3) := by decide +kernel
theorem dX1_clear_16 : decode cX1_clear 16 = .ok (.aload_n 0, 1) := by decide +kernel
theorem dX1_clear_17 : decode cX1_clear 17 = .ok (.getfield 20, 3) := by decide +kernel
theorem dX1_clear_20 : decode cX1_clear 20 = .ok (.iconst 0, 1) := by decide +kernel
theorem dX1_clear_21 : decode cX1_clear 21 = .ok (.invokestatic 23, 3) := by decide +kernel
theorem dX1_clear_24 : decode cX1_clear 24 = .ok (.return_, 1) := by decide +kernel
theorem dX1_valuesIn_0 : decode cX1_valuesIn 0 = .ok (.aload_n 0, 1) := by decide +kernel
theorem dX1_valuesIn_1 : decode cX1_valuesIn 1 = .ok (.getfield 13, 3) := by decide +kernel
theorem dX1_valuesIn_4 : decode cX1_valuesIn 4 = .ok (.iload_n 1, 1) := by decide +kernel
theorem dX1_valuesIn_5 : decode cX1_valuesIn 5 = .ok (.iaload, 1) := by decide +kernel
theorem dX1_valuesIn_6 : decode cX1_valuesIn 6 = .ok (.ireturn, 1) := by decide +kernel
theorem dX1_put_0 : decode cX1_put 0 = .ok (.iload_n 3, 1) := by decide +kernel
theorem dX1_put_1 : decode cX1_put 1 = .ok (.aload_n 0, 1) := by decide +kernel
theorem dX1_put_2 : decode cX1_put 2 = .ok (.getfield 17, 3) := by decide +kernel
theorem dX1_put_5 : decode cX1_put 5 = .ok (.iload_n 1, 1) := by decide +kernel
theorem dX1_put_6 : decode cX1_put 6 = .ok (.iaload, 1) := by decide +kernel
theorem dX1_put_7 : decode cX1_put 7 = .ok (.iconst (-1), 1) := by decide +kernel
theorem dX1_put_8 : decode cX1_put 8 = .ok (.ixor, 1) := by decide +kernel
theorem dX1_put_9 : decode cX1_put 9 = .ok (.iand, 1) := by decide +kernel
theorem dX1_put_10 : decode cX1_put 10 = .ok (.istore 4, 2) := by decide +kernel
theorem dX1_put_12 : decode cX1_put 12 = .ok (.aload_n 0, 1) := by decide +kernel
theorem dX1_put_13 : decode cX1_put 13 = .ok (.getfield 13, 3) := by decide +kernel
theorem dX1_put_16 : decode cX1_put 16 = .ok (.iload_n 1, 1) := by decide +kernel
theorem dX1_put_17 : decode cX1_put 17 = .ok (.aload_n 0, 1) := by decide +kernel
theorem dX1_put_18 : decode cX1_put 18 = .ok (.getfield 13, 3) := by decide +kernel
theorem dX1_put_21 : decode cX1_put 21 = .ok (.iload_n 1, 1) := by decide +kernel
theorem dX1_put_22 : decode cX1_put 22 = .ok (.iaload, 1) := by decide +kernel
theorem dX1_put_23 : decode cX1_put 23 = .ok (.iload 4, 2) := by decide +kernel
theorem dX1_put_25 : decode cX1_put 25 = .ok (.iconst (-1), 1) := by decide +kernel
theorem dX1_put_26 : decode cX1_put 26 = .ok (.ixor, 1) := by decide +kernel
theorem dX1_put_27 : decode cX1_put 27 = .ok (.iand, 1) := by decide +kernel
theorem dX1_put_28 : decode cX1_put 28 = .ok (.iload_n 2, 1) := by decide +kernel
theorem dX1_put_29 : decode cX1_put 29 = .ok (.iload 4, 2) := by decide +kernel
theorem dX1_put_31 : decode cX1_put 31 = .ok (.iand, 1) := by decide +kernel
theorem dX1_put_32 : decode cX1_put 32 = .ok (.ior, 1) := by decide +kernel
theorem dX1_put_33 : decode cX1_put 33 = .ok (.iastore, 1) := by decide +kernel
theorem dX1_put_34 : decode cX1_put 34 = .ok (.return_, 1) := by decide +kernel
theorem dX1_turn_0 : decode cX1_turn 0 = .ok (.iload_n 2, 1) := by decide +kernel
theorem dX1_turn_1 : decode cX1_turn 1 = .ok (.aload_n 0, 1) := by decide +kernel
theorem dX1_turn_2 : decode cX1_turn 2 = .ok (.getfield 17, 3) := by decide +kernel
theorem dX1_turn_5 : decode cX1_turn 5 = .ok (.iload_n 1, 1) := by decide +kernel
theorem dX1_turn_6 : decode cX1_turn 6 = .ok (.iaload, 1) := by decide +kernel
theorem dX1_turn_7 : decode cX1_turn 7 = .ok (.iconst (-1), 1) := by decide +kernel
theorem dX1_turn_8 : decode cX1_turn 8 = .ok (.ixor, 1) := by decide +kernel
theorem dX1_turn_9 : decode cX1_turn 9 = .ok (.iand, 1) := by decide +kernel
theorem dX1_turn_10 : decode cX1_turn 10 = .ok (.istore_n 3, 1) := by decide +kernel
theorem dX1_turn_11 : decode cX1_turn 11 = .ok (.aload_n 0, 1) := by decide +kernel
theorem dX1_turn_12 : decode cX1_turn 12 = .ok (.getfield 13, 3) := by decide +kernel
theorem dX1_turn_15 : decode cX1_turn 15 = .ok (.iload_n 1, 1) := by decide +kernel
theorem dX1_turn_16 : decode cX1_turn 16 = .ok (.dup2, 1) := by decide +kernel
theorem dX1_turn_17 : decode cX1_turn 17 = .ok (.iaload, 1) := by decide +kernel
theorem dX1_turn_18 : decode cX1_turn 18 = .ok (.iload_n 3, 1) := by decide +kernel
theorem dX1_turn_19 : decode cX1_turn 19 = .ok (.ixor, 1) := by decide +kernel
theorem dX1_turn_20 : decode cX1_turn 20 = .ok (.iastore, 1) := by decide +kernel
theorem dX1_turn_21 : decode cX1_turn 21 = .ok (.iload_n 3, 1) := by decide +kernel
theorem dX1_turn_22 : decode cX1_turn 22 = .ok (.invokestatic 29, 3) := by decide +kernel
theorem dX1_turn_25 : decode cX1_turn 25 = .ok (.ireturn, 1) := by decide +kernel
theorem dX1_valueAt_0 : decode cX1_valueAt 0 = .ok (.aload_n 0, 1) := by decide +kernel
theorem dX1_valueAt_1 : decode cX1_valueAt 1 = .ok (.getfield 13, 3) := by decide +kernel
theorem dX1_valueAt_4 : decode cX1_valueAt 4 = .ok (.iload_n 1, 1) := by decide +kernel
theorem dX1_valueAt_5 : decode cX1_valueAt 5 = .ok (.iaload, 1) := by decide +kernel
theorem dX1_valueAt_6 : decode cX1_valueAt 6 = .ok (.iload_n 2, 1) := by decide +kernel
theorem dX1_valueAt_7 : decode cX1_valueAt 7 = .ok (.ishr, 1) := by decide +kernel
theorem dX1_valueAt_8 : decode cX1_valueAt 8 = .ok (.iconst 1, 1) := by decide +kernel
theorem dX1_valueAt_9 : decode cX1_valueAt 9 = .ok (.iand, 1) := by decide +kernel
theorem dX1_valueAt_10 : decode cX1_valueAt 10 = .ok (.ireturn, 1) := by decide +kernel
theorem dX1_setValue_0 : decode cX1_setValue 0 = .ok (.aload_n 0, 1) := by decide +kernel
theorem dX1_setValue_1 : decode cX1_setValue 1 = .ok (.getfield 13, 3) := by decide +kernel
theorem dX1_setValue_4 : decode cX1_setValue 4 = .ok (.iload_n 1, 1) := by decide +kernel
theorem dX1_setValue_5 : decode cX1_setValue 5 = .ok (.aload_n 0, 1) := by decide +kernel
theorem dX1_setValue_6 : decode cX1_setValue 6 = .ok (.getfield 13, 3) := by decide +kernel
theorem dX1_setValue_9 : decode cX1_setValue 9 = .ok (.iload_n 1, 1) := by decide +kernel
theorem dX1_setValue_10 : decode cX1_setValue 10 = .ok (.iaload, 1) := by decide +kernel
theorem dX1_setValue_11 : decode cX1_setValue 11 = .ok (.iconst 1, 1) := by decide +kernel
theorem dX1_setValue_12 : decode cX1_setValue 12 = .ok (.iload_n 2, 1) := by decide +kernel
theorem dX1_setValue_13 : decode cX1_setValue 13 = .ok (.ishl, 1) := by decide +kernel
theorem dX1_setValue_14 : decode cX1_setValue 14 = .ok (.iconst (-1), 1) := by decide +kernel
theorem dX1_setValue_15 : decode cX1_setValue 15 = .ok (.ixor, 1) := by decide +kernel
theorem dX1_setValue_16 : decode cX1_setValue 16 = .ok (.iand, 1) := by decide +kernel
theorem dX1_setValue_17 : decode cX1_setValue 17 = .ok (.iload_n 3, 1) := by decide +kernel
theorem dX1_setValue_18 : decode cX1_setValue 18 = .ok (.iload_n 2, 1) := by decide +kernel
theorem dX1_setValue_19 : decode cX1_setValue 19 = .ok (.ishl, 1) := by decide +kernel
theorem dX1_setValue_20 : decode cX1_setValue 20 = .ok (.ior, 1) := by decide +kernel
theorem dX1_setValue_21 : decode cX1_setValue 21 = .ok (.iastore, 1) := by decide +kernel
theorem dX1_setValue_22 : decode cX1_setValue 22 = .ok (.return_, 1) := by decide +kernel
theorem dX1_hold_0 : decode cX1_hold 0 = .ok (.aload_n 0, 1) := by decide +kernel
theorem dX1_hold_1 : decode cX1_hold 1 = .ok (.iload_n 1, 1) := by decide +kernel
theorem dX1_hold_2 : decode cX1_hold 2 = .ok (.iload_n 2, 1) := by decide +kernel
theorem dX1_hold_3 : decode cX1_hold 3 = .ok (.iload_n 3, 1) := by decide +kernel
theorem dX1_hold_4 : decode cX1_hold 4 = .ok (.invokevirtual 35, 3) := by decide +kernel
theorem dX1_hold_7 : decode cX1_hold 7 = .ok (.aload_n 0, 1) := by decide +kernel
theorem dX1_hold_8 : decode cX1_hold 8 = .ok (.getfield 17, 3) := by decide +kernel
theorem dX1_hold_11 : decode cX1_hold 11 = .ok (.iload_n 1, 1) := by decide +kernel
theorem dX1_hold_12 : decode cX1_hold 12 = .ok (.dup2, 1) := by decide +kernel
theorem dX1_hold_13 : decode cX1_hold 13 = .ok (.iaload, 1) := by decide +kernel
theorem dX1_hold_14 : decode cX1_hold 14 = .ok (.iconst 1, 1) := by decide +kernel
theorem dX1_hold_15 : decode cX1_hold 15 = .ok (.iload_n 2, 1) := by decide +kernel
theorem dX1_hold_16 : decode cX1_hold 16 = .ok (.ishl, 1) := by decide +kernel
theorem dX1_hold_17 : decode cX1_hold 17 = .ok (.ior, 1) := by decide +kernel
theorem dX1_hold_18 : decode cX1_hold 18 = .ok (.iastore, 1) := by decide +kernel
theorem dX1_hold_19 : decode cX1_hold 19 = .ok (.return_, 1) := by decide +kernel
theorem dX1_loosen_0 : decode cX1_loosen 0 = .ok (.aload_n 0, 1) := by decide +kernel
theorem dX1_loosen_1 : decode cX1_loosen 1 = .ok (.getfield 17, 3) := by decide +kernel
theorem dX1_loosen_4 : decode cX1_loosen 4 = .ok (.iload_n 1, 1) := by decide +kernel
theorem dX1_loosen_5 : decode cX1_loosen 5 = .ok (.dup2, 1) := by decide +kernel
theorem dX1_loosen_6 : decode cX1_loosen 6 = .ok (.iaload, 1) := by decide +kernel
theorem dX1_loosen_7 : decode cX1_loosen 7 = .ok (.iconst 1, 1) := by decide +kernel
theorem dX1_loosen_8 : decode cX1_loosen 8 = .ok (.iload_n 2, 1) := by decide +kernel
theorem dX1_loosen_9 : decode cX1_loosen 9 = .ok (.ishl, 1) := by decide +kernel
theorem dX1_loosen_10 : decode cX1_loosen 10 = .ok (.iconst (-1), 1) := by decide +kernel
theorem dX1_loosen_11 : decode cX1_loosen 11 = .ok (.ixor, 1) := by decide +kernel
theorem dX1_loosen_12 : decode cX1_loosen 12 = .ok (.iand, 1) := by decide +kernel
theorem dX1_loosen_13 : decode cX1_loosen 13 = .ok (.iastore, 1) := by decide +kernel
theorem dX1_loosen_14 : decode cX1_loosen 14 = .ok (.return_, 1) := by decide +kernel
theorem dX1_addMark_0 : decode cX1_addMark 0 = .ok (.aload_n 0, 1) := by decide +kernel
theorem dX1_addMark_1 : decode cX1_addMark 1 = .ok (.getfield 20, 3) := by decide +kernel
theorem dX1_addMark_4 : decode cX1_addMark 4 = .ok (.iload_n 1, 1) := by decide +kernel
theorem dX1_addMark_5 : decode cX1_addMark 5 = .ok (.bipush 21, 2) := by decide +kernel
theorem dX1_addMark_7 : decode cX1_addMark 7 = .ok (.imul, 1) := by decide +kernel
theorem dX1_addMark_8 : decode cX1_addMark 8 = .ok (.iload_n 2, 1) := by decide +kernel
theorem dX1_addMark_9 : decode cX1_addMark 9 = .ok (.iadd, 1) := by decide +kernel
theorem dX1_addMark_10 : decode cX1_addMark 10 = .ok (.dup2, 1) := by decide +kernel
theorem dX1_addMark_11 : decode cX1_addMark 11 = .ok (.iaload, 1) := by decide +kernel
theorem dX1_addMark_12 : decode cX1_addMark 12 = .ok (.iconst 1, 1) := by decide +kernel
theorem dX1_addMark_13 : decode cX1_addMark 13 = .ok (.iadd, 1) := by decide +kernel
theorem dX1_addMark_14 : decode cX1_addMark 14 = .ok (.iastore, 1) := by decide +kernel
theorem dX1_addMark_15 : decode cX1_addMark 15 = .ok (.return_, 1) := by decide +kernel
theorem dX1_marksAt_0 : decode cX1_marksAt 0 = .ok (.aload_n 0, 1) := by decide +kernel
theorem dX1_marksAt_1 : decode cX1_marksAt 1 = .ok (.getfield 20, 3) := by decide +kernel
theorem dX1_marksAt_4 : decode cX1_marksAt 4 = .ok (.iload_n 1, 1) := by decide +kernel
theorem dX1_marksAt_5 : decode cX1_marksAt 5 = .ok (.bipush 21, 2) := by decide +kernel
theorem dX1_marksAt_7 : decode cX1_marksAt 7 = .ok (.imul, 1) := by decide +kernel
theorem dX1_marksAt_8 : decode cX1_marksAt 8 = .ok (.iload_n 2, 1) := by decide +kernel
theorem dX1_marksAt_9 : decode cX1_marksAt 9 = .ok (.iadd, 1) := by decide +kernel
theorem dX1_marksAt_10 : decode cX1_marksAt 10 = .ok (.iaload, 1) := by decide +kernel
theorem dX1_marksAt_11 : decode cX1_marksAt 11 = .ok (.ireturn, 1) := by decide +kernel
theorem dX1_isBad_0 : decode cX1_isBad 0 = .ok (.aload_n 0, 1) := by decide +kernel
theorem dX1_isBad_1 : decode cX1_isBad 1 = .ok (.iload_n 1, 1) := by decide +kernel
theorem dX1_isBad_2 : decode cX1_isBad 2 = .ok (.iload_n 2, 1) := by decide +kernel
theorem dX1_isBad_3 : decode cX1_isBad 3 = .ok (.invokevirtual 39, 3) := by decide +kernel
theorem dX1_isBad_6 : decode cX1_isBad 6 = .ok (.iconst 2, 1) := by decide +kernel
theorem dX1_isBad_7 : decode cX1_isBad 7 = .ok (.if_icmp .lt 7, 3) := by decide +kernel
theorem dX1_isBad_10 : decode cX1_isBad 10 = .ok (.iconst 1, 1) := by decide +kernel
theorem dX1_isBad_11 : decode cX1_isBad 11 = .ok (.goto 4, 3) := by decide +kernel
theorem dX1_isBad_14 : decode cX1_isBad 14 = .ok (.iconst 0, 1) := by decide +kernel
theorem dX1_isBad_15 : decode cX1_isBad 15 = .ok (.ireturn, 1) := by decide +kernel
theorem dX1_renewCell_0 : decode cX1_renewCell 0 = .ok (.aload_n 0, 1) := by decide +kernel
theorem dX1_renewCell_1 : decode cX1_renewCell 1 = .ok (.iload_n 1, 1) := by decide +kernel
theorem dX1_renewCell_2 : decode cX1_renewCell 2 = .ok (.iload_n 2, 1) := by decide +kernel
theorem dX1_renewCell_3 : decode cX1_renewCell 3 = .ok (.iload_n 3, 1) := by decide +kernel
theorem dX1_renewCell_4 : decode cX1_renewCell 4 = .ok (.invokevirtual 35, 3) := by decide +kernel
theorem dX1_renewCell_7 : decode cX1_renewCell 7 = .ok (.aload_n 0, 1) := by decide +kernel
theorem dX1_renewCell_8 : decode cX1_renewCell 8 = .ok (.iload_n 1, 1) := by decide +kernel
theorem dX1_renewCell_9 : decode cX1_renewCell 9 = .ok (.iload_n 2, 1) := by decide +kernel
theorem dX1_renewCell_10 : decode cX1_renewCell 10 = .ok (.invokevirtual 43, 3) := by decide +kernel
theorem dX1_renewCell_13 : decode cX1_renewCell 13 = .ok (.aload_n 0, 1) := by decide +kernel
theorem dX1_renewCell_14 : decode cX1_renewCell 14 = .ok (.getfield 20, 3) := by decide +kernel
theorem dX1_renewCell_17 : decode cX1_renewCell 17 = .ok (.iload_n 1, 1) := by decide +kernel
theorem dX1_renewCell_18 : decode cX1_renewCell 18 = .ok (.bipush 21, 2) := by decide +kernel
theorem dX1_renewCell_20 : decode cX1_renewCell 20 = .ok (.imul, 1) := by decide +kernel
theorem dX1_renewCell_21 : decode cX1_renewCell 21 = .ok (.iload_n 2, 1) := by decide +kernel
theorem dX1_renewCell_22 : decode cX1_renewCell 22 = .ok (.iadd, 1) := by decide +kernel
theorem dX1_renewCell_23 : decode cX1_renewCell 23 = .ok (.iconst 0, 1) := by decide +kernel
theorem dX1_renewCell_24 : decode cX1_renewCell 24 = .ok (.iastore, 1) := by decide +kernel
theorem dX1_renewCell_25 : decode cX1_renewCell 25 = .ok (.return_, 1) := by decide +kernel
theorem dX1_copyPlace_0 : decode cX1_copyPlace 0 = .ok (.iconst 0, 1) := by decide +kernel
theorem dX1_copyPlace_1 : decode cX1_copyPlace 1 = .ok (.istore_n 3, 1) := by decide +kernel
theorem dX1_copyPlace_2 : decode cX1_copyPlace 2 = .ok (.iload_n 3, 1) := by decide +kernel
theorem dX1_copyPlace_3 : decode cX1_copyPlace 3 = .ok (.bipush 24, 2) := by decide +kernel
theorem dX1_copyPlace_5 : decode cX1_copyPlace 5 = .ok (.if_icmp .ge 21, 3) := by decide +kernel
theorem dX1_copyPlace_8 : decode cX1_copyPlace 8 = .ok (.aload_n 0, 1) := by decide +kernel
theorem dX1_copyPlace_9 : decode cX1_copyPlace 9 = .ok (.iload_n 3, 1) := by decide +kernel
theorem dX1_copyPlace_10 : decode cX1_copyPlace 10 = .ok (.iload_n 2, 1) := by decide +kernel
theorem dX1_copyPlace_11 : decode cX1_copyPlace 11 = .ok (.aload_n 0, 1) := by decide +kernel
theorem dX1_copyPlace_12 : decode cX1_copyPlace 12 = .ok (.iload_n 3, 1) := by decide +kernel
theorem dX1_copyPlace_13 : decode cX1_copyPlace 13 = .ok (.iload_n 1, 1) := by decide +kernel
theorem dX1_copyPlace_14 : decode cX1_copyPlace 14 = .ok (.invokevirtual 47, 3) := by decide +kernel
theorem dX1_copyPlace_17 : decode cX1_copyPlace 17 = .ok (.invokevirtual 50, 3) := by decide +kernel
theorem dX1_copyPlace_20 : decode cX1_copyPlace 20 = .ok (.iinc 3 1, 3) := by decide +kernel
theorem dX1_copyPlace_23 : decode cX1_copyPlace 23 = .ok (.goto (-21), 3) := by decide +kernel
theorem dX1_copyPlace_26 : decode cX1_copyPlace 26 = .ok (.return_, 1) := by decide +kernel
theorem dX1_copyFrame_0 : decode cX1_copyFrame 0 = .ok (.iconst 0, 1) := by decide +kernel
theorem dX1_copyFrame_1 : decode cX1_copyFrame 1 = .ok (.istore_n 3, 1) := by decide +kernel
theorem dX1_copyFrame_2 : decode cX1_copyFrame 2 = .ok (.iload_n 3, 1) := by decide +kernel
theorem dX1_copyFrame_3 : decode cX1_copyFrame 3 = .ok (.iconst 4, 1) := by decide +kernel
theorem dX1_copyFrame_4 : decode cX1_copyFrame 4 = .ok (.if_icmp .ge 55, 3) := by decide +kernel
theorem dX1_copyFrame_7 : decode cX1_copyFrame 7 = .ok (.iload_n 1, 1) := by decide +kernel
theorem dX1_copyFrame_8 : decode cX1_copyFrame 8 = .ok (.iconst 4, 1) := by decide +kernel
theorem dX1_copyFrame_9 : decode cX1_copyFrame 9 = .ok (.imul, 1) := by decide +kernel
theorem dX1_copyFrame_10 : decode cX1_copyFrame 10 = .ok (.iload_n 3, 1) := by decide +kernel
theorem dX1_copyFrame_11 : decode cX1_copyFrame 11 = .ok (.iadd, 1) := by decide +kernel
theorem dX1_copyFrame_12 : decode cX1_copyFrame 12 = .ok (.istore 4, 2) := by decide +kernel
theorem dX1_copyFrame_14 : decode cX1_copyFrame 14 = .ok (.iload_n 2, 1) := by decide +kernel
theorem dX1_copyFrame_15 : decode cX1_copyFrame 15 = .ok (.iconst 4, 1) := by decide +kernel
theorem dX1_copyFrame_16 : decode cX1_copyFrame 16 = .ok (.imul, 1) := by decide +kernel
theorem dX1_copyFrame_17 : decode cX1_copyFrame 17 = .ok (.iload_n 3, 1) := by decide +kernel
theorem dX1_copyFrame_18 : decode cX1_copyFrame 18 = .ok (.iadd, 1) := by decide +kernel
theorem dX1_copyFrame_19 : decode cX1_copyFrame 19 = .ok (.istore 5, 2) := by decide +kernel
theorem dX1_copyFrame_21 : decode cX1_copyFrame 21 = .ok (.iconst 0, 1) := by decide +kernel
theorem dX1_copyFrame_22 : decode cX1_copyFrame 22 = .ok (.istore 6, 2) := by decide +kernel
theorem dX1_copyFrame_24 : decode cX1_copyFrame 24 = .ok (.iload 6, 2) := by decide +kernel
theorem dX1_copyFrame_26 : decode cX1_copyFrame 26 = .ok (.bipush 21, 2) := by decide +kernel
theorem dX1_copyFrame_28 : decode cX1_copyFrame 28 = .ok (.if_icmp .ge 25, 3) := by decide +kernel
theorem dX1_copyFrame_31 : decode cX1_copyFrame 31 = .ok (.aload_n 0, 1) := by decide +kernel
theorem dX1_copyFrame_32 : decode cX1_copyFrame 32 = .ok (.iload 5, 2) := by decide +kernel
theorem dX1_copyFrame_34 : decode cX1_copyFrame 34 = .ok (.iload 6, 2) := by decide +kernel
theorem dX1_copyFrame_36 : decode cX1_copyFrame 36 = .ok (.aload_n 0, 1) := by decide +kernel
theorem dX1_copyFrame_37 : decode cX1_copyFrame 37 = .ok (.iload 4, 2) := by decide +kernel
theorem dX1_copyFrame_39 : decode cX1_copyFrame 39 = .ok (.iload 6, 2) := by decide +kernel
theorem dX1_copyFrame_41 : decode cX1_copyFrame 41 = .ok (.invokevirtual 47, 3) := by decide +kernel
theorem dX1_copyFrame_44 : decode cX1_copyFrame 44 = .ok (.invokevirtual 50, 3) := by decide +kernel
theorem dX1_copyFrame_47 : decode cX1_copyFrame 47 = .ok (.iinc 6 1, 3) := by decide +kernel
theorem dX1_copyFrame_50 : decode cX1_copyFrame 50 = .ok (.goto (-26), 3) := by decide +kernel
theorem dX1_copyFrame_53 : decode cX1_copyFrame 53 = .ok (.iinc 3 1, 3) := by decide +kernel
theorem dX1_copyFrame_56 : decode cX1_copyFrame 56 = .ok (.goto (-54), 3) := by decide +kernel
theorem dX1_copyFrame_59 : decode cX1_copyFrame 59 = .ok (.return_, 1) := by decide +kernel
theorem dX1_badInPlace_0 : decode cX1_badInPlace 0 = .ok (.iconst 0, 1) := by decide +kernel
theorem dX1_badInPlace_1 : decode cX1_badInPlace 1 = .ok (.istore_n 2, 1) := by decide +kernel
theorem dX1_badInPlace_2 : decode cX1_badInPlace 2 = .ok (.iconst 0, 1) := by decide +kernel
theorem dX1_badInPlace_3 : decode cX1_badInPlace 3 = .ok (.istore_n 3, 1) := by decide +kernel
theorem dX1_badInPlace_4 : decode cX1_badInPlace 4 = .ok (.iload_n 3, 1) := by decide +kernel
theorem dX1_badInPlace_5 : decode cX1_badInPlace 5 = .ok (.bipush 24, 2) := by decide +kernel
theorem dX1_badInPlace_7 : decode cX1_badInPlace 7 = .ok (.if_icmp .ge 21, 3) := by decide +kernel
theorem dX1_badInPlace_10 : decode cX1_badInPlace 10 = .ok (.aload_n 0, 1) := by decide +kernel
theorem dX1_badInPlace_11 : decode cX1_badInPlace 11 = .ok (.iload_n 3, 1) := by decide +kernel
theorem dX1_badInPlace_12 : decode cX1_badInPlace 12 = .ok (.iload_n 1, 1) := by decide +kernel
theorem dX1_badInPlace_13 : decode cX1_badInPlace 13 = .ok (.invokevirtual 53, 3) := by decide +kernel
theorem dX1_badInPlace_16 : decode cX1_badInPlace 16 = .ok (.ifCond .eq 6, 3) := by decide +kernel
theorem dX1_badInPlace_19 : decode cX1_badInPlace 19 = .ok (.iinc 2 1, 3) := by decide +kernel
theorem dX1_badInPlace_22 : decode cX1_badInPlace 22 = .ok (.iinc 3 1, 3) := by decide +kernel
theorem dX1_badInPlace_25 : decode cX1_badInPlace 25 = .ok (.goto (-21), 3) := by decide +kernel
theorem dX1_badInPlace_28 : decode cX1_badInPlace 28 = .ok (.iload_n 2, 1) := by decide +kernel
theorem dX1_badInPlace_29 : decode cX1_badInPlace 29 = .ok (.ireturn, 1) := by decide +kernel
theorem dX1_badInFrame_0 : decode cX1_badInFrame 0 = .ok (.iconst 0, 1) := by decide +kernel
theorem dX1_badInFrame_1 : decode cX1_badInFrame 1 = .ok (.istore_n 3, 1) := by decide +kernel
theorem dX1_badInFrame_2 : decode cX1_badInFrame 2 = .ok (.iconst 0, 1) := by decide +kernel
theorem dX1_badInFrame_3 : decode cX1_badInFrame 3 = .ok (.istore 4, 2) := by decide +kernel
theorem dX1_badInFrame_5 : decode cX1_badInFrame 5 = .ok (.iload 4, 2) := by decide +kernel
theorem dX1_badInFrame_7 : decode cX1_badInFrame 7 = .ok (.iconst 4, 1) := by decide +kernel
theorem dX1_badInFrame_8 : decode cX1_badInFrame 8 = .ok (.if_icmp .ge 52, 3) := by decide +kernel
theorem dX1_badInFrame_11 : decode cX1_badInFrame 11 = .ok (.iconst 0, 1) := by decide +kernel
theorem dX1_badInFrame_12 : decode cX1_badInFrame 12 = .ok (.istore 5, 2) := by decide +kernel
theorem dX1_badInFrame_14 : decode cX1_badInFrame 14 = .ok (.iload 5, 2) := by decide +kernel
theorem dX1_badInFrame_16 : decode cX1_badInFrame 16 = .ok (.bipush 21, 2) := by decide +kernel
theorem dX1_badInFrame_18 : decode cX1_badInFrame 18 = .ok (.if_icmp .ge 36, 3) := by decide +kernel
theorem dX1_badInFrame_21 : decode cX1_badInFrame 21 = .ok (.iload_n 2, 1) := by decide +kernel
theorem dX1_badInFrame_22 : decode cX1_badInFrame 22 = .ok (.iload 5, 2) := by decide +kernel
theorem dX1_badInFrame_24 : decode cX1_badInFrame 24 = .ok (.ishr, 1) := by decide +kernel
theorem dX1_badInFrame_25 : decode cX1_badInFrame 25 = .ok (.iconst 1, 1) := by decide +kernel
theorem dX1_badInFrame_26 : decode cX1_badInFrame 26 = .ok (.iand, 1) := by decide +kernel
theorem dX1_badInFrame_27 : decode cX1_badInFrame 27 = .ok (.ifCond .eq 21, 3) := by decide +kernel
theorem dX1_badInFrame_30 : decode cX1_badInFrame 30 = .ok (.aload_n 0, 1) := by decide +kernel
theorem dX1_badInFrame_31 : decode cX1_badInFrame 31 = .ok (.iload_n 1, 1) := by decide +kernel
theorem dX1_badInFrame_32 : decode cX1_badInFrame 32 = .ok (.iconst 4, 1) := by decide +kernel
theorem dX1_badInFrame_33 : decode cX1_badInFrame 33 = .ok (.imul, 1) := by decide +kernel
theorem dX1_badInFrame_34 : decode cX1_badInFrame 34 = .ok (.iload 4, 2) := by decide +kernel
theorem dX1_badInFrame_36 : decode cX1_badInFrame 36 = .ok (.iadd, 1) := by decide +kernel
theorem dX1_badInFrame_37 : decode cX1_badInFrame 37 = .ok (.iload 5, 2) := by decide +kernel
theorem dX1_badInFrame_39 : decode cX1_badInFrame 39 = .ok (.invokevirtual 53, 3) := by decide +kernel
theorem dX1_badInFrame_42 : decode cX1_badInFrame 42 = .ok (.ifCond .eq 6, 3) := by decide +kernel
theorem dX1_badInFrame_45 : decode cX1_badInFrame 45 = .ok (.iinc 3 1, 3) := by decide +kernel
theorem dX1_badInFrame_48 : decode cX1_badInFrame 48 = .ok (.iinc 5 1, 3) := by decide +kernel
theorem dX1_badInFrame_51 : decode cX1_badInFrame 51 = .ok (.goto (-37), 3) := by decide +kernel
theorem dX1_badInFrame_54 : decode cX1_badInFrame 54 = .ok (.iinc 4 1, 3) := by decide +kernel
theorem dX1_badInFrame_57 : decode cX1_badInFrame 57 = .ok (.goto (-52), 3) := by decide +kernel
theorem dX1_badInFrame_60 : decode cX1_badInFrame 60 = .ok (.iload_n 3, 1) := by decide +kernel
theorem dX1_badInFrame_61 : decode cX1_badInFrame 61 = .ok (.ireturn, 1) := by decide +kernel
theorem dX1_stuckInFrame_0 : decode cX1_stuckInFrame 0 = .ok (.iconst 0, 1) := by decide +kernel
theorem dX1_stuckInFrame_1 : decode cX1_stuckInFrame 1 = .ok (.istore_n 3, 1) := by decide +kernel
theorem dX1_stuckInFrame_2 : decode cX1_stuckInFrame 2 = .ok (.iconst 0, 1) := by decide +kernel
theorem dX1_stuckInFrame_3 : decode cX1_stuckInFrame 3 = .ok (.istore 4, 2) := by decide +kernel
theorem dX1_stuckInFrame_5 : decode cX1_stuckInFrame 5 = .ok (.iload 4, 2) := by decide +kernel
theorem dX1_stuckInFrame_7 : decode cX1_stuckInFrame 7 = .ok (.iconst 4, 1) := by decide +kernel
theorem dX1_stuckInFrame_8 : decode cX1_stuckInFrame 8 = .ok (.if_icmp .ge 28, 3) := by decide +kernel
theorem dX1_stuckInFrame_11 : decode cX1_stuckInFrame 11 = .ok (.iload_n 3, 1) := by decide +kernel
theorem dX1_stuckInFrame_12 : decode cX1_stuckInFrame 12 = .ok (.aload_n 0, 1) := by decide +kernel
theorem dX1_stuckInFrame_13 : decode cX1_stuckInFrame 13 = .ok (.getfield 17, 3) := by decide +kernel
theorem dX1_stuckInFrame_16 : decode cX1_stuckInFrame 16 = .ok (.iload_n 1, 1) := by decide +kernel
theorem dX1_stuckInFrame_17 : decode cX1_stuckInFrame 17 = .ok (.iconst 4, 1) := by decide +kernel
theorem dX1_stuckInFrame_18 : decode cX1_stuckInFrame 18 = .ok (.imul, 1) := by decide +kernel
theorem dX1_stuckInFrame_19 : decode cX1_stuckInFrame 19 = .ok (.iload 4, 2) := by decide +kernel
theorem dX1_stuckInFrame_21 : decode cX1_stuckInFrame 21 = .ok (.iadd, 1) := by decide +kernel
theorem dX1_stuckInFrame_22 : decode cX1_stuckInFrame 22 = .ok (.iaload, 1) := by decide +kernel
theorem dX1_stuckInFrame_23 : decode cX1_stuckInFrame 23 = .ok (.iload_n 2, 1) := by decide +kernel
theorem dX1_stuckInFrame_24 : decode cX1_stuckInFrame 24 = .ok (.iand, 1) := by decide +kernel
theorem dX1_stuckInFrame_25 : decode cX1_stuckInFrame 25 = .ok (.invokestatic 29, 3) := by decide +kernel
theorem dX1_stuckInFrame_28 : decode cX1_stuckInFrame 28 = .ok (.iadd, 1) := by decide +kernel
theorem dX1_stuckInFrame_29 : decode cX1_stuckInFrame 29 = .ok (.istore_n 3, 1) := by decide +kernel
theorem dX1_stuckInFrame_30 : decode cX1_stuckInFrame 30 = .ok (.iinc 4 1, 3) := by decide +kernel
theorem dX1_stuckInFrame_33 : decode cX1_stuckInFrame 33 = .ok (.goto (-28), 3) := by decide +kernel
theorem dX1_stuckInFrame_36 : decode cX1_stuckInFrame 36 = .ok (.iload_n 3, 1) := by decide +kernel
theorem dX1_stuckInFrame_37 : decode cX1_stuckInFrame 37 = .ok (.ireturn, 1) := by decide +kernel
theorem dX2_init_0 : decode cX2_init 0 = .ok (.aload_n 0, 1) := by decide +kernel
theorem dX2_init_1 : decode cX2_init 1 = .ok (.invokespecial 3, 3) := by decide +kernel
theorem dX2_init_4 : decode cX2_init 4 = .ok (.aload_n 0, 1) := by decide +kernel
theorem dX2_init_5 : decode cX2_init 5 = .ok (.bipush 20, 2) := by decide +kernel
theorem dX2_init_7 : decode cX2_init 7 = .ok (.newarray .int, 2) := by decide +kernel
theorem dX2_init_9 : decode cX2_init 9 = .ok (.putfield 11, 3) := by decide +kernel
theorem dX2_init_12 : decode cX2_init 12 = .ok (.aload_n 0, 1) := by decide +kernel
theorem dX2_init_13 : decode cX2_init 13 = .ok (.bipush 6, 2) := by decide +kernel
theorem dX2_init_15 : decode cX2_init 15 = .ok (.newarray .int, 2) := by decide +kernel
theorem dX2_init_17 : decode cX2_init 17 = .ok (.putfield 15, 3) := by decide +kernel
theorem dX2_init_20 : decode cX2_init 20 = .ok (.aload_n 0, 1) := by decide +kernel
theorem dX2_init_21 : decode cX2_init 21 = .ok (.bipush 64, 2) := by decide +kernel
theorem dX2_init_23 : decode cX2_init 23 = .ok (.newarray .int, 2) := by decide +kernel
theorem dX2_init_25 : decode cX2_init 25 = .ok (.putfield 18, 3) := by decide +kernel
theorem dX2_init_28 : decode cX2_init 28 = .ok (.return_, 1) := by decide +kernel
theorem dX2_allows_0 : decode cX2_allows 0 = .ok (.iload_n 1, 1) := by decide +kernel
theorem dX2_allows_1 : decode cX2_allows 1 = .ok (.iconst 4, 1) := by decide +kernel
theorem dX2_allows_2 : decode cX2_allows 2 = .ok (.if_icmp .lt 29, 3) := by decide +kernel
theorem dX2_allows_5 : decode cX2_allows 5 = .ok (.iload_n 1, 1) := by decide +kernel
theorem dX2_allows_6 : decode cX2_allows 6 = .ok (.bipush 6, 2) := by decide +kernel
theorem dX2_allows_8 : decode cX2_allows 8 = .ok (.if_icmp .gt 23, 3) := by decide +kernel
theorem dX2_allows_11 : decode cX2_allows 11 = .ok (.iload_n 0, 1) := by decide +kernel
theorem dX2_allows_12 : decode cX2_allows 12 = .ok (.iconst 1, 1) := by decide +kernel
theorem dX2_allows_13 : decode cX2_allows 13 = .ok (.if_icmp .lt 18, 3) := by decide +kernel
theorem dX2_allows_16 : decode cX2_allows 16 = .ok (.iload_n 0, 1) := by decide +kernel
theorem dX2_allows_17 : decode cX2_allows 17 = .ok (.getstatic 21, 3) := by decide +kernel
theorem dX2_allows_20 : decode cX2_allows 20 = .ok (.iload_n 1, 1) := by decide +kernel
theorem dX2_allows_21 : decode cX2_allows 21 = .ok (.iconst 4, 1) := by decide +kernel
theorem dX2_allows_22 : decode cX2_allows 22 = .ok (.isub, 1) := by decide +kernel
theorem dX2_allows_23 : decode cX2_allows 23 = .ok (.iaload, 1) := by decide +kernel
theorem dX2_allows_24 : decode cX2_allows 24 = .ok (.if_icmp .gt 7, 3) := by decide +kernel
theorem dX2_allows_27 : decode cX2_allows 27 = .ok (.iconst 1, 1) := by decide +kernel
theorem dX2_allows_28 : decode cX2_allows 28 = .ok (.goto 4, 3) := by decide +kernel
theorem dX2_allows_31 : decode cX2_allows 31 = .ok (.iconst 0, 1) := by decide +kernel
theorem dX2_allows_32 : decode cX2_allows 32 = .ok (.ireturn, 1) := by decide +kernel
theorem dX2_choose_0 : decode cX2_choose 0 = .ok (.aload_n 0, 1) := by decide +kernel
theorem dX2_choose_1 : decode cX2_choose 1 = .ok (.iload_n 1, 1) := by decide +kernel
theorem dX2_choose_2 : decode cX2_choose 2 = .ok (.putfield 24, 3) := by decide +kernel
theorem dX2_choose_5 : decode cX2_choose 5 = .ok (.aload_n 0, 1) := by decide +kernel
theorem dX2_choose_6 : decode cX2_choose 6 = .ok (.iload_n 2, 1) := by decide +kernel
theorem dX2_choose_7 : decode cX2_choose 7 = .ok (.putfield 28, 3) := by decide +kernel
theorem dX2_choose_10 : decode cX2_choose 10 = .ok (.aload_n 0, 1) := by decide +kernel
theorem dX2_choose_11 : decode cX2_choose 11 = .ok (.getfield 15, 3) := by decide +kernel
theorem dX2_choose_14 : decode cX2_choose 14 = .ok (.iconst 0, 1) := by decide +kernel
theorem dX2_choose_15 : decode cX2_choose 15 = .ok (.invokestatic 31, 3) := by decide +kernel
theorem dX2_choose_18 : decode cX2_choose 18 = .ok (.aload_n 0, 1) := by decide +kernel
theorem dX2_choose_19 : decode cX2_choose 19 = .ok (.getfield 18, 3) := by decide +kernel
theorem dX2_choose_22 : decode cX2_choose 22 = .ok (.bipush (-9), 2) := by decide +kernel
theorem dX2_choose_24 : decode cX2_choose 24 = .ok (.invokestatic 31, 3) := by decide +kernel
theorem dX2_choose_27 : decode cX2_choose 27 = .ok (.iconst 0, 1) := by decide +kernel
theorem dX2_choose_28 : decode cX2_choose 28 = .ok (.istore_n 3, 1) := by decide +kernel
theorem dX2_choose_29 : decode cX2_choose 29 = .ok (.iload_n 3, 1) := by decide +kernel
theorem dX2_choose_30 : decode cX2_choose 30 = .ok (.iload_n 1, 1) := by decide +kernel
theorem dX2_choose_31 : decode cX2_choose 31 = .ok (.if_icmp .ge 54, 3) := by decide +kernel
theorem dX2_choose_34 : decode cX2_choose 34 = .ok (.aload_n 0, 1) := by decide +kernel
theorem dX2_choose_35 : decode cX2_choose 35 = .ok (.invokevirtual 37, 3) := by decide +kernel
theorem dX2_choose_38 : decode cX2_choose 38 = .ok (.istore 4, 2) := by decide +kernel
theorem dX2_choose_40 : decode cX2_choose 40 = .ok (.aload_n 0, 1) := by decide +kernel
theorem dX2_choose_41 : decode cX2_choose 41 = .ok (.iload_n 3, 1) := by decide +kernel
theorem dX2_choose_42 : decode cX2_choose 42 = .ok (.iload 4, 2) := by decide +kernel
theorem dX2_choose_44 : decode cX2_choose 44 = .ok (.invokevirtual 41, 3) := by decide +kernel
theorem dX2_choose_47 : decode cX2_choose 47 = .ok (.iconst 0, 1) := by decide +kernel
theorem dX2_choose_48 : decode cX2_choose 48 = .ok (.istore 5, 2) := by decide +kernel
theorem dX2_choose_50 : decode cX2_choose 50 = .ok (.iload 5, 2) := by decide +kernel
theorem dX2_choose_52 : decode cX2_choose 52 = .ok (.iload_n 2, 1) := by decide +kernel
theorem dX2_choose_53 : decode cX2_choose 53 = .ok (.if_icmp .ge 26, 3) := by decide +kernel
theorem dX2_choose_56 : decode cX2_choose 56 = .ok (.aload_n 0, 1) := by decide +kernel
theorem dX2_choose_57 : decode cX2_choose 57 = .ok (.getfield 15, 3) := by decide +kernel
theorem dX2_choose_60 : decode cX2_choose 60 = .ok (.iload 5, 2) := by decide +kernel
theorem dX2_choose_62 : decode cX2_choose 62 = .ok (.dup2, 1) := by decide +kernel
theorem dX2_choose_63 : decode cX2_choose 63 = .ok (.iaload, 1) := by decide +kernel
theorem dX2_choose_64 : decode cX2_choose 64 = .ok (.iload 4, 2) := by decide +kernel
theorem dX2_choose_66 : decode cX2_choose 66 = .ok (.iload 5, 2) := by decide +kernel
theorem dX2_choose_68 : decode cX2_choose 68 = .ok (.ishr, 1) := by decide +kernel
theorem dX2_choose_69 : decode cX2_choose 69 = .ok (.iconst 1, 1) := by decide +kernel
theorem dX2_choose_70 : decode cX2_choose 70 = .ok (.iand, 1) := by decide +kernel
theorem dX2_choose_71 : decode cX2_choose 71 = .ok (.iadd, 1) := by decide +kernel
theorem dX2_choose_72 : decode cX2_choose 72 = .ok (.iastore, 1) := by decide +kernel
theorem dX2_choose_73 : decode cX2_choose 73 = .ok (.iinc 5 1, 3) := by decide +kernel
theorem dX2_choose_76 : decode cX2_choose 76 = .ok (.goto (-26), 3) := by decide +kernel
theorem dX2_choose_79 : decode cX2_choose 79 = .ok (.iinc 3 1, 3) := by decide +kernel
theorem dX2_choose_82 : decode cX2_choose 82 = .ok (.goto (-53), 3) := by decide +kernel
theorem dX2_choose_85 : decode cX2_choose 85 = .ok (.iconst 0, 1) := by decide +kernel
theorem dX2_choose_86 : decode cX2_choose 86 = .ok (.istore_n 3, 1) := by decide +kernel
theorem dX2_choose_87 : decode cX2_choose 87 = .ok (.iload_n 3, 1) := by decide +kernel
theorem dX2_choose_88 : decode cX2_choose 88 = .ok (.iload_n 2, 1) := by decide +kernel
theorem dX2_choose_89 : decode cX2_choose 89 = .ok (.if_icmp .ge 19, 3) := by decide +kernel
theorem dX2_choose_92 : decode cX2_choose 92 = .ok (.aload_n 0, 1) := by decide +kernel
theorem dX2_choose_93 : decode cX2_choose 93 = .ok (.iload_n 1, 1) := by decide +kernel
theorem dX2_choose_94 : decode cX2_choose 94 = .ok (.iload_n 3, 1) := by decide +kernel
theorem dX2_choose_95 : decode cX2_choose 95 = .ok (.iadd, 1) := by decide +kernel
theorem dX2_choose_96 : decode cX2_choose 96 = .ok (.iconst 1, 1) := by decide +kernel
theorem dX2_choose_97 : decode cX2_choose 97 = .ok (.iload_n 3, 1) := by decide +kernel
theorem dX2_choose_98 : decode cX2_choose 98 = .ok (.ishl, 1) := by decide +kernel
theorem dX2_choose_99 : decode cX2_choose 99 = .ok (.invokevirtual 41, 3) := by decide +kernel
theorem dX2_choose_102 : decode cX2_choose 102 = .ok (.iinc 3 1, 3) := by decide +kernel
theorem dX2_choose_105 : decode cX2_choose 105 = .ok (.goto (-18), 3) := by decide +kernel
theorem dX2_choose_108 : decode cX2_choose 108 = .ok (.return_, 1) := by decide +kernel
theorem dX2_give_0 : decode cX2_give 0 = .ok (.aload_n 0, 1) := by decide +kernel
theorem dX2_give_1 : decode cX2_give 1 = .ok (.getfield 11, 3) := by decide +kernel
theorem dX2_give_4 : decode cX2_give 4 = .ok (.iload_n 1, 1) := by decide +kernel
theorem dX2_give_5 : decode cX2_give 5 = .ok (.iload_n 2, 1) := by decide +kernel
theorem dX2_give_6 : decode cX2_give 6 = .ok (.iastore, 1) := by decide +kernel
theorem dX2_give_7 : decode cX2_give 7 = .ok (.aload_n 0, 1) := by decide +kernel
theorem dX2_give_8 : decode cX2_give 8 = .ok (.getfield 18, 3) := by decide +kernel
theorem dX2_give_11 : decode cX2_give 11 = .ok (.iload_n 2, 1) := by decide +kernel
theorem dX2_give_12 : decode cX2_give 12 = .ok (.iload_n 1, 1) := by decide +kernel
theorem dX2_give_13 : decode cX2_give 13 = .ok (.iastore, 1) := by decide +kernel
theorem dX2_give_14 : decode cX2_give 14 = .ok (.return_, 1) := by decide +kernel
theorem dX2_bestFreeColumn_0 : decode cX2_bestFreeColumn 0 = .ok (.iconst 0, 1) := by decide +kernel
theorem dX2_bestFreeColumn_1 : decode cX2_bestFreeColumn 1 = .ok (.istore_n 1, 1) := by decide +kernel
theorem dX2_bestFreeColumn_2 : decode cX2_bestFreeColumn 2 = .ok (.iconst 0, 1) := by decide +kernel
theorem dX2_bestFreeColumn_3 : decode cX2_bestFreeColumn 3 = .ok (.istore_n 2, 1) := by decide +kernel
theorem dX2_bestFreeColumn_4 : decode cX2_bestFreeColumn 4 = .ok (.iconst 0, 1) := by decide +kernel
theorem dX2_bestFreeColumn_5 : decode cX2_bestFreeColumn 5 = .ok (.istore_n 3, 1) := by decide +kernel
theorem dX2_bestFreeColumn_6 : decode cX2_bestFreeColumn 6 = .ok (.iconst 1, 1) := by decide +kernel
theorem dX2_bestFreeColumn_7 : decode cX2_bestFreeColumn 7 = .ok (.istore 4, 2) := by decide +kernel
theorem dX2_bestFreeColumn_9 : decode cX2_bestFreeColumn 9 = .ok (.iload 4, 2) := by decide +kernel
theorem dX2_bestFreeColumn_11 : decode cX2_bestFreeColumn 11 = .ok (.iconst 1, 1) := by decide +kernel
theorem dX2_bestFreeColumn_12 : decode cX2_bestFreeColumn 12 = .ok (.aload_n 0, 1) := by decide +kernel
theorem dX2_bestFreeColumn_13 : decode cX2_bestFreeColumn 13 = .ok (.getfield 28, 3) := by decide +kernel
theorem dX2_bestFreeColumn_16 : decode cX2_bestFreeColumn 16 = .ok (.ishl, 1) := by decide +kernel
theorem dX2_bestFreeColumn_17 : decode cX2_bestFreeColumn 17 = .ok (.if_icmp .ge 82, 3) := by decide +kernel
theorem dX2_bestFreeColumn_20 : decode cX2_bestFreeColumn 20 = .ok (.iload 4, 2) := by decide +kernel
theorem dX2_bestFreeColumn_22 : decode cX2_bestFreeColumn 22 = .ok (.invokestatic 45, 3) := by decide +kernel
theorem dX2_bestFreeColumn_25 : decode cX2_bestFreeColumn 25 = .ok (.istore 5, 2) := by decide +kernel
theorem dX2_bestFreeColumn_27 : decode cX2_bestFreeColumn 27 = .ok (.iload 5, 2) := by decide +kernel
theorem dX2_bestFreeColumn_29 : decode cX2_bestFreeColumn 29 = .ok (.iconst 3, 1) := by decide +kernel
theorem dX2_bestFreeColumn_30 : decode cX2_bestFreeColumn 30 = .ok (.if_icmp .eq 9, 3) := by decide +kernel
theorem dX2_bestFreeColumn_33 : decode cX2_bestFreeColumn 33 = .ok (.iload 5, 2) := by decide +kernel
theorem dX2_bestFreeColumn_35 : decode cX2_bestFreeColumn 35 = .ok (.iconst 5, 1) := by decide +kernel
theorem dX2_bestFreeColumn_36 : decode cX2_bestFreeColumn 36 = .ok (.if_icmp .ne 57, 3) := by decide +kernel
theorem dX2_bestFreeColumn_39 : decode cX2_bestFreeColumn 39 = .ok (.aload_n 0, 1) := by decide +kernel
theorem dX2_bestFreeColumn_40 : decode cX2_bestFreeColumn 40 = .ok (.getfield 18, 3) := by decide +kernel
theorem dX2_bestFreeColumn_43 : decode cX2_bestFreeColumn 43 = .ok (.iload 4, 2) := by decide +kernel
theorem dX2_bestFreeColumn_45 : decode cX2_bestFreeColumn 45 = .ok (.iaload, 1) := by decide +kernel
theorem dX2_bestFreeColumn_46 : decode cX2_bestFreeColumn 46 = .ok (.bipush (-9), 2) := by decide +kernel
theorem dX2_bestFreeColumn_48 : decode cX2_bestFreeColumn 48 = .ok (.if_icmp .eq 6, 3) := by decide +kernel
theorem dX2_bestFreeColumn_51 : decode cX2_bestFreeColumn 51 = .ok (.goto 42, 3) := by decide +kernel
theorem dX2_bestFreeColumn_54 : decode cX2_bestFreeColumn 54 = .ok (.aload_n 0, 1) := by decide +kernel
theorem dX2_bestFreeColumn_55 : decode cX2_bestFreeColumn 55 = .ok (.iload 4, 2) := by decide +kernel
theorem dX2_bestFreeColumn_57 : decode cX2_bestFreeColumn 57 = .ok (.invokevirtual 51, 3) := by decide +kernel
theorem dX2_bestFreeColumn_60 : decode cX2_bestFreeColumn 60 = .ok (.istore 6, 2) := by decide +kernel
theorem dX2_bestFreeColumn_62 : decode cX2_bestFreeColumn 62 = .ok (.iload_n 1, 1) := by decide +kernel
theorem dX2_bestFreeColumn_63 : decode cX2_bestFreeColumn 63 = .ok (.ifCond .eq 21, 3) := by decide +kernel
theorem dX2_bestFreeColumn_66 : decode cX2_bestFreeColumn 66 = .ok (.iload 5, 2) := by decide +kernel
theorem dX2_bestFreeColumn_68 : decode cX2_bestFreeColumn 68 = .ok (.iload_n 2, 1) := by decide +kernel
theorem dX2_bestFreeColumn_69 : decode cX2_bestFreeColumn 69 = .ok (.if_icmp .lt 15, 3) := by decide +kernel
theorem dX2_bestFreeColumn_72 : decode cX2_bestFreeColumn 72 = .ok (.iload 5, 2) := by decide +kernel
theorem dX2_bestFreeColumn_74 : decode cX2_bestFreeColumn 74 = .ok (.iload_n 2, 1) := by decide +kernel
theorem dX2_bestFreeColumn_75 : decode cX2_bestFreeColumn 75 = .ok (.if_icmp .ne 18, 3) := by decide +kernel
theorem dX2_bestFreeColumn_78 : decode cX2_bestFreeColumn 78 = .ok (.iload 6, 2) := by decide +kernel
theorem dX2_bestFreeColumn_80 : decode cX2_bestFreeColumn 80 = .ok (.iload_n 3, 1) := by decide +kernel
theorem dX2_bestFreeColumn_81 : decode cX2_bestFreeColumn 81 = .ok (.if_icmp .ge 12, 3) := by decide +kernel
theorem dX2_bestFreeColumn_84 : decode cX2_bestFreeColumn 84 = .ok (.iload 4, 2) := by decide +kernel
theorem dX2_bestFreeColumn_86 : decode cX2_bestFreeColumn 86 = .ok (.istore_n 1, 1) := by decide +kernel
theorem dX2_bestFreeColumn_87 : decode cX2_bestFreeColumn 87 = .ok (.iload 5, 2) := by decide +kernel
theorem dX2_bestFreeColumn_89 : decode cX2_bestFreeColumn 89 = .ok (.istore_n 2, 1) := by decide +kernel
theorem dX2_bestFreeColumn_90 : decode cX2_bestFreeColumn 90 = .ok (.iload 6, 2) := by decide +kernel
theorem dX2_bestFreeColumn_92 : decode cX2_bestFreeColumn 92 = .ok (.istore_n 3, 1) := by decide +kernel
theorem dX2_bestFreeColumn_93 : decode cX2_bestFreeColumn 93 = .ok (.iinc 4 1, 3) := by decide +kernel
theorem dX2_bestFreeColumn_96 : decode cX2_bestFreeColumn 96 = .ok (.goto (-87), 3) := by decide +kernel
theorem dX2_bestFreeColumn_99 : decode cX2_bestFreeColumn 99 = .ok (.iload_n 1, 1) := by decide +kernel
theorem dX2_bestFreeColumn_100 : decode cX2_bestFreeColumn 100 = .ok (.ireturn, 1) := by decide +kernel
theorem dX2_fullestRowWith_0 : decode cX2_fullestRowWith 0 = .ok (.iconst 0, 1) := by decide +kernel
theorem dX2_fullestRowWith_1 : decode cX2_fullestRowWith 1 = .ok (.istore_n 2, 1) := by decide +kernel
theorem dX2_fullestRowWith_2 : decode cX2_fullestRowWith 2 = .ok (.iconst 0, 1) := by decide +kernel
theorem dX2_fullestRowWith_3 : decode cX2_fullestRowWith 3 = .ok (.istore_n 3, 1) := by decide +kernel
theorem dX2_fullestRowWith_4 : decode cX2_fullestRowWith 4 = .ok (.iload_n 3, 1) := by decide +kernel
theorem dX2_fullestRowWith_5 : decode cX2_fullestRowWith 5 = .ok (.aload_n 0, 1) := by decide +kernel
theorem dX2_fullestRowWith_6 : decode cX2_fullestRowWith 6 = .ok (.getfield 28, 3) := by decide +kernel
theorem dX2_fullestRowWith_9 : decode cX2_fullestRowWith 9 = .ok (.if_icmp .ge 26, 3) := by decide +kernel
theorem dX2_fullestRowWith_12 : decode cX2_fullestRowWith 12 = .ok (.iload_n 2, 1) := by decide +kernel
theorem dX2_fullestRowWith_13 : decode cX2_fullestRowWith 13 = .ok (.aload_n 0, 1) := by decide +kernel
theorem dX2_fullestRowWith_14 : decode cX2_fullestRowWith 14 = .ok (.getfield 15, 3) := by decide +kernel
theorem dX2_fullestRowWith_17 : decode cX2_fullestRowWith 17 = .ok (.iload_n 3, 1) := by decide +kernel
theorem dX2_fullestRowWith_18 : decode cX2_fullestRowWith 18 = .ok (.iaload, 1) := by decide +kernel
theorem dX2_fullestRowWith_19 : decode cX2_fullestRowWith 19 = .ok (.iload_n 1, 1) := by decide +kernel
theorem dX2_fullestRowWith_20 : decode cX2_fullestRowWith 20 = .ok (.iload_n 3, 1) := by decide +kernel
theorem dX2_fullestRowWith_21 : decode cX2_fullestRowWith 21 = .ok (.ishr, 1) := by decide +kernel
theorem dX2_fullestRowWith_22 : decode cX2_fullestRowWith 22 = .ok (.iconst 1, 1) := by decide +kernel
theorem dX2_fullestRowWith_23 : decode cX2_fullestRowWith 23 = .ok (.iand, 1) := by decide +kernel
theorem dX2_fullestRowWith_24 : decode cX2_fullestRowWith 24 = .ok (.iadd, 1) := by decide +kernel
theorem dX2_fullestRowWith_25 : decode cX2_fullestRowWith 25 = .ok (.invokestatic 54, 3) := by decide +kernel
theorem dX2_fullestRowWith_28 : decode cX2_fullestRowWith 28 = .ok (.istore_n 2, 1) := by decide +kernel
theorem dX2_fullestRowWith_29 : decode cX2_fullestRowWith 29 = .ok (.iinc 3 1, 3) := by decide +kernel
theorem dX2_fullestRowWith_32 : decode cX2_fullestRowWith 32 = .ok (.goto (-28), 3) := by decide +kernel
theorem dX2_fullestRowWith_35 : decode cX2_fullestRowWith 35 = .ok (.iload_n 2, 1) := by decide +kernel
theorem dX2_fullestRowWith_36 : decode cX2_fullestRowWith 36 = .ok (.ireturn, 1) := by decide +kernel
theorem dX2_stands_0 : decode cX2_stands 0 = .ok (.aload_n 0, 1) := by decide +kernel
theorem dX2_stands_1 : decode cX2_stands 1 = .ok (.getfield 28, 3) := by decide +kernel
theorem dX2_stands_4 : decode cX2_stands 4 = .ok (.ifCond .le 7, 3) := by decide +kernel
theorem dX2_stands_7 : decode cX2_stands 7 = .ok (.iconst 1, 1) := by decide +kernel
theorem dX2_stands_8 : decode cX2_stands 8 = .ok (.goto 4, 3) := by decide +kernel
theorem dX2_stands_11 : decode cX2_stands 11 = .ok (.iconst 0, 1) := by decide +kernel
theorem dX2_stands_12 : decode cX2_stands 12 = .ok (.ireturn, 1) := by decide +kernel
theorem dX2_width_0 : decode cX2_width 0 = .ok (.aload_n 0, 1) := by decide +kernel
theorem dX2_width_1 : decode cX2_width 1 = .ok (.getfield 24, 3) := by decide +kernel
theorem dX2_width_4 : decode cX2_width 4 = .ok (.aload_n 0, 1) := by decide +kernel
theorem dX2_width_5 : decode cX2_width 5 = .ok (.getfield 28, 3) := by decide +kernel
theorem dX2_width_8 : decode cX2_width 8 = .ok (.iadd, 1) := by decide +kernel
theorem dX2_width_9 : decode cX2_width 9 = .ok (.ireturn, 1) := by decide +kernel
theorem dX2_allBits_0 : decode cX2_allBits 0 = .ok (.iconst 1, 1) := by decide +kernel
theorem dX2_allBits_1 : decode cX2_allBits 1 = .ok (.aload_n 0, 1) := by decide +kernel
theorem dX2_allBits_2 : decode cX2_allBits 2 = .ok (.invokevirtual 60, 3) := by decide +kernel
theorem dX2_allBits_5 : decode cX2_allBits 5 = .ok (.ishl, 1) := by decide +kernel
theorem dX2_allBits_6 : decode cX2_allBits 6 = .ok (.iconst 1, 1) := by decide +kernel
theorem dX2_allBits_7 : decode cX2_allBits 7 = .ok (.isub, 1) := by decide +kernel
theorem dX2_allBits_8 : decode cX2_allBits 8 = .ok (.ireturn, 1) := by decide +kernel
theorem dX2_hasBit_0 : decode cX2_hasBit 0 = .ok (.iload_n 1, 1) := by decide +kernel
theorem dX2_hasBit_1 : decode cX2_hasBit 1 = .ok (.ifCond .lt 15, 3) := by decide +kernel
theorem dX2_hasBit_4 : decode cX2_hasBit 4 = .ok (.iload_n 1, 1) := by decide +kernel
theorem dX2_hasBit_5 : decode cX2_hasBit 5 = .ok (.aload_n 0, 1) := by decide +kernel
theorem dX2_hasBit_6 : decode cX2_hasBit 6 = .ok (.invokevirtual 60, 3) := by decide +kernel
theorem dX2_hasBit_9 : decode cX2_hasBit 9 = .ok (.if_icmp .ge 7, 3) := by decide +kernel
theorem dX2_hasBit_12 : decode cX2_hasBit 12 = .ok (.iconst 1, 1) := by decide +kernel
theorem dX2_hasBit_13 : decode cX2_hasBit 13 = .ok (.goto 4, 3) := by decide +kernel
theorem dX2_hasBit_16 : decode cX2_hasBit 16 = .ok (.iconst 0, 1) := by decide +kernel
theorem dX2_hasBit_17 : decode cX2_hasBit 17 = .ok (.ireturn, 1) := by decide +kernel
theorem dX2_hasRow_0 : decode cX2_hasRow 0 = .ok (.iload_n 1, 1) := by decide +kernel
theorem dX2_hasRow_1 : decode cX2_hasRow 1 = .ok (.ifCond .lt 15, 3) := by decide +kernel
theorem dX2_hasRow_4 : decode cX2_hasRow 4 = .ok (.iload_n 1, 1) := by decide +kernel
theorem dX2_hasRow_5 : decode cX2_hasRow 5 = .ok (.aload_n 0, 1) := by decide +kernel
theorem dX2_hasRow_6 : decode cX2_hasRow 6 = .ok (.getfield 28, 3) := by decide +kernel
theorem dX2_hasRow_9 : decode cX2_hasRow 9 = .ok (.if_icmp .ge 7, 3) := by decide +kernel
theorem dX2_hasRow_12 : decode cX2_hasRow 12 = .ok (.iconst 1, 1) := by decide +kernel
theorem dX2_hasRow_13 : decode cX2_hasRow 13 = .ok (.goto 4, 3) := by decide +kernel
theorem dX2_hasRow_16 : decode cX2_hasRow 16 = .ok (.iconst 0, 1) := by decide +kernel
theorem dX2_hasRow_17 : decode cX2_hasRow 17 = .ok (.ireturn, 1) := by decide +kernel
theorem dX2_hasPlace_0 : decode cX2_hasPlace 0 = .ok (.aload_n 0, 1) := by decide +kernel
theorem dX2_hasPlace_1 : decode cX2_hasPlace 1 = .ok (.invokevirtual 63, 3) := by decide +kernel
theorem dX2_hasPlace_4 : decode cX2_hasPlace 4 = .ok (.ifCond .eq 19, 3) := by decide +kernel
theorem dX2_hasPlace_7 : decode cX2_hasPlace 7 = .ok (.iload_n 1, 1) := by decide +kernel
theorem dX2_hasPlace_8 : decode cX2_hasPlace 8 = .ok (.ifCond .lt 15, 3) := by decide +kernel
theorem dX2_hasPlace_11 : decode cX2_hasPlace 11 = .ok (.iload_n 1, 1) := by decide +kernel
theorem dX2_hasPlace_12 : decode cX2_hasPlace 12 = .ok (.aload_n 0, 1) := by decide +kernel
theorem dX2_hasPlace_13 : decode cX2_hasPlace 13 = .ok (.invokevirtual 60, 3) := by decide +kernel
theorem dX2_hasPlace_16 : decode cX2_hasPlace 16 = .ok (.if_icmp .gt 7, 3) := by decide +kernel
theorem dX2_hasPlace_19 : decode cX2_hasPlace 19 = .ok (.iconst 1, 1) := by decide +kernel
theorem dX2_hasPlace_20 : decode cX2_hasPlace 20 = .ok (.goto 4, 3) := by decide +kernel
theorem dX2_hasPlace_23 : decode cX2_hasPlace 23 = .ok (.iconst 0, 1) := by decide +kernel
theorem dX2_hasPlace_24 : decode cX2_hasPlace 24 = .ok (.ireturn, 1) := by decide +kernel
theorem dX2_hasValue_0 : decode cX2_hasValue 0 = .ok (.iload_n 1, 1) := by decide +kernel
theorem dX2_hasValue_1 : decode cX2_hasValue 1 = .ok (.ifCond .lt 17, 3) := by decide +kernel
theorem dX2_hasValue_4 : decode cX2_hasValue 4 = .ok (.iload_n 1, 1) := by decide +kernel
theorem dX2_hasValue_5 : decode cX2_hasValue 5 = .ok (.iconst 1, 1) := by decide +kernel
theorem dX2_hasValue_6 : decode cX2_hasValue 6 = .ok (.aload_n 0, 1) := by decide +kernel
theorem dX2_hasValue_7 : decode cX2_hasValue 7 = .ok (.getfield 24, 3) := by decide +kernel
theorem dX2_hasValue_10 : decode cX2_hasValue 10 = .ok (.ishl, 1) := by decide +kernel
theorem dX2_hasValue_11 : decode cX2_hasValue 11 = .ok (.if_icmp .ge 7, 3) := by decide +kernel
theorem dX2_hasValue_14 : decode cX2_hasValue 14 = .ok (.iconst 1, 1) := by decide +kernel
theorem dX2_hasValue_15 : decode cX2_hasValue 15 = .ok (.goto 4, 3) := by decide +kernel
theorem dX2_hasValue_18 : decode cX2_hasValue 18 = .ok (.iconst 0, 1) := by decide +kernel
theorem dX2_hasValue_19 : decode cX2_hasValue 19 = .ok (.ireturn, 1) := by decide +kernel
theorem dX2_hasSet_0 : decode cX2_hasSet 0 = .ok (.iload_n 1, 1) := by decide +kernel
theorem dX2_hasSet_1 : decode cX2_hasSet 1 = .ok (.ifCond .lt 15, 3) := by decide +kernel
theorem dX2_hasSet_4 : decode cX2_hasSet 4 = .ok (.iload_n 1, 1) := by decide +kernel
theorem dX2_hasSet_5 : decode cX2_hasSet 5 = .ok (.aload_n 0, 1) := by decide +kernel
theorem dX2_hasSet_6 : decode cX2_hasSet 6 = .ok (.invokevirtual 67, 3) := by decide +kernel
theorem dX2_hasSet_9 : decode cX2_hasSet 9 = .ok (.if_icmp .gt 7, 3) := by decide +kernel
theorem dX2_hasSet_12 : decode cX2_hasSet 12 = .ok (.iconst 1, 1) := by decide +kernel
theorem dX2_hasSet_13 : decode cX2_hasSet 13 = .ok (.goto 4, 3) := by decide +kernel
theorem dX2_hasSet_16 : decode cX2_hasSet 16 = .ok (.iconst 0, 1) := by decide +kernel
theorem dX2_hasSet_17 : decode cX2_hasSet 17 = .ok (.ireturn, 1) := by decide +kernel
theorem dX2_columnOf_0 : decode cX2_columnOf 0 = .ok (.aload_n 0, 1) := by decide +kernel
theorem dX2_columnOf_1 : decode cX2_columnOf 1 = .ok (.getfield 11, 3) := by decide +kernel
theorem dX2_columnOf_4 : decode cX2_columnOf 4 = .ok (.iload_n 1, 1) := by decide +kernel
theorem dX2_columnOf_5 : decode cX2_columnOf 5 = .ok (.iaload, 1) := by decide +kernel
theorem dX2_columnOf_6 : decode cX2_columnOf 6 = .ok (.ireturn, 1) := by decide +kernel
theorem dX2_onesOfRow_0 : decode cX2_onesOfRow 0 = .ok (.aload_n 0, 1) := by decide +kernel
theorem dX2_onesOfRow_1 : decode cX2_onesOfRow 1 = .ok (.getfield 15, 3) := by decide +kernel
theorem dX2_onesOfRow_4 : decode cX2_onesOfRow 4 = .ok (.iload_n 1, 1) := by decide +kernel
theorem dX2_onesOfRow_5 : decode cX2_onesOfRow 5 = .ok (.iaload, 1) := by decide +kernel
theorem dX2_onesOfRow_6 : decode cX2_onesOfRow 6 = .ok (.ireturn, 1) := by decide +kernel
theorem dX2_onesOfAllRows_0 : decode cX2_onesOfAllRows 0 = .ok (.iconst 0, 1) := by decide +kernel
theorem dX2_onesOfAllRows_1 : decode cX2_onesOfAllRows 1 = .ok (.istore_n 1, 1) := by decide +kernel
theorem dX2_onesOfAllRows_2 : decode cX2_onesOfAllRows 2 = .ok (.iconst 0, 1) := by decide +kernel
theorem dX2_onesOfAllRows_3 : decode cX2_onesOfAllRows 3 = .ok (.istore_n 2, 1) := by decide +kernel
theorem dX2_onesOfAllRows_4 : decode cX2_onesOfAllRows 4 = .ok (.iload_n 2, 1) := by decide +kernel
theorem dX2_onesOfAllRows_5 : decode cX2_onesOfAllRows 5 = .ok (.aload_n 0, 1) := by decide +kernel
theorem dX2_onesOfAllRows_6 : decode cX2_onesOfAllRows 6 = .ok (.getfield 28, 3) := by decide +kernel
theorem dX2_onesOfAllRows_9 : decode cX2_onesOfAllRows 9 = .ok (.if_icmp .ge 18, 3) := by decide +kernel
theorem dX2_onesOfAllRows_12 : decode cX2_onesOfAllRows 12 = .ok (.iload_n 1, 1) := by decide +kernel
theorem dX2_onesOfAllRows_13 : decode cX2_onesOfAllRows 13 = .ok (.aload_n 0, 1) := by decide +kernel
theorem dX2_onesOfAllRows_14 : decode cX2_onesOfAllRows 14 = .ok (.getfield 15, 3) := by decide +kernel
theorem dX2_onesOfAllRows_17 : decode cX2_onesOfAllRows 17 = .ok (.iload_n 2, 1) := by decide +kernel
theorem dX2_onesOfAllRows_18 : decode cX2_onesOfAllRows 18 = .ok (.iaload, 1) := by decide +kernel
theorem dX2_onesOfAllRows_19 : decode cX2_onesOfAllRows 19 = .ok (.iadd, 1) := by decide +kernel
theorem dX2_onesOfAllRows_20 : decode cX2_onesOfAllRows 20 = .ok (.istore_n 1, 1) := by decide +kernel
theorem dX2_onesOfAllRows_21 : decode cX2_onesOfAllRows 21 = .ok (.iinc 2 1, 3) := by decide +kernel
theorem dX2_onesOfAllRows_24 : decode cX2_onesOfAllRows 24 = .ok (.goto (-20), 3) := by decide +kernel
theorem dX2_onesOfAllRows_27 : decode cX2_onesOfAllRows 27 = .ok (.iload_n 1, 1) := by decide +kernel
theorem dX2_onesOfAllRows_28 : decode cX2_onesOfAllRows 28 = .ok (.ireturn, 1) := by decide +kernel
theorem dX2_syndromeOf_0 : decode cX2_syndromeOf 0 = .ok (.iconst 0, 1) := by decide +kernel
theorem dX2_syndromeOf_1 : decode cX2_syndromeOf 1 = .ok (.istore_n 2, 1) := by decide +kernel
theorem dX2_syndromeOf_2 : decode cX2_syndromeOf 2 = .ok (.iconst 0, 1) := by decide +kernel
theorem dX2_syndromeOf_3 : decode cX2_syndromeOf 3 = .ok (.istore_n 3, 1) := by decide +kernel
theorem dX2_syndromeOf_4 : decode cX2_syndromeOf 4 = .ok (.iload_n 3, 1) := by decide +kernel
theorem dX2_syndromeOf_5 : decode cX2_syndromeOf 5 = .ok (.aload_n 0, 1) := by decide +kernel
theorem dX2_syndromeOf_6 : decode cX2_syndromeOf 6 = .ok (.invokevirtual 60, 3) := by decide +kernel
theorem dX2_syndromeOf_9 : decode cX2_syndromeOf 9 = .ok (.if_icmp .ge 26, 3) := by decide +kernel
theorem dX2_syndromeOf_12 : decode cX2_syndromeOf 12 = .ok (.iload_n 1, 1) := by decide +kernel
theorem dX2_syndromeOf_13 : decode cX2_syndromeOf 13 = .ok (.iload_n 3, 1) := by decide +kernel
theorem dX2_syndromeOf_14 : decode cX2_syndromeOf 14 = .ok (.ishr, 1) := by decide +kernel
theorem dX2_syndromeOf_15 : decode cX2_syndromeOf 15 = .ok (.iconst 1, 1) := by decide +kernel
theorem dX2_syndromeOf_16 : decode cX2_syndromeOf 16 = .ok (.iand, 1) := by decide +kernel
theorem dX2_syndromeOf_17 : decode cX2_syndromeOf 17 = .ok (.ifCond .eq 12, 3) := by decide +kernel
theorem dX2_syndromeOf_20 : decode cX2_syndromeOf 20 = .ok (.iload_n 2, 1) := by decide +kernel
theorem dX2_syndromeOf_21 : decode cX2_syndromeOf 21 = .ok (.aload_n 0, 1) := by decide +kernel
theorem dX2_syndromeOf_22 : decode cX2_syndromeOf 22 = .ok (.getfield 11, 3) := by decide +kernel
theorem dX2_syndromeOf_25 : decode cX2_syndromeOf 25 = .ok (.iload_n 3, 1) := by decide +kernel
theorem dX2_syndromeOf_26 : decode cX2_syndromeOf 26 = .ok (.iaload, 1) := by decide +kernel
theorem dX2_syndromeOf_27 : decode cX2_syndromeOf 27 = .ok (.ixor, 1) := by decide +kernel
theorem dX2_syndromeOf_28 : decode cX2_syndromeOf 28 = .ok (.istore_n 2, 1) := by decide +kernel
theorem dX2_syndromeOf_29 : decode cX2_syndromeOf 29 = .ok (.iinc 3 1, 3) := by decide +kernel
theorem dX2_syndromeOf_32 : decode cX2_syndromeOf 32 = .ok (.goto (-28), 3) := by decide +kernel
theorem dX2_syndromeOf_35 : decode cX2_syndromeOf 35 = .ok (.iload_n 2, 1) := by decide +kernel
theorem dX2_syndromeOf_36 : decode cX2_syndromeOf 36 = .ok (.ireturn, 1) := by decide +kernel
theorem dX2_wordOf_0 : decode cX2_wordOf 0 = .ok (.iload_n 1, 1) := by decide +kernel
theorem dX2_wordOf_1 : decode cX2_wordOf 1 = .ok (.aload_n 0, 1) := by decide +kernel
theorem dX2_wordOf_2 : decode cX2_wordOf 2 = .ok (.iload_n 1, 1) := by decide +kernel
theorem dX2_wordOf_3 : decode cX2_wordOf 3 = .ok (.invokevirtual 70, 3) := by decide +kernel
theorem dX2_wordOf_6 : decode cX2_wordOf 6 = .ok (.aload_n 0, 1) := by decide +kernel
theorem dX2_wordOf_7 : decode cX2_wordOf 7 = .ok (.getfield 24, 3) := by decide +kernel
theorem dX2_wordOf_10 : decode cX2_wordOf 10 = .ok (.ishl, 1) := by decide +kernel
theorem dX2_wordOf_11 : decode cX2_wordOf 11 = .ok (.ior, 1) := by decide +kernel
theorem dX2_wordOf_12 : decode cX2_wordOf 12 = .ok (.ireturn, 1) := by decide +kernel
theorem dX2_valueOf_0 : decode cX2_valueOf 0 = .ok (.iload_n 1, 1) := by decide +kernel
theorem dX2_valueOf_1 : decode cX2_valueOf 1 = .ok (.iconst 1, 1) := by decide +kernel
theorem dX2_valueOf_2 : decode cX2_valueOf 2 = .ok (.aload_n 0, 1) := by decide +kernel
theorem dX2_valueOf_3 : decode cX2_valueOf 3 = .ok (.getfield 24, 3) := by decide +kernel
theorem dX2_valueOf_6 : decode cX2_valueOf 6 = .ok (.ishl, 1) := by decide +kernel
theorem dX2_valueOf_7 : decode cX2_valueOf 7 = .ok (.iconst 1, 1) := by decide +kernel
theorem dX2_valueOf_8 : decode cX2_valueOf 8 = .ok (.isub, 1) := by decide +kernel
theorem dX2_valueOf_9 : decode cX2_valueOf 9 = .ok (.iand, 1) := by decide +kernel
theorem dX2_valueOf_10 : decode cX2_valueOf 10 = .ok (.ireturn, 1) := by decide +kernel
theorem dX2_bitWithColumn_0 : decode cX2_bitWithColumn 0 = .ok (.aload_n 0, 1) := by decide +kernel
theorem dX2_bitWithColumn_1 : decode cX2_bitWithColumn 1 = .ok (.getfield 18, 3) := by decide +kernel
theorem dX2_bitWithColumn_4 : decode cX2_bitWithColumn 4 = .ok (.iload_n 1, 1) := by decide +kernel
theorem dX2_bitWithColumn_5 : decode cX2_bitWithColumn 5 = .ok (.iaload, 1) := by decide +kernel
theorem dX2_bitWithColumn_6 : decode cX2_bitWithColumn 6 = .ok (.ireturn, 1) := by decide +kernel
theorem dX2_mend_0 : decode cX2_mend 0 = .ok (.aload_n 0, 1) := by decide +kernel
theorem dX2_mend_1 : decode cX2_mend 1 = .ok (.iload_n 1, 1) := by decide +kernel
theorem dX2_mend_2 : decode cX2_mend 2 = .ok (.invokevirtual 70, 3) := by decide +kernel
theorem dX2_mend_5 : decode cX2_mend 5 = .ok (.istore_n 2, 1) := by decide +kernel
theorem dX2_mend_6 : decode cX2_mend 6 = .ok (.iload_n 2, 1) := by decide +kernel
theorem dX2_mend_7 : decode cX2_mend 7 = .ok (.ifCond .ne 5, 3) := by decide +kernel
theorem dX2_mend_10 : decode cX2_mend 10 = .ok (.iload_n 1, 1) := by decide +kernel
theorem dX2_mend_11 : decode cX2_mend 11 = .ok (.ireturn, 1) := by decide +kernel
theorem dX2_mend_12 : decode cX2_mend 12 = .ok (.aload_n 0, 1) := by decide +kernel
theorem dX2_mend_13 : decode cX2_mend 13 = .ok (.getfield 18, 3) := by decide +kernel
theorem dX2_mend_16 : decode cX2_mend 16 = .ok (.iload_n 2, 1) := by decide +kernel
theorem dX2_mend_17 : decode cX2_mend 17 = .ok (.iaload, 1) := by decide +kernel
theorem dX2_mend_18 : decode cX2_mend 18 = .ok (.istore_n 3, 1) := by decide +kernel
theorem dX2_mend_19 : decode cX2_mend 19 = .ok (.iload_n 3, 1) := by decide +kernel
theorem dX2_mend_20 : decode cX2_mend 20 = .ok (.bipush (-9), 2) := by decide +kernel
theorem dX2_mend_22 : decode cX2_mend 22 = .ok (.if_icmp .ne 8, 3) := by decide +kernel
theorem dX2_mend_25 : decode cX2_mend 25 = .ok (.bipush (-5), 2) := by decide +kernel
theorem dX2_mend_27 : decode cX2_mend 27 = .ok (.goto 8, 3) := by decide +kernel
theorem dX2_mend_30 : decode cX2_mend 30 = .ok (.iload_n 1, 1) := by decide +kernel
theorem dX2_mend_31 : decode cX2_mend 31 = .ok (.iconst 1, 1) := by decide +kernel
theorem dX2_mend_32 : decode cX2_mend 32 = .ok (.iload_n 3, 1) := by decide +kernel
theorem dX2_mend_33 : decode cX2_mend 33 = .ok (.ishl, 1) := by decide +kernel
theorem dX2_mend_34 : decode cX2_mend 34 = .ok (.ixor, 1) := by decide +kernel
theorem dX2_mend_35 : decode cX2_mend 35 = .ok (.ireturn, 1) := by decide +kernel
theorem dX3_init_0 : decode cX3_init 0 = .ok (.aload_n 0, 1) := by decide +kernel
theorem dX3_init_1 : decode cX3_init 1 = .ok (.invokespecial 5, 3) := by decide +kernel
theorem dX3_init_4 : decode cX3_init 4 = .ok (.aload_n 0, 1) := by decide +kernel
theorem dX3_init_5 : decode cX3_init 5 = .ok (.sipush 320, 3) := by decide +kernel
theorem dX3_init_8 : decode cX3_init 8 = .ok (.newarray .int, 2) := by decide +kernel
theorem dX3_init_10 : decode cX3_init 10 = .ok (.putfield 13, 3) := by decide +kernel
theorem dX3_init_13 : decode cX3_init 13 = .ok (.aload_n 0, 1) := by decide +kernel
theorem dX3_init_14 : decode cX3_init 14 = .ok (.aload_n 1, 1) := by decide +kernel
theorem dX3_init_15 : decode cX3_init 15 = .ok (.putfield 17, 3) := by decide +kernel
theorem dX3_init_18 : decode cX3_init 18 = .ok (.return_, 1) := by decide +kernel
theorem dX3_forget_0 : decode cX3_forget 0 = .ok (.aload_n 0, 1) := by decide +kernel
theorem dX3_forget_1 : decode cX3_forget 1 = .ok (.iconst 0, 1) := by decide +kernel
theorem dX3_forget_2 : decode cX3_forget 2 = .ok (.putfield 21, 3) := by decide +kernel
theorem dX3_forget_5 : decode cX3_forget 5 = .ok (.return_, 1) := by decide +kernel
theorem dX3_countOf_0 : decode cX3_countOf 0 = .ok (.aload_n 0, 1) := by decide +kernel
theorem dX3_countOf_1 : decode cX3_countOf 1 = .ok (.getfield 21, 3) := by decide +kernel
theorem dX3_countOf_4 : decode cX3_countOf 4 = .ok (.ifCond .ne 12, 3) := by decide +kernel
theorem dX3_countOf_7 : decode cX3_countOf 7 = .ok (.aload_n 0, 1) := by decide +kernel
theorem dX3_countOf_8 : decode cX3_countOf 8 = .ok (.invokevirtual 25, 3) := by decide +kernel
theorem dX3_countOf_11 : decode cX3_countOf 11 = .ok (.aload_n 0, 1) := by decide +kernel
theorem dX3_countOf_12 : decode cX3_countOf 12 = .ok (.iconst 1, 1) := by decide +kernel
theorem dX3_countOf_13 : decode cX3_countOf 13 = .ok (.putfield 21, 3) := by decide +kernel
theorem dX3_countOf_16 : decode cX3_countOf 16 = .ok (.iload_n 2, 1) := by decide +kernel
theorem dX3_countOf_17 : decode cX3_countOf 17 = .ok (.tableswitch 61 0 3 #[31, 37, 43, 49], 31) := by decide +kernel
theorem dX3_countOf_48 : decode cX3_countOf 48 = .ok (.aload_n 0, 1) := by decide +kernel
theorem dX3_countOf_49 : decode cX3_countOf 49 = .ok (.iload_n 1, 1) := by decide +kernel
theorem dX3_countOf_50 : decode cX3_countOf 50 = .ok (.invokevirtual 28, 3) := by decide +kernel
theorem dX3_countOf_53 : decode cX3_countOf 53 = .ok (.ireturn, 1) := by decide +kernel
theorem dX3_countOf_54 : decode cX3_countOf 54 = .ok (.aload_n 0, 1) := by decide +kernel
theorem dX3_countOf_55 : decode cX3_countOf 55 = .ok (.iload_n 1, 1) := by decide +kernel
theorem dX3_countOf_56 : decode cX3_countOf 56 = .ok (.invokevirtual 32, 3) := by decide +kernel
theorem dX3_countOf_59 : decode cX3_countOf 59 = .ok (.ireturn, 1) := by decide +kernel
theorem dX3_countOf_60 : decode cX3_countOf 60 = .ok (.aload_n 0, 1) := by decide +kernel
theorem dX3_countOf_61 : decode cX3_countOf 61 = .ok (.iload_n 1, 1) := by decide +kernel
theorem dX3_countOf_62 : decode cX3_countOf 62 = .ok (.invokevirtual 35, 3) := by decide +kernel
theorem dX3_countOf_65 : decode cX3_countOf 65 = .ok (.ireturn, 1) := by decide +kernel
theorem dX3_countOf_66 : decode cX3_countOf 66 = .ok (.aload_n 0, 1) := by decide +kernel
theorem dX3_countOf_67 : decode cX3_countOf 67 = .ok (.iload_n 1, 1) := by decide +kernel
theorem dX3_countOf_68 : decode cX3_countOf 68 = .ok (.invokevirtual 38, 3) := by decide +kernel
theorem dX3_countOf_71 : decode cX3_countOf 71 = .ok (.aload_n 0, 1) := by decide +kernel
theorem dX3_countOf_72 : decode cX3_countOf 72 = .ok (.iload_n 1, 1) := by decide +kernel
theorem dX3_countOf_73 : decode cX3_countOf 73 = .ok (.invokevirtual 35, 3) := by decide +kernel
theorem dX3_countOf_76 : decode cX3_countOf 76 = .ok (.isub, 1) := by decide +kernel
theorem dX3_countOf_77 : decode cX3_countOf 77 = .ok (.ireturn, 1) := by decide +kernel
theorem dX3_countOf_78 : decode cX3_countOf 78 = .ok (.aload_n 0, 1) := by decide +kernel
theorem dX3_countOf_79 : decode cX3_countOf 79 = .ok (.iload_n 1, 1) := by decide +kernel
theorem dX3_countOf_80 : decode cX3_countOf 80 = .ok (.invokevirtual 28, 3) := by decide +kernel
theorem dX3_countOf_83 : decode cX3_countOf 83 = .ok (.aload_n 0, 1) := by decide +kernel
theorem dX3_countOf_84 : decode cX3_countOf 84 = .ok (.iload_n 1, 1) := by decide +kernel
theorem dX3_countOf_85 : decode cX3_countOf 85 = .ok (.invokevirtual 32, 3) := by decide +kernel
theorem dX3_countOf_88 : decode cX3_countOf 88 = .ok (.isub, 1) := by decide +kernel
theorem dX3_countOf_89 : decode cX3_countOf 89 = .ok (.aload_n 0, 1) := by decide +kernel
theorem dX3_countOf_90 : decode cX3_countOf 90 = .ok (.iload_n 1, 1) := by decide +kernel
theorem dX3_countOf_91 : decode cX3_countOf 91 = .ok (.invokevirtual 38, 3) := by decide +kernel
theorem dX3_countOf_94 : decode cX3_countOf 94 = .ok (.isub, 1) := by decide +kernel
theorem dX3_countOf_95 : decode cX3_countOf 95 = .ok (.ireturn, 1) := by decide +kernel
theorem dX3_countAll_0 : decode cX3_countAll 0 = .ok (.aload_n 0, 1) := by decide +kernel
theorem dX3_countAll_1 : decode cX3_countAll 1 = .ok (.getfield 13, 3) := by decide +kernel
theorem dX3_countAll_4 : decode cX3_countAll 4 = .ok (.iconst 0, 1) := by decide +kernel
theorem dX3_countAll_5 : decode cX3_countAll 5 = .ok (.invokestatic 41, 3) := by decide +kernel
theorem dX3_countAll_8 : decode cX3_countAll 8 = .ok (.aload_n 0, 1) := by decide +kernel
theorem dX3_countAll_9 : decode cX3_countAll 9 = .ok (.getfield 13, 3) := by decide +kernel
theorem dX3_countAll_12 : decode cX3_countAll 12 = .ok (.iconst 0, 1) := by decide +kernel
theorem dX3_countAll_13 : decode cX3_countAll 13 = .ok (.iconst 1, 1) := by decide +kernel
theorem dX3_countAll_14 : decode cX3_countAll 14 = .ok (.iastore, 1) := by decide +kernel
theorem dX3_countAll_15 : decode cX3_countAll 15 = .ok (.iconst 0, 1) := by decide +kernel
theorem dX3_countAll_16 : decode cX3_countAll 16 = .ok (.istore_n 1, 1) := by decide +kernel
theorem dX3_countAll_17 : decode cX3_countAll 17 = .ok (.iload_n 1, 1) := by decide +kernel
theorem dX3_countAll_18 : decode cX3_countAll 18 = .ok (.aload_n 0, 1) := by decide +kernel
theorem dX3_countAll_19 : decode cX3_countAll 19 = .ok (.getfield 17, 3) := by decide +kernel
theorem dX3_countAll_22 : decode cX3_countAll 22 = .ok (.invokevirtual 47, 3) := by decide +kernel
theorem dX3_countAll_25 : decode cX3_countAll 25 = .ok (.if_icmp .ge 77, 3) := by decide +kernel
theorem dX3_countAll_28 : decode cX3_countAll 28 = .ok (.aload_n 0, 1) := by decide +kernel
theorem dX3_countAll_29 : decode cX3_countAll 29 = .ok (.getfield 17, 3) := by decide +kernel
theorem dX3_countAll_32 : decode cX3_countAll 32 = .ok (.iload_n 1, 1) := by decide +kernel
theorem dX3_countAll_33 : decode cX3_countAll 33 = .ok (.invokevirtual 51, 3) := by decide +kernel
theorem dX3_countAll_36 : decode cX3_countAll 36 = .ok (.istore_n 2, 1) := by decide +kernel
theorem dX3_countAll_37 : decode cX3_countAll 37 = .ok (.iconst 4, 1) := by decide +kernel
theorem dX3_countAll_38 : decode cX3_countAll 38 = .ok (.istore_n 3, 1) := by decide +kernel
theorem dX3_countAll_39 : decode cX3_countAll 39 = .ok (.iload_n 3, 1) := by decide +kernel
theorem dX3_countAll_40 : decode cX3_countAll 40 = .ok (.ifCond .le 56, 3) := by decide +kernel
theorem dX3_countAll_43 : decode cX3_countAll 43 = .ok (.iconst 0, 1) := by decide +kernel
theorem dX3_countAll_44 : decode cX3_countAll 44 = .ok (.istore 4, 2) := by decide +kernel
theorem dX3_countAll_46 : decode cX3_countAll 46 = .ok (.iload 4, 2) := by decide +kernel
theorem dX3_countAll_48 : decode cX3_countAll 48 = .ok (.bipush 64, 2) := by decide +kernel
theorem dX3_countAll_50 : decode cX3_countAll 50 = .ok (.if_icmp .ge 40, 3) := by decide +kernel
theorem dX3_countAll_53 : decode cX3_countAll 53 = .ok (.aload_n 0, 1) := by decide +kernel
theorem dX3_countAll_54 : decode cX3_countAll 54 = .ok (.getfield 13, 3) := by decide +kernel
theorem dX3_countAll_57 : decode cX3_countAll 57 = .ok (.iload_n 3, 1) := by decide +kernel
theorem dX3_countAll_58 : decode cX3_countAll 58 = .ok (.bipush 64, 2) := by decide +kernel
theorem dX3_countAll_60 : decode cX3_countAll 60 = .ok (.imul, 1) := by decide +kernel
theorem dX3_countAll_61 : decode cX3_countAll 61 = .ok (.iload 4, 2) := by decide +kernel
theorem dX3_countAll_63 : decode cX3_countAll 63 = .ok (.iload_n 2, 1) := by decide +kernel
theorem dX3_countAll_64 : decode cX3_countAll 64 = .ok (.ixor, 1) := by decide +kernel
theorem dX3_countAll_65 : decode cX3_countAll 65 = .ok (.iadd, 1) := by decide +kernel
theorem dX3_countAll_66 : decode cX3_countAll 66 = .ok (.dup2, 1) := by decide +kernel
theorem dX3_countAll_67 : decode cX3_countAll 67 = .ok (.iaload, 1) := by decide +kernel
theorem dX3_countAll_68 : decode cX3_countAll 68 = .ok (.aload_n 0, 1) := by decide +kernel
theorem dX3_countAll_69 : decode cX3_countAll 69 = .ok (.getfield 13, 3) := by decide +kernel
theorem dX3_countAll_72 : decode cX3_countAll 72 = .ok (.iload_n 3, 1) := by decide +kernel
theorem dX3_countAll_73 : decode cX3_countAll 73 = .ok (.iconst 1, 1) := by decide +kernel
theorem dX3_countAll_74 : decode cX3_countAll 74 = .ok (.isub, 1) := by decide +kernel
theorem dX3_countAll_75 : decode cX3_countAll 75 = .ok (.bipush 64, 2) := by decide +kernel
theorem dX3_countAll_77 : decode cX3_countAll 77 = .ok (.imul, 1) := by decide +kernel
theorem dX3_countAll_78 : decode cX3_countAll 78 = .ok (.iload 4, 2) := by decide +kernel
theorem dX3_countAll_80 : decode cX3_countAll 80 = .ok (.iadd, 1) := by decide +kernel
theorem dX3_countAll_81 : decode cX3_countAll 81 = .ok (.iaload, 1) := by decide +kernel
theorem dX3_countAll_82 : decode cX3_countAll 82 = .ok (.iadd, 1) := by decide +kernel
theorem dX3_countAll_83 : decode cX3_countAll 83 = .ok (.iastore, 1) := by decide +kernel
theorem dX3_countAll_84 : decode cX3_countAll 84 = .ok (.iinc 4 1, 3) := by decide +kernel
theorem dX3_countAll_87 : decode cX3_countAll 87 = .ok (.goto (-41), 3) := by decide +kernel
theorem dX3_countAll_90 : decode cX3_countAll 90 = .ok (.iinc 3 (-1), 3) := by decide +kernel
theorem dX3_countAll_93 : decode cX3_countAll 93 = .ok (.goto (-54), 3) := by decide +kernel
theorem dX3_countAll_96 : decode cX3_countAll 96 = .ok (.iinc 1 1, 3) := by decide +kernel
theorem dX3_countAll_99 : decode cX3_countAll 99 = .ok (.goto (-82), 3) := by decide +kernel
theorem dX3_countAll_102 : decode cX3_countAll 102 = .ok (.return_, 1) := by decide +kernel
theorem dX3_allOf_0 : decode cX3_allOf 0 = .ok (.iconst 0, 1) := by decide +kernel
theorem dX3_allOf_1 : decode cX3_allOf 1 = .ok (.istore_n 2, 1) := by decide +kernel
theorem dX3_allOf_2 : decode cX3_allOf 2 = .ok (.iconst 0, 1) := by decide +kernel
theorem dX3_allOf_3 : decode cX3_allOf 3 = .ok (.istore_n 3, 1) := by decide +kernel
theorem dX3_allOf_4 : decode cX3_allOf 4 = .ok (.iload_n 3, 1) := by decide +kernel
theorem dX3_allOf_5 : decode cX3_allOf 5 = .ok (.bipush 64, 2) := by decide +kernel
theorem dX3_allOf_7 : decode cX3_allOf 7 = .ok (.if_icmp .ge 23, 3) := by decide +kernel
theorem dX3_allOf_10 : decode cX3_allOf 10 = .ok (.iload_n 2, 1) := by decide +kernel
theorem dX3_allOf_11 : decode cX3_allOf 11 = .ok (.aload_n 0, 1) := by decide +kernel
theorem dX3_allOf_12 : decode cX3_allOf 12 = .ok (.getfield 13, 3) := by decide +kernel
theorem dX3_allOf_15 : decode cX3_allOf 15 = .ok (.iload_n 1, 1) := by decide +kernel
theorem dX3_allOf_16 : decode cX3_allOf 16 = .ok (.bipush 64, 2) := by decide +kernel
theorem dX3_allOf_18 : decode cX3_allOf 18 = .ok (.imul, 1) := by decide +kernel
theorem dX3_allOf_19 : decode cX3_allOf 19 = .ok (.iload_n 3, 1) := by decide +kernel
theorem dX3_allOf_20 : decode cX3_allOf 20 = .ok (.iadd, 1) := by decide +kernel
theorem dX3_allOf_21 : decode cX3_allOf 21 = .ok (.iaload, 1) := by decide +kernel
theorem dX3_allOf_22 : decode cX3_allOf 22 = .ok (.iadd, 1) := by decide +kernel
theorem dX3_allOf_23 : decode cX3_allOf 23 = .ok (.istore_n 2, 1) := by decide +kernel
theorem dX3_allOf_24 : decode cX3_allOf 24 = .ok (.iinc 3 1, 3) := by decide +kernel
theorem dX3_allOf_27 : decode cX3_allOf 27 = .ok (.goto (-23), 3) := by decide +kernel
theorem dX3_allOf_30 : decode cX3_allOf 30 = .ok (.iload_n 2, 1) := by decide +kernel
theorem dX3_allOf_31 : decode cX3_allOf 31 = .ok (.ireturn, 1) := by decide +kernel
theorem dX3_missedOf_0 : decode cX3_missedOf 0 = .ok (.iload_n 1, 1) := by decide +kernel
theorem dX3_missedOf_1 : decode cX3_missedOf 1 = .ok (.ifCond .ne 7, 3) := by decide +kernel
theorem dX3_missedOf_4 : decode cX3_missedOf 4 = .ok (.iconst 0, 1) := by decide +kernel
theorem dX3_missedOf_5 : decode cX3_missedOf 5 = .ok (.goto 12, 3) := by decide +kernel
theorem dX3_missedOf_8 : decode cX3_missedOf 8 = .ok (.aload_n 0, 1) := by decide +kernel
theorem dX3_missedOf_9 : decode cX3_missedOf 9 = .ok (.getfield 13, 3) := by decide +kernel
theorem dX3_missedOf_12 : decode cX3_missedOf 12 = .ok (.iload_n 1, 1) := by decide +kernel
theorem dX3_missedOf_13 : decode cX3_missedOf 13 = .ok (.bipush 64, 2) := by decide +kernel
theorem dX3_missedOf_15 : decode cX3_missedOf 15 = .ok (.imul, 1) := by decide +kernel
theorem dX3_missedOf_16 : decode cX3_missedOf 16 = .ok (.iaload, 1) := by decide +kernel
theorem dX3_missedOf_17 : decode cX3_missedOf 17 = .ok (.ireturn, 1) := by decide +kernel
theorem dX3_rightlyMendedOf_0 : decode cX3_rightlyMendedOf 0 = .ok (.iload_n 1, 1) := by decide +kernel
theorem dX3_rightlyMendedOf_1 : decode cX3_rightlyMendedOf 1 = .ok (.iconst 1, 1) := by decide +kernel
theorem dX3_rightlyMendedOf_2 : decode cX3_rightlyMendedOf 2 = .ok (.if_icmp .le 7, 3) := by decide +kernel
theorem dX3_rightlyMendedOf_5 : decode cX3_rightlyMendedOf 5 = .ok (.iconst 0, 1) := by decide +kernel
theorem dX3_rightlyMendedOf_6 : decode cX3_rightlyMendedOf 6 = .ok (.goto 8, 3) := by decide +kernel
theorem dX3_rightlyMendedOf_9 : decode cX3_rightlyMendedOf 9 = .ok (.aload_n 0, 1) := by decide +kernel
theorem dX3_rightlyMendedOf_10 : decode cX3_rightlyMendedOf 10 = .ok (.iload_n 1, 1) := by decide +kernel
theorem dX3_rightlyMendedOf_11 : decode cX3_rightlyMendedOf 11 = .ok (.invokevirtual 38, 3) := by decide +kernel
theorem dX3_rightlyMendedOf_14 : decode cX3_rightlyMendedOf 14 = .ok (.ireturn, 1) := by decide +kernel
theorem dX3_mendedOf_0 : decode cX3_mendedOf 0 = .ok (.iload_n 1, 1) := by decide +kernel
theorem dX3_mendedOf_1 : decode cX3_mendedOf 1 = .ok (.ifCond .ne 5, 3) := by decide +kernel
theorem dX3_mendedOf_4 : decode cX3_mendedOf 4 = .ok (.iconst 1, 1) := by decide +kernel
theorem dX3_mendedOf_5 : decode cX3_mendedOf 5 = .ok (.ireturn, 1) := by decide +kernel
theorem dX3_mendedOf_6 : decode cX3_mendedOf 6 = .ok (.iconst 0, 1) := by decide +kernel
theorem dX3_mendedOf_7 : decode cX3_mendedOf 7 = .ok (.istore_n 2, 1) := by decide +kernel
theorem dX3_mendedOf_8 : decode cX3_mendedOf 8 = .ok (.iconst 0, 1) := by decide +kernel
theorem dX3_mendedOf_9 : decode cX3_mendedOf 9 = .ok (.istore_n 3, 1) := by decide +kernel
theorem dX3_mendedOf_10 : decode cX3_mendedOf 10 = .ok (.iload_n 3, 1) := by decide +kernel
theorem dX3_mendedOf_11 : decode cX3_mendedOf 11 = .ok (.aload_n 0, 1) := by decide +kernel
theorem dX3_mendedOf_12 : decode cX3_mendedOf 12 = .ok (.getfield 17, 3) := by decide +kernel
theorem dX3_mendedOf_15 : decode cX3_mendedOf 15 = .ok (.invokevirtual 47, 3) := by decide +kernel
theorem dX3_mendedOf_18 : decode cX3_mendedOf 18 = .ok (.if_icmp .ge 30, 3) := by decide +kernel
theorem dX3_mendedOf_21 : decode cX3_mendedOf 21 = .ok (.iload_n 2, 1) := by decide +kernel
theorem dX3_mendedOf_22 : decode cX3_mendedOf 22 = .ok (.aload_n 0, 1) := by decide +kernel
theorem dX3_mendedOf_23 : decode cX3_mendedOf 23 = .ok (.getfield 13, 3) := by decide +kernel
theorem dX3_mendedOf_26 : decode cX3_mendedOf 26 = .ok (.iload_n 1, 1) := by decide +kernel
theorem dX3_mendedOf_27 : decode cX3_mendedOf 27 = .ok (.bipush 64, 2) := by decide +kernel
theorem dX3_mendedOf_29 : decode cX3_mendedOf 29 = .ok (.imul, 1) := by decide +kernel
theorem dX3_mendedOf_30 : decode cX3_mendedOf 30 = .ok (.aload_n 0, 1) := by decide +kernel
theorem dX3_mendedOf_31 : decode cX3_mendedOf 31 = .ok (.getfield 17, 3) := by decide +kernel
theorem dX3_mendedOf_34 : decode cX3_mendedOf 34 = .ok (.iload_n 3, 1) := by decide +kernel
theorem dX3_mendedOf_35 : decode cX3_mendedOf 35 = .ok (.invokevirtual 51, 3) := by decide +kernel
theorem dX3_mendedOf_38 : decode cX3_mendedOf 38 = .ok (.iadd, 1) := by decide +kernel
theorem dX3_mendedOf_39 : decode cX3_mendedOf 39 = .ok (.iaload, 1) := by decide +kernel
theorem dX3_mendedOf_40 : decode cX3_mendedOf 40 = .ok (.iadd, 1) := by decide +kernel
theorem dX3_mendedOf_41 : decode cX3_mendedOf 41 = .ok (.istore_n 2, 1) := by decide +kernel
theorem dX3_mendedOf_42 : decode cX3_mendedOf 42 = .ok (.iinc 3 1, 3) := by decide +kernel
theorem dX3_mendedOf_45 : decode cX3_mendedOf 45 = .ok (.goto (-35), 3) := by decide +kernel
theorem dX3_mendedOf_48 : decode cX3_mendedOf 48 = .ok (.iload_n 2, 1) := by decide +kernel
theorem dX3_mendedOf_49 : decode cX3_mendedOf 49 = .ok (.ireturn, 1) := by decide +kernel
theorem dX4_init_0 : decode cX4_init 0 = .ok (.aload_n 0, 1) := by decide +kernel
theorem dX4_init_1 : decode cX4_init 1 = .ok (.invokespecial 3, 3) := by decide +kernel
theorem dX4_init_4 : decode cX4_init 4 = .ok (.aload_n 0, 1) := by decide +kernel
theorem dX4_init_5 : decode cX4_init 5 = .ok (.iconst 3, 1) := by decide +kernel
theorem dX4_init_6 : decode cX4_init 6 = .ok (.newarray .int, 2) := by decide +kernel
theorem dX4_init_8 : decode cX4_init 8 = .ok (.putfield 9, 3) := by decide +kernel
theorem dX4_init_11 : decode cX4_init 11 = .ok (.aload_n 0, 1) := by decide +kernel
theorem dX4_init_12 : decode cX4_init 12 = .ok (.iconst 4, 1) := by decide +kernel
theorem dX4_init_13 : decode cX4_init 13 = .ok (.newarray .int, 2) := by decide +kernel
theorem dX4_init_15 : decode cX4_init 15 = .ok (.putfield 15, 3) := by decide +kernel
theorem dX4_init_18 : decode cX4_init 18 = .ok (.aload_n 0, 1) := by decide +kernel
theorem dX4_init_19 : decode cX4_init 19 = .ok (.iconst 4, 1) := by decide +kernel
theorem dX4_init_20 : decode cX4_init 20 = .ok (.newarray .int, 2) := by decide +kernel
theorem dX4_init_22 : decode cX4_init 22 = .ok (.putfield 18, 3) := by decide +kernel
theorem dX4_init_25 : decode cX4_init 25 = .ok (.aload_n 0, 1) := by decide +kernel
theorem dX4_init_26 : decode cX4_init 26 = .ok (.bipush (-9), 2) := by decide +kernel
theorem dX4_init_28 : decode cX4_init 28 = .ok (.putfield 21, 3) := by decide +kernel
theorem dX4_init_31 : decode cX4_init 31 = .ok (.aload_n 0, 1) := by decide +kernel
theorem dX4_init_32 : decode cX4_init 32 = .ok (.bipush (-9), 2) := by decide +kernel
theorem dX4_init_34 : decode cX4_init 34 = .ok (.putfield 25, 3) := by decide +kernel
theorem dX4_init_37 : decode cX4_init 37 = .ok (.aload_n 0, 1) := by decide +kernel
theorem dX4_init_38 : decode cX4_init 38 = .ok (.bipush (-9), 2) := by decide +kernel
theorem dX4_init_40 : decode cX4_init 40 = .ok (.putfield 28, 3) := by decide +kernel
theorem dX4_init_43 : decode cX4_init 43 = .ok (.aload_n 0, 1) := by decide +kernel
theorem dX4_init_44 : decode cX4_init 44 = .ok (.bipush (-9), 2) := by decide +kernel
theorem dX4_init_46 : decode cX4_init 46 = .ok (.putfield 31, 3) := by decide +kernel
theorem dX4_init_49 : decode cX4_init 49 = .ok (.aload_n 0, 1) := by decide +kernel
theorem dX4_init_50 : decode cX4_init 50 = .ok (.bipush (-9), 2) := by decide +kernel
theorem dX4_init_52 : decode cX4_init 52 = .ok (.putfield 34, 3) := by decide +kernel
theorem dX4_init_55 : decode cX4_init 55 = .ok (.aload_n 0, 1) := by decide +kernel
theorem dX4_init_56 : decode cX4_init 56 = .ok (.bipush (-9), 2) := by decide +kernel
theorem dX4_init_58 : decode cX4_init 58 = .ok (.putfield 37, 3) := by decide +kernel
theorem dX4_init_61 : decode cX4_init 61 = .ok (.return_, 1) := by decide +kernel
theorem dX4_clear_0 : decode cX4_clear 0 = .ok (.aload_n 0, 1) := by decide +kernel
theorem dX4_clear_1 : decode cX4_clear 1 = .ok (.getfield 9, 3) := by decide +kernel
theorem dX4_clear_4 : decode cX4_clear 4 = .ok (.iconst 0, 1) := by decide +kernel
theorem dX4_clear_5 : decode cX4_clear 5 = .ok (.invokestatic 40, 3) := by decide +kernel
theorem dX4_clear_8 : decode cX4_clear 8 = .ok (.aload_n 0, 1) := by decide +kernel
theorem dX4_clear_9 : decode cX4_clear 9 = .ok (.getfield 15, 3) := by decide +kernel
theorem dX4_clear_12 : decode cX4_clear 12 = .ok (.iconst 0, 1) := by decide +kernel
theorem dX4_clear_13 : decode cX4_clear 13 = .ok (.invokestatic 40, 3) := by decide +kernel
theorem dX4_clear_16 : decode cX4_clear 16 = .ok (.aload_n 0, 1) := by decide +kernel
theorem dX4_clear_17 : decode cX4_clear 17 = .ok (.iconst 0, 1) := by decide +kernel
theorem dX4_clear_18 : decode cX4_clear 18 = .ok (.putfield 46, 3) := by decide +kernel
theorem dX4_clear_21 : decode cX4_clear 21 = .ok (.aload_n 0, 1) := by decide +kernel
theorem dX4_clear_22 : decode cX4_clear 22 = .ok (.bipush (-9), 2) := by decide +kernel
theorem dX4_clear_24 : decode cX4_clear 24 = .ok (.putfield 21, 3) := by decide +kernel
theorem dX4_clear_27 : decode cX4_clear 27 = .ok (.aload_n 0, 1) := by decide +kernel
theorem dX4_clear_28 : decode cX4_clear 28 = .ok (.bipush (-9), 2) := by decide +kernel
theorem dX4_clear_30 : decode cX4_clear 30 = .ok (.putfield 25, 3) := by decide +kernel
theorem dX4_clear_33 : decode cX4_clear 33 = .ok (.aload_n 0, 1) := by decide +kernel
theorem dX4_clear_34 : decode cX4_clear 34 = .ok (.bipush (-9), 2) := by decide +kernel
theorem dX4_clear_36 : decode cX4_clear 36 = .ok (.putfield 28, 3) := by decide +kernel
theorem dX4_clear_39 : decode cX4_clear 39 = .ok (.aload_n 0, 1) := by decide +kernel
theorem dX4_clear_40 : decode cX4_clear 40 = .ok (.bipush (-9), 2) := by decide +kernel
theorem dX4_clear_42 : decode cX4_clear 42 = .ok (.putfield 31, 3) := by decide +kernel
theorem dX4_clear_45 : decode cX4_clear 45 = .ok (.aload_n 0, 1) := by decide +kernel
theorem dX4_clear_46 : decode cX4_clear 46 = .ok (.bipush (-9), 2) := by decide +kernel
theorem dX4_clear_48 : decode cX4_clear 48 = .ok (.putfield 34, 3) := by decide +kernel
theorem dX4_clear_51 : decode cX4_clear 51 = .ok (.aload_n 0, 1) := by decide +kernel
theorem dX4_clear_52 : decode cX4_clear 52 = .ok (.bipush (-9), 2) := by decide +kernel
theorem dX4_clear_54 : decode cX4_clear 54 = .ok (.putfield 37, 3) := by decide +kernel
theorem dX4_clear_57 : decode cX4_clear 57 = .ok (.return_, 1) := by decide +kernel
theorem dX4_noteLook_0 : decode cX4_noteLook 0 = .ok (.aload_n 0, 1) := by decide +kernel
theorem dX4_noteLook_1 : decode cX4_noteLook 1 = .ok (.getfield 9, 3) := by decide +kernel
theorem dX4_noteLook_4 : decode cX4_noteLook 4 = .ok (.iload_n 1, 1) := by decide +kernel
theorem dX4_noteLook_5 : decode cX4_noteLook 5 = .ok (.dup2, 1) := by decide +kernel
theorem dX4_noteLook_6 : decode cX4_noteLook 6 = .ok (.iaload, 1) := by decide +kernel
theorem dX4_noteLook_7 : decode cX4_noteLook 7 = .ok (.iconst 1, 1) := by decide +kernel
theorem dX4_noteLook_8 : decode cX4_noteLook 8 = .ok (.iadd, 1) := by decide +kernel
theorem dX4_noteLook_9 : decode cX4_noteLook 9 = .ok (.iastore, 1) := by decide +kernel
theorem dX4_noteLook_10 : decode cX4_noteLook 10 = .ok (.aload_n 0, 1) := by decide +kernel
theorem dX4_noteLook_11 : decode cX4_noteLook 11 = .ok (.iload_n 1, 1) := by decide +kernel
theorem dX4_noteLook_12 : decode cX4_noteLook 12 = .ok (.putfield 21, 3) := by decide +kernel
theorem dX4_noteLook_15 : decode cX4_noteLook 15 = .ok (.aload_n 0, 1) := by decide +kernel
theorem dX4_noteLook_16 : decode cX4_noteLook 16 = .ok (.iload_n 2, 1) := by decide +kernel
theorem dX4_noteLook_17 : decode cX4_noteLook 17 = .ok (.putfield 25, 3) := by decide +kernel
theorem dX4_noteLook_20 : decode cX4_noteLook 20 = .ok (.aload_n 0, 1) := by decide +kernel
theorem dX4_noteLook_21 : decode cX4_noteLook 21 = .ok (.iload_n 3, 1) := by decide +kernel
theorem dX4_noteLook_22 : decode cX4_noteLook 22 = .ok (.putfield 28, 3) := by decide +kernel
theorem dX4_noteLook_25 : decode cX4_noteLook 25 = .ok (.aload_n 0, 1) := by decide +kernel
theorem dX4_noteLook_26 : decode cX4_noteLook 26 = .ok (.iload 4, 2) := by decide +kernel
theorem dX4_noteLook_28 : decode cX4_noteLook 28 = .ok (.putfield 31, 3) := by decide +kernel
theorem dX4_noteLook_31 : decode cX4_noteLook 31 = .ok (.aload_n 0, 1) := by decide +kernel
theorem dX4_noteLook_32 : decode cX4_noteLook 32 = .ok (.iconst 0, 1) := by decide +kernel
theorem dX4_noteLook_33 : decode cX4_noteLook 33 = .ok (.putfield 34, 3) := by decide +kernel
theorem dX4_noteLook_36 : decode cX4_noteLook 36 = .ok (.aload_n 0, 1) := by decide +kernel
theorem dX4_noteLook_37 : decode cX4_noteLook 37 = .ok (.iconst 0, 1) := by decide +kernel
theorem dX4_noteLook_38 : decode cX4_noteLook 38 = .ok (.putfield 37, 3) := by decide +kernel
theorem dX4_noteLook_41 : decode cX4_noteLook 41 = .ok (.return_, 1) := by decide +kernel
theorem dX4_noteMending_0 : decode cX4_noteMending 0 = .ok (.aload_n 0, 1) := by decide +kernel
theorem dX4_noteMending_1 : decode cX4_noteMending 1 = .ok (.getfield 15, 3) := by decide +kernel
theorem dX4_noteMending_4 : decode cX4_noteMending 4 = .ok (.iload_n 1, 1) := by decide +kernel
theorem dX4_noteMending_5 : decode cX4_noteMending 5 = .ok (.iaload, 1) := by decide +kernel
theorem dX4_noteMending_6 : decode cX4_noteMending 6 = .ok (.ifCond .ne 31, 3) := by decide +kernel
theorem dX4_noteMending_9 : decode cX4_noteMending 9 = .ok (.aload_n 0, 1) := by decide +kernel
theorem dX4_noteMending_10 : decode cX4_noteMending 10 = .ok (.getfield 46, 3) := by decide +kernel
theorem dX4_noteMending_13 : decode cX4_noteMending 13 = .ok (.iconst 4, 1) := by decide +kernel
theorem dX4_noteMending_14 : decode cX4_noteMending 14 = .ok (.if_icmp .ge 23, 3) := by decide +kernel
theorem dX4_noteMending_17 : decode cX4_noteMending 17 = .ok (.aload_n 0, 1) := by decide +kernel
theorem dX4_noteMending_18 : decode cX4_noteMending 18 = .ok (.getfield 18, 3) := by decide +kernel
theorem dX4_noteMending_21 : decode cX4_noteMending 21 = .ok (.aload_n 0, 1) := by decide +kernel
theorem dX4_noteMending_22 : decode cX4_noteMending 22 = .ok (.getfield 46, 3) := by decide +kernel
theorem dX4_noteMending_25 : decode cX4_noteMending 25 = .ok (.iload_n 1, 1) := by decide +kernel
theorem dX4_noteMending_26 : decode cX4_noteMending 26 = .ok (.iastore, 1) := by decide +kernel
theorem dX4_noteMending_27 : decode cX4_noteMending 27 = .ok (.aload_n 0, 1) := by decide +kernel
theorem dX4_noteMending_28 : decode cX4_noteMending 28 = .ok (.dup, 1) := by decide +kernel
theorem dX4_noteMending_29 : decode cX4_noteMending 29 = .ok (.getfield 46, 3) := by decide +kernel
theorem dX4_noteMending_32 : decode cX4_noteMending 32 = .ok (.iconst 1, 1) := by decide +kernel
theorem dX4_noteMending_33 : decode cX4_noteMending 33 = .ok (.iadd, 1) := by decide +kernel
theorem dX4_noteMending_34 : decode cX4_noteMending 34 = .ok (.putfield 46, 3) := by decide +kernel
theorem dX4_noteMending_37 : decode cX4_noteMending 37 = .ok (.aload_n 0, 1) := by decide +kernel
theorem dX4_noteMending_38 : decode cX4_noteMending 38 = .ok (.getfield 15, 3) := by decide +kernel
theorem dX4_noteMending_41 : decode cX4_noteMending 41 = .ok (.iload_n 1, 1) := by decide +kernel
theorem dX4_noteMending_42 : decode cX4_noteMending 42 = .ok (.dup2, 1) := by decide +kernel
theorem dX4_noteMending_43 : decode cX4_noteMending 43 = .ok (.iaload, 1) := by decide +kernel
theorem dX4_noteMending_44 : decode cX4_noteMending 44 = .ok (.iconst 1, 1) := by decide +kernel
theorem dX4_noteMending_45 : decode cX4_noteMending 45 = .ok (.iadd, 1) := by decide +kernel
theorem dX4_noteMending_46 : decode cX4_noteMending 46 = .ok (.iastore, 1) := by decide +kernel
theorem dX4_noteMending_47 : decode cX4_noteMending 47 = .ok (.aload_n 0, 1) := by decide +kernel
theorem dX4_noteMending_48 : decode cX4_noteMending 48 = .ok (.iload_n 2, 1) := by decide +kernel
theorem dX4_noteMending_49 : decode cX4_noteMending 49 = .ok (.ifCond .eq 7, 3) := by decide +kernel
theorem dX4_noteMending_52 : decode cX4_noteMending 52 = .ok (.iconst 1, 1) := by decide +kernel
theorem dX4_noteMending_53 : decode cX4_noteMending 53 = .ok (.goto 4, 3) := by decide +kernel
theorem dX4_noteMending_56 : decode cX4_noteMending 56 = .ok (.iconst 0, 1) := by decide +kernel
theorem dX4_noteMending_57 : decode cX4_noteMending 57 = .ok (.putfield 34, 3) := by decide +kernel
theorem dX4_noteMending_60 : decode cX4_noteMending 60 = .ok (.aload_n 0, 1) := by decide +kernel
theorem dX4_noteMending_61 : decode cX4_noteMending 61 = .ok (.iload_n 3, 1) := by decide +kernel
theorem dX4_noteMending_62 : decode cX4_noteMending 62 = .ok (.ifCond .eq 7, 3) := by decide +kernel
theorem dX4_noteMending_65 : decode cX4_noteMending 65 = .ok (.iconst 1, 1) := by decide +kernel
theorem dX4_noteMending_66 : decode cX4_noteMending 66 = .ok (.goto 4, 3) := by decide +kernel
theorem dX4_noteMending_69 : decode cX4_noteMending 69 = .ok (.iconst 0, 1) := by decide +kernel
theorem dX4_noteMending_70 : decode cX4_noteMending 70 = .ok (.putfield 37, 3) := by decide +kernel
theorem dX4_noteMending_73 : decode cX4_noteMending 73 = .ok (.return_, 1) := by decide +kernel
theorem dX4_latest_0 : decode cX4_latest 0 = .ok (.iload_n 1, 1) := by decide +kernel
theorem dX4_latest_1 : decode cX4_latest 1 = .ok (.tableswitch 60 0 4 #[35, 40, 45, 50, 55], 35) := by decide +kernel
theorem dX4_latest_36 : decode cX4_latest 36 = .ok (.aload_n 0, 1) := by decide +kernel
theorem dX4_latest_37 : decode cX4_latest 37 = .ok (.getfield 21, 3) := by decide +kernel
theorem dX4_latest_40 : decode cX4_latest 40 = .ok (.ireturn, 1) := by decide +kernel
theorem dX4_latest_41 : decode cX4_latest 41 = .ok (.aload_n 0, 1) := by decide +kernel
theorem dX4_latest_42 : decode cX4_latest 42 = .ok (.getfield 25, 3) := by decide +kernel
theorem dX4_latest_45 : decode cX4_latest 45 = .ok (.ireturn, 1) := by decide +kernel
theorem dX4_latest_46 : decode cX4_latest 46 = .ok (.aload_n 0, 1) := by decide +kernel
theorem dX4_latest_47 : decode cX4_latest 47 = .ok (.getfield 34, 3) := by decide +kernel
theorem dX4_latest_50 : decode cX4_latest 50 = .ok (.ireturn, 1) := by decide +kernel
theorem dX4_latest_51 : decode cX4_latest 51 = .ok (.aload_n 0, 1) := by decide +kernel
theorem dX4_latest_52 : decode cX4_latest 52 = .ok (.getfield 37, 3) := by decide +kernel
theorem dX4_latest_55 : decode cX4_latest 55 = .ok (.ireturn, 1) := by decide +kernel
theorem dX4_latest_56 : decode cX4_latest 56 = .ok (.aload_n 0, 1) := by decide +kernel
theorem dX4_latest_57 : decode cX4_latest 57 = .ok (.getfield 28, 3) := by decide +kernel
theorem dX4_latest_60 : decode cX4_latest 60 = .ok (.ireturn, 1) := by decide +kernel
theorem dX4_latest_61 : decode cX4_latest 61 = .ok (.aload_n 0, 1) := by decide +kernel
theorem dX4_latest_62 : decode cX4_latest 62 = .ok (.getfield 31, 3) := by decide +kernel
theorem dX4_latest_65 : decode cX4_latest 65 = .ok (.ireturn, 1) := by decide +kernel
theorem dX4_troubledPage_0 : decode cX4_troubledPage 0 = .ok (.iload_n 1, 1) := by decide +kernel
theorem dX4_troubledPage_1 : decode cX4_troubledPage 1 = .ok (.ifCond .lt 20, 3) := by decide +kernel
theorem dX4_troubledPage_4 : decode cX4_troubledPage 4 = .ok (.iload_n 1, 1) := by decide +kernel
theorem dX4_troubledPage_5 : decode cX4_troubledPage 5 = .ok (.aload_n 0, 1) := by decide +kernel
theorem dX4_troubledPage_6 : decode cX4_troubledPage 6 = .ok (.getfield 46, 3) := by decide +kernel
theorem dX4_troubledPage_9 : decode cX4_troubledPage 9 = .ok (.if_icmp .ge 12, 3) := by decide +kernel
theorem dX4_troubledPage_12 : decode cX4_troubledPage 12 = .ok (.aload_n 0, 1) := by decide +kernel
theorem dX4_troubledPage_13 : decode cX4_troubledPage 13 = .ok (.getfield 18, 3) := by decide +kernel
theorem dX4_troubledPage_16 : decode cX4_troubledPage 16 = .ok (.iload_n 1, 1) := by decide +kernel
theorem dX4_troubledPage_17 : decode cX4_troubledPage 17 = .ok (.iaload, 1) := by decide +kernel
theorem dX4_troubledPage_18 : decode cX4_troubledPage 18 = .ok (.goto 4, 3) := by decide +kernel
theorem dX4_troubledPage_21 : decode cX4_troubledPage 21 = .ok (.iconst (-1), 1) := by decide +kernel
theorem dX4_troubledPage_22 : decode cX4_troubledPage 22 = .ok (.ireturn, 1) := by decide +kernel
theorem dX4_mendsOf_0 : decode cX4_mendsOf 0 = .ok (.aload_n 0, 1) := by decide +kernel
theorem dX4_mendsOf_1 : decode cX4_mendsOf 1 = .ok (.getfield 15, 3) := by decide +kernel
theorem dX4_mendsOf_4 : decode cX4_mendsOf 4 = .ok (.iload_n 1, 1) := by decide +kernel
theorem dX4_mendsOf_5 : decode cX4_mendsOf 5 = .ok (.iaload, 1) := by decide +kernel
theorem dX4_mendsOf_6 : decode cX4_mendsOf 6 = .ok (.ireturn, 1) := by decide +kernel
theorem dX4_looksOf_0 : decode cX4_looksOf 0 = .ok (.aload_n 0, 1) := by decide +kernel
theorem dX4_looksOf_1 : decode cX4_looksOf 1 = .ok (.getfield 9, 3) := by decide +kernel
theorem dX4_looksOf_4 : decode cX4_looksOf 4 = .ok (.iload_n 1, 1) := by decide +kernel
theorem dX4_looksOf_5 : decode cX4_looksOf 5 = .ok (.iaload, 1) := by decide +kernel
theorem dX4_looksOf_6 : decode cX4_looksOf 6 = .ok (.ireturn, 1) := by decide +kernel
theorem dX4_allLooks_0 : decode cX4_allLooks 0 = .ok (.aload_n 0, 1) := by decide +kernel
theorem dX4_allLooks_1 : decode cX4_allLooks 1 = .ok (.getfield 9, 3) := by decide +kernel
theorem dX4_allLooks_4 : decode cX4_allLooks 4 = .ok (.iconst 0, 1) := by decide +kernel
theorem dX4_allLooks_5 : decode cX4_allLooks 5 = .ok (.iaload, 1) := by decide +kernel
theorem dX4_allLooks_6 : decode cX4_allLooks 6 = .ok (.aload_n 0, 1) := by decide +kernel
theorem dX4_allLooks_7 : decode cX4_allLooks 7 = .ok (.getfield 9, 3) := by decide +kernel
theorem dX4_allLooks_10 : decode cX4_allLooks 10 = .ok (.iconst 1, 1) := by decide +kernel
theorem dX4_allLooks_11 : decode cX4_allLooks 11 = .ok (.iaload, 1) := by decide +kernel
theorem dX4_allLooks_12 : decode cX4_allLooks 12 = .ok (.iadd, 1) := by decide +kernel
theorem dX4_allLooks_13 : decode cX4_allLooks 13 = .ok (.aload_n 0, 1) := by decide +kernel
theorem dX4_allLooks_14 : decode cX4_allLooks 14 = .ok (.getfield 9, 3) := by decide +kernel
theorem dX4_allLooks_17 : decode cX4_allLooks 17 = .ok (.iconst 2, 1) := by decide +kernel
theorem dX4_allLooks_18 : decode cX4_allLooks 18 = .ok (.iaload, 1) := by decide +kernel
theorem dX4_allLooks_19 : decode cX4_allLooks 19 = .ok (.iadd, 1) := by decide +kernel
theorem dX4_allLooks_20 : decode cX4_allLooks 20 = .ok (.ireturn, 1) := by decide +kernel
theorem dX5_init_0 : decode cX5_init 0 = .ok (.aload_n 0, 1) := by decide +kernel
theorem dX5_init_1 : decode cX5_init 1 = .ok (.invokespecial 3, 3) := by decide +kernel
theorem dX5_init_4 : decode cX5_init 4 = .ok (.aload_n 0, 1) := by decide +kernel
theorem dX5_init_5 : decode cX5_init 5 = .ok (.new 9, 3) := by decide +kernel
theorem dX5_init_8 : decode cX5_init 8 = .ok (.dup, 1) := by decide +kernel
theorem dX5_init_9 : decode cX5_init 9 = .ok (.invokespecial 11, 3) := by decide +kernel
theorem dX5_init_12 : decode cX5_init 12 = .ok (.putfield 12, 3) := by decide +kernel
theorem dX5_init_15 : decode cX5_init 15 = .ok (.aload_n 0, 1) := by decide +kernel
theorem dX5_init_16 : decode cX5_init 16 = .ok (.new 18, 3) := by decide +kernel
theorem dX5_init_19 : decode cX5_init 19 = .ok (.dup, 1) := by decide +kernel
theorem dX5_init_20 : decode cX5_init 20 = .ok (.aload_n 0, 1) := by decide +kernel
theorem dX5_init_21 : decode cX5_init 21 = .ok (.getfield 12, 3) := by decide +kernel
theorem dX5_init_24 : decode cX5_init 24 = .ok (.invokespecial 20, 3) := by decide +kernel
theorem dX5_init_27 : decode cX5_init 27 = .ok (.putfield 23, 3) := by decide +kernel
theorem dX5_init_30 : decode cX5_init 30 = .ok (.aload_n 0, 1) := by decide +kernel
theorem dX5_init_31 : decode cX5_init 31 = .ok (.new 27, 3) := by decide +kernel
theorem dX5_init_34 : decode cX5_init 34 = .ok (.dup, 1) := by decide +kernel
theorem dX5_init_35 : decode cX5_init 35 = .ok (.aload_n 0, 1) := by decide +kernel
theorem dX5_init_36 : decode cX5_init 36 = .ok (.getfield 12, 3) := by decide +kernel
theorem dX5_init_39 : decode cX5_init 39 = .ok (.invokespecial 29, 3) := by decide +kernel
theorem dX5_init_42 : decode cX5_init 42 = .ok (.putfield 30, 3) := by decide +kernel
theorem dX5_init_45 : decode cX5_init 45 = .ok (.return_, 1) := by decide +kernel
theorem dX5_code_0 : decode cX5_code 0 = .ok (.iload_n 1, 1) := by decide +kernel
theorem dX5_code_1 : decode cX5_code 1 = .ok (.iload_n 2, 1) := by decide +kernel
theorem dX5_code_2 : decode cX5_code 2 = .ok (.invokestatic 34, 3) := by decide +kernel
theorem dX5_code_5 : decode cX5_code 5 = .ok (.ifCond .ne 6, 3) := by decide +kernel
theorem dX5_code_8 : decode cX5_code 8 = .ok (.bipush (-2), 2) := by decide +kernel
theorem dX5_code_10 : decode cX5_code 10 = .ok (.ireturn, 1) := by decide +kernel
theorem dX5_code_11 : decode cX5_code 11 = .ok (.aload_n 0, 1) := by decide +kernel
theorem dX5_code_12 : decode cX5_code 12 = .ok (.getfield 12, 3) := by decide +kernel
theorem dX5_code_15 : decode cX5_code 15 = .ok (.iload_n 1, 1) := by decide +kernel
theorem dX5_code_16 : decode cX5_code 16 = .ok (.iload_n 2, 1) := by decide +kernel
theorem dX5_code_17 : decode cX5_code 17 = .ok (.invokevirtual 38, 3) := by decide +kernel
theorem dX5_code_20 : decode cX5_code 20 = .ok (.aload_n 0, 1) := by decide +kernel
theorem dX5_code_21 : decode cX5_code 21 = .ok (.getfield 23, 3) := by decide +kernel
theorem dX5_code_24 : decode cX5_code 24 = .ok (.invokevirtual 42, 3) := by decide +kernel
theorem dX5_code_27 : decode cX5_code 27 = .ok (.aload_n 0, 1) := by decide +kernel
theorem dX5_code_28 : decode cX5_code 28 = .ok (.getfield 30, 3) := by decide +kernel
theorem dX5_code_31 : decode cX5_code 31 = .ok (.invokevirtual 45, 3) := by decide +kernel
theorem dX5_code_34 : decode cX5_code 34 = .ok (.aload_n 0, 1) := by decide +kernel
theorem dX5_code_35 : decode cX5_code 35 = .ok (.getfield 12, 3) := by decide +kernel
theorem dX5_code_38 : decode cX5_code 38 = .ok (.invokevirtual 48, 3) := by decide +kernel
theorem dX5_code_41 : decode cX5_code 41 = .ok (.ireturn, 1) := by decide +kernel
theorem dX5_column_0 : decode cX5_column 0 = .ok (.aload_n 0, 1) := by decide +kernel
theorem dX5_column_1 : decode cX5_column 1 = .ok (.getfield 12, 3) := by decide +kernel
theorem dX5_column_4 : decode cX5_column 4 = .ok (.iload_n 1, 1) := by decide +kernel
theorem dX5_column_5 : decode cX5_column 5 = .ok (.invokevirtual 52, 3) := by decide +kernel
theorem dX5_column_8 : decode cX5_column 8 = .ok (.ifCond .eq 14, 3) := by decide +kernel
theorem dX5_column_11 : decode cX5_column 11 = .ok (.aload_n 0, 1) := by decide +kernel
theorem dX5_column_12 : decode cX5_column 12 = .ok (.getfield 12, 3) := by decide +kernel
theorem dX5_column_15 : decode cX5_column 15 = .ok (.iload_n 1, 1) := by decide +kernel
theorem dX5_column_16 : decode cX5_column 16 = .ok (.invokevirtual 56, 3) := by decide +kernel
theorem dX5_column_19 : decode cX5_column 19 = .ok (.goto 4, 3) := by decide +kernel
theorem dX5_column_22 : decode cX5_column 22 = .ok (.iconst (-1), 1) := by decide +kernel
theorem dX5_column_23 : decode cX5_column 23 = .ok (.ireturn, 1) := by decide +kernel
theorem dX5_ones_0 : decode cX5_ones 0 = .ok (.aload_n 0, 1) := by decide +kernel
theorem dX5_ones_1 : decode cX5_ones 1 = .ok (.getfield 12, 3) := by decide +kernel
theorem dX5_ones_4 : decode cX5_ones 4 = .ok (.iload_n 1, 1) := by decide +kernel
theorem dX5_ones_5 : decode cX5_ones 5 = .ok (.invokevirtual 60, 3) := by decide +kernel
theorem dX5_ones_8 : decode cX5_ones 8 = .ok (.ifCond .eq 14, 3) := by decide +kernel
theorem dX5_ones_11 : decode cX5_ones 11 = .ok (.aload_n 0, 1) := by decide +kernel
theorem dX5_ones_12 : decode cX5_ones 12 = .ok (.getfield 12, 3) := by decide +kernel
theorem dX5_ones_15 : decode cX5_ones 15 = .ok (.iload_n 1, 1) := by decide +kernel
theorem dX5_ones_16 : decode cX5_ones 16 = .ok (.invokevirtual 63, 3) := by decide +kernel
theorem dX5_ones_19 : decode cX5_ones 19 = .ok (.goto 4, 3) := by decide +kernel
theorem dX5_ones_22 : decode cX5_ones 22 = .ok (.iconst (-1), 1) := by decide +kernel
theorem dX5_ones_23 : decode cX5_ones 23 = .ok (.ireturn, 1) := by decide +kernel
theorem dX5_word_0 : decode cX5_word 0 = .ok (.aload_n 0, 1) := by decide +kernel
theorem dX5_word_1 : decode cX5_word 1 = .ok (.getfield 12, 3) := by decide +kernel
theorem dX5_word_4 : decode cX5_word 4 = .ok (.invokevirtual 66, 3) := by decide +kernel
theorem dX5_word_7 : decode cX5_word 7 = .ok (.ifCond .ne 6, 3) := by decide +kernel
theorem dX5_word_10 : decode cX5_word 10 = .ok (.bipush (-3), 2) := by decide +kernel
theorem dX5_word_12 : decode cX5_word 12 = .ok (.ireturn, 1) := by decide +kernel
theorem dX5_word_13 : decode cX5_word 13 = .ok (.aload_n 0, 1) := by decide +kernel
theorem dX5_word_14 : decode cX5_word 14 = .ok (.getfield 12, 3) := by decide +kernel
theorem dX5_word_17 : decode cX5_word 17 = .ok (.iload_n 1, 1) := by decide +kernel
theorem dX5_word_18 : decode cX5_word 18 = .ok (.invokevirtual 70, 3) := by decide +kernel
theorem dX5_word_21 : decode cX5_word 21 = .ok (.ifCond .eq 14, 3) := by decide +kernel
theorem dX5_word_24 : decode cX5_word 24 = .ok (.aload_n 0, 1) := by decide +kernel
theorem dX5_word_25 : decode cX5_word 25 = .ok (.getfield 12, 3) := by decide +kernel
theorem dX5_word_28 : decode cX5_word 28 = .ok (.iload_n 1, 1) := by decide +kernel
theorem dX5_word_29 : decode cX5_word 29 = .ok (.invokevirtual 73, 3) := by decide +kernel
theorem dX5_word_32 : decode cX5_word 32 = .ok (.goto 5, 3) := by decide +kernel
theorem dX5_word_35 : decode cX5_word 35 = .ok (.bipush (-2), 2) := by decide +kernel
theorem dX5_word_37 : decode cX5_word 37 = .ok (.ireturn, 1) := by decide +kernel
theorem dX5_syndrome_0 : decode cX5_syndrome 0 = .ok (.aload_n 0, 1) := by decide +kernel
theorem dX5_syndrome_1 : decode cX5_syndrome 1 = .ok (.getfield 12, 3) := by decide +kernel
theorem dX5_syndrome_4 : decode cX5_syndrome 4 = .ok (.invokevirtual 66, 3) := by decide +kernel
theorem dX5_syndrome_7 : decode cX5_syndrome 7 = .ok (.ifCond .ne 6, 3) := by decide +kernel
theorem dX5_syndrome_10 : decode cX5_syndrome 10 = .ok (.bipush (-3), 2) := by decide +kernel
theorem dX5_syndrome_12 : decode cX5_syndrome 12 = .ok (.ireturn, 1) := by decide +kernel
theorem dX5_syndrome_13 : decode cX5_syndrome 13 = .ok (.aload_n 0, 1) := by decide +kernel
theorem dX5_syndrome_14 : decode cX5_syndrome 14 = .ok (.getfield 12, 3) := by decide +kernel
theorem dX5_syndrome_17 : decode cX5_syndrome 17 = .ok (.iload_n 1, 1) := by decide +kernel
theorem dX5_syndrome_18 : decode cX5_syndrome 18 = .ok (.invokevirtual 76, 3) := by decide +kernel
theorem dX5_syndrome_21 : decode cX5_syndrome 21 = .ok (.ifCond .eq 14, 3) := by decide +kernel
theorem dX5_syndrome_24 : decode cX5_syndrome 24 = .ok (.aload_n 0, 1) := by decide +kernel
theorem dX5_syndrome_25 : decode cX5_syndrome 25 = .ok (.getfield 12, 3) := by decide +kernel
theorem dX5_syndrome_28 : decode cX5_syndrome 28 = .ok (.iload_n 1, 1) := by decide +kernel
theorem dX5_syndrome_29 : decode cX5_syndrome 29 = .ok (.invokevirtual 79, 3) := by decide +kernel
theorem dX5_syndrome_32 : decode cX5_syndrome 32 = .ok (.goto 5, 3) := by decide +kernel
theorem dX5_syndrome_35 : decode cX5_syndrome 35 = .ok (.bipush (-2), 2) := by decide +kernel
theorem dX5_syndrome_37 : decode cX5_syndrome 37 = .ok (.ireturn, 1) := by decide +kernel
theorem dX5_mended_0 : decode cX5_mended 0 = .ok (.aload_n 0, 1) := by decide +kernel
theorem dX5_mended_1 : decode cX5_mended 1 = .ok (.getfield 12, 3) := by decide +kernel
theorem dX5_mended_4 : decode cX5_mended 4 = .ok (.invokevirtual 66, 3) := by decide +kernel
theorem dX5_mended_7 : decode cX5_mended 7 = .ok (.ifCond .ne 6, 3) := by decide +kernel
theorem dX5_mended_10 : decode cX5_mended 10 = .ok (.bipush (-3), 2) := by decide +kernel
theorem dX5_mended_12 : decode cX5_mended 12 = .ok (.ireturn, 1) := by decide +kernel
theorem dX5_mended_13 : decode cX5_mended 13 = .ok (.aload_n 0, 1) := by decide +kernel
theorem dX5_mended_14 : decode cX5_mended 14 = .ok (.getfield 12, 3) := by decide +kernel
theorem dX5_mended_17 : decode cX5_mended 17 = .ok (.iload_n 1, 1) := by decide +kernel
theorem dX5_mended_18 : decode cX5_mended 18 = .ok (.invokevirtual 76, 3) := by decide +kernel
theorem dX5_mended_21 : decode cX5_mended 21 = .ok (.ifCond .eq 14, 3) := by decide +kernel
theorem dX5_mended_24 : decode cX5_mended 24 = .ok (.aload_n 0, 1) := by decide +kernel
theorem dX5_mended_25 : decode cX5_mended 25 = .ok (.getfield 12, 3) := by decide +kernel
theorem dX5_mended_28 : decode cX5_mended 28 = .ok (.iload_n 1, 1) := by decide +kernel
theorem dX5_mended_29 : decode cX5_mended 29 = .ok (.invokevirtual 82, 3) := by decide +kernel
theorem dX5_mended_32 : decode cX5_mended 32 = .ok (.goto 5, 3) := by decide +kernel
theorem dX5_mended_35 : decode cX5_mended 35 = .ok (.bipush (-2), 2) := by decide +kernel
theorem dX5_mended_37 : decode cX5_mended 37 = .ok (.ireturn, 1) := by decide +kernel
theorem dX5_write_0 : decode cX5_write 0 = .ok (.aload_n 0, 1) := by decide +kernel
theorem dX5_write_1 : decode cX5_write 1 = .ok (.iload_n 1, 1) := by decide +kernel
theorem dX5_write_2 : decode cX5_write 2 = .ok (.iload_n 2, 1) := by decide +kernel
theorem dX5_write_3 : decode cX5_write 3 = .ok (.invokevirtual 85, 3) := by decide +kernel
theorem dX5_write_6 : decode cX5_write 6 = .ok (.ifCond .ne 5, 3) := by decide +kernel
theorem dX5_write_9 : decode cX5_write 9 = .ok (.iconst (-1), 1) := by decide +kernel
theorem dX5_write_10 : decode cX5_write 10 = .ok (.ireturn, 1) := by decide +kernel
theorem dX5_write_11 : decode cX5_write 11 = .ok (.aload_n 0, 1) := by decide +kernel
theorem dX5_write_12 : decode cX5_write 12 = .ok (.getfield 12, 3) := by decide +kernel
theorem dX5_write_15 : decode cX5_write 15 = .ok (.iload_n 3, 1) := by decide +kernel
theorem dX5_write_16 : decode cX5_write 16 = .ok (.invokevirtual 70, 3) := by decide +kernel
theorem dX5_write_19 : decode cX5_write 19 = .ok (.ifCond .ne 6, 3) := by decide +kernel
theorem dX5_write_22 : decode cX5_write 22 = .ok (.bipush (-2), 2) := by decide +kernel
theorem dX5_write_24 : decode cX5_write 24 = .ok (.ireturn, 1) := by decide +kernel
theorem dX5_write_25 : decode cX5_write 25 = .ok (.aload_n 0, 1) := by decide +kernel
theorem dX5_write_26 : decode cX5_write 26 = .ok (.getfield 23, 3) := by decide +kernel
theorem dX5_write_29 : decode cX5_write 29 = .ok (.iload_n 1, 1) := by decide +kernel
theorem dX5_write_30 : decode cX5_write 30 = .ok (.iload_n 2, 1) := by decide +kernel
theorem dX5_write_31 : decode cX5_write 31 = .ok (.iload_n 3, 1) := by decide +kernel
theorem dX5_write_32 : decode cX5_write 32 = .ok (.invokevirtual 88, 3) := by decide +kernel
theorem dX5_write_35 : decode cX5_write 35 = .ok (.iconst 1, 1) := by decide +kernel
theorem dX5_write_36 : decode cX5_write 36 = .ok (.ireturn, 1) := by decide +kernel
theorem dX5_read_0 : decode cX5_read 0 = .ok (.aload_n 0, 1) := by decide +kernel
theorem dX5_read_1 : decode cX5_read 1 = .ok (.iload_n 1, 1) := by decide +kernel
theorem dX5_read_2 : decode cX5_read 2 = .ok (.iload_n 2, 1) := by decide +kernel
theorem dX5_read_3 : decode cX5_read 3 = .ok (.invokevirtual 85, 3) := by decide +kernel
theorem dX5_read_6 : decode cX5_read 6 = .ok (.ifCond .ne 5, 3) := by decide +kernel
theorem dX5_read_9 : decode cX5_read 9 = .ok (.iconst (-1), 1) := by decide +kernel
theorem dX5_read_10 : decode cX5_read 10 = .ok (.ireturn, 1) := by decide +kernel
theorem dX5_read_11 : decode cX5_read 11 = .ok (.aload_n 0, 1) := by decide +kernel
theorem dX5_read_12 : decode cX5_read 12 = .ok (.getfield 23, 3) := by decide +kernel
theorem dX5_read_15 : decode cX5_read 15 = .ok (.iload_n 1, 1) := by decide +kernel
theorem dX5_read_16 : decode cX5_read 16 = .ok (.iload_n 2, 1) := by decide +kernel
theorem dX5_read_17 : decode cX5_read 17 = .ok (.invokevirtual 92, 3) := by decide +kernel
theorem dX5_read_20 : decode cX5_read 20 = .ok (.istore_n 3, 1) := by decide +kernel
theorem dX5_read_21 : decode cX5_read 21 = .ok (.iload_n 3, 1) := by decide +kernel
theorem dX5_read_22 : decode cX5_read 22 = .ok (.bipush (-5), 2) := by decide +kernel
theorem dX5_read_24 : decode cX5_read 24 = .ok (.if_icmp .ne 8, 3) := by decide +kernel
theorem dX5_read_27 : decode cX5_read 27 = .ok (.bipush (-5), 2) := by decide +kernel
theorem dX5_read_29 : decode cX5_read 29 = .ok (.goto 11, 3) := by decide +kernel
theorem dX5_read_32 : decode cX5_read 32 = .ok (.aload_n 0, 1) := by decide +kernel
theorem dX5_read_33 : decode cX5_read 33 = .ok (.getfield 12, 3) := by decide +kernel
theorem dX5_read_36 : decode cX5_read 36 = .ok (.iload_n 3, 1) := by decide +kernel
theorem dX5_read_37 : decode cX5_read 37 = .ok (.invokevirtual 96, 3) := by decide +kernel
theorem dX5_read_40 : decode cX5_read 40 = .ok (.ireturn, 1) := by decide +kernel
theorem dX5_raw_0 : decode cX5_raw 0 = .ok (.aload_n 0, 1) := by decide +kernel
theorem dX5_raw_1 : decode cX5_raw 1 = .ok (.iload_n 1, 1) := by decide +kernel
theorem dX5_raw_2 : decode cX5_raw 2 = .ok (.iload_n 2, 1) := by decide +kernel
theorem dX5_raw_3 : decode cX5_raw 3 = .ok (.invokevirtual 85, 3) := by decide +kernel
theorem dX5_raw_6 : decode cX5_raw 6 = .ok (.ifCond .eq 15, 3) := by decide +kernel
theorem dX5_raw_9 : decode cX5_raw 9 = .ok (.aload_n 0, 1) := by decide +kernel
theorem dX5_raw_10 : decode cX5_raw 10 = .ok (.getfield 23, 3) := by decide +kernel
theorem dX5_raw_13 : decode cX5_raw 13 = .ok (.iload_n 1, 1) := by decide +kernel
theorem dX5_raw_14 : decode cX5_raw 14 = .ok (.iload_n 2, 1) := by decide +kernel
theorem dX5_raw_15 : decode cX5_raw 15 = .ok (.invokevirtual 99, 3) := by decide +kernel
theorem dX5_raw_18 : decode cX5_raw 18 = .ok (.goto 4, 3) := by decide +kernel
theorem dX5_raw_21 : decode cX5_raw 21 = .ok (.iconst (-1), 1) := by decide +kernel
theorem dX5_raw_22 : decode cX5_raw 22 = .ok (.ireturn, 1) := by decide +kernel
theorem dX5_flip_0 : decode cX5_flip 0 = .ok (.aload_n 0, 1) := by decide +kernel
theorem dX5_flip_1 : decode cX5_flip 1 = .ok (.iload_n 1, 1) := by decide +kernel
theorem dX5_flip_2 : decode cX5_flip 2 = .ok (.iload_n 2, 1) := by decide +kernel
theorem dX5_flip_3 : decode cX5_flip 3 = .ok (.invokevirtual 85, 3) := by decide +kernel
theorem dX5_flip_6 : decode cX5_flip 6 = .ok (.ifCond .ne 5, 3) := by decide +kernel
theorem dX5_flip_9 : decode cX5_flip 9 = .ok (.iconst (-1), 1) := by decide +kernel
theorem dX5_flip_10 : decode cX5_flip 10 = .ok (.ireturn, 1) := by decide +kernel
theorem dX5_flip_11 : decode cX5_flip 11 = .ok (.aload_n 0, 1) := by decide +kernel
theorem dX5_flip_12 : decode cX5_flip 12 = .ok (.getfield 12, 3) := by decide +kernel
theorem dX5_flip_15 : decode cX5_flip 15 = .ok (.iload_n 3, 1) := by decide +kernel
theorem dX5_flip_16 : decode cX5_flip 16 = .ok (.invokevirtual 76, 3) := by decide +kernel
theorem dX5_flip_19 : decode cX5_flip 19 = .ok (.ifCond .eq 16, 3) := by decide +kernel
theorem dX5_flip_22 : decode cX5_flip 22 = .ok (.aload_n 0, 1) := by decide +kernel
theorem dX5_flip_23 : decode cX5_flip 23 = .ok (.getfield 23, 3) := by decide +kernel
theorem dX5_flip_26 : decode cX5_flip 26 = .ok (.iload_n 1, 1) := by decide +kernel
theorem dX5_flip_27 : decode cX5_flip 27 = .ok (.iload_n 2, 1) := by decide +kernel
theorem dX5_flip_28 : decode cX5_flip 28 = .ok (.iload_n 3, 1) := by decide +kernel
theorem dX5_flip_29 : decode cX5_flip 29 = .ok (.invokevirtual 102, 3) := by decide +kernel
theorem dX5_flip_32 : decode cX5_flip 32 = .ok (.goto 5, 3) := by decide +kernel
theorem dX5_flip_35 : decode cX5_flip 35 = .ok (.bipush (-2), 2) := by decide +kernel
theorem dX5_flip_37 : decode cX5_flip 37 = .ok (.ireturn, 1) := by decide +kernel
theorem dX5_stick_0 : decode cX5_stick 0 = .ok (.aload_n 0, 1) := by decide +kernel
theorem dX5_stick_1 : decode cX5_stick 1 = .ok (.iload_n 1, 1) := by decide +kernel
theorem dX5_stick_2 : decode cX5_stick 2 = .ok (.iload_n 2, 1) := by decide +kernel
theorem dX5_stick_3 : decode cX5_stick 3 = .ok (.invokevirtual 85, 3) := by decide +kernel
theorem dX5_stick_6 : decode cX5_stick 6 = .ok (.ifCond .eq 14, 3) := by decide +kernel
theorem dX5_stick_9 : decode cX5_stick 9 = .ok (.aload_n 0, 1) := by decide +kernel
theorem dX5_stick_10 : decode cX5_stick 10 = .ok (.getfield 12, 3) := by decide +kernel
theorem dX5_stick_13 : decode cX5_stick 13 = .ok (.iload_n 3, 1) := by decide +kernel
theorem dX5_stick_14 : decode cX5_stick 14 = .ok (.invokevirtual 52, 3) := by decide +kernel
theorem dX5_stick_17 : decode cX5_stick 17 = .ok (.ifCond .ne 5, 3) := by decide +kernel
theorem dX5_stick_20 : decode cX5_stick 20 = .ok (.iconst (-1), 1) := by decide +kernel
theorem dX5_stick_21 : decode cX5_stick 21 = .ok (.ireturn, 1) := by decide +kernel
theorem dX5_stick_22 : decode cX5_stick 22 = .ok (.iload 4, 2) := by decide +kernel
theorem dX5_stick_24 : decode cX5_stick 24 = .ok (.ifCond .lt 9, 3) := by decide +kernel
theorem dX5_stick_27 : decode cX5_stick 27 = .ok (.iload 4, 2) := by decide +kernel
theorem dX5_stick_29 : decode cX5_stick 29 = .ok (.iconst 2, 1) := by decide +kernel
theorem dX5_stick_30 : decode cX5_stick 30 = .ok (.if_icmp .le 6, 3) := by decide +kernel
theorem dX5_stick_33 : decode cX5_stick 33 = .ok (.bipush (-2), 2) := by decide +kernel
theorem dX5_stick_35 : decode cX5_stick 35 = .ok (.ireturn, 1) := by decide +kernel
theorem dX5_stick_36 : decode cX5_stick 36 = .ok (.iload 4, 2) := by decide +kernel
theorem dX5_stick_38 : decode cX5_stick 38 = .ok (.iconst 2, 1) := by decide +kernel
theorem dX5_stick_39 : decode cX5_stick 39 = .ok (.if_icmp .ne 16, 3) := by decide +kernel
theorem dX5_stick_42 : decode cX5_stick 42 = .ok (.aload_n 0, 1) := by decide +kernel
theorem dX5_stick_43 : decode cX5_stick 43 = .ok (.getfield 23, 3) := by decide +kernel
theorem dX5_stick_46 : decode cX5_stick 46 = .ok (.iload_n 1, 1) := by decide +kernel
theorem dX5_stick_47 : decode cX5_stick 47 = .ok (.iload_n 2, 1) := by decide +kernel
theorem dX5_stick_48 : decode cX5_stick 48 = .ok (.iload_n 3, 1) := by decide +kernel
theorem dX5_stick_49 : decode cX5_stick 49 = .ok (.invokevirtual 106, 3) := by decide +kernel
theorem dX5_stick_52 : decode cX5_stick 52 = .ok (.goto 15, 3) := by decide +kernel
theorem dX5_stick_55 : decode cX5_stick 55 = .ok (.aload_n 0, 1) := by decide +kernel
theorem dX5_stick_56 : decode cX5_stick 56 = .ok (.getfield 23, 3) := by decide +kernel
theorem dX5_stick_59 : decode cX5_stick 59 = .ok (.iload_n 1, 1) := by decide +kernel
theorem dX5_stick_60 : decode cX5_stick 60 = .ok (.iload_n 2, 1) := by decide +kernel
theorem dX5_stick_61 : decode cX5_stick 61 = .ok (.iload_n 3, 1) := by decide +kernel
theorem dX5_stick_62 : decode cX5_stick 62 = .ok (.iload 4, 2) := by decide +kernel
theorem dX5_stick_64 : decode cX5_stick 64 = .ok (.invokevirtual 109, 3) := by decide +kernel
theorem dX5_stick_67 : decode cX5_stick 67 = .ok (.ireturn, 1) := by decide +kernel
theorem dX5_scrub_0 : decode cX5_scrub 0 = .ok (.iload_n 1, 1) := by decide +kernel
theorem dX5_scrub_1 : decode cX5_scrub 1 = .ok (.ifCond .lt 9, 3) := by decide +kernel
theorem dX5_scrub_4 : decode cX5_scrub 4 = .ok (.iload_n 1, 1) := by decide +kernel
theorem dX5_scrub_5 : decode cX5_scrub 5 = .ok (.bipush 64, 2) := by decide +kernel
theorem dX5_scrub_7 : decode cX5_scrub 7 = .ok (.if_icmp .le 6, 3) := by decide +kernel
theorem dX5_scrub_10 : decode cX5_scrub 10 = .ok (.bipush (-2), 2) := by decide +kernel
theorem dX5_scrub_12 : decode cX5_scrub 12 = .ok (.ireturn, 1) := by decide +kernel
theorem dX5_scrub_13 : decode cX5_scrub 13 = .ok (.aload_n 0, 1) := by decide +kernel
theorem dX5_scrub_14 : decode cX5_scrub 14 = .ok (.getfield 12, 3) := by decide +kernel
theorem dX5_scrub_17 : decode cX5_scrub 17 = .ok (.invokevirtual 66, 3) := by decide +kernel
theorem dX5_scrub_20 : decode cX5_scrub 20 = .ok (.ifCond .ne 6, 3) := by decide +kernel
theorem dX5_scrub_23 : decode cX5_scrub 23 = .ok (.bipush (-3), 2) := by decide +kernel
theorem dX5_scrub_25 : decode cX5_scrub 25 = .ok (.ireturn, 1) := by decide +kernel
theorem dX5_scrub_26 : decode cX5_scrub 26 = .ok (.iconst 0, 1) := by decide +kernel
theorem dX5_scrub_27 : decode cX5_scrub 27 = .ok (.istore_n 2, 1) := by decide +kernel
theorem dX5_scrub_28 : decode cX5_scrub 28 = .ok (.iconst 0, 1) := by decide +kernel
theorem dX5_scrub_29 : decode cX5_scrub 29 = .ok (.istore_n 3, 1) := by decide +kernel
theorem dX5_scrub_30 : decode cX5_scrub 30 = .ok (.iload_n 3, 1) := by decide +kernel
theorem dX5_scrub_31 : decode cX5_scrub 31 = .ok (.iload_n 1, 1) := by decide +kernel
theorem dX5_scrub_32 : decode cX5_scrub 32 = .ok (.if_icmp .ge 22, 3) := by decide +kernel
theorem dX5_scrub_35 : decode cX5_scrub 35 = .ok (.aload_n 0, 1) := by decide +kernel
theorem dX5_scrub_36 : decode cX5_scrub 36 = .ok (.getfield 23, 3) := by decide +kernel
theorem dX5_scrub_39 : decode cX5_scrub 39 = .ok (.invokevirtual 113, 3) := by decide +kernel
theorem dX5_scrub_42 : decode cX5_scrub 42 = .ok (.ifCond .eq 6, 3) := by decide +kernel
theorem dX5_scrub_45 : decode cX5_scrub 45 = .ok (.iinc 2 1, 3) := by decide +kernel
theorem dX5_scrub_48 : decode cX5_scrub 48 = .ok (.iinc 3 1, 3) := by decide +kernel
theorem dX5_scrub_51 : decode cX5_scrub 51 = .ok (.goto (-21), 3) := by decide +kernel
theorem dX5_scrub_54 : decode cX5_scrub 54 = .ok (.iload_n 2, 1) := by decide +kernel
theorem dX5_scrub_55 : decode cX5_scrub 55 = .ok (.ireturn, 1) := by decide +kernel
theorem dX5_look_0 : decode cX5_look 0 = .ok (.iload_n 1, 1) := by decide +kernel
theorem dX5_look_1 : decode cX5_look 1 = .ok (.ifCond .lt 8, 3) := by decide +kernel
theorem dX5_look_4 : decode cX5_look 4 = .ok (.iload_n 1, 1) := by decide +kernel
theorem dX5_look_5 : decode cX5_look 5 = .ok (.iconst 5, 1) := by decide +kernel
theorem dX5_look_6 : decode cX5_look 6 = .ok (.if_icmp .le 6, 3) := by decide +kernel
theorem dX5_look_9 : decode cX5_look 9 = .ok (.bipush (-2), 2) := by decide +kernel
theorem dX5_look_11 : decode cX5_look 11 = .ok (.ireturn, 1) := by decide +kernel
theorem dX5_look_12 : decode cX5_look 12 = .ok (.aload_n 0, 1) := by decide +kernel
theorem dX5_look_13 : decode cX5_look 13 = .ok (.getfield 23, 3) := by decide +kernel
theorem dX5_look_16 : decode cX5_look 16 = .ok (.invokevirtual 116, 3) := by decide +kernel
theorem dX5_look_19 : decode cX5_look 19 = .ok (.iload_n 1, 1) := by decide +kernel
theorem dX5_look_20 : decode cX5_look 20 = .ok (.invokevirtual 120, 3) := by decide +kernel
theorem dX5_look_23 : decode cX5_look 23 = .ok (.ireturn, 1) := by decide +kernel
theorem dX5_fate_0 : decode cX5_fate 0 = .ok (.aload_n 0, 1) := by decide +kernel
theorem dX5_fate_1 : decode cX5_fate 1 = .ok (.iload_n 1, 1) := by decide +kernel
theorem dX5_fate_2 : decode cX5_fate 2 = .ok (.iload_n 2, 1) := by decide +kernel
theorem dX5_fate_3 : decode cX5_fate 3 = .ok (.invokevirtual 85, 3) := by decide +kernel
theorem dX5_fate_6 : decode cX5_fate 6 = .ok (.ifCond .ne 5, 3) := by decide +kernel
theorem dX5_fate_9 : decode cX5_fate 9 = .ok (.iconst (-1), 1) := by decide +kernel
theorem dX5_fate_10 : decode cX5_fate 10 = .ok (.ireturn, 1) := by decide +kernel
theorem dX5_fate_11 : decode cX5_fate 11 = .ok (.aload_n 0, 1) := by decide +kernel
theorem dX5_fate_12 : decode cX5_fate 12 = .ok (.getfield 12, 3) := by decide +kernel
theorem dX5_fate_15 : decode cX5_fate 15 = .ok (.iload_n 3, 1) := by decide +kernel
theorem dX5_fate_16 : decode cX5_fate 16 = .ok (.invokevirtual 76, 3) := by decide +kernel
theorem dX5_fate_19 : decode cX5_fate 19 = .ok (.ifCond .ne 6, 3) := by decide +kernel
theorem dX5_fate_22 : decode cX5_fate 22 = .ok (.bipush (-2), 2) := by decide +kernel
theorem dX5_fate_24 : decode cX5_fate 24 = .ok (.ireturn, 1) := by decide +kernel
theorem dX5_fate_25 : decode cX5_fate 25 = .ok (.aload_n 0, 1) := by decide +kernel
theorem dX5_fate_26 : decode cX5_fate 26 = .ok (.getfield 23, 3) := by decide +kernel
theorem dX5_fate_29 : decode cX5_fate 29 = .ok (.iload_n 1, 1) := by decide +kernel
theorem dX5_fate_30 : decode cX5_fate 30 = .ok (.iload_n 2, 1) := by decide +kernel
theorem dX5_fate_31 : decode cX5_fate 31 = .ok (.invokevirtual 99, 3) := by decide +kernel
theorem dX5_fate_34 : decode cX5_fate 34 = .ok (.iload_n 3, 1) := by decide +kernel
theorem dX5_fate_35 : decode cX5_fate 35 = .ok (.ixor, 1) := by decide +kernel
theorem dX5_fate_36 : decode cX5_fate 36 = .ok (.istore 4, 2) := by decide +kernel
theorem dX5_fate_38 : decode cX5_fate 38 = .ok (.aload_n 0, 1) := by decide +kernel
theorem dX5_fate_39 : decode cX5_fate 39 = .ok (.getfield 12, 3) := by decide +kernel
theorem dX5_fate_42 : decode cX5_fate 42 = .ok (.iload 4, 2) := by decide +kernel
theorem dX5_fate_44 : decode cX5_fate 44 = .ok (.invokevirtual 82, 3) := by decide +kernel
theorem dX5_fate_47 : decode cX5_fate 47 = .ok (.istore 5, 2) := by decide +kernel
theorem dX5_fate_49 : decode cX5_fate 49 = .ok (.iload 5, 2) := by decide +kernel
theorem dX5_fate_51 : decode cX5_fate 51 = .ok (.bipush (-5), 2) := by decide +kernel
theorem dX5_fate_53 : decode cX5_fate 53 = .ok (.if_icmp .ne 5, 3) := by decide +kernel
theorem dX5_fate_56 : decode cX5_fate 56 = .ok (.iconst 2, 1) := by decide +kernel
theorem dX5_fate_57 : decode cX5_fate 57 = .ok (.ireturn, 1) := by decide +kernel
theorem dX5_fate_58 : decode cX5_fate 58 = .ok (.aload_n 0, 1) := by decide +kernel
theorem dX5_fate_59 : decode cX5_fate 59 = .ok (.getfield 12, 3) := by decide +kernel
theorem dX5_fate_62 : decode cX5_fate 62 = .ok (.iload 5, 2) := by decide +kernel
theorem dX5_fate_64 : decode cX5_fate 64 = .ok (.invokevirtual 96, 3) := by decide +kernel
theorem dX5_fate_67 : decode cX5_fate 67 = .ok (.aload_n 0, 1) := by decide +kernel
theorem dX5_fate_68 : decode cX5_fate 68 = .ok (.getfield 23, 3) := by decide +kernel
theorem dX5_fate_71 : decode cX5_fate 71 = .ok (.iload_n 1, 1) := by decide +kernel
theorem dX5_fate_72 : decode cX5_fate 72 = .ok (.iload_n 2, 1) := by decide +kernel
theorem dX5_fate_73 : decode cX5_fate 73 = .ok (.invokevirtual 125, 3) := by decide +kernel
theorem dX5_fate_76 : decode cX5_fate 76 = .ok (.if_icmp .eq 5, 3) := by decide +kernel
theorem dX5_fate_79 : decode cX5_fate 79 = .ok (.iconst 3, 1) := by decide +kernel
theorem dX5_fate_80 : decode cX5_fate 80 = .ok (.ireturn, 1) := by decide +kernel
theorem dX5_fate_81 : decode cX5_fate 81 = .ok (.iload 5, 2) := by decide +kernel
theorem dX5_fate_83 : decode cX5_fate 83 = .ok (.iload 4, 2) := by decide +kernel
theorem dX5_fate_85 : decode cX5_fate 85 = .ok (.if_icmp .ne 7, 3) := by decide +kernel
theorem dX5_fate_88 : decode cX5_fate 88 = .ok (.iconst 0, 1) := by decide +kernel
theorem dX5_fate_89 : decode cX5_fate 89 = .ok (.goto 4, 3) := by decide +kernel
theorem dX5_fate_92 : decode cX5_fate 92 = .ok (.iconst 1, 1) := by decide +kernel
theorem dX5_fate_93 : decode cX5_fate 93 = .ok (.ireturn, 1) := by decide +kernel
theorem dX5_marks_0 : decode cX5_marks 0 = .ok (.iload_n 1, 1) := by decide +kernel
theorem dX5_marks_1 : decode cX5_marks 1 = .ok (.ifCond .lt 31, 3) := by decide +kernel
theorem dX5_marks_4 : decode cX5_marks 4 = .ok (.iload_n 1, 1) := by decide +kernel
theorem dX5_marks_5 : decode cX5_marks 5 = .ok (.bipush 6, 2) := by decide +kernel
theorem dX5_marks_7 : decode cX5_marks 7 = .ok (.if_icmp .ge 25, 3) := by decide +kernel
theorem dX5_marks_10 : decode cX5_marks 10 = .ok (.iload_n 2, 1) := by decide +kernel
theorem dX5_marks_11 : decode cX5_marks 11 = .ok (.invokestatic 128, 3) := by decide +kernel
theorem dX5_marks_14 : decode cX5_marks 14 = .ok (.ifCond .eq 18, 3) := by decide +kernel
theorem dX5_marks_17 : decode cX5_marks 17 = .ok (.aload_n 0, 1) := by decide +kernel
theorem dX5_marks_18 : decode cX5_marks 18 = .ok (.getfield 12, 3) := by decide +kernel
theorem dX5_marks_21 : decode cX5_marks 21 = .ok (.iload_n 3, 1) := by decide +kernel
theorem dX5_marks_22 : decode cX5_marks 22 = .ok (.invokevirtual 131, 3) := by decide +kernel
theorem dX5_marks_25 : decode cX5_marks 25 = .ok (.ifCond .eq 7, 3) := by decide +kernel
theorem dX5_marks_28 : decode cX5_marks 28 = .ok (.iconst 1, 1) := by decide +kernel
theorem dX5_marks_29 : decode cX5_marks 29 = .ok (.goto 4, 3) := by decide +kernel
theorem dX5_marks_32 : decode cX5_marks 32 = .ok (.iconst 0, 1) := by decide +kernel
theorem dX5_marks_33 : decode cX5_marks 33 = .ok (.istore 4, 2) := by decide +kernel
theorem dX5_marks_35 : decode cX5_marks 35 = .ok (.iload 4, 2) := by decide +kernel
theorem dX5_marks_37 : decode cX5_marks 37 = .ok (.ifCond .eq 16, 3) := by decide +kernel
theorem dX5_marks_40 : decode cX5_marks 40 = .ok (.aload_n 0, 1) := by decide +kernel
theorem dX5_marks_41 : decode cX5_marks 41 = .ok (.getfield 23, 3) := by decide +kernel
theorem dX5_marks_44 : decode cX5_marks 44 = .ok (.iload_n 1, 1) := by decide +kernel
theorem dX5_marks_45 : decode cX5_marks 45 = .ok (.iload_n 2, 1) := by decide +kernel
theorem dX5_marks_46 : decode cX5_marks 46 = .ok (.iload_n 3, 1) := by decide +kernel
theorem dX5_marks_47 : decode cX5_marks 47 = .ok (.invokevirtual 134, 3) := by decide +kernel
theorem dX5_marks_50 : decode cX5_marks 50 = .ok (.goto 4, 3) := by decide +kernel
theorem dX5_marks_53 : decode cX5_marks 53 = .ok (.iconst (-1), 1) := by decide +kernel
theorem dX5_marks_54 : decode cX5_marks 54 = .ok (.ireturn, 1) := by decide +kernel
theorem dX5_frame_0 : decode cX5_frame 0 = .ok (.aload_n 0, 1) := by decide +kernel
theorem dX5_frame_1 : decode cX5_frame 1 = .ok (.iload_n 1, 1) := by decide +kernel
theorem dX5_frame_2 : decode cX5_frame 2 = .ok (.invokevirtual 137, 3) := by decide +kernel
theorem dX5_frame_5 : decode cX5_frame 5 = .ok (.ifCond .eq 14, 3) := by decide +kernel
theorem dX5_frame_8 : decode cX5_frame 8 = .ok (.aload_n 0, 1) := by decide +kernel
theorem dX5_frame_9 : decode cX5_frame 9 = .ok (.getfield 23, 3) := by decide +kernel
theorem dX5_frame_12 : decode cX5_frame 12 = .ok (.iload_n 1, 1) := by decide +kernel
theorem dX5_frame_13 : decode cX5_frame 13 = .ok (.invokevirtual 140, 3) := by decide +kernel
theorem dX5_frame_16 : decode cX5_frame 16 = .ok (.goto 4, 3) := by decide +kernel
theorem dX5_frame_19 : decode cX5_frame 19 = .ok (.iconst (-1), 1) := by decide +kernel
theorem dX5_frame_20 : decode cX5_frame 20 = .ok (.ireturn, 1) := by decide +kernel
theorem dX5_place_0 : decode cX5_place 0 = .ok (.aload_n 0, 1) := by decide +kernel
theorem dX5_place_1 : decode cX5_place 1 = .ok (.getfield 12, 3) := by decide +kernel
theorem dX5_place_4 : decode cX5_place 4 = .ok (.iload_n 1, 1) := by decide +kernel
theorem dX5_place_5 : decode cX5_place 5 = .ok (.invokevirtual 52, 3) := by decide +kernel
theorem dX5_place_8 : decode cX5_place 8 = .ok (.ifCond .eq 14, 3) := by decide +kernel
theorem dX5_place_11 : decode cX5_place 11 = .ok (.aload_n 0, 1) := by decide +kernel
theorem dX5_place_12 : decode cX5_place 12 = .ok (.getfield 23, 3) := by decide +kernel
theorem dX5_place_15 : decode cX5_place 15 = .ok (.iload_n 1, 1) := by decide +kernel
theorem dX5_place_16 : decode cX5_place 16 = .ok (.invokevirtual 143, 3) := by decide +kernel
theorem dX5_place_19 : decode cX5_place 19 = .ok (.goto 4, 3) := by decide +kernel
theorem dX5_place_22 : decode cX5_place 22 = .ok (.iconst (-1), 1) := by decide +kernel
theorem dX5_place_23 : decode cX5_place 23 = .ok (.ireturn, 1) := by decide +kernel
theorem dX5_retired_0 : decode cX5_retired 0 = .ok (.aload_n 0, 1) := by decide +kernel
theorem dX5_retired_1 : decode cX5_retired 1 = .ok (.getfield 23, 3) := by decide +kernel
theorem dX5_retired_4 : decode cX5_retired 4 = .ok (.iload_n 1, 1) := by decide +kernel
theorem dX5_retired_5 : decode cX5_retired 5 = .ok (.invokevirtual 146, 3) := by decide +kernel
theorem dX5_retired_8 : decode cX5_retired 8 = .ok (.ireturn, 1) := by decide +kernel
theorem dX5_troubled_0 : decode cX5_troubled 0 = .ok (.aload_n 0, 1) := by decide +kernel
theorem dX5_troubled_1 : decode cX5_troubled 1 = .ok (.getfield 23, 3) := by decide +kernel
theorem dX5_troubled_4 : decode cX5_troubled 4 = .ok (.invokevirtual 116, 3) := by decide +kernel
theorem dX5_troubled_7 : decode cX5_troubled 7 = .ok (.iload_n 1, 1) := by decide +kernel
theorem dX5_troubled_8 : decode cX5_troubled 8 = .ok (.invokevirtual 149, 3) := by decide +kernel
theorem dX5_troubled_11 : decode cX5_troubled 11 = .ok (.ireturn, 1) := by decide +kernel
theorem dX5_mends_0 : decode cX5_mends 0 = .ok (.aload_n 0, 1) := by decide +kernel
theorem dX5_mends_1 : decode cX5_mends 1 = .ok (.iload_n 1, 1) := by decide +kernel
theorem dX5_mends_2 : decode cX5_mends 2 = .ok (.invokevirtual 137, 3) := by decide +kernel
theorem dX5_mends_5 : decode cX5_mends 5 = .ok (.ifCond .eq 17, 3) := by decide +kernel
theorem dX5_mends_8 : decode cX5_mends 8 = .ok (.aload_n 0, 1) := by decide +kernel
theorem dX5_mends_9 : decode cX5_mends 9 = .ok (.getfield 23, 3) := by decide +kernel
theorem dX5_mends_12 : decode cX5_mends 12 = .ok (.invokevirtual 116, 3) := by decide +kernel
theorem dX5_mends_15 : decode cX5_mends 15 = .ok (.iload_n 1, 1) := by decide +kernel
theorem dX5_mends_16 : decode cX5_mends 16 = .ok (.invokevirtual 152, 3) := by decide +kernel
theorem dX5_mends_19 : decode cX5_mends 19 = .ok (.goto 4, 3) := by decide +kernel
theorem dX5_mends_22 : decode cX5_mends 22 = .ok (.iconst (-1), 1) := by decide +kernel
theorem dX5_mends_23 : decode cX5_mends 23 = .ok (.ireturn, 1) := by decide +kernel
theorem dX5_patterns_0 : decode cX5_patterns 0 = .ok (.iload_n 1, 1) := by decide +kernel
theorem dX5_patterns_1 : decode cX5_patterns 1 = .ok (.ifCond .lt 17, 3) := by decide +kernel
theorem dX5_patterns_4 : decode cX5_patterns 4 = .ok (.iload_n 1, 1) := by decide +kernel
theorem dX5_patterns_5 : decode cX5_patterns 5 = .ok (.iconst 4, 1) := by decide +kernel
theorem dX5_patterns_6 : decode cX5_patterns 6 = .ok (.if_icmp .gt 12, 3) := by decide +kernel
theorem dX5_patterns_9 : decode cX5_patterns 9 = .ok (.iload_n 2, 1) := by decide +kernel
theorem dX5_patterns_10 : decode cX5_patterns 10 = .ok (.ifCond .lt 8, 3) := by decide +kernel
theorem dX5_patterns_13 : decode cX5_patterns 13 = .ok (.iload_n 2, 1) := by decide +kernel
theorem dX5_patterns_14 : decode cX5_patterns 14 = .ok (.iconst 4, 1) := by decide +kernel
theorem dX5_patterns_15 : decode cX5_patterns 15 = .ok (.if_icmp .le 6, 3) := by decide +kernel
theorem dX5_patterns_18 : decode cX5_patterns 18 = .ok (.bipush (-2), 2) := by decide +kernel
theorem dX5_patterns_20 : decode cX5_patterns 20 = .ok (.ireturn, 1) := by decide +kernel
theorem dX5_patterns_21 : decode cX5_patterns 21 = .ok (.aload_n 0, 1) := by decide +kernel
theorem dX5_patterns_22 : decode cX5_patterns 22 = .ok (.getfield 12, 3) := by decide +kernel
theorem dX5_patterns_25 : decode cX5_patterns 25 = .ok (.invokevirtual 66, 3) := by decide +kernel
theorem dX5_patterns_28 : decode cX5_patterns 28 = .ok (.ifCond .eq 15, 3) := by decide +kernel
theorem dX5_patterns_31 : decode cX5_patterns 31 = .ok (.aload_n 0, 1) := by decide +kernel
theorem dX5_patterns_32 : decode cX5_patterns 32 = .ok (.getfield 30, 3) := by decide +kernel
theorem dX5_patterns_35 : decode cX5_patterns 35 = .ok (.iload_n 1, 1) := by decide +kernel
theorem dX5_patterns_36 : decode cX5_patterns 36 = .ok (.iload_n 2, 1) := by decide +kernel
theorem dX5_patterns_37 : decode cX5_patterns 37 = .ok (.invokevirtual 155, 3) := by decide +kernel
theorem dX5_patterns_40 : decode cX5_patterns 40 = .ok (.goto 5, 3) := by decide +kernel
theorem dX5_patterns_43 : decode cX5_patterns 43 = .ok (.bipush (-3), 2) := by decide +kernel
theorem dX5_patterns_45 : decode cX5_patterns 45 = .ok (.ireturn, 1) := by decide +kernel
theorem dX5_weight_0 : decode cX5_weight 0 = .ok (.aload_n 0, 1) := by decide +kernel
theorem dX5_weight_1 : decode cX5_weight 1 = .ok (.getfield 12, 3) := by decide +kernel
theorem dX5_weight_4 : decode cX5_weight 4 = .ok (.invokevirtual 66, 3) := by decide +kernel
theorem dX5_weight_7 : decode cX5_weight 7 = .ok (.ifCond .eq 13, 3) := by decide +kernel
theorem dX5_weight_10 : decode cX5_weight 10 = .ok (.aload_n 0, 1) := by decide +kernel
theorem dX5_weight_11 : decode cX5_weight 11 = .ok (.getfield 12, 3) := by decide +kernel
theorem dX5_weight_14 : decode cX5_weight 14 = .ok (.invokevirtual 158, 3) := by decide +kernel
theorem dX5_weight_17 : decode cX5_weight 17 = .ok (.goto 5, 3) := by decide +kernel
theorem dX5_weight_20 : decode cX5_weight 20 = .ok (.bipush (-3), 2) := by decide +kernel
theorem dX5_weight_22 : decode cX5_weight 22 = .ok (.ireturn, 1) := by decide +kernel
theorem dX5_safe_0 : decode cX5_safe 0 = .ok (.iload_n 1, 1) := by decide +kernel
theorem dX5_safe_1 : decode cX5_safe 1 = .ok (.ifCond .lt 29, 3) := by decide +kernel
theorem dX5_safe_4 : decode cX5_safe 4 = .ok (.iload_n 1, 1) := by decide +kernel
theorem dX5_safe_5 : decode cX5_safe 5 = .ok (.bipush 12, 2) := by decide +kernel
theorem dX5_safe_7 : decode cX5_safe 7 = .ok (.if_icmp .gt 23, 3) := by decide +kernel
theorem dX5_safe_10 : decode cX5_safe 10 = .ok (.iload_n 2, 1) := by decide +kernel
theorem dX5_safe_11 : decode cX5_safe 11 = .ok (.iconst 1, 1) := by decide +kernel
theorem dX5_safe_12 : decode cX5_safe 12 = .ok (.if_icmp .lt 18, 3) := by decide +kernel
theorem dX5_safe_15 : decode cX5_safe 15 = .ok (.iload_n 2, 1) := by decide +kernel
theorem dX5_safe_16 : decode cX5_safe 16 = .ok (.bipush 12, 2) := by decide +kernel
theorem dX5_safe_18 : decode cX5_safe 18 = .ok (.if_icmp .gt 12, 3) := by decide +kernel
theorem dX5_safe_21 : decode cX5_safe 21 = .ok (.iload_n 3, 1) := by decide +kernel
theorem dX5_safe_22 : decode cX5_safe 22 = .ok (.ifCond .lt 8, 3) := by decide +kernel
theorem dX5_safe_25 : decode cX5_safe 25 = .ok (.iload_n 3, 1) := by decide +kernel
theorem dX5_safe_26 : decode cX5_safe 26 = .ok (.iconst 1, 1) := by decide +kernel
theorem dX5_safe_27 : decode cX5_safe 27 = .ok (.if_icmp .le 7, 3) := by decide +kernel
theorem dX5_safe_30 : decode cX5_safe 30 = .ok (.ldc2_w 161, 3) := by decide +kernel
theorem dX5_safe_33 : decode cX5_safe 33 = .ok (.lreturn, 1) := by decide +kernel
theorem dX5_safe_34 : decode cX5_safe 34 = .ok (.iload_n 1, 1) := by decide +kernel
theorem dX5_safe_35 : decode cX5_safe 35 = .ok (.iload_n 2, 1) := by decide +kernel
theorem dX5_safe_36 : decode cX5_safe 36 = .ok (.invokestatic 163, 3) := by decide +kernel
theorem dX5_safe_39 : decode cX5_safe 39 = .ok (.lstore 4, 2) := by decide +kernel
theorem dX5_safe_41 : decode cX5_safe 41 = .ok (.lconst 1, 1) := by decide +kernel
theorem dX5_safe_42 : decode cX5_safe 42 = .ok (.iconst 4, 1) := by decide +kernel
theorem dX5_safe_43 : decode cX5_safe 43 = .ok (.iload_n 1, 1) := by decide +kernel
theorem dX5_safe_44 : decode cX5_safe 44 = .ok (.imul, 1) := by decide +kernel
theorem dX5_safe_45 : decode cX5_safe 45 = .ok (.lshl, 1) := by decide +kernel
theorem dX5_safe_46 : decode cX5_safe 46 = .ok (.lstore 6, 2) := by decide +kernel
theorem dX5_safe_48 : decode cX5_safe 48 = .ok (.iconst 0, 1) := by decide +kernel
theorem dX5_safe_49 : decode cX5_safe 49 = .ok (.istore 8, 2) := by decide +kernel
theorem dX5_safe_51 : decode cX5_safe 51 = .ok (.iload 8, 2) := by decide +kernel
theorem dX5_safe_53 : decode cX5_safe 53 = .ok (.iconst 4, 1) := by decide +kernel
theorem dX5_safe_54 : decode cX5_safe 54 = .ok (.iload_n 1, 1) := by decide +kernel
theorem dX5_safe_55 : decode cX5_safe 55 = .ok (.imul, 1) := by decide +kernel
theorem dX5_safe_56 : decode cX5_safe 56 = .ok (.if_icmp .ge 30, 3) := by decide +kernel
theorem dX5_safe_59 : decode cX5_safe 59 = .ok (.lload 4, 2) := by decide +kernel
theorem dX5_safe_61 : decode cX5_safe 61 = .ok (.lconst 1, 1) := by decide +kernel
theorem dX5_safe_62 : decode cX5_safe 62 = .ok (.land, 1) := by decide +kernel
theorem dX5_safe_63 : decode cX5_safe 63 = .ok (.lconst 0, 1) := by decide +kernel
theorem dX5_safe_64 : decode cX5_safe 64 = .ok (.lcmp, 1) := by decide +kernel
theorem dX5_safe_65 : decode cX5_safe 65 = .ok (.ifCond .ne 21, 3) := by decide +kernel
theorem dX5_safe_68 : decode cX5_safe 68 = .ok (.lload 4, 2) := by decide +kernel
theorem dX5_safe_70 : decode cX5_safe 70 = .ok (.iconst 1, 1) := by decide +kernel
theorem dX5_safe_71 : decode cX5_safe 71 = .ok (.lshr, 1) := by decide +kernel
theorem dX5_safe_72 : decode cX5_safe 72 = .ok (.lstore 4, 2) := by decide +kernel
theorem dX5_safe_74 : decode cX5_safe 74 = .ok (.lload 6, 2) := by decide +kernel
theorem dX5_safe_76 : decode cX5_safe 76 = .ok (.iconst 1, 1) := by decide +kernel
theorem dX5_safe_77 : decode cX5_safe 77 = .ok (.lshr, 1) := by decide +kernel
theorem dX5_safe_78 : decode cX5_safe 78 = .ok (.lstore 6, 2) := by decide +kernel
theorem dX5_safe_80 : decode cX5_safe 80 = .ok (.iinc 8 1, 3) := by decide +kernel
theorem dX5_safe_83 : decode cX5_safe 83 = .ok (.goto (-32), 3) := by decide +kernel
theorem dX5_safe_86 : decode cX5_safe 86 = .ok (.iload_n 3, 1) := by decide +kernel
theorem dX5_safe_87 : decode cX5_safe 87 = .ok (.ifCond .ne 8, 3) := by decide +kernel
theorem dX5_safe_90 : decode cX5_safe 90 = .ok (.lload 4, 2) := by decide +kernel
theorem dX5_safe_92 : decode cX5_safe 92 = .ok (.goto 5, 3) := by decide +kernel
theorem dX5_safe_95 : decode cX5_safe 95 = .ok (.lload 6, 2) := by decide +kernel
theorem dX5_safe_97 : decode cX5_safe 97 = .ok (.lreturn, 1) := by decide +kernel
theorem dX5_many_0 : decode cX5_many 0 = .ok (.iload_n 1, 1) := by decide +kernel
theorem dX5_many_1 : decode cX5_many 1 = .ok (.ifCond .lt 9, 3) := by decide +kernel
theorem dX5_many_4 : decode cX5_many 4 = .ok (.iload_n 1, 1) := by decide +kernel
theorem dX5_many_5 : decode cX5_many 5 = .ok (.bipush 9, 2) := by decide +kernel
theorem dX5_many_7 : decode cX5_many 7 = .ok (.if_icmp .le 6, 3) := by decide +kernel
theorem dX5_many_10 : decode cX5_many 10 = .ok (.bipush (-2), 2) := by decide +kernel
theorem dX5_many_12 : decode cX5_many 12 = .ok (.ireturn, 1) := by decide +kernel
theorem dX5_many_13 : decode cX5_many 13 = .ok (.aload_n 0, 1) := by decide +kernel
theorem dX5_many_14 : decode cX5_many 14 = .ok (.getfield 12, 3) := by decide +kernel
theorem dX5_many_17 : decode cX5_many 17 = .ok (.invokevirtual 66, 3) := by decide +kernel
theorem dX5_many_20 : decode cX5_many 20 = .ok (.ifCond .eq 14, 3) := by decide +kernel
theorem dX5_many_23 : decode cX5_many 23 = .ok (.aload_n 0, 1) := by decide +kernel
theorem dX5_many_24 : decode cX5_many 24 = .ok (.getfield 23, 3) := by decide +kernel
theorem dX5_many_27 : decode cX5_many 27 = .ok (.iload_n 1, 1) := by decide +kernel
theorem dX5_many_28 : decode cX5_many 28 = .ok (.invokevirtual 167, 3) := by decide +kernel
theorem dX5_many_31 : decode cX5_many 31 = .ok (.goto 4, 3) := by decide +kernel
theorem dX5_many_34 : decode cX5_many 34 = .ok (.iconst 0, 1) := by decide +kernel
theorem dX5_many_35 : decode cX5_many 35 = .ok (.ireturn, 1) := by decide +kernel
theorem dX5_safeWalks_0 : decode cX5_safeWalks 0 = .ok (.lconst 1, 1) := by decide +kernel
theorem dX5_safeWalks_1 : decode cX5_safeWalks 1 = .ok (.lstore_n 2, 1) := by decide +kernel
theorem dX5_safeWalks_2 : decode cX5_safeWalks 2 = .ok (.iconst 0, 1) := by decide +kernel
theorem dX5_safeWalks_3 : decode cX5_safeWalks 3 = .ok (.istore 4, 2) := by decide +kernel
theorem dX5_safeWalks_5 : decode cX5_safeWalks 5 = .ok (.iconst 0, 1) := by decide +kernel
theorem dX5_safeWalks_6 : decode cX5_safeWalks 6 = .ok (.istore 5, 2) := by decide +kernel
theorem dX5_safeWalks_8 : decode cX5_safeWalks 8 = .ok (.iload 5, 2) := by decide +kernel
theorem dX5_safeWalks_10 : decode cX5_safeWalks 10 = .ok (.iload_n 0, 1) := by decide +kernel
theorem dX5_safeWalks_11 : decode cX5_safeWalks 11 = .ok (.if_icmp .ge 30, 3) := by decide +kernel
theorem dX5_safeWalks_14 : decode cX5_safeWalks 14 = .ok (.lload_n 2, 1) := by decide +kernel
theorem dX5_safeWalks_15 : decode cX5_safeWalks 15 = .ok (.bipush 16, 2) := by decide +kernel
theorem dX5_safeWalks_17 : decode cX5_safeWalks 17 = .ok (.iload 4, 2) := by decide +kernel
theorem dX5_safeWalks_19 : decode cX5_safeWalks 19 = .ok (.isub, 1) := by decide +kernel
theorem dX5_safeWalks_20 : decode cX5_safeWalks 20 = .ok (.i2l, 1) := by decide +kernel
theorem dX5_safeWalks_21 : decode cX5_safeWalks 21 = .ok (.lmul, 1) := by decide +kernel
theorem dX5_safeWalks_22 : decode cX5_safeWalks 22 = .ok (.lstore_n 2, 1) := by decide +kernel
theorem dX5_safeWalks_23 : decode cX5_safeWalks 23 = .ok (.iinc 4 1, 3) := by decide +kernel
theorem dX5_safeWalks_26 : decode cX5_safeWalks 26 = .ok (.iload 4, 2) := by decide +kernel
theorem dX5_safeWalks_28 : decode cX5_safeWalks 28 = .ok (.iload_n 1, 1) := by decide +kernel
theorem dX5_safeWalks_29 : decode cX5_safeWalks 29 = .ok (.if_icmp .ne 6, 3) := by decide +kernel
theorem dX5_safeWalks_32 : decode cX5_safeWalks 32 = .ok (.iconst 0, 1) := by decide +kernel
theorem dX5_safeWalks_33 : decode cX5_safeWalks 33 = .ok (.istore 4, 2) := by decide +kernel
theorem dX5_safeWalks_35 : decode cX5_safeWalks 35 = .ok (.iinc 5 1, 3) := by decide +kernel
theorem dX5_safeWalks_38 : decode cX5_safeWalks 38 = .ok (.goto (-30), 3) := by decide +kernel
theorem dX5_safeWalks_41 : decode cX5_safeWalks 41 = .ok (.lload_n 2, 1) := by decide +kernel
theorem dX5_safeWalks_42 : decode cX5_safeWalks 42 = .ok (.lreturn, 1) := by decide +kernel
theorem dX5_isWord_0 : decode cX5_isWord 0 = .ok (.iload_n 0, 1) := by decide +kernel
theorem dX5_isWord_1 : decode cX5_isWord 1 = .ok (.ifCond .lt 12, 3) := by decide +kernel
theorem dX5_isWord_4 : decode cX5_isWord 4 = .ok (.iload_n 0, 1) := by decide +kernel
theorem dX5_isWord_5 : decode cX5_isWord 5 = .ok (.iconst 4, 1) := by decide +kernel
theorem dX5_isWord_6 : decode cX5_isWord 6 = .ok (.if_icmp .ge 7, 3) := by decide +kernel
theorem dX5_isWord_9 : decode cX5_isWord 9 = .ok (.iconst 1, 1) := by decide +kernel
theorem dX5_isWord_10 : decode cX5_isWord 10 = .ok (.goto 4, 3) := by decide +kernel
theorem dX5_isWord_13 : decode cX5_isWord 13 = .ok (.iconst 0, 1) := by decide +kernel
theorem dX5_isWord_14 : decode cX5_isWord 14 = .ok (.ireturn, 1) := by decide +kernel
theorem dX5_hasPage_0 : decode cX5_hasPage 0 = .ok (.aload_n 0, 1) := by decide +kernel
theorem dX5_hasPage_1 : decode cX5_hasPage 1 = .ok (.getfield 12, 3) := by decide +kernel
theorem dX5_hasPage_4 : decode cX5_hasPage 4 = .ok (.invokevirtual 66, 3) := by decide +kernel
theorem dX5_hasPage_7 : decode cX5_hasPage 7 = .ok (.ifCond .eq 16, 3) := by decide +kernel
theorem dX5_hasPage_10 : decode cX5_hasPage 10 = .ok (.iload_n 1, 1) := by decide +kernel
theorem dX5_hasPage_11 : decode cX5_hasPage 11 = .ok (.ifCond .lt 12, 3) := by decide +kernel
theorem dX5_hasPage_14 : decode cX5_hasPage 14 = .ok (.iload_n 1, 1) := by decide +kernel
theorem dX5_hasPage_15 : decode cX5_hasPage 15 = .ok (.iconst 4, 1) := by decide +kernel
theorem dX5_hasPage_16 : decode cX5_hasPage 16 = .ok (.if_icmp .ge 7, 3) := by decide +kernel
theorem dX5_hasPage_19 : decode cX5_hasPage 19 = .ok (.iconst 1, 1) := by decide +kernel
theorem dX5_hasPage_20 : decode cX5_hasPage 20 = .ok (.goto 4, 3) := by decide +kernel
theorem dX5_hasPage_23 : decode cX5_hasPage 23 = .ok (.iconst 0, 1) := by decide +kernel
theorem dX5_hasPage_24 : decode cX5_hasPage 24 = .ok (.ireturn, 1) := by decide +kernel
theorem dX5_hasWord_0 : decode cX5_hasWord 0 = .ok (.aload_n 0, 1) := by decide +kernel
theorem dX5_hasWord_1 : decode cX5_hasWord 1 = .ok (.iload_n 1, 1) := by decide +kernel
theorem dX5_hasWord_2 : decode cX5_hasWord 2 = .ok (.invokevirtual 137, 3) := by decide +kernel
theorem dX5_hasWord_5 : decode cX5_hasWord 5 = .ok (.ifCond .eq 14, 3) := by decide +kernel
theorem dX5_hasWord_8 : decode cX5_hasWord 8 = .ok (.iload_n 2, 1) := by decide +kernel
theorem dX5_hasWord_9 : decode cX5_hasWord 9 = .ok (.invokestatic 128, 3) := by decide +kernel
theorem dX5_hasWord_12 : decode cX5_hasWord 12 = .ok (.ifCond .eq 7, 3) := by decide +kernel
theorem dX5_hasWord_15 : decode cX5_hasWord 15 = .ok (.iconst 1, 1) := by decide +kernel
theorem dX5_hasWord_16 : decode cX5_hasWord 16 = .ok (.goto 4, 3) := by decide +kernel
theorem dX5_hasWord_19 : decode cX5_hasWord 19 = .ok (.iconst 0, 1) := by decide +kernel
theorem dX5_hasWord_20 : decode cX5_hasWord 20 = .ok (.ireturn, 1) := by decide +kernel
theorem dX6_init_0 : decode cX6_init 0 = .ok (.aload_n 0, 1) := by decide +kernel
theorem dX6_init_1 : decode cX6_init 1 = .ok (.invokespecial 1, 3) := by decide +kernel
theorem dX6_init_4 : decode cX6_init 4 = .ok (.aload_n 0, 1) := by decide +kernel
theorem dX6_init_5 : decode cX6_init 5 = .ok (.bipush 20, 2) := by decide +kernel
theorem dX6_init_7 : decode cX6_init 7 = .ok (.newarray .int, 2) := by decide +kernel
theorem dX6_init_9 : decode cX6_init 9 = .ok (.putfield 7, 3) := by decide +kernel
theorem dX6_init_12 : decode cX6_init 12 = .ok (.aload_n 0, 1) := by decide +kernel
theorem dX6_init_13 : decode cX6_init 13 = .ok (.bipush 6, 2) := by decide +kernel
theorem dX6_init_15 : decode cX6_init 15 = .ok (.newarray .int, 2) := by decide +kernel
theorem dX6_init_17 : decode cX6_init 17 = .ok (.putfield 13, 3) := by decide +kernel
theorem dX6_init_20 : decode cX6_init 20 = .ok (.aload_n 0, 1) := by decide +kernel
theorem dX6_init_21 : decode cX6_init 21 = .ok (.sipush 504, 3) := by decide +kernel
theorem dX6_init_24 : decode cX6_init 24 = .ok (.newarray .int, 2) := by decide +kernel
theorem dX6_init_26 : decode cX6_init 26 = .ok (.putfield 16, 3) := by decide +kernel
theorem dX6_init_29 : decode cX6_init 29 = .ok (.aload_n 0, 1) := by decide +kernel
theorem dX6_init_30 : decode cX6_init 30 = .ok (.sipush 504, 3) := by decide +kernel
theorem dX6_init_33 : decode cX6_init 33 = .ok (.newarray .boolean, 2) := by decide +kernel
theorem dX6_init_35 : decode cX6_init 35 = .ok (.putfield 19, 3) := by decide +kernel
theorem dX6_init_38 : decode cX6_init 38 = .ok (.aload_n 0, 1) := by decide +kernel
theorem dX6_init_39 : decode cX6_init 39 = .ok (.sipush 504, 3) := by decide +kernel
theorem dX6_init_42 : decode cX6_init 42 = .ok (.newarray .int, 2) := by decide +kernel
theorem dX6_init_44 : decode cX6_init 44 = .ok (.putfield 23, 3) := by decide +kernel
theorem dX6_init_47 : decode cX6_init 47 = .ok (.aload_n 0, 1) := by decide +kernel
theorem dX6_init_48 : decode cX6_init 48 = .ok (.iconst 4, 1) := by decide +kernel
theorem dX6_init_49 : decode cX6_init 49 = .ok (.newarray .int, 2) := by decide +kernel
theorem dX6_init_51 : decode cX6_init 51 = .ok (.putfield 26, 3) := by decide +kernel
theorem dX6_init_54 : decode cX6_init 54 = .ok (.aload_n 0, 1) := by decide +kernel
theorem dX6_init_55 : decode cX6_init 55 = .ok (.bipush 20, 2) := by decide +kernel
theorem dX6_init_57 : decode cX6_init 57 = .ok (.newarray .int, 2) := by decide +kernel
theorem dX6_init_59 : decode cX6_init 59 = .ok (.putfield 29, 3) := by decide +kernel
theorem dX6_init_62 : decode cX6_init 62 = .ok (.aload_n 0, 1) := by decide +kernel
theorem dX6_init_63 : decode cX6_init 63 = .ok (.bipush 16, 2) := by decide +kernel
theorem dX6_init_65 : decode cX6_init 65 = .ok (.newarray .int, 2) := by decide +kernel
theorem dX6_init_67 : decode cX6_init 67 = .ok (.putfield 32, 3) := by decide +kernel
theorem dX6_init_70 : decode cX6_init 70 = .ok (.aload_n 0, 1) := by decide +kernel
theorem dX6_init_71 : decode cX6_init 71 = .ok (.iconst 4, 1) := by decide +kernel
theorem dX6_init_72 : decode cX6_init 72 = .ok (.newarray .int, 2) := by decide +kernel
theorem dX6_init_74 : decode cX6_init 74 = .ok (.putfield 35, 3) := by decide +kernel
theorem dX6_init_77 : decode cX6_init 77 = .ok (.aload_n 0, 1) := by decide +kernel
theorem dX6_init_78 : decode cX6_init 78 = .ok (.iconst 4, 1) := by decide +kernel
theorem dX6_init_79 : decode cX6_init 79 = .ok (.newarray .int, 2) := by decide +kernel
theorem dX6_init_81 : decode cX6_init 81 = .ok (.putfield 38, 3) := by decide +kernel
theorem dX6_init_84 : decode cX6_init 84 = .ok (.aload_n 0, 1) := by decide +kernel
theorem dX6_init_85 : decode cX6_init 85 = .ok (.iconst 2, 1) := by decide +kernel
theorem dX6_init_86 : decode cX6_init 86 = .ok (.newarray .int, 2) := by decide +kernel
theorem dX6_init_88 : decode cX6_init 88 = .ok (.putfield 41, 3) := by decide +kernel
theorem dX6_init_91 : decode cX6_init 91 = .ok (.aload_n 0, 1) := by decide +kernel
theorem dX6_init_92 : decode cX6_init 92 = .ok (.iconst 3, 1) := by decide +kernel
theorem dX6_init_93 : decode cX6_init 93 = .ok (.newarray .int, 2) := by decide +kernel
theorem dX6_init_95 : decode cX6_init 95 = .ok (.putfield 44, 3) := by decide +kernel
theorem dX6_init_98 : decode cX6_init 98 = .ok (.aload_n 0, 1) := by decide +kernel
theorem dX6_init_99 : decode cX6_init 99 = .ok (.bipush 6, 2) := by decide +kernel
theorem dX6_init_101 : decode cX6_init 101 = .ok (.newarray .int, 2) := by decide +kernel
theorem dX6_init_103 : decode cX6_init 103 = .ok (.dup, 1) := by decide +kernel
theorem dX6_init_104 : decode cX6_init 104 = .ok (.iconst 0, 1) := by decide +kernel
theorem dX6_init_105 : decode cX6_init 105 = .ok (.bipush (-9), 2) := by decide +kernel
theorem dX6_init_107 : decode cX6_init 107 = .ok (.iastore, 1) := by decide +kernel
theorem dX6_init_108 : decode cX6_init 108 = .ok (.dup, 1) := by decide +kernel
theorem dX6_init_109 : decode cX6_init 109 = .ok (.iconst 1, 1) := by decide +kernel
theorem dX6_init_110 : decode cX6_init 110 = .ok (.bipush (-9), 2) := by decide +kernel
theorem dX6_init_112 : decode cX6_init 112 = .ok (.iastore, 1) := by decide +kernel
theorem dX6_init_113 : decode cX6_init 113 = .ok (.dup, 1) := by decide +kernel
theorem dX6_init_114 : decode cX6_init 114 = .ok (.iconst 2, 1) := by decide +kernel
theorem dX6_init_115 : decode cX6_init 115 = .ok (.bipush (-9), 2) := by decide +kernel
theorem dX6_init_117 : decode cX6_init 117 = .ok (.iastore, 1) := by decide +kernel
theorem dX6_init_118 : decode cX6_init 118 = .ok (.dup, 1) := by decide +kernel
theorem dX6_init_119 : decode cX6_init 119 = .ok (.iconst 3, 1) := by decide +kernel
theorem dX6_init_120 : decode cX6_init 120 = .ok (.bipush (-9), 2) := by decide +kernel
theorem dX6_init_122 : decode cX6_init 122 = .ok (.iastore, 1) := by decide +kernel
theorem dX6_init_123 : decode cX6_init 123 = .ok (.dup, 1) := by decide +kernel
theorem dX6_init_124 : decode cX6_init 124 = .ok (.iconst 4, 1) := by decide +kernel
theorem dX6_init_125 : decode cX6_init 125 = .ok (.bipush (-9), 2) := by decide +kernel
theorem dX6_init_127 : decode cX6_init 127 = .ok (.iastore, 1) := by decide +kernel
theorem dX6_init_128 : decode cX6_init 128 = .ok (.dup, 1) := by decide +kernel
theorem dX6_init_129 : decode cX6_init 129 = .ok (.iconst 5, 1) := by decide +kernel
theorem dX6_init_130 : decode cX6_init 130 = .ok (.bipush (-9), 2) := by decide +kernel
theorem dX6_init_132 : decode cX6_init 132 = .ok (.iastore, 1) := by decide +kernel
theorem dX6_init_133 : decode cX6_init 133 = .ok (.putfield 47, 3) := by decide +kernel
theorem dX6_init_136 : decode cX6_init 136 = .ok (.aload_n 0, 1) := by decide +kernel
theorem dX6_init_137 : decode cX6_init 137 = .ok (.iconst 5, 1) := by decide +kernel
theorem dX6_init_138 : decode cX6_init 138 = .ok (.newarray .int, 2) := by decide +kernel
theorem dX6_init_140 : decode cX6_init 140 = .ok (.putfield 50, 3) := by decide +kernel
theorem dX6_init_143 : decode cX6_init 143 = .ok (.return_, 1) := by decide +kernel
theorem dX6_within_0 : decode cX6_within 0 = .ok (.iload_n 0, 1) := by decide +kernel
theorem dX6_within_1 : decode cX6_within 1 = .ok (.iload_n 1, 1) := by decide +kernel
theorem dX6_within_2 : decode cX6_within 2 = .ok (.if_icmp .lt 12, 3) := by decide +kernel
theorem dX6_within_5 : decode cX6_within 5 = .ok (.iload_n 0, 1) := by decide +kernel
theorem dX6_within_6 : decode cX6_within 6 = .ok (.iload_n 2, 1) := by decide +kernel
theorem dX6_within_7 : decode cX6_within 7 = .ok (.if_icmp .gt 7, 3) := by decide +kernel
theorem dX6_within_10 : decode cX6_within 10 = .ok (.iconst 1, 1) := by decide +kernel
theorem dX6_within_11 : decode cX6_within 11 = .ok (.goto 4, 3) := by decide +kernel
theorem dX6_within_14 : decode cX6_within 14 = .ok (.iconst 0, 1) := by decide +kernel
theorem dX6_within_15 : decode cX6_within 15 = .ok (.ireturn, 1) := by decide +kernel
theorem dX6_isIn_0 : decode cX6_isIn 0 = .ok (.iload_n 0, 1) := by decide +kernel
theorem dX6_isIn_1 : decode cX6_isIn 1 = .ok (.iload_n 1, 1) := by decide +kernel
theorem dX6_isIn_2 : decode cX6_isIn 2 = .ok (.ishr, 1) := by decide +kernel
theorem dX6_isIn_3 : decode cX6_isIn 3 = .ok (.iconst 1, 1) := by decide +kernel
theorem dX6_isIn_4 : decode cX6_isIn 4 = .ok (.iand, 1) := by decide +kernel
theorem dX6_isIn_5 : decode cX6_isIn 5 = .ok (.ireturn, 1) := by decide +kernel
theorem dX6_sizeOf_0 : decode cX6_sizeOf 0 = .ok (.iconst 0, 1) := by decide +kernel
theorem dX6_sizeOf_1 : decode cX6_sizeOf 1 = .ok (.istore_n 1, 1) := by decide +kernel
theorem dX6_sizeOf_2 : decode cX6_sizeOf 2 = .ok (.iconst 0, 1) := by decide +kernel
theorem dX6_sizeOf_3 : decode cX6_sizeOf 3 = .ok (.istore_n 2, 1) := by decide +kernel
theorem dX6_sizeOf_4 : decode cX6_sizeOf 4 = .ok (.iload_n 2, 1) := by decide +kernel
theorem dX6_sizeOf_5 : decode cX6_sizeOf 5 = .ok (.bipush 21, 2) := by decide +kernel
theorem dX6_sizeOf_7 : decode cX6_sizeOf 7 = .ok (.if_icmp .ge 17, 3) := by decide +kernel
theorem dX6_sizeOf_10 : decode cX6_sizeOf 10 = .ok (.iload_n 1, 1) := by decide +kernel
theorem dX6_sizeOf_11 : decode cX6_sizeOf 11 = .ok (.iload_n 0, 1) := by decide +kernel
theorem dX6_sizeOf_12 : decode cX6_sizeOf 12 = .ok (.iload_n 2, 1) := by decide +kernel
theorem dX6_sizeOf_13 : decode cX6_sizeOf 13 = .ok (.invokestatic 53, 3) := by decide +kernel
theorem dX6_sizeOf_16 : decode cX6_sizeOf 16 = .ok (.iadd, 1) := by decide +kernel
theorem dX6_sizeOf_17 : decode cX6_sizeOf 17 = .ok (.istore_n 1, 1) := by decide +kernel
theorem dX6_sizeOf_18 : decode cX6_sizeOf 18 = .ok (.iinc 2 1, 3) := by decide +kernel
theorem dX6_sizeOf_21 : decode cX6_sizeOf 21 = .ok (.goto (-17), 3) := by decide +kernel
theorem dX6_sizeOf_24 : decode cX6_sizeOf 24 = .ok (.iload_n 1, 1) := by decide +kernel
theorem dX6_sizeOf_25 : decode cX6_sizeOf 25 = .ok (.ireturn, 1) := by decide +kernel
theorem dX6_bits_0 : decode cX6_bits 0 = .ok (.aload_n 0, 1) := by decide +kernel
theorem dX6_bits_1 : decode cX6_bits 1 = .ok (.getfield 57, 3) := by decide +kernel
theorem dX6_bits_4 : decode cX6_bits 4 = .ok (.aload_n 0, 1) := by decide +kernel
theorem dX6_bits_5 : decode cX6_bits 5 = .ok (.getfield 61, 3) := by decide +kernel
theorem dX6_bits_8 : decode cX6_bits 8 = .ok (.iadd, 1) := by decide +kernel
theorem dX6_bits_9 : decode cX6_bits 9 = .ok (.ireturn, 1) := by decide +kernel
theorem dX6_isBit_0 : decode cX6_isBit 0 = .ok (.iload_n 1, 1) := by decide +kernel
theorem dX6_isBit_1 : decode cX6_isBit 1 = .ok (.iconst 0, 1) := by decide +kernel
theorem dX6_isBit_2 : decode cX6_isBit 2 = .ok (.aload_n 0, 1) := by decide +kernel
theorem dX6_isBit_3 : decode cX6_isBit 3 = .ok (.invokevirtual 64, 3) := by decide +kernel
theorem dX6_isBit_6 : decode cX6_isBit 6 = .ok (.iconst 1, 1) := by decide +kernel
theorem dX6_isBit_7 : decode cX6_isBit 7 = .ok (.isub, 1) := by decide +kernel
theorem dX6_isBit_8 : decode cX6_isBit 8 = .ok (.invokestatic 68, 3) := by decide +kernel
theorem dX6_isBit_11 : decode cX6_isBit 11 = .ok (.ireturn, 1) := by decide +kernel
theorem dX6_isSet_0 : decode cX6_isSet 0 = .ok (.iload_n 1, 1) := by decide +kernel
theorem dX6_isSet_1 : decode cX6_isSet 1 = .ok (.iconst 0, 1) := by decide +kernel
theorem dX6_isSet_2 : decode cX6_isSet 2 = .ok (.iconst 1, 1) := by decide +kernel
theorem dX6_isSet_3 : decode cX6_isSet 3 = .ok (.aload_n 0, 1) := by decide +kernel
theorem dX6_isSet_4 : decode cX6_isSet 4 = .ok (.invokevirtual 64, 3) := by decide +kernel
theorem dX6_isSet_7 : decode cX6_isSet 7 = .ok (.ishl, 1) := by decide +kernel
theorem dX6_isSet_8 : decode cX6_isSet 8 = .ok (.iconst 1, 1) := by decide +kernel
theorem dX6_isSet_9 : decode cX6_isSet 9 = .ok (.isub, 1) := by decide +kernel
theorem dX6_isSet_10 : decode cX6_isSet 10 = .ok (.invokestatic 68, 3) := by decide +kernel
theorem dX6_isSet_13 : decode cX6_isSet 13 = .ok (.ireturn, 1) := by decide +kernel
theorem dX6_mostData_0 : decode cX6_mostData 0 = .ok (.iload_n 0, 1) := by decide +kernel
theorem dX6_mostData_1 : decode cX6_mostData 1 = .ok (.iconst 4, 1) := by decide +kernel
theorem dX6_mostData_2 : decode cX6_mostData 2 = .ok (.if_icmp .ne 7, 3) := by decide +kernel
theorem dX6_mostData_5 : decode cX6_mostData 5 = .ok (.iconst 4, 1) := by decide +kernel
theorem dX6_mostData_6 : decode cX6_mostData 6 = .ok (.goto 15, 3) := by decide +kernel
theorem dX6_mostData_9 : decode cX6_mostData 9 = .ok (.iload_n 0, 1) := by decide +kernel
theorem dX6_mostData_10 : decode cX6_mostData 10 = .ok (.iconst 5, 1) := by decide +kernel
theorem dX6_mostData_11 : decode cX6_mostData 11 = .ok (.if_icmp .ne 8, 3) := by decide +kernel
theorem dX6_mostData_14 : decode cX6_mostData 14 = .ok (.bipush 11, 2) := by decide +kernel
theorem dX6_mostData_16 : decode cX6_mostData 16 = .ok (.goto 5, 3) := by decide +kernel
theorem dX6_mostData_19 : decode cX6_mostData 19 = .ok (.bipush 14, 2) := by decide +kernel
theorem dX6_mostData_21 : decode cX6_mostData 21 = .ok (.ireturn, 1) := by decide +kernel
theorem dX6_isChosen_0 : decode cX6_isChosen 0 = .ok (.iconst 0, 1) := by decide +kernel
theorem dX6_isChosen_1 : decode cX6_isChosen 1 = .ok (.istore_n 3, 1) := by decide +kernel
theorem dX6_isChosen_2 : decode cX6_isChosen 2 = .ok (.iload_n 3, 1) := by decide +kernel
theorem dX6_isChosen_3 : decode cX6_isChosen 3 = .ok (.iload_n 2, 1) := by decide +kernel
theorem dX6_isChosen_4 : decode cX6_isChosen 4 = .ok (.if_icmp .ge 21, 3) := by decide +kernel
theorem dX6_isChosen_7 : decode cX6_isChosen 7 = .ok (.aload_n 0, 1) := by decide +kernel
theorem dX6_isChosen_8 : decode cX6_isChosen 8 = .ok (.getfield 7, 3) := by decide +kernel
theorem dX6_isChosen_11 : decode cX6_isChosen 11 = .ok (.iload_n 3, 1) := by decide +kernel
theorem dX6_isChosen_12 : decode cX6_isChosen 12 = .ok (.iaload, 1) := by decide +kernel
theorem dX6_isChosen_13 : decode cX6_isChosen 13 = .ok (.iload_n 1, 1) := by decide +kernel
theorem dX6_isChosen_14 : decode cX6_isChosen 14 = .ok (.if_icmp .ne 5, 3) := by decide +kernel
theorem dX6_isChosen_17 : decode cX6_isChosen 17 = .ok (.iconst 1, 1) := by decide +kernel
theorem dX6_isChosen_18 : decode cX6_isChosen 18 = .ok (.ireturn, 1) := by decide +kernel
theorem dX6_isChosen_19 : decode cX6_isChosen 19 = .ok (.iinc 3 1, 3) := by decide +kernel
theorem dX6_isChosen_22 : decode cX6_isChosen 22 = .ok (.goto (-20), 3) := by decide +kernel
theorem dX6_isChosen_25 : decode cX6_isChosen 25 = .ok (.iconst 0, 1) := by decide +kernel
theorem dX6_isChosen_26 : decode cX6_isChosen 26 = .ok (.ireturn, 1) := by decide +kernel
theorem dX6_fullestWith_0 : decode cX6_fullestWith 0 = .ok (.iconst 0, 1) := by decide +kernel
theorem dX6_fullestWith_1 : decode cX6_fullestWith 1 = .ok (.istore_n 2, 1) := by decide +kernel
theorem dX6_fullestWith_2 : decode cX6_fullestWith 2 = .ok (.iconst 0, 1) := by decide +kernel
theorem dX6_fullestWith_3 : decode cX6_fullestWith 3 = .ok (.istore_n 3, 1) := by decide +kernel
theorem dX6_fullestWith_4 : decode cX6_fullestWith 4 = .ok (.iload_n 3, 1) := by decide +kernel
theorem dX6_fullestWith_5 : decode cX6_fullestWith 5 = .ok (.aload_n 0, 1) := by decide +kernel
theorem dX6_fullestWith_6 : decode cX6_fullestWith 6 = .ok (.getfield 61, 3) := by decide +kernel
theorem dX6_fullestWith_9 : decode cX6_fullestWith 9 = .ok (.if_icmp .ge 36, 3) := by decide +kernel
theorem dX6_fullestWith_12 : decode cX6_fullestWith 12 = .ok (.aload_n 0, 1) := by decide +kernel
theorem dX6_fullestWith_13 : decode cX6_fullestWith 13 = .ok (.getfield 13, 3) := by decide +kernel
theorem dX6_fullestWith_16 : decode cX6_fullestWith 16 = .ok (.iload_n 3, 1) := by decide +kernel
theorem dX6_fullestWith_17 : decode cX6_fullestWith 17 = .ok (.iaload, 1) := by decide +kernel
theorem dX6_fullestWith_18 : decode cX6_fullestWith 18 = .ok (.iload_n 1, 1) := by decide +kernel
theorem dX6_fullestWith_19 : decode cX6_fullestWith 19 = .ok (.iload_n 3, 1) := by decide +kernel
theorem dX6_fullestWith_20 : decode cX6_fullestWith 20 = .ok (.invokestatic 53, 3) := by decide +kernel
theorem dX6_fullestWith_23 : decode cX6_fullestWith 23 = .ok (.iadd, 1) := by decide +kernel
theorem dX6_fullestWith_24 : decode cX6_fullestWith 24 = .ok (.istore 4, 2) := by decide +kernel
theorem dX6_fullestWith_26 : decode cX6_fullestWith 26 = .ok (.iload 4, 2) := by decide +kernel
theorem dX6_fullestWith_28 : decode cX6_fullestWith 28 = .ok (.iload_n 2, 1) := by decide +kernel
theorem dX6_fullestWith_29 : decode cX6_fullestWith 29 = .ok (.if_icmp .le 8, 3) := by decide +kernel
theorem dX6_fullestWith_32 : decode cX6_fullestWith 32 = .ok (.iload 4, 2) := by decide +kernel
theorem dX6_fullestWith_34 : decode cX6_fullestWith 34 = .ok (.goto 4, 3) := by decide +kernel
theorem dX6_fullestWith_37 : decode cX6_fullestWith 37 = .ok (.iload_n 2, 1) := by decide +kernel
theorem dX6_fullestWith_38 : decode cX6_fullestWith 38 = .ok (.istore_n 2, 1) := by decide +kernel
theorem dX6_fullestWith_39 : decode cX6_fullestWith 39 = .ok (.iinc 3 1, 3) := by decide +kernel
theorem dX6_fullestWith_42 : decode cX6_fullestWith 42 = .ok (.goto (-38), 3) := by decide +kernel
theorem dX6_fullestWith_45 : decode cX6_fullestWith 45 = .ok (.iload_n 2, 1) := by decide +kernel
theorem dX6_fullestWith_46 : decode cX6_fullestWith 46 = .ok (.ireturn, 1) := by decide +kernel
theorem dX6_nextColumn_0 : decode cX6_nextColumn 0 = .ok (.bipush (-9), 2) := by decide +kernel
theorem dX6_nextColumn_2 : decode cX6_nextColumn 2 = .ok (.istore_n 2, 1) := by decide +kernel
theorem dX6_nextColumn_3 : decode cX6_nextColumn 3 = .ok (.iconst 0, 1) := by decide +kernel
theorem dX6_nextColumn_4 : decode cX6_nextColumn 4 = .ok (.istore_n 3, 1) := by decide +kernel
theorem dX6_nextColumn_5 : decode cX6_nextColumn 5 = .ok (.iload_n 3, 1) := by decide +kernel
theorem dX6_nextColumn_6 : decode cX6_nextColumn 6 = .ok (.iconst 1, 1) := by decide +kernel
theorem dX6_nextColumn_7 : decode cX6_nextColumn 7 = .ok (.aload_n 0, 1) := by decide +kernel
theorem dX6_nextColumn_8 : decode cX6_nextColumn 8 = .ok (.getfield 61, 3) := by decide +kernel
theorem dX6_nextColumn_11 : decode cX6_nextColumn 11 = .ok (.ishl, 1) := by decide +kernel
theorem dX6_nextColumn_12 : decode cX6_nextColumn 12 = .ok (.if_icmp .ge 109, 3) := by decide +kernel
theorem dX6_nextColumn_15 : decode cX6_nextColumn 15 = .ok (.iload_n 3, 1) := by decide +kernel
theorem dX6_nextColumn_16 : decode cX6_nextColumn 16 = .ok (.invokestatic 72, 3) := by decide +kernel
theorem dX6_nextColumn_19 : decode cX6_nextColumn 19 = .ok (.istore 4, 2) := by decide +kernel
theorem dX6_nextColumn_21 : decode cX6_nextColumn 21 = .ok (.iload 4, 2) := by decide +kernel
theorem dX6_nextColumn_23 : decode cX6_nextColumn 23 = .ok (.iconst 3, 1) := by decide +kernel
theorem dX6_nextColumn_24 : decode cX6_nextColumn 24 = .ok (.if_icmp .eq 9, 3) := by decide +kernel
theorem dX6_nextColumn_27 : decode cX6_nextColumn 27 = .ok (.iload 4, 2) := by decide +kernel
theorem dX6_nextColumn_29 : decode cX6_nextColumn 29 = .ok (.iconst 5, 1) := by decide +kernel
theorem dX6_nextColumn_30 : decode cX6_nextColumn 30 = .ok (.if_icmp .ne 85, 3) := by decide +kernel
theorem dX6_nextColumn_33 : decode cX6_nextColumn 33 = .ok (.aload_n 0, 1) := by decide +kernel
theorem dX6_nextColumn_34 : decode cX6_nextColumn 34 = .ok (.iload_n 3, 1) := by decide +kernel
theorem dX6_nextColumn_35 : decode cX6_nextColumn 35 = .ok (.iload_n 1, 1) := by decide +kernel
theorem dX6_nextColumn_36 : decode cX6_nextColumn 36 = .ok (.invokevirtual 76, 3) := by decide +kernel
theorem dX6_nextColumn_39 : decode cX6_nextColumn 39 = .ok (.ifCond .ne 76, 3) := by decide +kernel
theorem dX6_nextColumn_42 : decode cX6_nextColumn 42 = .ok (.iload_n 2, 1) := by decide +kernel
theorem dX6_nextColumn_43 : decode cX6_nextColumn 43 = .ok (.bipush (-9), 2) := by decide +kernel
theorem dX6_nextColumn_45 : decode cX6_nextColumn 45 = .ok (.if_icmp .eq 12, 3) := by decide +kernel
theorem dX6_nextColumn_48 : decode cX6_nextColumn 48 = .ok (.iload 4, 2) := by decide +kernel
theorem dX6_nextColumn_50 : decode cX6_nextColumn 50 = .ok (.iload_n 2, 1) := by decide +kernel
theorem dX6_nextColumn_51 : decode cX6_nextColumn 51 = .ok (.invokestatic 72, 3) := by decide +kernel
theorem dX6_nextColumn_54 : decode cX6_nextColumn 54 = .ok (.if_icmp .ge 7, 3) := by decide +kernel
theorem dX6_nextColumn_57 : decode cX6_nextColumn 57 = .ok (.iconst 1, 1) := by decide +kernel
theorem dX6_nextColumn_58 : decode cX6_nextColumn 58 = .ok (.goto 4, 3) := by decide +kernel
theorem dX6_nextColumn_61 : decode cX6_nextColumn 61 = .ok (.iconst 0, 1) := by decide +kernel
theorem dX6_nextColumn_62 : decode cX6_nextColumn 62 = .ok (.istore 5, 2) := by decide +kernel
theorem dX6_nextColumn_64 : decode cX6_nextColumn 64 = .ok (.iload_n 2, 1) := by decide +kernel
theorem dX6_nextColumn_65 : decode cX6_nextColumn 65 = .ok (.bipush (-9), 2) := by decide +kernel
theorem dX6_nextColumn_67 : decode cX6_nextColumn 67 = .ok (.if_icmp .eq 29, 3) := by decide +kernel
theorem dX6_nextColumn_70 : decode cX6_nextColumn 70 = .ok (.iload 4, 2) := by decide +kernel
theorem dX6_nextColumn_72 : decode cX6_nextColumn 72 = .ok (.iload_n 2, 1) := by decide +kernel
theorem dX6_nextColumn_73 : decode cX6_nextColumn 73 = .ok (.invokestatic 72, 3) := by decide +kernel
theorem dX6_nextColumn_76 : decode cX6_nextColumn 76 = .ok (.if_icmp .ne 20, 3) := by decide +kernel
theorem dX6_nextColumn_79 : decode cX6_nextColumn 79 = .ok (.aload_n 0, 1) := by decide +kernel
theorem dX6_nextColumn_80 : decode cX6_nextColumn 80 = .ok (.iload_n 3, 1) := by decide +kernel
theorem dX6_nextColumn_81 : decode cX6_nextColumn 81 = .ok (.invokevirtual 80, 3) := by decide +kernel
theorem dX6_nextColumn_84 : decode cX6_nextColumn 84 = .ok (.aload_n 0, 1) := by decide +kernel
theorem dX6_nextColumn_85 : decode cX6_nextColumn 85 = .ok (.iload_n 2, 1) := by decide +kernel
theorem dX6_nextColumn_86 : decode cX6_nextColumn 86 = .ok (.invokevirtual 80, 3) := by decide +kernel
theorem dX6_nextColumn_89 : decode cX6_nextColumn 89 = .ok (.if_icmp .ge 7, 3) := by decide +kernel
theorem dX6_nextColumn_92 : decode cX6_nextColumn 92 = .ok (.iconst 1, 1) := by decide +kernel
theorem dX6_nextColumn_93 : decode cX6_nextColumn 93 = .ok (.goto 4, 3) := by decide +kernel
theorem dX6_nextColumn_96 : decode cX6_nextColumn 96 = .ok (.iconst 0, 1) := by decide +kernel
theorem dX6_nextColumn_97 : decode cX6_nextColumn 97 = .ok (.istore 6, 2) := by decide +kernel
theorem dX6_nextColumn_99 : decode cX6_nextColumn 99 = .ok (.iload 5, 2) := by decide +kernel
theorem dX6_nextColumn_101 : decode cX6_nextColumn 101 = .ok (.ifCond .ne 8, 3) := by decide +kernel
theorem dX6_nextColumn_104 : decode cX6_nextColumn 104 = .ok (.iload 6, 2) := by decide +kernel
theorem dX6_nextColumn_106 : decode cX6_nextColumn 106 = .ok (.ifCond .eq 7, 3) := by decide +kernel
theorem dX6_nextColumn_109 : decode cX6_nextColumn 109 = .ok (.iload_n 3, 1) := by decide +kernel
theorem dX6_nextColumn_110 : decode cX6_nextColumn 110 = .ok (.goto 4, 3) := by decide +kernel
theorem dX6_nextColumn_113 : decode cX6_nextColumn 113 = .ok (.iload_n 2, 1) := by decide +kernel
theorem dX6_nextColumn_114 : decode cX6_nextColumn 114 = .ok (.istore_n 2, 1) := by decide +kernel
theorem dX6_nextColumn_115 : decode cX6_nextColumn 115 = .ok (.iinc 3 1, 3) := by decide +kernel
theorem dX6_nextColumn_118 : decode cX6_nextColumn 118 = .ok (.goto (-113), 3) := by decide +kernel
theorem dX6_nextColumn_121 : decode cX6_nextColumn 121 = .ok (.iload_n 2, 1) := by decide +kernel
theorem dX6_nextColumn_122 : decode cX6_nextColumn 122 = .ok (.ireturn, 1) := by decide +kernel
theorem dX6_code_0 : decode cX6_code 0 = .ok (.iload_n 2, 1) := by decide +kernel
theorem dX6_code_1 : decode cX6_code 1 = .ok (.iconst 4, 1) := by decide +kernel
theorem dX6_code_2 : decode cX6_code 2 = .ok (.bipush 6, 2) := by decide +kernel
theorem dX6_code_4 : decode cX6_code 4 = .ok (.invokestatic 68, 3) := by decide +kernel
theorem dX6_code_7 : decode cX6_code 7 = .ok (.ifCond .eq 15, 3) := by decide +kernel
theorem dX6_code_10 : decode cX6_code 10 = .ok (.iload_n 1, 1) := by decide +kernel
theorem dX6_code_11 : decode cX6_code 11 = .ok (.iconst 1, 1) := by decide +kernel
theorem dX6_code_12 : decode cX6_code 12 = .ok (.iload_n 2, 1) := by decide +kernel
theorem dX6_code_13 : decode cX6_code 13 = .ok (.invokestatic 83, 3) := by decide +kernel
theorem dX6_code_16 : decode cX6_code 16 = .ok (.invokestatic 68, 3) := by decide +kernel
theorem dX6_code_19 : decode cX6_code 19 = .ok (.ifCond .ne 6, 3) := by decide +kernel
theorem dX6_code_22 : decode cX6_code 22 = .ok (.bipush (-2), 2) := by decide +kernel
theorem dX6_code_24 : decode cX6_code 24 = .ok (.ireturn, 1) := by decide +kernel
theorem dX6_code_25 : decode cX6_code 25 = .ok (.aload_n 0, 1) := by decide +kernel
theorem dX6_code_26 : decode cX6_code 26 = .ok (.iload_n 1, 1) := by decide +kernel
theorem dX6_code_27 : decode cX6_code 27 = .ok (.putfield 57, 3) := by decide +kernel
theorem dX6_code_30 : decode cX6_code 30 = .ok (.aload_n 0, 1) := by decide +kernel
theorem dX6_code_31 : decode cX6_code 31 = .ok (.iload_n 2, 1) := by decide +kernel
theorem dX6_code_32 : decode cX6_code 32 = .ok (.putfield 61, 3) := by decide +kernel
theorem dX6_code_35 : decode cX6_code 35 = .ok (.iconst 0, 1) := by decide +kernel
theorem dX6_code_36 : decode cX6_code 36 = .ok (.istore_n 3, 1) := by decide +kernel
theorem dX6_code_37 : decode cX6_code 37 = .ok (.iload_n 3, 1) := by decide +kernel
theorem dX6_code_38 : decode cX6_code 38 = .ok (.aload_n 0, 1) := by decide +kernel
theorem dX6_code_39 : decode cX6_code 39 = .ok (.getfield 13, 3) := by decide +kernel
theorem dX6_code_42 : decode cX6_code 42 = .ok (.arraylength, 1) := by decide +kernel
theorem dX6_code_43 : decode cX6_code 43 = .ok (.if_icmp .ge 16, 3) := by decide +kernel
theorem dX6_code_46 : decode cX6_code 46 = .ok (.aload_n 0, 1) := by decide +kernel
theorem dX6_code_47 : decode cX6_code 47 = .ok (.getfield 13, 3) := by decide +kernel
theorem dX6_code_50 : decode cX6_code 50 = .ok (.iload_n 3, 1) := by decide +kernel
theorem dX6_code_51 : decode cX6_code 51 = .ok (.iconst 0, 1) := by decide +kernel
theorem dX6_code_52 : decode cX6_code 52 = .ok (.iastore, 1) := by decide +kernel
theorem dX6_code_53 : decode cX6_code 53 = .ok (.iinc 3 1, 3) := by decide +kernel
theorem dX6_code_56 : decode cX6_code 56 = .ok (.goto (-19), 3) := by decide +kernel
theorem dX6_code_59 : decode cX6_code 59 = .ok (.iconst 0, 1) := by decide +kernel
theorem dX6_code_60 : decode cX6_code 60 = .ok (.istore_n 3, 1) := by decide +kernel
theorem dX6_code_61 : decode cX6_code 61 = .ok (.iload_n 3, 1) := by decide +kernel
theorem dX6_code_62 : decode cX6_code 62 = .ok (.iload_n 1, 1) := by decide +kernel
theorem dX6_code_63 : decode cX6_code 63 = .ok (.if_icmp .ge 56, 3) := by decide +kernel
theorem dX6_code_66 : decode cX6_code 66 = .ok (.aload_n 0, 1) := by decide +kernel
theorem dX6_code_67 : decode cX6_code 67 = .ok (.getfield 7, 3) := by decide +kernel
theorem dX6_code_70 : decode cX6_code 70 = .ok (.iload_n 3, 1) := by decide +kernel
theorem dX6_code_71 : decode cX6_code 71 = .ok (.aload_n 0, 1) := by decide +kernel
theorem dX6_code_72 : decode cX6_code 72 = .ok (.iload_n 3, 1) := by decide +kernel
theorem dX6_code_73 : decode cX6_code 73 = .ok (.invokevirtual 86, 3) := by decide +kernel
theorem dX6_code_76 : decode cX6_code 76 = .ok (.iastore, 1) := by decide +kernel
theorem dX6_code_77 : decode cX6_code 77 = .ok (.iconst 0, 1) := by decide +kernel
theorem dX6_code_78 : decode cX6_code 78 = .ok (.istore 4, 2) := by decide +kernel
theorem dX6_code_80 : decode cX6_code 80 = .ok (.iload 4, 2) := by decide +kernel
theorem dX6_code_82 : decode cX6_code 82 = .ok (.iload_n 2, 1) := by decide +kernel
theorem dX6_code_83 : decode cX6_code 83 = .ok (.if_icmp .ge 30, 3) := by decide +kernel
theorem dX6_code_86 : decode cX6_code 86 = .ok (.aload_n 0, 1) := by decide +kernel
theorem dX6_code_87 : decode cX6_code 87 = .ok (.getfield 13, 3) := by decide +kernel
theorem dX6_code_90 : decode cX6_code 90 = .ok (.iload 4, 2) := by decide +kernel
theorem dX6_code_92 : decode cX6_code 92 = .ok (.dup2, 1) := by decide +kernel
theorem dX6_code_93 : decode cX6_code 93 = .ok (.iaload, 1) := by decide +kernel
theorem dX6_code_94 : decode cX6_code 94 = .ok (.aload_n 0, 1) := by decide +kernel
theorem dX6_code_95 : decode cX6_code 95 = .ok (.getfield 7, 3) := by decide +kernel
theorem dX6_code_98 : decode cX6_code 98 = .ok (.iload_n 3, 1) := by decide +kernel
theorem dX6_code_99 : decode cX6_code 99 = .ok (.iaload, 1) := by decide +kernel
theorem dX6_code_100 : decode cX6_code 100 = .ok (.iload 4, 2) := by decide +kernel
theorem dX6_code_102 : decode cX6_code 102 = .ok (.invokestatic 53, 3) := by decide +kernel
theorem dX6_code_105 : decode cX6_code 105 = .ok (.iadd, 1) := by decide +kernel
theorem dX6_code_106 : decode cX6_code 106 = .ok (.iastore, 1) := by decide +kernel
theorem dX6_code_107 : decode cX6_code 107 = .ok (.iinc 4 1, 3) := by decide +kernel
theorem dX6_code_110 : decode cX6_code 110 = .ok (.goto (-30), 3) := by decide +kernel
theorem dX6_code_113 : decode cX6_code 113 = .ok (.iinc 3 1, 3) := by decide +kernel
theorem dX6_code_116 : decode cX6_code 116 = .ok (.goto (-55), 3) := by decide +kernel
theorem dX6_code_119 : decode cX6_code 119 = .ok (.iconst 0, 1) := by decide +kernel
theorem dX6_code_120 : decode cX6_code 120 = .ok (.istore_n 3, 1) := by decide +kernel
theorem dX6_code_121 : decode cX6_code 121 = .ok (.iload_n 3, 1) := by decide +kernel
theorem dX6_code_122 : decode cX6_code 122 = .ok (.iload_n 2, 1) := by decide +kernel
theorem dX6_code_123 : decode cX6_code 123 = .ok (.if_icmp .ge 20, 3) := by decide +kernel
theorem dX6_code_126 : decode cX6_code 126 = .ok (.aload_n 0, 1) := by decide +kernel
theorem dX6_code_127 : decode cX6_code 127 = .ok (.getfield 7, 3) := by decide +kernel
theorem dX6_code_130 : decode cX6_code 130 = .ok (.iload_n 1, 1) := by decide +kernel
theorem dX6_code_131 : decode cX6_code 131 = .ok (.iload_n 3, 1) := by decide +kernel
theorem dX6_code_132 : decode cX6_code 132 = .ok (.iadd, 1) := by decide +kernel
theorem dX6_code_133 : decode cX6_code 133 = .ok (.iconst 1, 1) := by decide +kernel
theorem dX6_code_134 : decode cX6_code 134 = .ok (.iload_n 3, 1) := by decide +kernel
theorem dX6_code_135 : decode cX6_code 135 = .ok (.ishl, 1) := by decide +kernel
theorem dX6_code_136 : decode cX6_code 136 = .ok (.iastore, 1) := by decide +kernel
theorem dX6_code_137 : decode cX6_code 137 = .ok (.iinc 3 1, 3) := by decide +kernel
theorem dX6_code_140 : decode cX6_code 140 = .ok (.goto (-19), 3) := by decide +kernel
theorem dX6_code_143 : decode cX6_code 143 = .ok (.aload_n 0, 1) := by decide +kernel
theorem dX6_code_144 : decode cX6_code 144 = .ok (.invokevirtual 89, 3) := by decide +kernel
theorem dX6_code_147 : decode cX6_code 147 = .ok (.iload_n 1, 1) := by decide +kernel
theorem dX6_code_148 : decode cX6_code 148 = .ok (.iload_n 2, 1) := by decide +kernel
theorem dX6_code_149 : decode cX6_code 149 = .ok (.iadd, 1) := by decide +kernel
theorem dX6_code_150 : decode cX6_code 150 = .ok (.ireturn, 1) := by decide +kernel
theorem dX6_column_0 : decode cX6_column 0 = .ok (.aload_n 0, 1) := by decide +kernel
theorem dX6_column_1 : decode cX6_column 1 = .ok (.iload_n 1, 1) := by decide +kernel
theorem dX6_column_2 : decode cX6_column 2 = .ok (.invokevirtual 92, 3) := by decide +kernel
theorem dX6_column_5 : decode cX6_column 5 = .ok (.ifCond .eq 12, 3) := by decide +kernel
theorem dX6_column_8 : decode cX6_column 8 = .ok (.aload_n 0, 1) := by decide +kernel
theorem dX6_column_9 : decode cX6_column 9 = .ok (.getfield 7, 3) := by decide +kernel
theorem dX6_column_12 : decode cX6_column 12 = .ok (.iload_n 1, 1) := by decide +kernel
theorem dX6_column_13 : decode cX6_column 13 = .ok (.iaload, 1) := by decide +kernel
theorem dX6_column_14 : decode cX6_column 14 = .ok (.goto 4, 3) := by decide +kernel
theorem dX6_column_17 : decode cX6_column 17 = .ok (.iconst (-1), 1) := by decide +kernel
theorem dX6_column_18 : decode cX6_column 18 = .ok (.ireturn, 1) := by decide +kernel
theorem dX6_ones_0 : decode cX6_ones 0 = .ok (.iload_n 1, 1) := by decide +kernel
theorem dX6_ones_1 : decode cX6_ones 1 = .ok (.iconst 0, 1) := by decide +kernel
theorem dX6_ones_2 : decode cX6_ones 2 = .ok (.aload_n 0, 1) := by decide +kernel
theorem dX6_ones_3 : decode cX6_ones 3 = .ok (.getfield 61, 3) := by decide +kernel
theorem dX6_ones_6 : decode cX6_ones 6 = .ok (.iconst 1, 1) := by decide +kernel
theorem dX6_ones_7 : decode cX6_ones 7 = .ok (.isub, 1) := by decide +kernel
theorem dX6_ones_8 : decode cX6_ones 8 = .ok (.invokestatic 68, 3) := by decide +kernel
theorem dX6_ones_11 : decode cX6_ones 11 = .ok (.ifCond .eq 12, 3) := by decide +kernel
theorem dX6_ones_14 : decode cX6_ones 14 = .ok (.aload_n 0, 1) := by decide +kernel
theorem dX6_ones_15 : decode cX6_ones 15 = .ok (.getfield 13, 3) := by decide +kernel
theorem dX6_ones_18 : decode cX6_ones 18 = .ok (.iload_n 1, 1) := by decide +kernel
theorem dX6_ones_19 : decode cX6_ones 19 = .ok (.iaload, 1) := by decide +kernel
theorem dX6_ones_20 : decode cX6_ones 20 = .ok (.goto 4, 3) := by decide +kernel
theorem dX6_ones_23 : decode cX6_ones 23 = .ok (.iconst (-1), 1) := by decide +kernel
theorem dX6_ones_24 : decode cX6_ones 24 = .ok (.ireturn, 1) := by decide +kernel
theorem dX6_syndromeOf_0 : decode cX6_syndromeOf 0 = .ok (.iconst 0, 1) := by decide +kernel
theorem dX6_syndromeOf_1 : decode cX6_syndromeOf 1 = .ok (.istore_n 2, 1) := by decide +kernel
theorem dX6_syndromeOf_2 : decode cX6_syndromeOf 2 = .ok (.iconst 0, 1) := by decide +kernel
theorem dX6_syndromeOf_3 : decode cX6_syndromeOf 3 = .ok (.istore_n 3, 1) := by decide +kernel
theorem dX6_syndromeOf_4 : decode cX6_syndromeOf 4 = .ok (.iload_n 3, 1) := by decide +kernel
theorem dX6_syndromeOf_5 : decode cX6_syndromeOf 5 = .ok (.aload_n 0, 1) := by decide +kernel
theorem dX6_syndromeOf_6 : decode cX6_syndromeOf 6 = .ok (.invokevirtual 64, 3) := by decide +kernel
theorem dX6_syndromeOf_9 : decode cX6_syndromeOf 9 = .ok (.if_icmp .ge 31, 3) := by decide +kernel
theorem dX6_syndromeOf_12 : decode cX6_syndromeOf 12 = .ok (.iload_n 2, 1) := by decide +kernel
theorem dX6_syndromeOf_13 : decode cX6_syndromeOf 13 = .ok (.iload_n 1, 1) := by decide +kernel
theorem dX6_syndromeOf_14 : decode cX6_syndromeOf 14 = .ok (.iload_n 3, 1) := by decide +kernel
theorem dX6_syndromeOf_15 : decode cX6_syndromeOf 15 = .ok (.invokestatic 53, 3) := by decide +kernel
theorem dX6_syndromeOf_18 : decode cX6_syndromeOf 18 = .ok (.iconst 1, 1) := by decide +kernel
theorem dX6_syndromeOf_19 : decode cX6_syndromeOf 19 = .ok (.if_icmp .ne 12, 3) := by decide +kernel
theorem dX6_syndromeOf_22 : decode cX6_syndromeOf 22 = .ok (.aload_n 0, 1) := by decide +kernel
theorem dX6_syndromeOf_23 : decode cX6_syndromeOf 23 = .ok (.getfield 7, 3) := by decide +kernel
theorem dX6_syndromeOf_26 : decode cX6_syndromeOf 26 = .ok (.iload_n 3, 1) := by decide +kernel
theorem dX6_syndromeOf_27 : decode cX6_syndromeOf 27 = .ok (.iaload, 1) := by decide +kernel
theorem dX6_syndromeOf_28 : decode cX6_syndromeOf 28 = .ok (.goto 4, 3) := by decide +kernel
theorem dX6_syndromeOf_31 : decode cX6_syndromeOf 31 = .ok (.iconst 0, 1) := by decide +kernel
theorem dX6_syndromeOf_32 : decode cX6_syndromeOf 32 = .ok (.ixor, 1) := by decide +kernel
theorem dX6_syndromeOf_33 : decode cX6_syndromeOf 33 = .ok (.istore_n 2, 1) := by decide +kernel
theorem dX6_syndromeOf_34 : decode cX6_syndromeOf 34 = .ok (.iinc 3 1, 3) := by decide +kernel
theorem dX6_syndromeOf_37 : decode cX6_syndromeOf 37 = .ok (.goto (-33), 3) := by decide +kernel
theorem dX6_syndromeOf_40 : decode cX6_syndromeOf 40 = .ok (.iload_n 2, 1) := by decide +kernel
theorem dX6_syndromeOf_41 : decode cX6_syndromeOf 41 = .ok (.ireturn, 1) := by decide +kernel
theorem dX6_wordOf_0 : decode cX6_wordOf 0 = .ok (.iload_n 1, 1) := by decide +kernel
theorem dX6_wordOf_1 : decode cX6_wordOf 1 = .ok (.aload_n 0, 1) := by decide +kernel
theorem dX6_wordOf_2 : decode cX6_wordOf 2 = .ok (.iload_n 1, 1) := by decide +kernel
theorem dX6_wordOf_3 : decode cX6_wordOf 3 = .ok (.invokevirtual 96, 3) := by decide +kernel
theorem dX6_wordOf_6 : decode cX6_wordOf 6 = .ok (.aload_n 0, 1) := by decide +kernel
theorem dX6_wordOf_7 : decode cX6_wordOf 7 = .ok (.getfield 57, 3) := by decide +kernel
theorem dX6_wordOf_10 : decode cX6_wordOf 10 = .ok (.ishl, 1) := by decide +kernel
theorem dX6_wordOf_11 : decode cX6_wordOf 11 = .ok (.ior, 1) := by decide +kernel
theorem dX6_wordOf_12 : decode cX6_wordOf 12 = .ok (.ireturn, 1) := by decide +kernel
theorem dX6_bitOf_0 : decode cX6_bitOf 0 = .ok (.iconst 0, 1) := by decide +kernel
theorem dX6_bitOf_1 : decode cX6_bitOf 1 = .ok (.istore_n 2, 1) := by decide +kernel
theorem dX6_bitOf_2 : decode cX6_bitOf 2 = .ok (.iload_n 2, 1) := by decide +kernel
theorem dX6_bitOf_3 : decode cX6_bitOf 3 = .ok (.aload_n 0, 1) := by decide +kernel
theorem dX6_bitOf_4 : decode cX6_bitOf 4 = .ok (.invokevirtual 64, 3) := by decide +kernel
theorem dX6_bitOf_7 : decode cX6_bitOf 7 = .ok (.if_icmp .ge 21, 3) := by decide +kernel
theorem dX6_bitOf_10 : decode cX6_bitOf 10 = .ok (.aload_n 0, 1) := by decide +kernel
theorem dX6_bitOf_11 : decode cX6_bitOf 11 = .ok (.getfield 7, 3) := by decide +kernel
theorem dX6_bitOf_14 : decode cX6_bitOf 14 = .ok (.iload_n 2, 1) := by decide +kernel
theorem dX6_bitOf_15 : decode cX6_bitOf 15 = .ok (.iaload, 1) := by decide +kernel
theorem dX6_bitOf_16 : decode cX6_bitOf 16 = .ok (.iload_n 1, 1) := by decide +kernel
theorem dX6_bitOf_17 : decode cX6_bitOf 17 = .ok (.if_icmp .ne 5, 3) := by decide +kernel
theorem dX6_bitOf_20 : decode cX6_bitOf 20 = .ok (.iload_n 2, 1) := by decide +kernel
theorem dX6_bitOf_21 : decode cX6_bitOf 21 = .ok (.ireturn, 1) := by decide +kernel
theorem dX6_bitOf_22 : decode cX6_bitOf 22 = .ok (.iinc 2 1, 3) := by decide +kernel
theorem dX6_bitOf_25 : decode cX6_bitOf 25 = .ok (.goto (-23), 3) := by decide +kernel
theorem dX6_bitOf_28 : decode cX6_bitOf 28 = .ok (.bipush (-9), 2) := by decide +kernel
theorem dX6_bitOf_30 : decode cX6_bitOf 30 = .ok (.ireturn, 1) := by decide +kernel
theorem dX6_mendedOf_0 : decode cX6_mendedOf 0 = .ok (.aload_n 0, 1) := by decide +kernel
theorem dX6_mendedOf_1 : decode cX6_mendedOf 1 = .ok (.iload_n 1, 1) := by decide +kernel
theorem dX6_mendedOf_2 : decode cX6_mendedOf 2 = .ok (.invokevirtual 96, 3) := by decide +kernel
theorem dX6_mendedOf_5 : decode cX6_mendedOf 5 = .ok (.istore_n 2, 1) := by decide +kernel
theorem dX6_mendedOf_6 : decode cX6_mendedOf 6 = .ok (.iload_n 2, 1) := by decide +kernel
theorem dX6_mendedOf_7 : decode cX6_mendedOf 7 = .ok (.ifCond .ne 5, 3) := by decide +kernel
theorem dX6_mendedOf_10 : decode cX6_mendedOf 10 = .ok (.iload_n 1, 1) := by decide +kernel
theorem dX6_mendedOf_11 : decode cX6_mendedOf 11 = .ok (.ireturn, 1) := by decide +kernel
theorem dX6_mendedOf_12 : decode cX6_mendedOf 12 = .ok (.aload_n 0, 1) := by decide +kernel
theorem dX6_mendedOf_13 : decode cX6_mendedOf 13 = .ok (.iload_n 2, 1) := by decide +kernel
theorem dX6_mendedOf_14 : decode cX6_mendedOf 14 = .ok (.invokevirtual 99, 3) := by decide +kernel
theorem dX6_mendedOf_17 : decode cX6_mendedOf 17 = .ok (.istore_n 3, 1) := by decide +kernel
theorem dX6_mendedOf_18 : decode cX6_mendedOf 18 = .ok (.iload_n 3, 1) := by decide +kernel
theorem dX6_mendedOf_19 : decode cX6_mendedOf 19 = .ok (.bipush (-9), 2) := by decide +kernel
theorem dX6_mendedOf_21 : decode cX6_mendedOf 21 = .ok (.if_icmp .ne 8, 3) := by decide +kernel
theorem dX6_mendedOf_24 : decode cX6_mendedOf 24 = .ok (.bipush (-5), 2) := by decide +kernel
theorem dX6_mendedOf_26 : decode cX6_mendedOf 26 = .ok (.goto 8, 3) := by decide +kernel
theorem dX6_mendedOf_29 : decode cX6_mendedOf 29 = .ok (.iload_n 1, 1) := by decide +kernel
theorem dX6_mendedOf_30 : decode cX6_mendedOf 30 = .ok (.iconst 1, 1) := by decide +kernel
theorem dX6_mendedOf_31 : decode cX6_mendedOf 31 = .ok (.iload_n 3, 1) := by decide +kernel
theorem dX6_mendedOf_32 : decode cX6_mendedOf 32 = .ok (.ishl, 1) := by decide +kernel
theorem dX6_mendedOf_33 : decode cX6_mendedOf 33 = .ok (.ixor, 1) := by decide +kernel
theorem dX6_mendedOf_34 : decode cX6_mendedOf 34 = .ok (.ireturn, 1) := by decide +kernel
theorem dX6_word_0 : decode cX6_word 0 = .ok (.aload_n 0, 1) := by decide +kernel
theorem dX6_word_1 : decode cX6_word 1 = .ok (.getfield 57, 3) := by decide +kernel
theorem dX6_word_4 : decode cX6_word 4 = .ok (.ifCond .ne 6, 3) := by decide +kernel
theorem dX6_word_7 : decode cX6_word 7 = .ok (.bipush (-3), 2) := by decide +kernel
theorem dX6_word_9 : decode cX6_word 9 = .ok (.ireturn, 1) := by decide +kernel
theorem dX6_word_10 : decode cX6_word 10 = .ok (.iload_n 1, 1) := by decide +kernel
theorem dX6_word_11 : decode cX6_word 11 = .ok (.iconst 0, 1) := by decide +kernel
theorem dX6_word_12 : decode cX6_word 12 = .ok (.iconst 1, 1) := by decide +kernel
theorem dX6_word_13 : decode cX6_word 13 = .ok (.aload_n 0, 1) := by decide +kernel
theorem dX6_word_14 : decode cX6_word 14 = .ok (.getfield 57, 3) := by decide +kernel
theorem dX6_word_17 : decode cX6_word 17 = .ok (.ishl, 1) := by decide +kernel
theorem dX6_word_18 : decode cX6_word 18 = .ok (.iconst 1, 1) := by decide +kernel
theorem dX6_word_19 : decode cX6_word 19 = .ok (.isub, 1) := by decide +kernel
theorem dX6_word_20 : decode cX6_word 20 = .ok (.invokestatic 68, 3) := by decide +kernel
theorem dX6_word_23 : decode cX6_word 23 = .ok (.ifCond .eq 11, 3) := by decide +kernel
theorem dX6_word_26 : decode cX6_word 26 = .ok (.aload_n 0, 1) := by decide +kernel
theorem dX6_word_27 : decode cX6_word 27 = .ok (.iload_n 1, 1) := by decide +kernel
theorem dX6_word_28 : decode cX6_word 28 = .ok (.invokevirtual 102, 3) := by decide +kernel
theorem dX6_word_31 : decode cX6_word 31 = .ok (.goto 5, 3) := by decide +kernel
theorem dX6_word_34 : decode cX6_word 34 = .ok (.bipush (-2), 2) := by decide +kernel
theorem dX6_word_36 : decode cX6_word 36 = .ok (.ireturn, 1) := by decide +kernel
theorem dX6_syndrome_0 : decode cX6_syndrome 0 = .ok (.aload_n 0, 1) := by decide +kernel
theorem dX6_syndrome_1 : decode cX6_syndrome 1 = .ok (.getfield 57, 3) := by decide +kernel
theorem dX6_syndrome_4 : decode cX6_syndrome 4 = .ok (.ifCond .ne 6, 3) := by decide +kernel
theorem dX6_syndrome_7 : decode cX6_syndrome 7 = .ok (.bipush (-3), 2) := by decide +kernel
theorem dX6_syndrome_9 : decode cX6_syndrome 9 = .ok (.ireturn, 1) := by decide +kernel
theorem dX6_syndrome_10 : decode cX6_syndrome 10 = .ok (.aload_n 0, 1) := by decide +kernel
theorem dX6_syndrome_11 : decode cX6_syndrome 11 = .ok (.iload_n 1, 1) := by decide +kernel
theorem dX6_syndrome_12 : decode cX6_syndrome 12 = .ok (.invokevirtual 105, 3) := by decide +kernel
theorem dX6_syndrome_15 : decode cX6_syndrome 15 = .ok (.ifCond .eq 11, 3) := by decide +kernel
theorem dX6_syndrome_18 : decode cX6_syndrome 18 = .ok (.aload_n 0, 1) := by decide +kernel
theorem dX6_syndrome_19 : decode cX6_syndrome 19 = .ok (.iload_n 1, 1) := by decide +kernel
theorem dX6_syndrome_20 : decode cX6_syndrome 20 = .ok (.invokevirtual 96, 3) := by decide +kernel
theorem dX6_syndrome_23 : decode cX6_syndrome 23 = .ok (.goto 5, 3) := by decide +kernel
theorem dX6_syndrome_26 : decode cX6_syndrome 26 = .ok (.bipush (-2), 2) := by decide +kernel
theorem dX6_syndrome_28 : decode cX6_syndrome 28 = .ok (.ireturn, 1) := by decide +kernel
theorem dX6_mended_0 : decode cX6_mended 0 = .ok (.aload_n 0, 1) := by decide +kernel
theorem dX6_mended_1 : decode cX6_mended 1 = .ok (.getfield 57, 3) := by decide +kernel
theorem dX6_mended_4 : decode cX6_mended 4 = .ok (.ifCond .ne 6, 3) := by decide +kernel
theorem dX6_mended_7 : decode cX6_mended 7 = .ok (.bipush (-3), 2) := by decide +kernel
theorem dX6_mended_9 : decode cX6_mended 9 = .ok (.ireturn, 1) := by decide +kernel
theorem dX6_mended_10 : decode cX6_mended 10 = .ok (.aload_n 0, 1) := by decide +kernel
theorem dX6_mended_11 : decode cX6_mended 11 = .ok (.iload_n 1, 1) := by decide +kernel
theorem dX6_mended_12 : decode cX6_mended 12 = .ok (.invokevirtual 105, 3) := by decide +kernel
theorem dX6_mended_15 : decode cX6_mended 15 = .ok (.ifCond .eq 11, 3) := by decide +kernel
theorem dX6_mended_18 : decode cX6_mended 18 = .ok (.aload_n 0, 1) := by decide +kernel
theorem dX6_mended_19 : decode cX6_mended 19 = .ok (.iload_n 1, 1) := by decide +kernel
theorem dX6_mended_20 : decode cX6_mended 20 = .ok (.invokevirtual 108, 3) := by decide +kernel
theorem dX6_mended_23 : decode cX6_mended 23 = .ok (.goto 5, 3) := by decide +kernel
theorem dX6_mended_26 : decode cX6_mended 26 = .ok (.bipush (-2), 2) := by decide +kernel
theorem dX6_mended_28 : decode cX6_mended 28 = .ok (.ireturn, 1) := by decide +kernel
theorem dX6_begins_0 : decode cX6_begins 0 = .ok (.iconst 0, 1) := by decide +kernel
theorem dX6_begins_1 : decode cX6_begins 1 = .ok (.istore_n 1, 1) := by decide +kernel
theorem dX6_begins_2 : decode cX6_begins 2 = .ok (.iload_n 1, 1) := by decide +kernel
theorem dX6_begins_3 : decode cX6_begins 3 = .ok (.aload_n 0, 1) := by decide +kernel
theorem dX6_begins_4 : decode cX6_begins 4 = .ok (.getfield 16, 3) := by decide +kernel
theorem dX6_begins_7 : decode cX6_begins 7 = .ok (.arraylength, 1) := by decide +kernel
theorem dX6_begins_8 : decode cX6_begins 8 = .ok (.if_icmp .ge 30, 3) := by decide +kernel
theorem dX6_begins_11 : decode cX6_begins 11 = .ok (.aload_n 0, 1) := by decide +kernel
theorem dX6_begins_12 : decode cX6_begins 12 = .ok (.getfield 16, 3) := by decide +kernel
theorem dX6_begins_15 : decode cX6_begins 15 = .ok (.iload_n 1, 1) := by decide +kernel
theorem dX6_begins_16 : decode cX6_begins 16 = .ok (.iconst 0, 1) := by decide +kernel
theorem dX6_begins_17 : decode cX6_begins 17 = .ok (.iastore, 1) := by decide +kernel
theorem dX6_begins_18 : decode cX6_begins 18 = .ok (.aload_n 0, 1) := by decide +kernel
theorem dX6_begins_19 : decode cX6_begins 19 = .ok (.getfield 19, 3) := by decide +kernel
theorem dX6_begins_22 : decode cX6_begins 22 = .ok (.iload_n 1, 1) := by decide +kernel
theorem dX6_begins_23 : decode cX6_begins 23 = .ok (.iconst 0, 1) := by decide +kernel
theorem dX6_begins_24 : decode cX6_begins 24 = .ok (.bastore, 1) := by decide +kernel
theorem dX6_begins_25 : decode cX6_begins 25 = .ok (.aload_n 0, 1) := by decide +kernel
theorem dX6_begins_26 : decode cX6_begins 26 = .ok (.getfield 23, 3) := by decide +kernel
theorem dX6_begins_29 : decode cX6_begins 29 = .ok (.iload_n 1, 1) := by decide +kernel
theorem dX6_begins_30 : decode cX6_begins 30 = .ok (.iconst 0, 1) := by decide +kernel
theorem dX6_begins_31 : decode cX6_begins 31 = .ok (.iastore, 1) := by decide +kernel
theorem dX6_begins_32 : decode cX6_begins 32 = .ok (.iinc 1 1, 3) := by decide +kernel
theorem dX6_begins_35 : decode cX6_begins 35 = .ok (.goto (-33), 3) := by decide +kernel
theorem dX6_begins_38 : decode cX6_begins 38 = .ok (.iconst 0, 1) := by decide +kernel
theorem dX6_begins_39 : decode cX6_begins 39 = .ok (.istore_n 1, 1) := by decide +kernel
theorem dX6_begins_40 : decode cX6_begins 40 = .ok (.iload_n 1, 1) := by decide +kernel
theorem dX6_begins_41 : decode cX6_begins 41 = .ok (.iconst 4, 1) := by decide +kernel
theorem dX6_begins_42 : decode cX6_begins 42 = .ok (.if_icmp .ge 23, 3) := by decide +kernel
theorem dX6_begins_45 : decode cX6_begins 45 = .ok (.aload_n 0, 1) := by decide +kernel
theorem dX6_begins_46 : decode cX6_begins 46 = .ok (.getfield 26, 3) := by decide +kernel
theorem dX6_begins_49 : decode cX6_begins 49 = .ok (.iload_n 1, 1) := by decide +kernel
theorem dX6_begins_50 : decode cX6_begins 50 = .ok (.iload_n 1, 1) := by decide +kernel
theorem dX6_begins_51 : decode cX6_begins 51 = .ok (.iastore, 1) := by decide +kernel
theorem dX6_begins_52 : decode cX6_begins 52 = .ok (.aload_n 0, 1) := by decide +kernel
theorem dX6_begins_53 : decode cX6_begins 53 = .ok (.getfield 35, 3) := by decide +kernel
theorem dX6_begins_56 : decode cX6_begins 56 = .ok (.iload_n 1, 1) := by decide +kernel
theorem dX6_begins_57 : decode cX6_begins 57 = .ok (.iconst 0, 1) := by decide +kernel
theorem dX6_begins_58 : decode cX6_begins 58 = .ok (.iastore, 1) := by decide +kernel
theorem dX6_begins_59 : decode cX6_begins 59 = .ok (.iinc 1 1, 3) := by decide +kernel
theorem dX6_begins_62 : decode cX6_begins 62 = .ok (.goto (-22), 3) := by decide +kernel
theorem dX6_begins_65 : decode cX6_begins 65 = .ok (.iconst 0, 1) := by decide +kernel
theorem dX6_begins_66 : decode cX6_begins 66 = .ok (.istore_n 1, 1) := by decide +kernel
theorem dX6_begins_67 : decode cX6_begins 67 = .ok (.iload_n 1, 1) := by decide +kernel
theorem dX6_begins_68 : decode cX6_begins 68 = .ok (.aload_n 0, 1) := by decide +kernel
theorem dX6_begins_69 : decode cX6_begins 69 = .ok (.invokevirtual 64, 3) := by decide +kernel
theorem dX6_begins_72 : decode cX6_begins 72 = .ok (.if_icmp .ge 16, 3) := by decide +kernel
theorem dX6_begins_75 : decode cX6_begins 75 = .ok (.aload_n 0, 1) := by decide +kernel
theorem dX6_begins_76 : decode cX6_begins 76 = .ok (.getfield 29, 3) := by decide +kernel
theorem dX6_begins_79 : decode cX6_begins 79 = .ok (.iload_n 1, 1) := by decide +kernel
theorem dX6_begins_80 : decode cX6_begins 80 = .ok (.iload_n 1, 1) := by decide +kernel
theorem dX6_begins_81 : decode cX6_begins 81 = .ok (.iastore, 1) := by decide +kernel
theorem dX6_begins_82 : decode cX6_begins 82 = .ok (.iinc 1 1, 3) := by decide +kernel
theorem dX6_begins_85 : decode cX6_begins 85 = .ok (.goto (-18), 3) := by decide +kernel
theorem dX6_begins_88 : decode cX6_begins 88 = .ok (.iconst 0, 1) := by decide +kernel
theorem dX6_begins_89 : decode cX6_begins 89 = .ok (.istore_n 1, 1) := by decide +kernel
theorem dX6_begins_90 : decode cX6_begins 90 = .ok (.iload_n 1, 1) := by decide +kernel
theorem dX6_begins_91 : decode cX6_begins 91 = .ok (.bipush 16, 2) := by decide +kernel
theorem dX6_begins_93 : decode cX6_begins 93 = .ok (.if_icmp .ge 16, 3) := by decide +kernel
theorem dX6_begins_96 : decode cX6_begins 96 = .ok (.aload_n 0, 1) := by decide +kernel
theorem dX6_begins_97 : decode cX6_begins 97 = .ok (.getfield 32, 3) := by decide +kernel
theorem dX6_begins_100 : decode cX6_begins 100 = .ok (.iload_n 1, 1) := by decide +kernel
theorem dX6_begins_101 : decode cX6_begins 101 = .ok (.iconst 0, 1) := by decide +kernel
theorem dX6_begins_102 : decode cX6_begins 102 = .ok (.iastore, 1) := by decide +kernel
theorem dX6_begins_103 : decode cX6_begins 103 = .ok (.iinc 1 1, 3) := by decide +kernel
theorem dX6_begins_106 : decode cX6_begins 106 = .ok (.goto (-16), 3) := by decide +kernel
theorem dX6_begins_109 : decode cX6_begins 109 = .ok (.iconst 0, 1) := by decide +kernel
theorem dX6_begins_110 : decode cX6_begins 110 = .ok (.istore_n 1, 1) := by decide +kernel
theorem dX6_begins_111 : decode cX6_begins 111 = .ok (.iload_n 1, 1) := by decide +kernel
theorem dX6_begins_112 : decode cX6_begins 112 = .ok (.aload_n 0, 1) := by decide +kernel
theorem dX6_begins_113 : decode cX6_begins 113 = .ok (.getfield 47, 3) := by decide +kernel
theorem dX6_begins_116 : decode cX6_begins 116 = .ok (.arraylength, 1) := by decide +kernel
theorem dX6_begins_117 : decode cX6_begins 117 = .ok (.if_icmp .ge 17, 3) := by decide +kernel
theorem dX6_begins_120 : decode cX6_begins 120 = .ok (.aload_n 0, 1) := by decide +kernel
theorem dX6_begins_121 : decode cX6_begins 121 = .ok (.getfield 47, 3) := by decide +kernel
theorem dX6_begins_124 : decode cX6_begins 124 = .ok (.iload_n 1, 1) := by decide +kernel
theorem dX6_begins_125 : decode cX6_begins 125 = .ok (.bipush (-9), 2) := by decide +kernel
theorem dX6_begins_127 : decode cX6_begins 127 = .ok (.iastore, 1) := by decide +kernel
theorem dX6_begins_128 : decode cX6_begins 128 = .ok (.iinc 1 1, 3) := by decide +kernel
theorem dX6_begins_131 : decode cX6_begins 131 = .ok (.goto (-20), 3) := by decide +kernel
theorem dX6_begins_134 : decode cX6_begins 134 = .ok (.iconst 0, 1) := by decide +kernel
theorem dX6_begins_135 : decode cX6_begins 135 = .ok (.istore_n 1, 1) := by decide +kernel
theorem dX6_begins_136 : decode cX6_begins 136 = .ok (.iload_n 1, 1) := by decide +kernel
theorem dX6_begins_137 : decode cX6_begins 137 = .ok (.aload_n 0, 1) := by decide +kernel
theorem dX6_begins_138 : decode cX6_begins 138 = .ok (.getfield 44, 3) := by decide +kernel
theorem dX6_begins_141 : decode cX6_begins 141 = .ok (.arraylength, 1) := by decide +kernel
theorem dX6_begins_142 : decode cX6_begins 142 = .ok (.if_icmp .ge 16, 3) := by decide +kernel
theorem dX6_begins_145 : decode cX6_begins 145 = .ok (.aload_n 0, 1) := by decide +kernel
theorem dX6_begins_146 : decode cX6_begins 146 = .ok (.getfield 44, 3) := by decide +kernel
theorem dX6_begins_149 : decode cX6_begins 149 = .ok (.iload_n 1, 1) := by decide +kernel
theorem dX6_begins_150 : decode cX6_begins 150 = .ok (.iconst 0, 1) := by decide +kernel
theorem dX6_begins_151 : decode cX6_begins 151 = .ok (.iastore, 1) := by decide +kernel
theorem dX6_begins_152 : decode cX6_begins 152 = .ok (.iinc 1 1, 3) := by decide +kernel
theorem dX6_begins_155 : decode cX6_begins 155 = .ok (.goto (-19), 3) := by decide +kernel
theorem dX6_begins_158 : decode cX6_begins 158 = .ok (.aload_n 0, 1) := by decide +kernel
theorem dX6_begins_159 : decode cX6_begins 159 = .ok (.iconst 0, 1) := by decide +kernel
theorem dX6_begins_160 : decode cX6_begins 160 = .ok (.putfield 111, 3) := by decide +kernel
theorem dX6_begins_163 : decode cX6_begins 163 = .ok (.aload_n 0, 1) := by decide +kernel
theorem dX6_begins_164 : decode cX6_begins 164 = .ok (.iconst 0, 1) := by decide +kernel
theorem dX6_begins_165 : decode cX6_begins 165 = .ok (.putfield 114, 3) := by decide +kernel
theorem dX6_begins_168 : decode cX6_begins 168 = .ok (.aload_n 0, 1) := by decide +kernel
theorem dX6_begins_169 : decode cX6_begins 169 = .ok (.iconst 0, 1) := by decide +kernel
theorem dX6_begins_170 : decode cX6_begins 170 = .ok (.putfield 117, 3) := by decide +kernel
theorem dX6_begins_173 : decode cX6_begins 173 = .ok (.aload_n 0, 1) := by decide +kernel
theorem dX6_begins_174 : decode cX6_begins 174 = .ok (.iconst 0, 1) := by decide +kernel
theorem dX6_begins_175 : decode cX6_begins 175 = .ok (.putfield 121, 3) := by decide +kernel
theorem dX6_begins_178 : decode cX6_begins 178 = .ok (.return_, 1) := by decide +kernel
theorem dX6_at_0 : decode cX6_at 0 = .ok (.bipush 21, 2) := by decide +kernel
theorem dX6_at_2 : decode cX6_at 2 = .ok (.iconst 4, 1) := by decide +kernel
theorem dX6_at_3 : decode cX6_at 3 = .ok (.iload_n 0, 1) := by decide +kernel
theorem dX6_at_4 : decode cX6_at 4 = .ok (.imul, 1) := by decide +kernel
theorem dX6_at_5 : decode cX6_at 5 = .ok (.iload_n 1, 1) := by decide +kernel
theorem dX6_at_6 : decode cX6_at 6 = .ok (.iadd, 1) := by decide +kernel
theorem dX6_at_7 : decode cX6_at 7 = .ok (.imul, 1) := by decide +kernel
theorem dX6_at_8 : decode cX6_at 8 = .ok (.iload_n 2, 1) := by decide +kernel
theorem dX6_at_9 : decode cX6_at 9 = .ok (.iadd, 1) := by decide +kernel
theorem dX6_at_10 : decode cX6_at 10 = .ok (.ireturn, 1) := by decide +kernel
theorem dX6_cellOf_0 : decode cX6_cellOf 0 = .ok (.aload_n 0, 1) := by decide +kernel
theorem dX6_cellOf_1 : decode cX6_cellOf 1 = .ok (.getfield 26, 3) := by decide +kernel
theorem dX6_cellOf_4 : decode cX6_cellOf 4 = .ok (.iload_n 1, 1) := by decide +kernel
theorem dX6_cellOf_5 : decode cX6_cellOf 5 = .ok (.iaload, 1) := by decide +kernel
theorem dX6_cellOf_6 : decode cX6_cellOf 6 = .ok (.iload_n 2, 1) := by decide +kernel
theorem dX6_cellOf_7 : decode cX6_cellOf 7 = .ok (.aload_n 0, 1) := by decide +kernel
theorem dX6_cellOf_8 : decode cX6_cellOf 8 = .ok (.getfield 29, 3) := by decide +kernel
theorem dX6_cellOf_11 : decode cX6_cellOf 11 = .ok (.iload_n 3, 1) := by decide +kernel
theorem dX6_cellOf_12 : decode cX6_cellOf 12 = .ok (.iaload, 1) := by decide +kernel
theorem dX6_cellOf_13 : decode cX6_cellOf 13 = .ok (.invokestatic 124, 3) := by decide +kernel
theorem dX6_cellOf_16 : decode cX6_cellOf 16 = .ok (.ireturn, 1) := by decide +kernel
theorem dX6_isWord_0 : decode cX6_isWord 0 = .ok (.aload_n 0, 1) := by decide +kernel
theorem dX6_isWord_1 : decode cX6_isWord 1 = .ok (.getfield 57, 3) := by decide +kernel
theorem dX6_isWord_4 : decode cX6_isWord 4 = .ok (.ifCond .le 25, 3) := by decide +kernel
theorem dX6_isWord_7 : decode cX6_isWord 7 = .ok (.iload_n 1, 1) := by decide +kernel
theorem dX6_isWord_8 : decode cX6_isWord 8 = .ok (.iconst 0, 1) := by decide +kernel
theorem dX6_isWord_9 : decode cX6_isWord 9 = .ok (.iconst 3, 1) := by decide +kernel
theorem dX6_isWord_10 : decode cX6_isWord 10 = .ok (.invokestatic 68, 3) := by decide +kernel
theorem dX6_isWord_13 : decode cX6_isWord 13 = .ok (.ifCond .eq 16, 3) := by decide +kernel
theorem dX6_isWord_16 : decode cX6_isWord 16 = .ok (.iload_n 2, 1) := by decide +kernel
theorem dX6_isWord_17 : decode cX6_isWord 17 = .ok (.iconst 0, 1) := by decide +kernel
theorem dX6_isWord_18 : decode cX6_isWord 18 = .ok (.iconst 3, 1) := by decide +kernel
theorem dX6_isWord_19 : decode cX6_isWord 19 = .ok (.invokestatic 68, 3) := by decide +kernel
theorem dX6_isWord_22 : decode cX6_isWord 22 = .ok (.ifCond .eq 7, 3) := by decide +kernel
theorem dX6_isWord_25 : decode cX6_isWord 25 = .ok (.iconst 1, 1) := by decide +kernel
theorem dX6_isWord_26 : decode cX6_isWord 26 = .ok (.goto 4, 3) := by decide +kernel
theorem dX6_isWord_29 : decode cX6_isWord 29 = .ok (.iconst 0, 1) := by decide +kernel
theorem dX6_isWord_30 : decode cX6_isWord 30 = .ok (.ireturn, 1) := by decide +kernel
theorem dX6_puts_0 : decode cX6_puts 0 = .ok (.iconst 0, 1) := by decide +kernel
theorem dX6_puts_1 : decode cX6_puts 1 = .ok (.istore 4, 2) := by decide +kernel
theorem dX6_puts_3 : decode cX6_puts 3 = .ok (.iload 4, 2) := by decide +kernel
theorem dX6_puts_5 : decode cX6_puts 5 = .ok (.aload_n 0, 1) := by decide +kernel
theorem dX6_puts_6 : decode cX6_puts 6 = .ok (.invokevirtual 64, 3) := by decide +kernel
theorem dX6_puts_9 : decode cX6_puts 9 = .ok (.if_icmp .ge 52, 3) := by decide +kernel
theorem dX6_puts_12 : decode cX6_puts 12 = .ok (.aload_n 0, 1) := by decide +kernel
theorem dX6_puts_13 : decode cX6_puts 13 = .ok (.iload_n 1, 1) := by decide +kernel
theorem dX6_puts_14 : decode cX6_puts 14 = .ok (.iload_n 2, 1) := by decide +kernel
theorem dX6_puts_15 : decode cX6_puts 15 = .ok (.iload 4, 2) := by decide +kernel
theorem dX6_puts_17 : decode cX6_puts 17 = .ok (.invokevirtual 128, 3) := by decide +kernel
theorem dX6_puts_20 : decode cX6_puts 20 = .ok (.istore 5, 2) := by decide +kernel
theorem dX6_puts_22 : decode cX6_puts 22 = .ok (.aload_n 0, 1) := by decide +kernel
theorem dX6_puts_23 : decode cX6_puts 23 = .ok (.getfield 16, 3) := by decide +kernel
theorem dX6_puts_26 : decode cX6_puts 26 = .ok (.iload 5, 2) := by decide +kernel
theorem dX6_puts_28 : decode cX6_puts 28 = .ok (.aload_n 0, 1) := by decide +kernel
theorem dX6_puts_29 : decode cX6_puts 29 = .ok (.getfield 19, 3) := by decide +kernel
theorem dX6_puts_32 : decode cX6_puts 32 = .ok (.iload 5, 2) := by decide +kernel
theorem dX6_puts_34 : decode cX6_puts 34 = .ok (.baload, 1) := by decide +kernel
theorem dX6_puts_35 : decode cX6_puts 35 = .ok (.ifCond .eq 13, 3) := by decide +kernel
theorem dX6_puts_38 : decode cX6_puts 38 = .ok (.aload_n 0, 1) := by decide +kernel
theorem dX6_puts_39 : decode cX6_puts 39 = .ok (.getfield 16, 3) := by decide +kernel
theorem dX6_puts_42 : decode cX6_puts 42 = .ok (.iload 5, 2) := by decide +kernel
theorem dX6_puts_44 : decode cX6_puts 44 = .ok (.iaload, 1) := by decide +kernel
theorem dX6_puts_45 : decode cX6_puts 45 = .ok (.goto 9, 3) := by decide +kernel
theorem dX6_puts_48 : decode cX6_puts 48 = .ok (.iload_n 3, 1) := by decide +kernel
theorem dX6_puts_49 : decode cX6_puts 49 = .ok (.iload 4, 2) := by decide +kernel
theorem dX6_puts_51 : decode cX6_puts 51 = .ok (.invokestatic 53, 3) := by decide +kernel
theorem dX6_puts_54 : decode cX6_puts 54 = .ok (.iastore, 1) := by decide +kernel
theorem dX6_puts_55 : decode cX6_puts 55 = .ok (.iinc 4 1, 3) := by decide +kernel
theorem dX6_puts_58 : decode cX6_puts 58 = .ok (.goto (-55), 3) := by decide +kernel
theorem dX6_puts_61 : decode cX6_puts 61 = .ok (.return_, 1) := by decide +kernel
theorem dX6_rawOf_0 : decode cX6_rawOf 0 = .ok (.iconst 0, 1) := by decide +kernel
theorem dX6_rawOf_1 : decode cX6_rawOf 1 = .ok (.istore_n 3, 1) := by decide +kernel
theorem dX6_rawOf_2 : decode cX6_rawOf 2 = .ok (.iconst 0, 1) := by decide +kernel
theorem dX6_rawOf_3 : decode cX6_rawOf 3 = .ok (.istore 4, 2) := by decide +kernel
theorem dX6_rawOf_5 : decode cX6_rawOf 5 = .ok (.iload 4, 2) := by decide +kernel
theorem dX6_rawOf_7 : decode cX6_rawOf 7 = .ok (.aload_n 0, 1) := by decide +kernel
theorem dX6_rawOf_8 : decode cX6_rawOf 8 = .ok (.invokevirtual 64, 3) := by decide +kernel
theorem dX6_rawOf_11 : decode cX6_rawOf 11 = .ok (.if_icmp .ge 28, 3) := by decide +kernel
theorem dX6_rawOf_14 : decode cX6_rawOf 14 = .ok (.iload_n 3, 1) := by decide +kernel
theorem dX6_rawOf_15 : decode cX6_rawOf 15 = .ok (.aload_n 0, 1) := by decide +kernel
theorem dX6_rawOf_16 : decode cX6_rawOf 16 = .ok (.getfield 16, 3) := by decide +kernel
theorem dX6_rawOf_19 : decode cX6_rawOf 19 = .ok (.aload_n 0, 1) := by decide +kernel
theorem dX6_rawOf_20 : decode cX6_rawOf 20 = .ok (.iload_n 1, 1) := by decide +kernel
theorem dX6_rawOf_21 : decode cX6_rawOf 21 = .ok (.iload_n 2, 1) := by decide +kernel
theorem dX6_rawOf_22 : decode cX6_rawOf 22 = .ok (.iload 4, 2) := by decide +kernel
theorem dX6_rawOf_24 : decode cX6_rawOf 24 = .ok (.invokevirtual 128, 3) := by decide +kernel
theorem dX6_rawOf_27 : decode cX6_rawOf 27 = .ok (.iaload, 1) := by decide +kernel
theorem dX6_rawOf_28 : decode cX6_rawOf 28 = .ok (.iload 4, 2) := by decide +kernel
theorem dX6_rawOf_30 : decode cX6_rawOf 30 = .ok (.ishl, 1) := by decide +kernel
theorem dX6_rawOf_31 : decode cX6_rawOf 31 = .ok (.ior, 1) := by decide +kernel
theorem dX6_rawOf_32 : decode cX6_rawOf 32 = .ok (.istore_n 3, 1) := by decide +kernel
theorem dX6_rawOf_33 : decode cX6_rawOf 33 = .ok (.iinc 4 1, 3) := by decide +kernel
theorem dX6_rawOf_36 : decode cX6_rawOf 36 = .ok (.goto (-31), 3) := by decide +kernel
theorem dX6_rawOf_39 : decode cX6_rawOf 39 = .ok (.iload_n 3, 1) := by decide +kernel
theorem dX6_rawOf_40 : decode cX6_rawOf 40 = .ok (.ireturn, 1) := by decide +kernel
theorem dX6_write_0 : decode cX6_write 0 = .ok (.aload_n 0, 1) := by decide +kernel
theorem dX6_write_1 : decode cX6_write 1 = .ok (.iload_n 1, 1) := by decide +kernel
theorem dX6_write_2 : decode cX6_write 2 = .ok (.iload_n 2, 1) := by decide +kernel
theorem dX6_write_3 : decode cX6_write 3 = .ok (.invokevirtual 131, 3) := by decide +kernel
theorem dX6_write_6 : decode cX6_write 6 = .ok (.ifCond .ne 5, 3) := by decide +kernel
theorem dX6_write_9 : decode cX6_write 9 = .ok (.iconst (-1), 1) := by decide +kernel
theorem dX6_write_10 : decode cX6_write 10 = .ok (.ireturn, 1) := by decide +kernel
theorem dX6_write_11 : decode cX6_write 11 = .ok (.iload_n 3, 1) := by decide +kernel
theorem dX6_write_12 : decode cX6_write 12 = .ok (.iconst 0, 1) := by decide +kernel
theorem dX6_write_13 : decode cX6_write 13 = .ok (.iconst 1, 1) := by decide +kernel
theorem dX6_write_14 : decode cX6_write 14 = .ok (.aload_n 0, 1) := by decide +kernel
theorem dX6_write_15 : decode cX6_write 15 = .ok (.getfield 57, 3) := by decide +kernel
theorem dX6_write_18 : decode cX6_write 18 = .ok (.ishl, 1) := by decide +kernel
theorem dX6_write_19 : decode cX6_write 19 = .ok (.iconst 1, 1) := by decide +kernel
theorem dX6_write_20 : decode cX6_write 20 = .ok (.isub, 1) := by decide +kernel
theorem dX6_write_21 : decode cX6_write 21 = .ok (.invokestatic 68, 3) := by decide +kernel
theorem dX6_write_24 : decode cX6_write 24 = .ok (.ifCond .ne 6, 3) := by decide +kernel
theorem dX6_write_27 : decode cX6_write 27 = .ok (.bipush (-2), 2) := by decide +kernel
theorem dX6_write_29 : decode cX6_write 29 = .ok (.ireturn, 1) := by decide +kernel
theorem dX6_write_30 : decode cX6_write 30 = .ok (.aload_n 0, 1) := by decide +kernel
theorem dX6_write_31 : decode cX6_write 31 = .ok (.iload_n 1, 1) := by decide +kernel
theorem dX6_write_32 : decode cX6_write 32 = .ok (.iload_n 2, 1) := by decide +kernel
theorem dX6_write_33 : decode cX6_write 33 = .ok (.aload_n 0, 1) := by decide +kernel
theorem dX6_write_34 : decode cX6_write 34 = .ok (.iload_n 3, 1) := by decide +kernel
theorem dX6_write_35 : decode cX6_write 35 = .ok (.invokevirtual 102, 3) := by decide +kernel
theorem dX6_write_38 : decode cX6_write 38 = .ok (.invokevirtual 134, 3) := by decide +kernel
theorem dX6_write_41 : decode cX6_write 41 = .ok (.aload_n 0, 1) := by decide +kernel
theorem dX6_write_42 : decode cX6_write 42 = .ok (.getfield 32, 3) := by decide +kernel
theorem dX6_write_45 : decode cX6_write 45 = .ok (.iconst 4, 1) := by decide +kernel
theorem dX6_write_46 : decode cX6_write 46 = .ok (.iload_n 1, 1) := by decide +kernel
theorem dX6_write_47 : decode cX6_write 47 = .ok (.imul, 1) := by decide +kernel
theorem dX6_write_48 : decode cX6_write 48 = .ok (.iload_n 2, 1) := by decide +kernel
theorem dX6_write_49 : decode cX6_write 49 = .ok (.iadd, 1) := by decide +kernel
theorem dX6_write_50 : decode cX6_write 50 = .ok (.iload_n 3, 1) := by decide +kernel
theorem dX6_write_51 : decode cX6_write 51 = .ok (.iastore, 1) := by decide +kernel
theorem dX6_write_52 : decode cX6_write 52 = .ok (.iconst 1, 1) := by decide +kernel
theorem dX6_write_53 : decode cX6_write 53 = .ok (.ireturn, 1) := by decide +kernel
theorem dX6_badIn_0 : decode cX6_badIn 0 = .ok (.iconst 0, 1) := by decide +kernel
theorem dX6_badIn_1 : decode cX6_badIn 1 = .ok (.istore_n 2, 1) := by decide +kernel
theorem dX6_badIn_2 : decode cX6_badIn 2 = .ok (.iconst 0, 1) := by decide +kernel
theorem dX6_badIn_3 : decode cX6_badIn 3 = .ok (.istore_n 3, 1) := by decide +kernel
theorem dX6_badIn_4 : decode cX6_badIn 4 = .ok (.iload_n 3, 1) := by decide +kernel
theorem dX6_badIn_5 : decode cX6_badIn 5 = .ok (.bipush 24, 2) := by decide +kernel
theorem dX6_badIn_7 : decode cX6_badIn 7 = .ok (.if_icmp .ge 32, 3) := by decide +kernel
theorem dX6_badIn_10 : decode cX6_badIn 10 = .ok (.iload_n 2, 1) := by decide +kernel
theorem dX6_badIn_11 : decode cX6_badIn 11 = .ok (.aload_n 0, 1) := by decide +kernel
theorem dX6_badIn_12 : decode cX6_badIn 12 = .ok (.getfield 23, 3) := by decide +kernel
theorem dX6_badIn_15 : decode cX6_badIn 15 = .ok (.bipush 21, 2) := by decide +kernel
theorem dX6_badIn_17 : decode cX6_badIn 17 = .ok (.iload_n 3, 1) := by decide +kernel
theorem dX6_badIn_18 : decode cX6_badIn 18 = .ok (.imul, 1) := by decide +kernel
theorem dX6_badIn_19 : decode cX6_badIn 19 = .ok (.iload_n 1, 1) := by decide +kernel
theorem dX6_badIn_20 : decode cX6_badIn 20 = .ok (.iadd, 1) := by decide +kernel
theorem dX6_badIn_21 : decode cX6_badIn 21 = .ok (.iaload, 1) := by decide +kernel
theorem dX6_badIn_22 : decode cX6_badIn 22 = .ok (.iconst 2, 1) := by decide +kernel
theorem dX6_badIn_23 : decode cX6_badIn 23 = .ok (.if_icmp .lt 7, 3) := by decide +kernel
theorem dX6_badIn_26 : decode cX6_badIn 26 = .ok (.iconst 1, 1) := by decide +kernel
theorem dX6_badIn_27 : decode cX6_badIn 27 = .ok (.goto 4, 3) := by decide +kernel
theorem dX6_badIn_30 : decode cX6_badIn 30 = .ok (.iconst 0, 1) := by decide +kernel
theorem dX6_badIn_31 : decode cX6_badIn 31 = .ok (.iadd, 1) := by decide +kernel
theorem dX6_badIn_32 : decode cX6_badIn 32 = .ok (.istore_n 2, 1) := by decide +kernel
theorem dX6_badIn_33 : decode cX6_badIn 33 = .ok (.iinc 3 1, 3) := by decide +kernel
theorem dX6_badIn_36 : decode cX6_badIn 36 = .ok (.goto (-32), 3) := by decide +kernel
theorem dX6_badIn_39 : decode cX6_badIn 39 = .ok (.iload_n 2, 1) := by decide +kernel
theorem dX6_badIn_40 : decode cX6_badIn 40 = .ok (.ireturn, 1) := by decide +kernel
theorem dX6_isUsed_0 : decode cX6_isUsed 0 = .ok (.iconst 0, 1) := by decide +kernel
theorem dX6_isUsed_1 : decode cX6_isUsed 1 = .ok (.istore_n 2, 1) := by decide +kernel
theorem dX6_isUsed_2 : decode cX6_isUsed 2 = .ok (.iload_n 2, 1) := by decide +kernel
theorem dX6_isUsed_3 : decode cX6_isUsed 3 = .ok (.aload_n 0, 1) := by decide +kernel
theorem dX6_isUsed_4 : decode cX6_isUsed 4 = .ok (.invokevirtual 64, 3) := by decide +kernel
theorem dX6_isUsed_7 : decode cX6_isUsed 7 = .ok (.if_icmp .ge 21, 3) := by decide +kernel
theorem dX6_isUsed_10 : decode cX6_isUsed 10 = .ok (.aload_n 0, 1) := by decide +kernel
theorem dX6_isUsed_11 : decode cX6_isUsed 11 = .ok (.getfield 29, 3) := by decide +kernel
theorem dX6_isUsed_14 : decode cX6_isUsed 14 = .ok (.iload_n 2, 1) := by decide +kernel
theorem dX6_isUsed_15 : decode cX6_isUsed 15 = .ok (.iaload, 1) := by decide +kernel
theorem dX6_isUsed_16 : decode cX6_isUsed 16 = .ok (.iload_n 1, 1) := by decide +kernel
theorem dX6_isUsed_17 : decode cX6_isUsed 17 = .ok (.if_icmp .ne 5, 3) := by decide +kernel
theorem dX6_isUsed_20 : decode cX6_isUsed 20 = .ok (.iconst 1, 1) := by decide +kernel
theorem dX6_isUsed_21 : decode cX6_isUsed 21 = .ok (.ireturn, 1) := by decide +kernel
theorem dX6_isUsed_22 : decode cX6_isUsed 22 = .ok (.iinc 2 1, 3) := by decide +kernel
theorem dX6_isUsed_25 : decode cX6_isUsed 25 = .ok (.goto (-23), 3) := by decide +kernel
theorem dX6_isUsed_28 : decode cX6_isUsed 28 = .ok (.iconst 0, 1) := by decide +kernel
theorem dX6_isUsed_29 : decode cX6_isUsed 29 = .ok (.ireturn, 1) := by decide +kernel
theorem dX6_wrongIn_0 : decode cX6_wrongIn 0 = .ok (.iconst 0, 1) := by decide +kernel
theorem dX6_wrongIn_1 : decode cX6_wrongIn 1 = .ok (.istore_n 3, 1) := by decide +kernel
theorem dX6_wrongIn_2 : decode cX6_wrongIn 2 = .ok (.iconst 0, 1) := by decide +kernel
theorem dX6_wrongIn_3 : decode cX6_wrongIn 3 = .ok (.istore 4, 2) := by decide +kernel
theorem dX6_wrongIn_5 : decode cX6_wrongIn 5 = .ok (.iload 4, 2) := by decide +kernel
theorem dX6_wrongIn_7 : decode cX6_wrongIn 7 = .ok (.iconst 4, 1) := by decide +kernel
theorem dX6_wrongIn_8 : decode cX6_wrongIn 8 = .ok (.if_icmp .ge 91, 3) := by decide +kernel
theorem dX6_wrongIn_11 : decode cX6_wrongIn 11 = .ok (.iconst 0, 1) := by decide +kernel
theorem dX6_wrongIn_12 : decode cX6_wrongIn 12 = .ok (.istore 5, 2) := by decide +kernel
theorem dX6_wrongIn_14 : decode cX6_wrongIn 14 = .ok (.iload 5, 2) := by decide +kernel
theorem dX6_wrongIn_16 : decode cX6_wrongIn 16 = .ok (.aload_n 0, 1) := by decide +kernel
theorem dX6_wrongIn_17 : decode cX6_wrongIn 17 = .ok (.invokevirtual 64, 3) := by decide +kernel
theorem dX6_wrongIn_20 : decode cX6_wrongIn 20 = .ok (.if_icmp .gt 73, 3) := by decide +kernel
theorem dX6_wrongIn_23 : decode cX6_wrongIn 23 = .ok (.iload_n 1, 1) := by decide +kernel
theorem dX6_wrongIn_24 : decode cX6_wrongIn 24 = .ok (.iload 4, 2) := by decide +kernel
theorem dX6_wrongIn_26 : decode cX6_wrongIn 26 = .ok (.iload 5, 2) := by decide +kernel
theorem dX6_wrongIn_28 : decode cX6_wrongIn 28 = .ok (.invokestatic 124, 3) := by decide +kernel
theorem dX6_wrongIn_31 : decode cX6_wrongIn 31 = .ok (.istore 6, 2) := by decide +kernel
theorem dX6_wrongIn_33 : decode cX6_wrongIn 33 = .ok (.iload_n 2, 1) := by decide +kernel
theorem dX6_wrongIn_34 : decode cX6_wrongIn 34 = .ok (.ifCond .eq 22, 3) := by decide +kernel
theorem dX6_wrongIn_37 : decode cX6_wrongIn 37 = .ok (.aload_n 0, 1) := by decide +kernel
theorem dX6_wrongIn_38 : decode cX6_wrongIn 38 = .ok (.getfield 23, 3) := by decide +kernel
theorem dX6_wrongIn_41 : decode cX6_wrongIn 41 = .ok (.iload 6, 2) := by decide +kernel
theorem dX6_wrongIn_43 : decode cX6_wrongIn 43 = .ok (.iaload, 1) := by decide +kernel
theorem dX6_wrongIn_44 : decode cX6_wrongIn 44 = .ok (.iconst 2, 1) := by decide +kernel
theorem dX6_wrongIn_45 : decode cX6_wrongIn 45 = .ok (.if_icmp .lt 7, 3) := by decide +kernel
theorem dX6_wrongIn_48 : decode cX6_wrongIn 48 = .ok (.iconst 1, 1) := by decide +kernel
theorem dX6_wrongIn_49 : decode cX6_wrongIn 49 = .ok (.goto 14, 3) := by decide +kernel
theorem dX6_wrongIn_52 : decode cX6_wrongIn 52 = .ok (.iconst 0, 1) := by decide +kernel
theorem dX6_wrongIn_53 : decode cX6_wrongIn 53 = .ok (.goto 10, 3) := by decide +kernel
theorem dX6_wrongIn_56 : decode cX6_wrongIn 56 = .ok (.aload_n 0, 1) := by decide +kernel
theorem dX6_wrongIn_57 : decode cX6_wrongIn 57 = .ok (.getfield 19, 3) := by decide +kernel
theorem dX6_wrongIn_60 : decode cX6_wrongIn 60 = .ok (.iload 6, 2) := by decide +kernel
theorem dX6_wrongIn_62 : decode cX6_wrongIn 62 = .ok (.baload, 1) := by decide +kernel
theorem dX6_wrongIn_63 : decode cX6_wrongIn 63 = .ok (.istore 7, 2) := by decide +kernel
theorem dX6_wrongIn_65 : decode cX6_wrongIn 65 = .ok (.iload_n 3, 1) := by decide +kernel
theorem dX6_wrongIn_66 : decode cX6_wrongIn 66 = .ok (.iload 7, 2) := by decide +kernel
theorem dX6_wrongIn_68 : decode cX6_wrongIn 68 = .ok (.ifCond .eq 16, 3) := by decide +kernel
theorem dX6_wrongIn_71 : decode cX6_wrongIn 71 = .ok (.aload_n 0, 1) := by decide +kernel
theorem dX6_wrongIn_72 : decode cX6_wrongIn 72 = .ok (.iload 5, 2) := by decide +kernel
theorem dX6_wrongIn_74 : decode cX6_wrongIn 74 = .ok (.invokevirtual 138, 3) := by decide +kernel
theorem dX6_wrongIn_77 : decode cX6_wrongIn 77 = .ok (.ifCond .eq 7, 3) := by decide +kernel
theorem dX6_wrongIn_80 : decode cX6_wrongIn 80 = .ok (.iconst 1, 1) := by decide +kernel
theorem dX6_wrongIn_81 : decode cX6_wrongIn 81 = .ok (.goto 4, 3) := by decide +kernel
theorem dX6_wrongIn_84 : decode cX6_wrongIn 84 = .ok (.iconst 0, 1) := by decide +kernel
theorem dX6_wrongIn_85 : decode cX6_wrongIn 85 = .ok (.iadd, 1) := by decide +kernel
theorem dX6_wrongIn_86 : decode cX6_wrongIn 86 = .ok (.istore_n 3, 1) := by decide +kernel
theorem dX6_wrongIn_87 : decode cX6_wrongIn 87 = .ok (.iinc 5 1, 3) := by decide +kernel
theorem dX6_wrongIn_90 : decode cX6_wrongIn 90 = .ok (.goto (-76), 3) := by decide +kernel
theorem dX6_wrongIn_93 : decode cX6_wrongIn 93 = .ok (.iinc 4 1, 3) := by decide +kernel
theorem dX6_wrongIn_96 : decode cX6_wrongIn 96 = .ok (.goto (-91), 3) := by decide +kernel
theorem dX6_wrongIn_99 : decode cX6_wrongIn 99 = .ok (.iload_n 3, 1) := by decide +kernel
theorem dX6_wrongIn_100 : decode cX6_wrongIn 100 = .ok (.ireturn, 1) := by decide +kernel
theorem dX6_takesOver_0 : decode cX6_takesOver 0 = .ok (.aload_n 0, 1) := by decide +kernel
theorem dX6_takesOver_1 : decode cX6_takesOver 1 = .ok (.getfield 16, 3) := by decide +kernel
theorem dX6_takesOver_4 : decode cX6_takesOver 4 = .ok (.iload_n 1, 1) := by decide +kernel
theorem dX6_takesOver_5 : decode cX6_takesOver 5 = .ok (.aload_n 0, 1) := by decide +kernel
theorem dX6_takesOver_6 : decode cX6_takesOver 6 = .ok (.getfield 16, 3) := by decide +kernel
theorem dX6_takesOver_9 : decode cX6_takesOver 9 = .ok (.iload_n 2, 1) := by decide +kernel
theorem dX6_takesOver_10 : decode cX6_takesOver 10 = .ok (.iaload, 1) := by decide +kernel
theorem dX6_takesOver_11 : decode cX6_takesOver 11 = .ok (.iastore, 1) := by decide +kernel
theorem dX6_takesOver_12 : decode cX6_takesOver 12 = .ok (.aload_n 0, 1) := by decide +kernel
theorem dX6_takesOver_13 : decode cX6_takesOver 13 = .ok (.getfield 23, 3) := by decide +kernel
theorem dX6_takesOver_16 : decode cX6_takesOver 16 = .ok (.iload_n 1, 1) := by decide +kernel
theorem dX6_takesOver_17 : decode cX6_takesOver 17 = .ok (.iconst 0, 1) := by decide +kernel
theorem dX6_takesOver_18 : decode cX6_takesOver 18 = .ok (.iastore, 1) := by decide +kernel
theorem dX6_takesOver_19 : decode cX6_takesOver 19 = .ok (.aload_n 0, 1) := by decide +kernel
theorem dX6_takesOver_20 : decode cX6_takesOver 20 = .ok (.getfield 19, 3) := by decide +kernel
theorem dX6_takesOver_23 : decode cX6_takesOver 23 = .ok (.iload_n 1, 1) := by decide +kernel
theorem dX6_takesOver_24 : decode cX6_takesOver 24 = .ok (.iconst 0, 1) := by decide +kernel
theorem dX6_takesOver_25 : decode cX6_takesOver 25 = .ok (.bastore, 1) := by decide +kernel
theorem dX6_takesOver_26 : decode cX6_takesOver 26 = .ok (.return_, 1) := by decide +kernel
theorem dX6_swaps_0 : decode cX6_swaps 0 = .ok (.aload_n 0, 1) := by decide +kernel
theorem dX6_swaps_1 : decode cX6_swaps 1 = .ok (.getfield 29, 3) := by decide +kernel
theorem dX6_swaps_4 : decode cX6_swaps 4 = .ok (.iload_n 1, 1) := by decide +kernel
theorem dX6_swaps_5 : decode cX6_swaps 5 = .ok (.iaload, 1) := by decide +kernel
theorem dX6_swaps_6 : decode cX6_swaps 6 = .ok (.istore_n 2, 1) := by decide +kernel
theorem dX6_swaps_7 : decode cX6_swaps 7 = .ok (.iconst 0, 1) := by decide +kernel
theorem dX6_swaps_8 : decode cX6_swaps 8 = .ok (.istore_n 3, 1) := by decide +kernel
theorem dX6_swaps_9 : decode cX6_swaps 9 = .ok (.iload_n 3, 1) := by decide +kernel
theorem dX6_swaps_10 : decode cX6_swaps 10 = .ok (.bipush 24, 2) := by decide +kernel
theorem dX6_swaps_12 : decode cX6_swaps 12 = .ok (.if_icmp .ge 28, 3) := by decide +kernel
theorem dX6_swaps_15 : decode cX6_swaps 15 = .ok (.aload_n 0, 1) := by decide +kernel
theorem dX6_swaps_16 : decode cX6_swaps 16 = .ok (.bipush 21, 2) := by decide +kernel
theorem dX6_swaps_18 : decode cX6_swaps 18 = .ok (.iload_n 3, 1) := by decide +kernel
theorem dX6_swaps_19 : decode cX6_swaps 19 = .ok (.imul, 1) := by decide +kernel
theorem dX6_swaps_20 : decode cX6_swaps 20 = .ok (.aload_n 0, 1) := by decide +kernel
theorem dX6_swaps_21 : decode cX6_swaps 21 = .ok (.invokevirtual 64, 3) := by decide +kernel
theorem dX6_swaps_24 : decode cX6_swaps 24 = .ok (.iadd, 1) := by decide +kernel
theorem dX6_swaps_25 : decode cX6_swaps 25 = .ok (.bipush 21, 2) := by decide +kernel
theorem dX6_swaps_27 : decode cX6_swaps 27 = .ok (.iload_n 3, 1) := by decide +kernel
theorem dX6_swaps_28 : decode cX6_swaps 28 = .ok (.imul, 1) := by decide +kernel
theorem dX6_swaps_29 : decode cX6_swaps 29 = .ok (.iload_n 2, 1) := by decide +kernel
theorem dX6_swaps_30 : decode cX6_swaps 30 = .ok (.iadd, 1) := by decide +kernel
theorem dX6_swaps_31 : decode cX6_swaps 31 = .ok (.invokevirtual 141, 3) := by decide +kernel
theorem dX6_swaps_34 : decode cX6_swaps 34 = .ok (.iinc 3 1, 3) := by decide +kernel
theorem dX6_swaps_37 : decode cX6_swaps 37 = .ok (.goto (-28), 3) := by decide +kernel
theorem dX6_swaps_40 : decode cX6_swaps 40 = .ok (.aload_n 0, 1) := by decide +kernel
theorem dX6_swaps_41 : decode cX6_swaps 41 = .ok (.getfield 29, 3) := by decide +kernel
theorem dX6_swaps_44 : decode cX6_swaps 44 = .ok (.iload_n 1, 1) := by decide +kernel
theorem dX6_swaps_45 : decode cX6_swaps 45 = .ok (.aload_n 0, 1) := by decide +kernel
theorem dX6_swaps_46 : decode cX6_swaps 46 = .ok (.invokevirtual 64, 3) := by decide +kernel
theorem dX6_swaps_49 : decode cX6_swaps 49 = .ok (.iastore, 1) := by decide +kernel
theorem dX6_swaps_50 : decode cX6_swaps 50 = .ok (.aload_n 0, 1) := by decide +kernel
theorem dX6_swaps_51 : decode cX6_swaps 51 = .ok (.iconst 1, 1) := by decide +kernel
theorem dX6_swaps_52 : decode cX6_swaps 52 = .ok (.putfield 117, 3) := by decide +kernel
theorem dX6_swaps_55 : decode cX6_swaps 55 = .ok (.return_, 1) := by decide +kernel
theorem dX6_retires_0 : decode cX6_retires 0 = .ok (.iconst 4, 1) := by decide +kernel
theorem dX6_retires_1 : decode cX6_retires 1 = .ok (.aload_n 0, 1) := by decide +kernel
theorem dX6_retires_2 : decode cX6_retires 2 = .ok (.getfield 114, 3) := by decide +kernel
theorem dX6_retires_5 : decode cX6_retires 5 = .ok (.iadd, 1) := by decide +kernel
theorem dX6_retires_6 : decode cX6_retires 6 = .ok (.istore_n 2, 1) := by decide +kernel
theorem dX6_retires_7 : decode cX6_retires 7 = .ok (.iconst 0, 1) := by decide +kernel
theorem dX6_retires_8 : decode cX6_retires 8 = .ok (.istore_n 3, 1) := by decide +kernel
theorem dX6_retires_9 : decode cX6_retires 9 = .ok (.iload_n 3, 1) := by decide +kernel
theorem dX6_retires_10 : decode cX6_retires 10 = .ok (.iconst 4, 1) := by decide +kernel
theorem dX6_retires_11 : decode cX6_retires 11 = .ok (.if_icmp .ge 48, 3) := by decide +kernel
theorem dX6_retires_14 : decode cX6_retires 14 = .ok (.iconst 0, 1) := by decide +kernel
theorem dX6_retires_15 : decode cX6_retires 15 = .ok (.istore 4, 2) := by decide +kernel
theorem dX6_retires_17 : decode cX6_retires 17 = .ok (.iload 4, 2) := by decide +kernel
theorem dX6_retires_19 : decode cX6_retires 19 = .ok (.bipush 21, 2) := by decide +kernel
theorem dX6_retires_21 : decode cX6_retires 21 = .ok (.if_icmp .ge 32, 3) := by decide +kernel
theorem dX6_retires_24 : decode cX6_retires 24 = .ok (.aload_n 0, 1) := by decide +kernel
theorem dX6_retires_25 : decode cX6_retires 25 = .ok (.iload_n 2, 1) := by decide +kernel
theorem dX6_retires_26 : decode cX6_retires 26 = .ok (.iload_n 3, 1) := by decide +kernel
theorem dX6_retires_27 : decode cX6_retires 27 = .ok (.iload 4, 2) := by decide +kernel
theorem dX6_retires_29 : decode cX6_retires 29 = .ok (.invokestatic 124, 3) := by decide +kernel
theorem dX6_retires_32 : decode cX6_retires 32 = .ok (.aload_n 0, 1) := by decide +kernel
theorem dX6_retires_33 : decode cX6_retires 33 = .ok (.getfield 26, 3) := by decide +kernel
theorem dX6_retires_36 : decode cX6_retires 36 = .ok (.iload_n 1, 1) := by decide +kernel
theorem dX6_retires_37 : decode cX6_retires 37 = .ok (.iaload, 1) := by decide +kernel
theorem dX6_retires_38 : decode cX6_retires 38 = .ok (.iload_n 3, 1) := by decide +kernel
theorem dX6_retires_39 : decode cX6_retires 39 = .ok (.iload 4, 2) := by decide +kernel
theorem dX6_retires_41 : decode cX6_retires 41 = .ok (.invokestatic 124, 3) := by decide +kernel
theorem dX6_retires_44 : decode cX6_retires 44 = .ok (.invokevirtual 141, 3) := by decide +kernel
theorem dX6_retires_47 : decode cX6_retires 47 = .ok (.iinc 4 1, 3) := by decide +kernel
theorem dX6_retires_50 : decode cX6_retires 50 = .ok (.goto (-33), 3) := by decide +kernel
theorem dX6_retires_53 : decode cX6_retires 53 = .ok (.iinc 3 1, 3) := by decide +kernel
theorem dX6_retires_56 : decode cX6_retires 56 = .ok (.goto (-47), 3) := by decide +kernel
theorem dX6_retires_59 : decode cX6_retires 59 = .ok (.aload_n 0, 1) := by decide +kernel
theorem dX6_retires_60 : decode cX6_retires 60 = .ok (.getfield 41, 3) := by decide +kernel
theorem dX6_retires_63 : decode cX6_retires 63 = .ok (.aload_n 0, 1) := by decide +kernel
theorem dX6_retires_64 : decode cX6_retires 64 = .ok (.getfield 114, 3) := by decide +kernel
theorem dX6_retires_67 : decode cX6_retires 67 = .ok (.aload_n 0, 1) := by decide +kernel
theorem dX6_retires_68 : decode cX6_retires 68 = .ok (.getfield 26, 3) := by decide +kernel
theorem dX6_retires_71 : decode cX6_retires 71 = .ok (.iload_n 1, 1) := by decide +kernel
theorem dX6_retires_72 : decode cX6_retires 72 = .ok (.iaload, 1) := by decide +kernel
theorem dX6_retires_73 : decode cX6_retires 73 = .ok (.iastore, 1) := by decide +kernel
theorem dX6_retires_74 : decode cX6_retires 74 = .ok (.aload_n 0, 1) := by decide +kernel
theorem dX6_retires_75 : decode cX6_retires 75 = .ok (.dup, 1) := by decide +kernel
theorem dX6_retires_76 : decode cX6_retires 76 = .ok (.getfield 114, 3) := by decide +kernel
theorem dX6_retires_79 : decode cX6_retires 79 = .ok (.iconst 1, 1) := by decide +kernel
theorem dX6_retires_80 : decode cX6_retires 80 = .ok (.iadd, 1) := by decide +kernel
theorem dX6_retires_81 : decode cX6_retires 81 = .ok (.putfield 114, 3) := by decide +kernel
theorem dX6_retires_84 : decode cX6_retires 84 = .ok (.aload_n 0, 1) := by decide +kernel
theorem dX6_retires_85 : decode cX6_retires 85 = .ok (.getfield 26, 3) := by decide +kernel
theorem dX6_retires_88 : decode cX6_retires 88 = .ok (.iload_n 1, 1) := by decide +kernel
theorem dX6_retires_89 : decode cX6_retires 89 = .ok (.iload_n 2, 1) := by decide +kernel
theorem dX6_retires_90 : decode cX6_retires 90 = .ok (.iastore, 1) := by decide +kernel
theorem dX6_retires_91 : decode cX6_retires 91 = .ok (.return_, 1) := by decide +kernel
theorem dX6_marksBit_0 : decode cX6_marksBit 0 = .ok (.aload_n 0, 1) := by decide +kernel
theorem dX6_marksBit_1 : decode cX6_marksBit 1 = .ok (.getfield 23, 3) := by decide +kernel
theorem dX6_marksBit_4 : decode cX6_marksBit 4 = .ok (.aload_n 0, 1) := by decide +kernel
theorem dX6_marksBit_5 : decode cX6_marksBit 5 = .ok (.iload_n 1, 1) := by decide +kernel
theorem dX6_marksBit_6 : decode cX6_marksBit 6 = .ok (.iload_n 2, 1) := by decide +kernel
theorem dX6_marksBit_7 : decode cX6_marksBit 7 = .ok (.iload_n 3, 1) := by decide +kernel
theorem dX6_marksBit_8 : decode cX6_marksBit 8 = .ok (.invokevirtual 128, 3) := by decide +kernel
theorem dX6_marksBit_11 : decode cX6_marksBit 11 = .ok (.dup2, 1) := by decide +kernel
theorem dX6_marksBit_12 : decode cX6_marksBit 12 = .ok (.iaload, 1) := by decide +kernel
theorem dX6_marksBit_13 : decode cX6_marksBit 13 = .ok (.iconst 1, 1) := by decide +kernel
theorem dX6_marksBit_14 : decode cX6_marksBit 14 = .ok (.iadd, 1) := by decide +kernel
theorem dX6_marksBit_15 : decode cX6_marksBit 15 = .ok (.iastore, 1) := by decide +kernel
theorem dX6_marksBit_16 : decode cX6_marksBit 16 = .ok (.aload_n 0, 1) := by decide +kernel
theorem dX6_marksBit_17 : decode cX6_marksBit 17 = .ok (.getfield 35, 3) := by decide +kernel
theorem dX6_marksBit_20 : decode cX6_marksBit 20 = .ok (.iload_n 1, 1) := by decide +kernel
theorem dX6_marksBit_21 : decode cX6_marksBit 21 = .ok (.iaload, 1) := by decide +kernel
theorem dX6_marksBit_22 : decode cX6_marksBit 22 = .ok (.ifCond .ne 23, 3) := by decide +kernel
theorem dX6_marksBit_25 : decode cX6_marksBit 25 = .ok (.aload_n 0, 1) := by decide +kernel
theorem dX6_marksBit_26 : decode cX6_marksBit 26 = .ok (.getfield 38, 3) := by decide +kernel
theorem dX6_marksBit_29 : decode cX6_marksBit 29 = .ok (.aload_n 0, 1) := by decide +kernel
theorem dX6_marksBit_30 : decode cX6_marksBit 30 = .ok (.getfield 111, 3) := by decide +kernel
theorem dX6_marksBit_33 : decode cX6_marksBit 33 = .ok (.iload_n 1, 1) := by decide +kernel
theorem dX6_marksBit_34 : decode cX6_marksBit 34 = .ok (.iastore, 1) := by decide +kernel
theorem dX6_marksBit_35 : decode cX6_marksBit 35 = .ok (.aload_n 0, 1) := by decide +kernel
theorem dX6_marksBit_36 : decode cX6_marksBit 36 = .ok (.dup, 1) := by decide +kernel
theorem dX6_marksBit_37 : decode cX6_marksBit 37 = .ok (.getfield 111, 3) := by decide +kernel
theorem dX6_marksBit_40 : decode cX6_marksBit 40 = .ok (.iconst 1, 1) := by decide +kernel
theorem dX6_marksBit_41 : decode cX6_marksBit 41 = .ok (.iadd, 1) := by decide +kernel
theorem dX6_marksBit_42 : decode cX6_marksBit 42 = .ok (.putfield 111, 3) := by decide +kernel
theorem dX6_marksBit_45 : decode cX6_marksBit 45 = .ok (.aload_n 0, 1) := by decide +kernel
theorem dX6_marksBit_46 : decode cX6_marksBit 46 = .ok (.getfield 35, 3) := by decide +kernel
theorem dX6_marksBit_49 : decode cX6_marksBit 49 = .ok (.iload_n 1, 1) := by decide +kernel
theorem dX6_marksBit_50 : decode cX6_marksBit 50 = .ok (.dup2, 1) := by decide +kernel
theorem dX6_marksBit_51 : decode cX6_marksBit 51 = .ok (.iaload, 1) := by decide +kernel
theorem dX6_marksBit_52 : decode cX6_marksBit 52 = .ok (.iconst 1, 1) := by decide +kernel
theorem dX6_marksBit_53 : decode cX6_marksBit 53 = .ok (.iadd, 1) := by decide +kernel
theorem dX6_marksBit_54 : decode cX6_marksBit 54 = .ok (.iastore, 1) := by decide +kernel
theorem dX6_marksBit_55 : decode cX6_marksBit 55 = .ok (.aload_n 0, 1) := by decide +kernel
theorem dX6_marksBit_56 : decode cX6_marksBit 56 = .ok (.getfield 117, 3) := by decide +kernel
theorem dX6_marksBit_59 : decode cX6_marksBit 59 = .ok (.ifCond .ne 29, 3) := by decide +kernel
theorem dX6_marksBit_62 : decode cX6_marksBit 62 = .ok (.aload_n 0, 1) := by decide +kernel
theorem dX6_marksBit_63 : decode cX6_marksBit 63 = .ok (.aload_n 0, 1) := by decide +kernel
theorem dX6_marksBit_64 : decode cX6_marksBit 64 = .ok (.getfield 29, 3) := by decide +kernel
theorem dX6_marksBit_67 : decode cX6_marksBit 67 = .ok (.iload_n 3, 1) := by decide +kernel
theorem dX6_marksBit_68 : decode cX6_marksBit 68 = .ok (.iaload, 1) := by decide +kernel
theorem dX6_marksBit_69 : decode cX6_marksBit 69 = .ok (.invokevirtual 145, 3) := by decide +kernel
theorem dX6_marksBit_72 : decode cX6_marksBit 72 = .ok (.iconst 3, 1) := by decide +kernel
theorem dX6_marksBit_73 : decode cX6_marksBit 73 = .ok (.if_icmp .lt 15, 3) := by decide +kernel
theorem dX6_marksBit_76 : decode cX6_marksBit 76 = .ok (.aload_n 0, 1) := by decide +kernel
theorem dX6_marksBit_77 : decode cX6_marksBit 77 = .ok (.iload_n 3, 1) := by decide +kernel
theorem dX6_marksBit_78 : decode cX6_marksBit 78 = .ok (.invokevirtual 148, 3) := by decide +kernel
theorem dX6_marksBit_81 : decode cX6_marksBit 81 = .ok (.aload_n 0, 1) := by decide +kernel
theorem dX6_marksBit_82 : decode cX6_marksBit 82 = .ok (.getfield 47, 3) := by decide +kernel
theorem dX6_marksBit_85 : decode cX6_marksBit 85 = .ok (.iconst 2, 1) := by decide +kernel
theorem dX6_marksBit_86 : decode cX6_marksBit 86 = .ok (.iconst 1, 1) := by decide +kernel
theorem dX6_marksBit_87 : decode cX6_marksBit 87 = .ok (.iastore, 1) := by decide +kernel
theorem dX6_marksBit_88 : decode cX6_marksBit 88 = .ok (.aload_n 0, 1) := by decide +kernel
theorem dX6_marksBit_89 : decode cX6_marksBit 89 = .ok (.getfield 114, 3) := by decide +kernel
theorem dX6_marksBit_92 : decode cX6_marksBit 92 = .ok (.iconst 2, 1) := by decide +kernel
theorem dX6_marksBit_93 : decode cX6_marksBit 93 = .ok (.if_icmp .ge 30, 3) := by decide +kernel
theorem dX6_marksBit_96 : decode cX6_marksBit 96 = .ok (.aload_n 0, 1) := by decide +kernel
theorem dX6_marksBit_97 : decode cX6_marksBit 97 = .ok (.aload_n 0, 1) := by decide +kernel
theorem dX6_marksBit_98 : decode cX6_marksBit 98 = .ok (.getfield 26, 3) := by decide +kernel
theorem dX6_marksBit_101 : decode cX6_marksBit 101 = .ok (.iload_n 1, 1) := by decide +kernel
theorem dX6_marksBit_102 : decode cX6_marksBit 102 = .ok (.iaload, 1) := by decide +kernel
theorem dX6_marksBit_103 : decode cX6_marksBit 103 = .ok (.iconst 1, 1) := by decide +kernel
theorem dX6_marksBit_104 : decode cX6_marksBit 104 = .ok (.invokevirtual 152, 3) := by decide +kernel
theorem dX6_marksBit_107 : decode cX6_marksBit 107 = .ok (.iconst 4, 1) := by decide +kernel
theorem dX6_marksBit_108 : decode cX6_marksBit 108 = .ok (.if_icmp .lt 15, 3) := by decide +kernel
theorem dX6_marksBit_111 : decode cX6_marksBit 111 = .ok (.aload_n 0, 1) := by decide +kernel
theorem dX6_marksBit_112 : decode cX6_marksBit 112 = .ok (.iload_n 1, 1) := by decide +kernel
theorem dX6_marksBit_113 : decode cX6_marksBit 113 = .ok (.invokevirtual 156, 3) := by decide +kernel
theorem dX6_marksBit_116 : decode cX6_marksBit 116 = .ok (.aload_n 0, 1) := by decide +kernel
theorem dX6_marksBit_117 : decode cX6_marksBit 117 = .ok (.getfield 47, 3) := by decide +kernel
theorem dX6_marksBit_120 : decode cX6_marksBit 120 = .ok (.iconst 3, 1) := by decide +kernel
theorem dX6_marksBit_121 : decode cX6_marksBit 121 = .ok (.iconst 1, 1) := by decide +kernel
theorem dX6_marksBit_122 : decode cX6_marksBit 122 = .ok (.iastore, 1) := by decide +kernel
theorem dX6_marksBit_123 : decode cX6_marksBit 123 = .ok (.return_, 1) := by decide +kernel
theorem dX6_looksAt_0 : decode cX6_looksAt 0 = .ok (.aload_n 0, 1) := by decide +kernel
theorem dX6_looksAt_1 : decode cX6_looksAt 1 = .ok (.iload_n 1, 1) := by decide +kernel
theorem dX6_looksAt_2 : decode cX6_looksAt 2 = .ok (.iload_n 2, 1) := by decide +kernel
theorem dX6_looksAt_3 : decode cX6_looksAt 3 = .ok (.invokevirtual 159, 3) := by decide +kernel
theorem dX6_looksAt_6 : decode cX6_looksAt 6 = .ok (.istore_n 3, 1) := by decide +kernel
theorem dX6_looksAt_7 : decode cX6_looksAt 7 = .ok (.aload_n 0, 1) := by decide +kernel
theorem dX6_looksAt_8 : decode cX6_looksAt 8 = .ok (.iload_n 3, 1) := by decide +kernel
theorem dX6_looksAt_9 : decode cX6_looksAt 9 = .ok (.invokevirtual 108, 3) := by decide +kernel
theorem dX6_looksAt_12 : decode cX6_looksAt 12 = .ok (.istore 4, 2) := by decide +kernel
theorem dX6_looksAt_14 : decode cX6_looksAt 14 = .ok (.iload 4, 2) := by decide +kernel
theorem dX6_looksAt_16 : decode cX6_looksAt 16 = .ok (.bipush (-5), 2) := by decide +kernel
theorem dX6_looksAt_18 : decode cX6_looksAt 18 = .ok (.if_icmp .ne 7, 3) := by decide +kernel
theorem dX6_looksAt_21 : decode cX6_looksAt 21 = .ok (.iconst 2, 1) := by decide +kernel
theorem dX6_looksAt_22 : decode cX6_looksAt 22 = .ok (.goto 14, 3) := by decide +kernel
theorem dX6_looksAt_25 : decode cX6_looksAt 25 = .ok (.iload 4, 2) := by decide +kernel
theorem dX6_looksAt_27 : decode cX6_looksAt 27 = .ok (.iload_n 3, 1) := by decide +kernel
theorem dX6_looksAt_28 : decode cX6_looksAt 28 = .ok (.if_icmp .ne 7, 3) := by decide +kernel
theorem dX6_looksAt_31 : decode cX6_looksAt 31 = .ok (.iconst 0, 1) := by decide +kernel
theorem dX6_looksAt_32 : decode cX6_looksAt 32 = .ok (.goto 4, 3) := by decide +kernel
theorem dX6_looksAt_35 : decode cX6_looksAt 35 = .ok (.iconst 1, 1) := by decide +kernel
theorem dX6_looksAt_36 : decode cX6_looksAt 36 = .ok (.istore 5, 2) := by decide +kernel
theorem dX6_looksAt_38 : decode cX6_looksAt 38 = .ok (.iload 5, 2) := by decide +kernel
theorem dX6_looksAt_40 : decode cX6_looksAt 40 = .ok (.iconst 1, 1) := by decide +kernel
theorem dX6_looksAt_41 : decode cX6_looksAt 41 = .ok (.if_icmp .ne 15, 3) := by decide +kernel
theorem dX6_looksAt_44 : decode cX6_looksAt 44 = .ok (.aload_n 0, 1) := by decide +kernel
theorem dX6_looksAt_45 : decode cX6_looksAt 45 = .ok (.aload_n 0, 1) := by decide +kernel
theorem dX6_looksAt_46 : decode cX6_looksAt 46 = .ok (.iload_n 3, 1) := by decide +kernel
theorem dX6_looksAt_47 : decode cX6_looksAt 47 = .ok (.invokevirtual 96, 3) := by decide +kernel
theorem dX6_looksAt_50 : decode cX6_looksAt 50 = .ok (.invokevirtual 99, 3) := by decide +kernel
theorem dX6_looksAt_53 : decode cX6_looksAt 53 = .ok (.goto 5, 3) := by decide +kernel
theorem dX6_looksAt_56 : decode cX6_looksAt 56 = .ok (.bipush (-9), 2) := by decide +kernel
theorem dX6_looksAt_58 : decode cX6_looksAt 58 = .ok (.istore 6, 2) := by decide +kernel
theorem dX6_looksAt_60 : decode cX6_looksAt 60 = .ok (.aload_n 0, 1) := by decide +kernel
theorem dX6_looksAt_61 : decode cX6_looksAt 61 = .ok (.getfield 44, 3) := by decide +kernel
theorem dX6_looksAt_64 : decode cX6_looksAt 64 = .ok (.iload 5, 2) := by decide +kernel
theorem dX6_looksAt_66 : decode cX6_looksAt 66 = .ok (.dup2, 1) := by decide +kernel
theorem dX6_looksAt_67 : decode cX6_looksAt 67 = .ok (.iaload, 1) := by decide +kernel
theorem dX6_looksAt_68 : decode cX6_looksAt 68 = .ok (.iconst 1, 1) := by decide +kernel
theorem dX6_looksAt_69 : decode cX6_looksAt 69 = .ok (.iadd, 1) := by decide +kernel
theorem dX6_looksAt_70 : decode cX6_looksAt 70 = .ok (.iastore, 1) := by decide +kernel
theorem dX6_looksAt_71 : decode cX6_looksAt 71 = .ok (.aload_n 0, 1) := by decide +kernel
theorem dX6_looksAt_72 : decode cX6_looksAt 72 = .ok (.getfield 47, 3) := by decide +kernel
theorem dX6_looksAt_75 : decode cX6_looksAt 75 = .ok (.iconst 0, 1) := by decide +kernel
theorem dX6_looksAt_76 : decode cX6_looksAt 76 = .ok (.iload 5, 2) := by decide +kernel
theorem dX6_looksAt_78 : decode cX6_looksAt 78 = .ok (.iastore, 1) := by decide +kernel
theorem dX6_looksAt_79 : decode cX6_looksAt 79 = .ok (.aload_n 0, 1) := by decide +kernel
theorem dX6_looksAt_80 : decode cX6_looksAt 80 = .ok (.getfield 47, 3) := by decide +kernel
theorem dX6_looksAt_83 : decode cX6_looksAt 83 = .ok (.iconst 1, 1) := by decide +kernel
theorem dX6_looksAt_84 : decode cX6_looksAt 84 = .ok (.iload 6, 2) := by decide +kernel
theorem dX6_looksAt_86 : decode cX6_looksAt 86 = .ok (.iastore, 1) := by decide +kernel
theorem dX6_looksAt_87 : decode cX6_looksAt 87 = .ok (.aload_n 0, 1) := by decide +kernel
theorem dX6_looksAt_88 : decode cX6_looksAt 88 = .ok (.getfield 47, 3) := by decide +kernel
theorem dX6_looksAt_91 : decode cX6_looksAt 91 = .ok (.iconst 2, 1) := by decide +kernel
theorem dX6_looksAt_92 : decode cX6_looksAt 92 = .ok (.iconst 0, 1) := by decide +kernel
theorem dX6_looksAt_93 : decode cX6_looksAt 93 = .ok (.iastore, 1) := by decide +kernel
theorem dX6_looksAt_94 : decode cX6_looksAt 94 = .ok (.aload_n 0, 1) := by decide +kernel
theorem dX6_looksAt_95 : decode cX6_looksAt 95 = .ok (.getfield 47, 3) := by decide +kernel
theorem dX6_looksAt_98 : decode cX6_looksAt 98 = .ok (.iconst 3, 1) := by decide +kernel
theorem dX6_looksAt_99 : decode cX6_looksAt 99 = .ok (.iconst 0, 1) := by decide +kernel
theorem dX6_looksAt_100 : decode cX6_looksAt 100 = .ok (.iastore, 1) := by decide +kernel
theorem dX6_looksAt_101 : decode cX6_looksAt 101 = .ok (.aload_n 0, 1) := by decide +kernel
theorem dX6_looksAt_102 : decode cX6_looksAt 102 = .ok (.getfield 47, 3) := by decide +kernel
theorem dX6_looksAt_105 : decode cX6_looksAt 105 = .ok (.iconst 4, 1) := by decide +kernel
theorem dX6_looksAt_106 : decode cX6_looksAt 106 = .ok (.iload_n 1, 1) := by decide +kernel
theorem dX6_looksAt_107 : decode cX6_looksAt 107 = .ok (.iastore, 1) := by decide +kernel
theorem dX6_looksAt_108 : decode cX6_looksAt 108 = .ok (.aload_n 0, 1) := by decide +kernel
theorem dX6_looksAt_109 : decode cX6_looksAt 109 = .ok (.getfield 47, 3) := by decide +kernel
theorem dX6_looksAt_112 : decode cX6_looksAt 112 = .ok (.iconst 5, 1) := by decide +kernel
theorem dX6_looksAt_113 : decode cX6_looksAt 113 = .ok (.iload_n 2, 1) := by decide +kernel
theorem dX6_looksAt_114 : decode cX6_looksAt 114 = .ok (.iastore, 1) := by decide +kernel
theorem dX6_looksAt_115 : decode cX6_looksAt 115 = .ok (.iload 5, 2) := by decide +kernel
theorem dX6_looksAt_117 : decode cX6_looksAt 117 = .ok (.iconst 1, 1) := by decide +kernel
theorem dX6_looksAt_118 : decode cX6_looksAt 118 = .ok (.if_icmp .ne 11, 3) := by decide +kernel
theorem dX6_looksAt_121 : decode cX6_looksAt 121 = .ok (.aload_n 0, 1) := by decide +kernel
theorem dX6_looksAt_122 : decode cX6_looksAt 122 = .ok (.iload_n 1, 1) := by decide +kernel
theorem dX6_looksAt_123 : decode cX6_looksAt 123 = .ok (.iload_n 2, 1) := by decide +kernel
theorem dX6_looksAt_124 : decode cX6_looksAt 124 = .ok (.iload 6, 2) := by decide +kernel
theorem dX6_looksAt_126 : decode cX6_looksAt 126 = .ok (.invokevirtual 162, 3) := by decide +kernel
theorem dX6_looksAt_129 : decode cX6_looksAt 129 = .ok (.iload 4, 2) := by decide +kernel
theorem dX6_looksAt_131 : decode cX6_looksAt 131 = .ok (.ireturn, 1) := by decide +kernel
theorem dX6_read_0 : decode cX6_read 0 = .ok (.aload_n 0, 1) := by decide +kernel
theorem dX6_read_1 : decode cX6_read 1 = .ok (.iload_n 1, 1) := by decide +kernel
theorem dX6_read_2 : decode cX6_read 2 = .ok (.iload_n 2, 1) := by decide +kernel
theorem dX6_read_3 : decode cX6_read 3 = .ok (.invokevirtual 131, 3) := by decide +kernel
theorem dX6_read_6 : decode cX6_read 6 = .ok (.ifCond .ne 5, 3) := by decide +kernel
theorem dX6_read_9 : decode cX6_read 9 = .ok (.iconst (-1), 1) := by decide +kernel
theorem dX6_read_10 : decode cX6_read 10 = .ok (.ireturn, 1) := by decide +kernel
theorem dX6_read_11 : decode cX6_read 11 = .ok (.aload_n 0, 1) := by decide +kernel
theorem dX6_read_12 : decode cX6_read 12 = .ok (.iload_n 1, 1) := by decide +kernel
theorem dX6_read_13 : decode cX6_read 13 = .ok (.iload_n 2, 1) := by decide +kernel
theorem dX6_read_14 : decode cX6_read 14 = .ok (.invokevirtual 165, 3) := by decide +kernel
theorem dX6_read_17 : decode cX6_read 17 = .ok (.istore_n 3, 1) := by decide +kernel
theorem dX6_read_18 : decode cX6_read 18 = .ok (.iload_n 3, 1) := by decide +kernel
theorem dX6_read_19 : decode cX6_read 19 = .ok (.bipush (-5), 2) := by decide +kernel
theorem dX6_read_21 : decode cX6_read 21 = .ok (.if_icmp .ne 8, 3) := by decide +kernel
theorem dX6_read_24 : decode cX6_read 24 = .ok (.bipush (-5), 2) := by decide +kernel
theorem dX6_read_26 : decode cX6_read 26 = .ok (.goto 13, 3) := by decide +kernel
theorem dX6_read_29 : decode cX6_read 29 = .ok (.iload_n 3, 1) := by decide +kernel
theorem dX6_read_30 : decode cX6_read 30 = .ok (.iconst 1, 1) := by decide +kernel
theorem dX6_read_31 : decode cX6_read 31 = .ok (.aload_n 0, 1) := by decide +kernel
theorem dX6_read_32 : decode cX6_read 32 = .ok (.getfield 57, 3) := by decide +kernel
theorem dX6_read_35 : decode cX6_read 35 = .ok (.ishl, 1) := by decide +kernel
theorem dX6_read_36 : decode cX6_read 36 = .ok (.iconst 1, 1) := by decide +kernel
theorem dX6_read_37 : decode cX6_read 37 = .ok (.isub, 1) := by decide +kernel
theorem dX6_read_38 : decode cX6_read 38 = .ok (.iand, 1) := by decide +kernel
theorem dX6_read_39 : decode cX6_read 39 = .ok (.ireturn, 1) := by decide +kernel
theorem dX6_raw_0 : decode cX6_raw 0 = .ok (.aload_n 0, 1) := by decide +kernel
theorem dX6_raw_1 : decode cX6_raw 1 = .ok (.iload_n 1, 1) := by decide +kernel
theorem dX6_raw_2 : decode cX6_raw 2 = .ok (.iload_n 2, 1) := by decide +kernel
theorem dX6_raw_3 : decode cX6_raw 3 = .ok (.invokevirtual 131, 3) := by decide +kernel
theorem dX6_raw_6 : decode cX6_raw 6 = .ok (.ifCond .eq 12, 3) := by decide +kernel
theorem dX6_raw_9 : decode cX6_raw 9 = .ok (.aload_n 0, 1) := by decide +kernel
theorem dX6_raw_10 : decode cX6_raw 10 = .ok (.iload_n 1, 1) := by decide +kernel
theorem dX6_raw_11 : decode cX6_raw 11 = .ok (.iload_n 2, 1) := by decide +kernel
theorem dX6_raw_12 : decode cX6_raw 12 = .ok (.invokevirtual 159, 3) := by decide +kernel
theorem dX6_raw_15 : decode cX6_raw 15 = .ok (.goto 4, 3) := by decide +kernel
theorem dX6_raw_18 : decode cX6_raw 18 = .ok (.iconst (-1), 1) := by decide +kernel
theorem dX6_raw_19 : decode cX6_raw 19 = .ok (.ireturn, 1) := by decide +kernel
theorem dX6_flip_0 : decode cX6_flip 0 = .ok (.aload_n 0, 1) := by decide +kernel
theorem dX6_flip_1 : decode cX6_flip 1 = .ok (.iload_n 1, 1) := by decide +kernel
theorem dX6_flip_2 : decode cX6_flip 2 = .ok (.iload_n 2, 1) := by decide +kernel
theorem dX6_flip_3 : decode cX6_flip 3 = .ok (.invokevirtual 131, 3) := by decide +kernel
theorem dX6_flip_6 : decode cX6_flip 6 = .ok (.ifCond .ne 5, 3) := by decide +kernel
theorem dX6_flip_9 : decode cX6_flip 9 = .ok (.iconst (-1), 1) := by decide +kernel
theorem dX6_flip_10 : decode cX6_flip 10 = .ok (.ireturn, 1) := by decide +kernel
theorem dX6_flip_11 : decode cX6_flip 11 = .ok (.aload_n 0, 1) := by decide +kernel
theorem dX6_flip_12 : decode cX6_flip 12 = .ok (.iload_n 3, 1) := by decide +kernel
theorem dX6_flip_13 : decode cX6_flip 13 = .ok (.invokevirtual 105, 3) := by decide +kernel
theorem dX6_flip_16 : decode cX6_flip 16 = .ok (.ifCond .ne 6, 3) := by decide +kernel
theorem dX6_flip_19 : decode cX6_flip 19 = .ok (.bipush (-2), 2) := by decide +kernel
theorem dX6_flip_21 : decode cX6_flip 21 = .ok (.ireturn, 1) := by decide +kernel
theorem dX6_flip_22 : decode cX6_flip 22 = .ok (.iconst 0, 1) := by decide +kernel
theorem dX6_flip_23 : decode cX6_flip 23 = .ok (.istore 4, 2) := by decide +kernel
theorem dX6_flip_25 : decode cX6_flip 25 = .ok (.iconst 0, 1) := by decide +kernel
theorem dX6_flip_26 : decode cX6_flip 26 = .ok (.istore 5, 2) := by decide +kernel
theorem dX6_flip_28 : decode cX6_flip 28 = .ok (.iload 5, 2) := by decide +kernel
theorem dX6_flip_30 : decode cX6_flip 30 = .ok (.aload_n 0, 1) := by decide +kernel
theorem dX6_flip_31 : decode cX6_flip 31 = .ok (.invokevirtual 64, 3) := by decide +kernel
theorem dX6_flip_34 : decode cX6_flip 34 = .ok (.if_icmp .ge 58, 3) := by decide +kernel
theorem dX6_flip_37 : decode cX6_flip 37 = .ok (.aload_n 0, 1) := by decide +kernel
theorem dX6_flip_38 : decode cX6_flip 38 = .ok (.iload_n 1, 1) := by decide +kernel
theorem dX6_flip_39 : decode cX6_flip 39 = .ok (.iload_n 2, 1) := by decide +kernel
theorem dX6_flip_40 : decode cX6_flip 40 = .ok (.iload 5, 2) := by decide +kernel
theorem dX6_flip_42 : decode cX6_flip 42 = .ok (.invokevirtual 128, 3) := by decide +kernel
theorem dX6_flip_45 : decode cX6_flip 45 = .ok (.istore 6, 2) := by decide +kernel
theorem dX6_flip_47 : decode cX6_flip 47 = .ok (.iload_n 3, 1) := by decide +kernel
theorem dX6_flip_48 : decode cX6_flip 48 = .ok (.iload 5, 2) := by decide +kernel
theorem dX6_flip_50 : decode cX6_flip 50 = .ok (.invokestatic 53, 3) := by decide +kernel
theorem dX6_flip_53 : decode cX6_flip 53 = .ok (.iconst 1, 1) := by decide +kernel
theorem dX6_flip_54 : decode cX6_flip 54 = .ok (.if_icmp .ne 32, 3) := by decide +kernel
theorem dX6_flip_57 : decode cX6_flip 57 = .ok (.aload_n 0, 1) := by decide +kernel
theorem dX6_flip_58 : decode cX6_flip 58 = .ok (.getfield 19, 3) := by decide +kernel
theorem dX6_flip_61 : decode cX6_flip 61 = .ok (.iload 6, 2) := by decide +kernel
theorem dX6_flip_63 : decode cX6_flip 63 = .ok (.baload, 1) := by decide +kernel
theorem dX6_flip_64 : decode cX6_flip 64 = .ok (.ifCond .ne 22, 3) := by decide +kernel
theorem dX6_flip_67 : decode cX6_flip 67 = .ok (.aload_n 0, 1) := by decide +kernel
theorem dX6_flip_68 : decode cX6_flip 68 = .ok (.getfield 16, 3) := by decide +kernel
theorem dX6_flip_71 : decode cX6_flip 71 = .ok (.iload 6, 2) := by decide +kernel
theorem dX6_flip_73 : decode cX6_flip 73 = .ok (.iconst 1, 1) := by decide +kernel
theorem dX6_flip_74 : decode cX6_flip 74 = .ok (.aload_n 0, 1) := by decide +kernel
theorem dX6_flip_75 : decode cX6_flip 75 = .ok (.getfield 16, 3) := by decide +kernel
theorem dX6_flip_78 : decode cX6_flip 78 = .ok (.iload 6, 2) := by decide +kernel
theorem dX6_flip_80 : decode cX6_flip 80 = .ok (.iaload, 1) := by decide +kernel
theorem dX6_flip_81 : decode cX6_flip 81 = .ok (.isub, 1) := by decide +kernel
theorem dX6_flip_82 : decode cX6_flip 82 = .ok (.iastore, 1) := by decide +kernel
theorem dX6_flip_83 : decode cX6_flip 83 = .ok (.iinc 4 1, 3) := by decide +kernel
theorem dX6_flip_86 : decode cX6_flip 86 = .ok (.iinc 5 1, 3) := by decide +kernel
theorem dX6_flip_89 : decode cX6_flip 89 = .ok (.goto (-61), 3) := by decide +kernel
theorem dX6_flip_92 : decode cX6_flip 92 = .ok (.iload 4, 2) := by decide +kernel
theorem dX6_flip_94 : decode cX6_flip 94 = .ok (.ireturn, 1) := by decide +kernel
theorem dX6_stick_0 : decode cX6_stick 0 = .ok (.aload_n 0, 1) := by decide +kernel
theorem dX6_stick_1 : decode cX6_stick 1 = .ok (.iload_n 1, 1) := by decide +kernel
theorem dX6_stick_2 : decode cX6_stick 2 = .ok (.iload_n 2, 1) := by decide +kernel
theorem dX6_stick_3 : decode cX6_stick 3 = .ok (.invokevirtual 131, 3) := by decide +kernel
theorem dX6_stick_6 : decode cX6_stick 6 = .ok (.ifCond .eq 11, 3) := by decide +kernel
theorem dX6_stick_9 : decode cX6_stick 9 = .ok (.aload_n 0, 1) := by decide +kernel
theorem dX6_stick_10 : decode cX6_stick 10 = .ok (.iload_n 3, 1) := by decide +kernel
theorem dX6_stick_11 : decode cX6_stick 11 = .ok (.invokevirtual 92, 3) := by decide +kernel
theorem dX6_stick_14 : decode cX6_stick 14 = .ok (.ifCond .ne 5, 3) := by decide +kernel
theorem dX6_stick_17 : decode cX6_stick 17 = .ok (.iconst (-1), 1) := by decide +kernel
theorem dX6_stick_18 : decode cX6_stick 18 = .ok (.ireturn, 1) := by decide +kernel
theorem dX6_stick_19 : decode cX6_stick 19 = .ok (.iload 4, 2) := by decide +kernel
theorem dX6_stick_21 : decode cX6_stick 21 = .ok (.iconst 0, 1) := by decide +kernel
theorem dX6_stick_22 : decode cX6_stick 22 = .ok (.iconst 2, 1) := by decide +kernel
theorem dX6_stick_23 : decode cX6_stick 23 = .ok (.invokestatic 68, 3) := by decide +kernel
theorem dX6_stick_26 : decode cX6_stick 26 = .ok (.ifCond .ne 6, 3) := by decide +kernel
theorem dX6_stick_29 : decode cX6_stick 29 = .ok (.bipush (-2), 2) := by decide +kernel
theorem dX6_stick_31 : decode cX6_stick 31 = .ok (.ireturn, 1) := by decide +kernel
theorem dX6_stick_32 : decode cX6_stick 32 = .ok (.aload_n 0, 1) := by decide +kernel
theorem dX6_stick_33 : decode cX6_stick 33 = .ok (.iload_n 1, 1) := by decide +kernel
theorem dX6_stick_34 : decode cX6_stick 34 = .ok (.iload_n 2, 1) := by decide +kernel
theorem dX6_stick_35 : decode cX6_stick 35 = .ok (.iload_n 3, 1) := by decide +kernel
theorem dX6_stick_36 : decode cX6_stick 36 = .ok (.invokevirtual 128, 3) := by decide +kernel
theorem dX6_stick_39 : decode cX6_stick 39 = .ok (.istore 5, 2) := by decide +kernel
theorem dX6_stick_41 : decode cX6_stick 41 = .ok (.aload_n 0, 1) := by decide +kernel
theorem dX6_stick_42 : decode cX6_stick 42 = .ok (.getfield 16, 3) := by decide +kernel
theorem dX6_stick_45 : decode cX6_stick 45 = .ok (.iload 5, 2) := by decide +kernel
theorem dX6_stick_47 : decode cX6_stick 47 = .ok (.iaload, 1) := by decide +kernel
theorem dX6_stick_48 : decode cX6_stick 48 = .ok (.istore 6, 2) := by decide +kernel
theorem dX6_stick_50 : decode cX6_stick 50 = .ok (.aload_n 0, 1) := by decide +kernel
theorem dX6_stick_51 : decode cX6_stick 51 = .ok (.getfield 16, 3) := by decide +kernel
theorem dX6_stick_54 : decode cX6_stick 54 = .ok (.iload 5, 2) := by decide +kernel
theorem dX6_stick_56 : decode cX6_stick 56 = .ok (.iload 4, 2) := by decide +kernel
theorem dX6_stick_58 : decode cX6_stick 58 = .ok (.iconst 2, 1) := by decide +kernel
theorem dX6_stick_59 : decode cX6_stick 59 = .ok (.if_icmp .ne 8, 3) := by decide +kernel
theorem dX6_stick_62 : decode cX6_stick 62 = .ok (.iload 6, 2) := by decide +kernel
theorem dX6_stick_64 : decode cX6_stick 64 = .ok (.goto 5, 3) := by decide +kernel
theorem dX6_stick_67 : decode cX6_stick 67 = .ok (.iload 4, 2) := by decide +kernel
theorem dX6_stick_69 : decode cX6_stick 69 = .ok (.iastore, 1) := by decide +kernel
theorem dX6_stick_70 : decode cX6_stick 70 = .ok (.aload_n 0, 1) := by decide +kernel
theorem dX6_stick_71 : decode cX6_stick 71 = .ok (.getfield 19, 3) := by decide +kernel
theorem dX6_stick_74 : decode cX6_stick 74 = .ok (.iload 5, 2) := by decide +kernel
theorem dX6_stick_76 : decode cX6_stick 76 = .ok (.iload 4, 2) := by decide +kernel
theorem dX6_stick_78 : decode cX6_stick 78 = .ok (.iconst 2, 1) := by decide +kernel
theorem dX6_stick_79 : decode cX6_stick 79 = .ok (.if_icmp .eq 7, 3) := by decide +kernel
theorem dX6_stick_82 : decode cX6_stick 82 = .ok (.iconst 1, 1) := by decide +kernel
theorem dX6_stick_83 : decode cX6_stick 83 = .ok (.goto 4, 3) := by decide +kernel
theorem dX6_stick_86 : decode cX6_stick 86 = .ok (.iconst 0, 1) := by decide +kernel
theorem dX6_stick_87 : decode cX6_stick 87 = .ok (.bastore, 1) := by decide +kernel
theorem dX6_stick_88 : decode cX6_stick 88 = .ok (.iload 6, 2) := by decide +kernel
theorem dX6_stick_90 : decode cX6_stick 90 = .ok (.ireturn, 1) := by decide +kernel
theorem dX6_scrub_0 : decode cX6_scrub 0 = .ok (.iload_n 1, 1) := by decide +kernel
theorem dX6_scrub_1 : decode cX6_scrub 1 = .ok (.iconst 0, 1) := by decide +kernel
theorem dX6_scrub_2 : decode cX6_scrub 2 = .ok (.bipush 64, 2) := by decide +kernel
theorem dX6_scrub_4 : decode cX6_scrub 4 = .ok (.invokestatic 68, 3) := by decide +kernel
theorem dX6_scrub_7 : decode cX6_scrub 7 = .ok (.ifCond .ne 6, 3) := by decide +kernel
theorem dX6_scrub_10 : decode cX6_scrub 10 = .ok (.bipush (-2), 2) := by decide +kernel
theorem dX6_scrub_12 : decode cX6_scrub 12 = .ok (.ireturn, 1) := by decide +kernel
theorem dX6_scrub_13 : decode cX6_scrub 13 = .ok (.aload_n 0, 1) := by decide +kernel
theorem dX6_scrub_14 : decode cX6_scrub 14 = .ok (.getfield 57, 3) := by decide +kernel
theorem dX6_scrub_17 : decode cX6_scrub 17 = .ok (.ifCond .ne 6, 3) := by decide +kernel
theorem dX6_scrub_20 : decode cX6_scrub 20 = .ok (.bipush (-3), 2) := by decide +kernel
theorem dX6_scrub_22 : decode cX6_scrub 22 = .ok (.ireturn, 1) := by decide +kernel
theorem dX6_scrub_23 : decode cX6_scrub 23 = .ok (.iconst 0, 1) := by decide +kernel
theorem dX6_scrub_24 : decode cX6_scrub 24 = .ok (.istore_n 2, 1) := by decide +kernel
theorem dX6_scrub_25 : decode cX6_scrub 25 = .ok (.iconst 0, 1) := by decide +kernel
theorem dX6_scrub_26 : decode cX6_scrub 26 = .ok (.istore_n 3, 1) := by decide +kernel
theorem dX6_scrub_27 : decode cX6_scrub 27 = .ok (.iload_n 3, 1) := by decide +kernel
theorem dX6_scrub_28 : decode cX6_scrub 28 = .ok (.iload_n 1, 1) := by decide +kernel
theorem dX6_scrub_29 : decode cX6_scrub 29 = .ok (.if_icmp .ge 71, 3) := by decide +kernel
theorem dX6_scrub_32 : decode cX6_scrub 32 = .ok (.aload_n 0, 1) := by decide +kernel
theorem dX6_scrub_33 : decode cX6_scrub 33 = .ok (.getfield 121, 3) := by decide +kernel
theorem dX6_scrub_36 : decode cX6_scrub 36 = .ok (.iconst 4, 1) := by decide +kernel
theorem dX6_scrub_37 : decode cX6_scrub 37 = .ok (.idiv, 1) := by decide +kernel
theorem dX6_scrub_38 : decode cX6_scrub 38 = .ok (.istore 4, 2) := by decide +kernel
theorem dX6_scrub_40 : decode cX6_scrub 40 = .ok (.aload_n 0, 1) := by decide +kernel
theorem dX6_scrub_41 : decode cX6_scrub 41 = .ok (.getfield 121, 3) := by decide +kernel
theorem dX6_scrub_44 : decode cX6_scrub 44 = .ok (.iconst 4, 1) := by decide +kernel
theorem dX6_scrub_45 : decode cX6_scrub 45 = .ok (.irem, 1) := by decide +kernel
theorem dX6_scrub_46 : decode cX6_scrub 46 = .ok (.istore 5, 2) := by decide +kernel
theorem dX6_scrub_48 : decode cX6_scrub 48 = .ok (.aload_n 0, 1) := by decide +kernel
theorem dX6_scrub_49 : decode cX6_scrub 49 = .ok (.iload 4, 2) := by decide +kernel
theorem dX6_scrub_51 : decode cX6_scrub 51 = .ok (.iload 5, 2) := by decide +kernel
theorem dX6_scrub_53 : decode cX6_scrub 53 = .ok (.invokevirtual 165, 3) := by decide +kernel
theorem dX6_scrub_56 : decode cX6_scrub 56 = .ok (.istore 6, 2) := by decide +kernel
theorem dX6_scrub_58 : decode cX6_scrub 58 = .ok (.aload_n 0, 1) := by decide +kernel
theorem dX6_scrub_59 : decode cX6_scrub 59 = .ok (.getfield 47, 3) := by decide +kernel
theorem dX6_scrub_62 : decode cX6_scrub 62 = .ok (.iconst 0, 1) := by decide +kernel
theorem dX6_scrub_63 : decode cX6_scrub 63 = .ok (.iaload, 1) := by decide +kernel
theorem dX6_scrub_64 : decode cX6_scrub 64 = .ok (.iconst 1, 1) := by decide +kernel
theorem dX6_scrub_65 : decode cX6_scrub 65 = .ok (.if_icmp .ne 16, 3) := by decide +kernel
theorem dX6_scrub_68 : decode cX6_scrub 68 = .ok (.aload_n 0, 1) := by decide +kernel
theorem dX6_scrub_69 : decode cX6_scrub 69 = .ok (.iload 4, 2) := by decide +kernel
theorem dX6_scrub_71 : decode cX6_scrub 71 = .ok (.iload 5, 2) := by decide +kernel
theorem dX6_scrub_73 : decode cX6_scrub 73 = .ok (.iload 6, 2) := by decide +kernel
theorem dX6_scrub_75 : decode cX6_scrub 75 = .ok (.invokevirtual 134, 3) := by decide +kernel
theorem dX6_scrub_78 : decode cX6_scrub 78 = .ok (.iinc 2 1, 3) := by decide +kernel
theorem dX6_scrub_81 : decode cX6_scrub 81 = .ok (.aload_n 0, 1) := by decide +kernel
theorem dX6_scrub_82 : decode cX6_scrub 82 = .ok (.aload_n 0, 1) := by decide +kernel
theorem dX6_scrub_83 : decode cX6_scrub 83 = .ok (.getfield 121, 3) := by decide +kernel
theorem dX6_scrub_86 : decode cX6_scrub 86 = .ok (.iconst 1, 1) := by decide +kernel
theorem dX6_scrub_87 : decode cX6_scrub 87 = .ok (.iadd, 1) := by decide +kernel
theorem dX6_scrub_88 : decode cX6_scrub 88 = .ok (.bipush 16, 2) := by decide +kernel
theorem dX6_scrub_90 : decode cX6_scrub 90 = .ok (.irem, 1) := by decide +kernel
theorem dX6_scrub_91 : decode cX6_scrub 91 = .ok (.putfield 121, 3) := by decide +kernel
theorem dX6_scrub_94 : decode cX6_scrub 94 = .ok (.iinc 3 1, 3) := by decide +kernel
theorem dX6_scrub_97 : decode cX6_scrub 97 = .ok (.goto (-70), 3) := by decide +kernel
theorem dX6_scrub_100 : decode cX6_scrub 100 = .ok (.iload_n 2, 1) := by decide +kernel
theorem dX6_scrub_101 : decode cX6_scrub 101 = .ok (.ireturn, 1) := by decide +kernel
theorem dX6_look_0 : decode cX6_look 0 = .ok (.iload_n 1, 1) := by decide +kernel
theorem dX6_look_1 : decode cX6_look 1 = .ok (.iconst 0, 1) := by decide +kernel
theorem dX6_look_2 : decode cX6_look 2 = .ok (.iconst 5, 1) := by decide +kernel
theorem dX6_look_3 : decode cX6_look 3 = .ok (.invokestatic 68, 3) := by decide +kernel
theorem dX6_look_6 : decode cX6_look 6 = .ok (.ifCond .eq 12, 3) := by decide +kernel
theorem dX6_look_9 : decode cX6_look 9 = .ok (.aload_n 0, 1) := by decide +kernel
theorem dX6_look_10 : decode cX6_look 10 = .ok (.getfield 47, 3) := by decide +kernel
theorem dX6_look_13 : decode cX6_look 13 = .ok (.iload_n 1, 1) := by decide +kernel
theorem dX6_look_14 : decode cX6_look 14 = .ok (.iaload, 1) := by decide +kernel
theorem dX6_look_15 : decode cX6_look 15 = .ok (.goto 5, 3) := by decide +kernel
theorem dX6_look_18 : decode cX6_look 18 = .ok (.bipush (-2), 2) := by decide +kernel
theorem dX6_look_20 : decode cX6_look 20 = .ok (.ireturn, 1) := by decide +kernel
theorem dX6_fate_0 : decode cX6_fate 0 = .ok (.aload_n 0, 1) := by decide +kernel
theorem dX6_fate_1 : decode cX6_fate 1 = .ok (.iload_n 1, 1) := by decide +kernel
theorem dX6_fate_2 : decode cX6_fate 2 = .ok (.iload_n 2, 1) := by decide +kernel
theorem dX6_fate_3 : decode cX6_fate 3 = .ok (.invokevirtual 131, 3) := by decide +kernel
theorem dX6_fate_6 : decode cX6_fate 6 = .ok (.ifCond .ne 5, 3) := by decide +kernel
theorem dX6_fate_9 : decode cX6_fate 9 = .ok (.iconst (-1), 1) := by decide +kernel
theorem dX6_fate_10 : decode cX6_fate 10 = .ok (.ireturn, 1) := by decide +kernel
theorem dX6_fate_11 : decode cX6_fate 11 = .ok (.aload_n 0, 1) := by decide +kernel
theorem dX6_fate_12 : decode cX6_fate 12 = .ok (.iload_n 3, 1) := by decide +kernel
theorem dX6_fate_13 : decode cX6_fate 13 = .ok (.invokevirtual 105, 3) := by decide +kernel
theorem dX6_fate_16 : decode cX6_fate 16 = .ok (.ifCond .ne 6, 3) := by decide +kernel
theorem dX6_fate_19 : decode cX6_fate 19 = .ok (.bipush (-2), 2) := by decide +kernel
theorem dX6_fate_21 : decode cX6_fate 21 = .ok (.ireturn, 1) := by decide +kernel
theorem dX6_fate_22 : decode cX6_fate 22 = .ok (.aload_n 0, 1) := by decide +kernel
theorem dX6_fate_23 : decode cX6_fate 23 = .ok (.iload_n 1, 1) := by decide +kernel
theorem dX6_fate_24 : decode cX6_fate 24 = .ok (.iload_n 2, 1) := by decide +kernel
theorem dX6_fate_25 : decode cX6_fate 25 = .ok (.invokevirtual 159, 3) := by decide +kernel
theorem dX6_fate_28 : decode cX6_fate 28 = .ok (.iload_n 3, 1) := by decide +kernel
theorem dX6_fate_29 : decode cX6_fate 29 = .ok (.ixor, 1) := by decide +kernel
theorem dX6_fate_30 : decode cX6_fate 30 = .ok (.istore 4, 2) := by decide +kernel
theorem dX6_fate_32 : decode cX6_fate 32 = .ok (.aload_n 0, 1) := by decide +kernel
theorem dX6_fate_33 : decode cX6_fate 33 = .ok (.iload 4, 2) := by decide +kernel
theorem dX6_fate_35 : decode cX6_fate 35 = .ok (.invokevirtual 108, 3) := by decide +kernel
theorem dX6_fate_38 : decode cX6_fate 38 = .ok (.istore 5, 2) := by decide +kernel
theorem dX6_fate_40 : decode cX6_fate 40 = .ok (.iload 5, 2) := by decide +kernel
theorem dX6_fate_42 : decode cX6_fate 42 = .ok (.bipush (-5), 2) := by decide +kernel
theorem dX6_fate_44 : decode cX6_fate 44 = .ok (.if_icmp .ne 5, 3) := by decide +kernel
theorem dX6_fate_47 : decode cX6_fate 47 = .ok (.iconst 2, 1) := by decide +kernel
theorem dX6_fate_48 : decode cX6_fate 48 = .ok (.ireturn, 1) := by decide +kernel
theorem dX6_fate_49 : decode cX6_fate 49 = .ok (.iload 5, 2) := by decide +kernel
theorem dX6_fate_51 : decode cX6_fate 51 = .ok (.iconst 1, 1) := by decide +kernel
theorem dX6_fate_52 : decode cX6_fate 52 = .ok (.aload_n 0, 1) := by decide +kernel
theorem dX6_fate_53 : decode cX6_fate 53 = .ok (.getfield 57, 3) := by decide +kernel
theorem dX6_fate_56 : decode cX6_fate 56 = .ok (.ishl, 1) := by decide +kernel
theorem dX6_fate_57 : decode cX6_fate 57 = .ok (.iconst 1, 1) := by decide +kernel
theorem dX6_fate_58 : decode cX6_fate 58 = .ok (.isub, 1) := by decide +kernel
theorem dX6_fate_59 : decode cX6_fate 59 = .ok (.iand, 1) := by decide +kernel
theorem dX6_fate_60 : decode cX6_fate 60 = .ok (.aload_n 0, 1) := by decide +kernel
theorem dX6_fate_61 : decode cX6_fate 61 = .ok (.getfield 32, 3) := by decide +kernel
theorem dX6_fate_64 : decode cX6_fate 64 = .ok (.iconst 4, 1) := by decide +kernel
theorem dX6_fate_65 : decode cX6_fate 65 = .ok (.iload_n 1, 1) := by decide +kernel
theorem dX6_fate_66 : decode cX6_fate 66 = .ok (.imul, 1) := by decide +kernel
theorem dX6_fate_67 : decode cX6_fate 67 = .ok (.iload_n 2, 1) := by decide +kernel
theorem dX6_fate_68 : decode cX6_fate 68 = .ok (.iadd, 1) := by decide +kernel
theorem dX6_fate_69 : decode cX6_fate 69 = .ok (.iaload, 1) := by decide +kernel
theorem dX6_fate_70 : decode cX6_fate 70 = .ok (.if_icmp .ne 7, 3) := by decide +kernel
theorem dX6_fate_73 : decode cX6_fate 73 = .ok (.iconst 1, 1) := by decide +kernel
theorem dX6_fate_74 : decode cX6_fate 74 = .ok (.goto 4, 3) := by decide +kernel
theorem dX6_fate_77 : decode cX6_fate 77 = .ok (.iconst 0, 1) := by decide +kernel
theorem dX6_fate_78 : decode cX6_fate 78 = .ok (.istore 6, 2) := by decide +kernel
theorem dX6_fate_80 : decode cX6_fate 80 = .ok (.iload 6, 2) := by decide +kernel
theorem dX6_fate_82 : decode cX6_fate 82 = .ok (.ifCond .ne 7, 3) := by decide +kernel
theorem dX6_fate_85 : decode cX6_fate 85 = .ok (.iconst 3, 1) := by decide +kernel
theorem dX6_fate_86 : decode cX6_fate 86 = .ok (.goto 15, 3) := by decide +kernel
theorem dX6_fate_89 : decode cX6_fate 89 = .ok (.iload 5, 2) := by decide +kernel
theorem dX6_fate_91 : decode cX6_fate 91 = .ok (.iload 4, 2) := by decide +kernel
theorem dX6_fate_93 : decode cX6_fate 93 = .ok (.if_icmp .ne 7, 3) := by decide +kernel
theorem dX6_fate_96 : decode cX6_fate 96 = .ok (.iconst 0, 1) := by decide +kernel
theorem dX6_fate_97 : decode cX6_fate 97 = .ok (.goto 4, 3) := by decide +kernel
theorem dX6_fate_100 : decode cX6_fate 100 = .ok (.iconst 1, 1) := by decide +kernel
theorem dX6_fate_101 : decode cX6_fate 101 = .ok (.ireturn, 1) := by decide +kernel
theorem dX6_marks_0 : decode cX6_marks 0 = .ok (.aload_n 0, 1) := by decide +kernel
theorem dX6_marks_1 : decode cX6_marks 1 = .ok (.getfield 57, 3) := by decide +kernel
theorem dX6_marks_4 : decode cX6_marks 4 = .ok (.ifCond .eq 33, 3) := by decide +kernel
theorem dX6_marks_7 : decode cX6_marks 7 = .ok (.iload_n 1, 1) := by decide +kernel
theorem dX6_marks_8 : decode cX6_marks 8 = .ok (.iconst 0, 1) := by decide +kernel
theorem dX6_marks_9 : decode cX6_marks 9 = .ok (.iconst 5, 1) := by decide +kernel
theorem dX6_marks_10 : decode cX6_marks 10 = .ok (.invokestatic 68, 3) := by decide +kernel
theorem dX6_marks_13 : decode cX6_marks 13 = .ok (.ifCond .eq 24, 3) := by decide +kernel
theorem dX6_marks_16 : decode cX6_marks 16 = .ok (.iload_n 2, 1) := by decide +kernel
theorem dX6_marks_17 : decode cX6_marks 17 = .ok (.iconst 0, 1) := by decide +kernel
theorem dX6_marks_18 : decode cX6_marks 18 = .ok (.iconst 3, 1) := by decide +kernel
theorem dX6_marks_19 : decode cX6_marks 19 = .ok (.invokestatic 68, 3) := by decide +kernel
theorem dX6_marks_22 : decode cX6_marks 22 = .ok (.ifCond .eq 15, 3) := by decide +kernel
theorem dX6_marks_25 : decode cX6_marks 25 = .ok (.iload_n 3, 1) := by decide +kernel
theorem dX6_marks_26 : decode cX6_marks 26 = .ok (.iconst 0, 1) := by decide +kernel
theorem dX6_marks_27 : decode cX6_marks 27 = .ok (.aload_n 0, 1) := by decide +kernel
theorem dX6_marks_28 : decode cX6_marks 28 = .ok (.invokevirtual 64, 3) := by decide +kernel
theorem dX6_marks_31 : decode cX6_marks 31 = .ok (.invokestatic 68, 3) := by decide +kernel
theorem dX6_marks_34 : decode cX6_marks 34 = .ok (.ifCond .ne 5, 3) := by decide +kernel
theorem dX6_marks_37 : decode cX6_marks 37 = .ok (.iconst (-1), 1) := by decide +kernel
theorem dX6_marks_38 : decode cX6_marks 38 = .ok (.ireturn, 1) := by decide +kernel
theorem dX6_marks_39 : decode cX6_marks 39 = .ok (.aload_n 0, 1) := by decide +kernel
theorem dX6_marks_40 : decode cX6_marks 40 = .ok (.getfield 23, 3) := by decide +kernel
theorem dX6_marks_43 : decode cX6_marks 43 = .ok (.iload_n 1, 1) := by decide +kernel
theorem dX6_marks_44 : decode cX6_marks 44 = .ok (.iload_n 2, 1) := by decide +kernel
theorem dX6_marks_45 : decode cX6_marks 45 = .ok (.iload_n 3, 1) := by decide +kernel
theorem dX6_marks_46 : decode cX6_marks 46 = .ok (.invokestatic 124, 3) := by decide +kernel
theorem dX6_marks_49 : decode cX6_marks 49 = .ok (.iaload, 1) := by decide +kernel
theorem dX6_marks_50 : decode cX6_marks 50 = .ok (.ireturn, 1) := by decide +kernel
theorem dX6_frame_0 : decode cX6_frame 0 = .ok (.aload_n 0, 1) := by decide +kernel
theorem dX6_frame_1 : decode cX6_frame 1 = .ok (.getfield 57, 3) := by decide +kernel
theorem dX6_frame_4 : decode cX6_frame 4 = .ok (.ifCond .le 21, 3) := by decide +kernel
theorem dX6_frame_7 : decode cX6_frame 7 = .ok (.iload_n 1, 1) := by decide +kernel
theorem dX6_frame_8 : decode cX6_frame 8 = .ok (.iconst 0, 1) := by decide +kernel
theorem dX6_frame_9 : decode cX6_frame 9 = .ok (.iconst 3, 1) := by decide +kernel
theorem dX6_frame_10 : decode cX6_frame 10 = .ok (.invokestatic 68, 3) := by decide +kernel
theorem dX6_frame_13 : decode cX6_frame 13 = .ok (.ifCond .eq 12, 3) := by decide +kernel
theorem dX6_frame_16 : decode cX6_frame 16 = .ok (.aload_n 0, 1) := by decide +kernel
theorem dX6_frame_17 : decode cX6_frame 17 = .ok (.getfield 26, 3) := by decide +kernel
theorem dX6_frame_20 : decode cX6_frame 20 = .ok (.iload_n 1, 1) := by decide +kernel
theorem dX6_frame_21 : decode cX6_frame 21 = .ok (.iaload, 1) := by decide +kernel
theorem dX6_frame_22 : decode cX6_frame 22 = .ok (.goto 4, 3) := by decide +kernel
theorem dX6_frame_25 : decode cX6_frame 25 = .ok (.iconst (-1), 1) := by decide +kernel
theorem dX6_frame_26 : decode cX6_frame 26 = .ok (.ireturn, 1) := by decide +kernel
theorem dX6_place_0 : decode cX6_place 0 = .ok (.aload_n 0, 1) := by decide +kernel
theorem dX6_place_1 : decode cX6_place 1 = .ok (.iload_n 1, 1) := by decide +kernel
theorem dX6_place_2 : decode cX6_place 2 = .ok (.invokevirtual 92, 3) := by decide +kernel
theorem dX6_place_5 : decode cX6_place 5 = .ok (.ifCond .eq 12, 3) := by decide +kernel
theorem dX6_place_8 : decode cX6_place 8 = .ok (.aload_n 0, 1) := by decide +kernel
theorem dX6_place_9 : decode cX6_place 9 = .ok (.getfield 29, 3) := by decide +kernel
theorem dX6_place_12 : decode cX6_place 12 = .ok (.iload_n 1, 1) := by decide +kernel
theorem dX6_place_13 : decode cX6_place 13 = .ok (.iaload, 1) := by decide +kernel
theorem dX6_place_14 : decode cX6_place 14 = .ok (.goto 4, 3) := by decide +kernel
theorem dX6_place_17 : decode cX6_place 17 = .ok (.iconst (-1), 1) := by decide +kernel
theorem dX6_place_18 : decode cX6_place 18 = .ok (.ireturn, 1) := by decide +kernel
theorem dX6_retired_0 : decode cX6_retired 0 = .ok (.iload_n 1, 1) := by decide +kernel
theorem dX6_retired_1 : decode cX6_retired 1 = .ok (.iconst 0, 1) := by decide +kernel
theorem dX6_retired_2 : decode cX6_retired 2 = .ok (.aload_n 0, 1) := by decide +kernel
theorem dX6_retired_3 : decode cX6_retired 3 = .ok (.getfield 114, 3) := by decide +kernel
theorem dX6_retired_6 : decode cX6_retired 6 = .ok (.iconst 1, 1) := by decide +kernel
theorem dX6_retired_7 : decode cX6_retired 7 = .ok (.isub, 1) := by decide +kernel
theorem dX6_retired_8 : decode cX6_retired 8 = .ok (.invokestatic 68, 3) := by decide +kernel
theorem dX6_retired_11 : decode cX6_retired 11 = .ok (.ifCond .eq 12, 3) := by decide +kernel
theorem dX6_retired_14 : decode cX6_retired 14 = .ok (.aload_n 0, 1) := by decide +kernel
theorem dX6_retired_15 : decode cX6_retired 15 = .ok (.getfield 41, 3) := by decide +kernel
theorem dX6_retired_18 : decode cX6_retired 18 = .ok (.iload_n 1, 1) := by decide +kernel
theorem dX6_retired_19 : decode cX6_retired 19 = .ok (.iaload, 1) := by decide +kernel
theorem dX6_retired_20 : decode cX6_retired 20 = .ok (.goto 4, 3) := by decide +kernel
theorem dX6_retired_23 : decode cX6_retired 23 = .ok (.iconst (-1), 1) := by decide +kernel
theorem dX6_retired_24 : decode cX6_retired 24 = .ok (.ireturn, 1) := by decide +kernel
theorem dX6_troubled_0 : decode cX6_troubled 0 = .ok (.iload_n 1, 1) := by decide +kernel
theorem dX6_troubled_1 : decode cX6_troubled 1 = .ok (.iconst 0, 1) := by decide +kernel
theorem dX6_troubled_2 : decode cX6_troubled 2 = .ok (.aload_n 0, 1) := by decide +kernel
theorem dX6_troubled_3 : decode cX6_troubled 3 = .ok (.getfield 111, 3) := by decide +kernel
theorem dX6_troubled_6 : decode cX6_troubled 6 = .ok (.iconst 1, 1) := by decide +kernel
theorem dX6_troubled_7 : decode cX6_troubled 7 = .ok (.isub, 1) := by decide +kernel
theorem dX6_troubled_8 : decode cX6_troubled 8 = .ok (.invokestatic 68, 3) := by decide +kernel
theorem dX6_troubled_11 : decode cX6_troubled 11 = .ok (.ifCond .eq 12, 3) := by decide +kernel
theorem dX6_troubled_14 : decode cX6_troubled 14 = .ok (.aload_n 0, 1) := by decide +kernel
theorem dX6_troubled_15 : decode cX6_troubled 15 = .ok (.getfield 38, 3) := by decide +kernel
theorem dX6_troubled_18 : decode cX6_troubled 18 = .ok (.iload_n 1, 1) := by decide +kernel
theorem dX6_troubled_19 : decode cX6_troubled 19 = .ok (.iaload, 1) := by decide +kernel
theorem dX6_troubled_20 : decode cX6_troubled 20 = .ok (.goto 4, 3) := by decide +kernel
theorem dX6_troubled_23 : decode cX6_troubled 23 = .ok (.iconst (-1), 1) := by decide +kernel
theorem dX6_troubled_24 : decode cX6_troubled 24 = .ok (.ireturn, 1) := by decide +kernel
theorem dX6_mends_0 : decode cX6_mends 0 = .ok (.aload_n 0, 1) := by decide +kernel
theorem dX6_mends_1 : decode cX6_mends 1 = .ok (.getfield 57, 3) := by decide +kernel
theorem dX6_mends_4 : decode cX6_mends 4 = .ok (.ifCond .le 21, 3) := by decide +kernel
theorem dX6_mends_7 : decode cX6_mends 7 = .ok (.iload_n 1, 1) := by decide +kernel
theorem dX6_mends_8 : decode cX6_mends 8 = .ok (.iconst 0, 1) := by decide +kernel
theorem dX6_mends_9 : decode cX6_mends 9 = .ok (.iconst 3, 1) := by decide +kernel
theorem dX6_mends_10 : decode cX6_mends 10 = .ok (.invokestatic 68, 3) := by decide +kernel
theorem dX6_mends_13 : decode cX6_mends 13 = .ok (.ifCond .eq 12, 3) := by decide +kernel
theorem dX6_mends_16 : decode cX6_mends 16 = .ok (.aload_n 0, 1) := by decide +kernel
theorem dX6_mends_17 : decode cX6_mends 17 = .ok (.getfield 35, 3) := by decide +kernel
theorem dX6_mends_20 : decode cX6_mends 20 = .ok (.iload_n 1, 1) := by decide +kernel
theorem dX6_mends_21 : decode cX6_mends 21 = .ok (.iaload, 1) := by decide +kernel
theorem dX6_mends_22 : decode cX6_mends 22 = .ok (.goto 4, 3) := by decide +kernel
theorem dX6_mends_25 : decode cX6_mends 25 = .ok (.iconst (-1), 1) := by decide +kernel
theorem dX6_mends_26 : decode cX6_mends 26 = .ok (.ireturn, 1) := by decide +kernel
theorem dX6_tells_0 : decode cX6_tells 0 = .ok (.aload_n 0, 1) := by decide +kernel
theorem dX6_tells_1 : decode cX6_tells 1 = .ok (.getfield 50, 3) := by decide +kernel
theorem dX6_tells_4 : decode cX6_tells 4 = .ok (.iconst 0, 1) := by decide +kernel
theorem dX6_tells_5 : decode cX6_tells 5 = .ok (.dup2, 1) := by decide +kernel
theorem dX6_tells_6 : decode cX6_tells 6 = .ok (.iaload, 1) := by decide +kernel
theorem dX6_tells_7 : decode cX6_tells 7 = .ok (.iconst 1, 1) := by decide +kernel
theorem dX6_tells_8 : decode cX6_tells 8 = .ok (.iadd, 1) := by decide +kernel
theorem dX6_tells_9 : decode cX6_tells 9 = .ok (.iastore, 1) := by decide +kernel
theorem dX6_tells_10 : decode cX6_tells 10 = .ok (.aload_n 0, 1) := by decide +kernel
theorem dX6_tells_11 : decode cX6_tells 11 = .ok (.iload_n 1, 1) := by decide +kernel
theorem dX6_tells_12 : decode cX6_tells 12 = .ok (.invokevirtual 108, 3) := by decide +kernel
theorem dX6_tells_15 : decode cX6_tells 15 = .ok (.istore_n 2, 1) := by decide +kernel
theorem dX6_tells_16 : decode cX6_tells 16 = .ok (.iload_n 2, 1) := by decide +kernel
theorem dX6_tells_17 : decode cX6_tells 17 = .ok (.bipush (-5), 2) := by decide +kernel
theorem dX6_tells_19 : decode cX6_tells 19 = .ok (.if_icmp .ne 7, 3) := by decide +kernel
theorem dX6_tells_22 : decode cX6_tells 22 = .ok (.iconst 4, 1) := by decide +kernel
theorem dX6_tells_23 : decode cX6_tells 23 = .ok (.goto 21, 3) := by decide +kernel
theorem dX6_tells_26 : decode cX6_tells 26 = .ok (.iload_n 2, 1) := by decide +kernel
theorem dX6_tells_27 : decode cX6_tells 27 = .ok (.ifCond .ne 7, 3) := by decide +kernel
theorem dX6_tells_30 : decode cX6_tells 30 = .ok (.iconst 2, 1) := by decide +kernel
theorem dX6_tells_31 : decode cX6_tells 31 = .ok (.goto 13, 3) := by decide +kernel
theorem dX6_tells_34 : decode cX6_tells 34 = .ok (.iload_n 2, 1) := by decide +kernel
theorem dX6_tells_35 : decode cX6_tells 35 = .ok (.iload_n 1, 1) := by decide +kernel
theorem dX6_tells_36 : decode cX6_tells 36 = .ok (.if_icmp .ne 7, 3) := by decide +kernel
theorem dX6_tells_39 : decode cX6_tells 39 = .ok (.iconst 1, 1) := by decide +kernel
theorem dX6_tells_40 : decode cX6_tells 40 = .ok (.goto 4, 3) := by decide +kernel
theorem dX6_tells_43 : decode cX6_tells 43 = .ok (.iconst 3, 1) := by decide +kernel
theorem dX6_tells_44 : decode cX6_tells 44 = .ok (.istore_n 3, 1) := by decide +kernel
theorem dX6_tells_45 : decode cX6_tells 45 = .ok (.aload_n 0, 1) := by decide +kernel
theorem dX6_tells_46 : decode cX6_tells 46 = .ok (.getfield 50, 3) := by decide +kernel
theorem dX6_tells_49 : decode cX6_tells 49 = .ok (.iload_n 3, 1) := by decide +kernel
theorem dX6_tells_50 : decode cX6_tells 50 = .ok (.dup2, 1) := by decide +kernel
theorem dX6_tells_51 : decode cX6_tells 51 = .ok (.iaload, 1) := by decide +kernel
theorem dX6_tells_52 : decode cX6_tells 52 = .ok (.iconst 1, 1) := by decide +kernel
theorem dX6_tells_53 : decode cX6_tells 53 = .ok (.iadd, 1) := by decide +kernel
theorem dX6_tells_54 : decode cX6_tells 54 = .ok (.iastore, 1) := by decide +kernel
theorem dX6_tells_55 : decode cX6_tells 55 = .ok (.return_, 1) := by decide +kernel
theorem dX6_patterns_0 : decode cX6_patterns 0 = .ok (.iload_n 1, 1) := by decide +kernel
theorem dX6_patterns_1 : decode cX6_patterns 1 = .ok (.iconst 0, 1) := by decide +kernel
theorem dX6_patterns_2 : decode cX6_patterns 2 = .ok (.iconst 4, 1) := by decide +kernel
theorem dX6_patterns_3 : decode cX6_patterns 3 = .ok (.invokestatic 68, 3) := by decide +kernel
theorem dX6_patterns_6 : decode cX6_patterns 6 = .ok (.ifCond .eq 12, 3) := by decide +kernel
theorem dX6_patterns_9 : decode cX6_patterns 9 = .ok (.iload_n 2, 1) := by decide +kernel
theorem dX6_patterns_10 : decode cX6_patterns 10 = .ok (.iconst 0, 1) := by decide +kernel
theorem dX6_patterns_11 : decode cX6_patterns 11 = .ok (.iconst 4, 1) := by decide +kernel
theorem dX6_patterns_12 : decode cX6_patterns 12 = .ok (.invokestatic 68, 3) := by decide +kernel
theorem dX6_patterns_15 : decode cX6_patterns 15 = .ok (.ifCond .ne 6, 3) := by decide +kernel
theorem dX6_patterns_18 : decode cX6_patterns 18 = .ok (.bipush (-2), 2) := by decide +kernel
theorem dX6_patterns_20 : decode cX6_patterns 20 = .ok (.ireturn, 1) := by decide +kernel
theorem dX6_patterns_21 : decode cX6_patterns 21 = .ok (.aload_n 0, 1) := by decide +kernel
theorem dX6_patterns_22 : decode cX6_patterns 22 = .ok (.getfield 57, 3) := by decide +kernel
theorem dX6_patterns_25 : decode cX6_patterns 25 = .ok (.ifCond .ne 6, 3) := by decide +kernel
theorem dX6_patterns_28 : decode cX6_patterns 28 = .ok (.bipush (-3), 2) := by decide +kernel
theorem dX6_patterns_30 : decode cX6_patterns 30 = .ok (.ireturn, 1) := by decide +kernel
theorem dX6_patterns_31 : decode cX6_patterns 31 = .ok (.iconst 0, 1) := by decide +kernel
theorem dX6_patterns_32 : decode cX6_patterns 32 = .ok (.istore_n 3, 1) := by decide +kernel
theorem dX6_patterns_33 : decode cX6_patterns 33 = .ok (.iload_n 3, 1) := by decide +kernel
theorem dX6_patterns_34 : decode cX6_patterns 34 = .ok (.aload_n 0, 1) := by decide +kernel
theorem dX6_patterns_35 : decode cX6_patterns 35 = .ok (.getfield 50, 3) := by decide +kernel
theorem dX6_patterns_38 : decode cX6_patterns 38 = .ok (.arraylength, 1) := by decide +kernel
theorem dX6_patterns_39 : decode cX6_patterns 39 = .ok (.if_icmp .ge 16, 3) := by decide +kernel
theorem dX6_patterns_42 : decode cX6_patterns 42 = .ok (.aload_n 0, 1) := by decide +kernel
theorem dX6_patterns_43 : decode cX6_patterns 43 = .ok (.getfield 50, 3) := by decide +kernel
theorem dX6_patterns_46 : decode cX6_patterns 46 = .ok (.iload_n 3, 1) := by decide +kernel
theorem dX6_patterns_47 : decode cX6_patterns 47 = .ok (.iconst 0, 1) := by decide +kernel
theorem dX6_patterns_48 : decode cX6_patterns 48 = .ok (.iastore, 1) := by decide +kernel
theorem dX6_patterns_49 : decode cX6_patterns 49 = .ok (.iinc 3 1, 3) := by decide +kernel
theorem dX6_patterns_52 : decode cX6_patterns 52 = .ok (.goto (-19), 3) := by decide +kernel
theorem dX6_patterns_55 : decode cX6_patterns 55 = .ok (.iconst 1, 1) := by decide +kernel
theorem dX6_patterns_56 : decode cX6_patterns 56 = .ok (.iload_n 1, 1) := by decide +kernel
theorem dX6_patterns_57 : decode cX6_patterns 57 = .ok (.ishl, 1) := by decide +kernel
theorem dX6_patterns_58 : decode cX6_patterns 58 = .ok (.iconst 1, 1) := by decide +kernel
theorem dX6_patterns_59 : decode cX6_patterns 59 = .ok (.isub, 1) := by decide +kernel
theorem dX6_patterns_60 : decode cX6_patterns 60 = .ok (.istore_n 3, 1) := by decide +kernel
theorem dX6_patterns_61 : decode cX6_patterns 61 = .ok (.iload_n 3, 1) := by decide +kernel
theorem dX6_patterns_62 : decode cX6_patterns 62 = .ok (.iconst 1, 1) := by decide +kernel
theorem dX6_patterns_63 : decode cX6_patterns 63 = .ok (.aload_n 0, 1) := by decide +kernel
theorem dX6_patterns_64 : decode cX6_patterns 64 = .ok (.invokevirtual 64, 3) := by decide +kernel
theorem dX6_patterns_67 : decode cX6_patterns 67 = .ok (.ishl, 1) := by decide +kernel
theorem dX6_patterns_68 : decode cX6_patterns 68 = .ok (.if_icmp .ge 36, 3) := by decide +kernel
theorem dX6_patterns_71 : decode cX6_patterns 71 = .ok (.aload_n 0, 1) := by decide +kernel
theorem dX6_patterns_72 : decode cX6_patterns 72 = .ok (.getfield 50, 3) := by decide +kernel
theorem dX6_patterns_75 : decode cX6_patterns 75 = .ok (.iconst 0, 1) := by decide +kernel
theorem dX6_patterns_76 : decode cX6_patterns 76 = .ok (.iaload, 1) := by decide +kernel
theorem dX6_patterns_77 : decode cX6_patterns 77 = .ok (.iload_n 1, 1) := by decide +kernel
theorem dX6_patterns_78 : decode cX6_patterns 78 = .ok (.ifCond .ne 7, 3) := by decide +kernel
theorem dX6_patterns_81 : decode cX6_patterns 81 = .ok (.iconst 1, 1) := by decide +kernel
theorem dX6_patterns_82 : decode cX6_patterns 82 = .ok (.goto 6, 3) := by decide +kernel
theorem dX6_patterns_85 : decode cX6_patterns 85 = .ok (.sipush 5000, 3) := by decide +kernel
theorem dX6_patterns_88 : decode cX6_patterns 88 = .ok (.if_icmp .ge 16, 3) := by decide +kernel
theorem dX6_patterns_91 : decode cX6_patterns 91 = .ok (.aload_n 0, 1) := by decide +kernel
theorem dX6_patterns_92 : decode cX6_patterns 92 = .ok (.iload_n 3, 1) := by decide +kernel
theorem dX6_patterns_93 : decode cX6_patterns 93 = .ok (.invokevirtual 168, 3) := by decide +kernel
theorem dX6_patterns_96 : decode cX6_patterns 96 = .ok (.iload_n 3, 1) := by decide +kernel
theorem dX6_patterns_97 : decode cX6_patterns 97 = .ok (.invokestatic 171, 3) := by decide +kernel
theorem dX6_patterns_100 : decode cX6_patterns 100 = .ok (.istore_n 3, 1) := by decide +kernel
theorem dX6_patterns_101 : decode cX6_patterns 101 = .ok (.goto (-40), 3) := by decide +kernel
theorem dX6_patterns_104 : decode cX6_patterns 104 = .ok (.aload_n 0, 1) := by decide +kernel
theorem dX6_patterns_105 : decode cX6_patterns 105 = .ok (.getfield 50, 3) := by decide +kernel
theorem dX6_patterns_108 : decode cX6_patterns 108 = .ok (.iload_n 2, 1) := by decide +kernel
theorem dX6_patterns_109 : decode cX6_patterns 109 = .ok (.iaload, 1) := by decide +kernel
theorem dX6_patterns_110 : decode cX6_patterns 110 = .ok (.ireturn, 1) := by decide +kernel
theorem dX6_nextSet_0 : decode cX6_nextSet 0 = .ok (.iload_n 0, 1) := by decide +kernel
theorem dX6_nextSet_1 : decode cX6_nextSet 1 = .ok (.ifCond .ne 5, 3) := by decide +kernel
theorem dX6_nextSet_4 : decode cX6_nextSet 4 = .ok (.iconst 0, 1) := by decide +kernel
theorem dX6_nextSet_5 : decode cX6_nextSet 5 = .ok (.ireturn, 1) := by decide +kernel
theorem dX6_nextSet_6 : decode cX6_nextSet 6 = .ok (.iload_n 0, 1) := by decide +kernel
theorem dX6_nextSet_7 : decode cX6_nextSet 7 = .ok (.iload_n 0, 1) := by decide +kernel
theorem dX6_nextSet_8 : decode cX6_nextSet 8 = .ok (.ineg, 1) := by decide +kernel
theorem dX6_nextSet_9 : decode cX6_nextSet 9 = .ok (.iand, 1) := by decide +kernel
theorem dX6_nextSet_10 : decode cX6_nextSet 10 = .ok (.istore_n 1, 1) := by decide +kernel
theorem dX6_nextSet_11 : decode cX6_nextSet 11 = .ok (.iload_n 0, 1) := by decide +kernel
theorem dX6_nextSet_12 : decode cX6_nextSet 12 = .ok (.iload_n 1, 1) := by decide +kernel
theorem dX6_nextSet_13 : decode cX6_nextSet 13 = .ok (.iadd, 1) := by decide +kernel
theorem dX6_nextSet_14 : decode cX6_nextSet 14 = .ok (.istore_n 2, 1) := by decide +kernel
theorem dX6_nextSet_15 : decode cX6_nextSet 15 = .ok (.iload_n 2, 1) := by decide +kernel
theorem dX6_nextSet_16 : decode cX6_nextSet 16 = .ok (.iload_n 0, 1) := by decide +kernel
theorem dX6_nextSet_17 : decode cX6_nextSet 17 = .ok (.iload_n 2, 1) := by decide +kernel
theorem dX6_nextSet_18 : decode cX6_nextSet 18 = .ok (.ixor, 1) := by decide +kernel
theorem dX6_nextSet_19 : decode cX6_nextSet 19 = .ok (.iload_n 1, 1) := by decide +kernel
theorem dX6_nextSet_20 : decode cX6_nextSet 20 = .ok (.idiv, 1) := by decide +kernel
theorem dX6_nextSet_21 : decode cX6_nextSet 21 = .ok (.iconst 2, 1) := by decide +kernel
theorem dX6_nextSet_22 : decode cX6_nextSet 22 = .ok (.ishr, 1) := by decide +kernel
theorem dX6_nextSet_23 : decode cX6_nextSet 23 = .ok (.ior, 1) := by decide +kernel
theorem dX6_nextSet_24 : decode cX6_nextSet 24 = .ok (.ireturn, 1) := by decide +kernel
theorem dX6_weight_0 : decode cX6_weight 0 = .ok (.aload_n 0, 1) := by decide +kernel
theorem dX6_weight_1 : decode cX6_weight 1 = .ok (.getfield 57, 3) := by decide +kernel
theorem dX6_weight_4 : decode cX6_weight 4 = .ok (.ifCond .ne 6, 3) := by decide +kernel
theorem dX6_weight_7 : decode cX6_weight 7 = .ok (.bipush (-3), 2) := by decide +kernel
theorem dX6_weight_9 : decode cX6_weight 9 = .ok (.ireturn, 1) := by decide +kernel
theorem dX6_weight_10 : decode cX6_weight 10 = .ok (.iconst 0, 1) := by decide +kernel
theorem dX6_weight_11 : decode cX6_weight 11 = .ok (.istore_n 1, 1) := by decide +kernel
theorem dX6_weight_12 : decode cX6_weight 12 = .ok (.iconst 0, 1) := by decide +kernel
theorem dX6_weight_13 : decode cX6_weight 13 = .ok (.istore_n 2, 1) := by decide +kernel
theorem dX6_weight_14 : decode cX6_weight 14 = .ok (.iload_n 2, 1) := by decide +kernel
theorem dX6_weight_15 : decode cX6_weight 15 = .ok (.aload_n 0, 1) := by decide +kernel
theorem dX6_weight_16 : decode cX6_weight 16 = .ok (.getfield 61, 3) := by decide +kernel
theorem dX6_weight_19 : decode cX6_weight 19 = .ok (.if_icmp .ge 18, 3) := by decide +kernel
theorem dX6_weight_22 : decode cX6_weight 22 = .ok (.iload_n 1, 1) := by decide +kernel
theorem dX6_weight_23 : decode cX6_weight 23 = .ok (.aload_n 0, 1) := by decide +kernel
theorem dX6_weight_24 : decode cX6_weight 24 = .ok (.getfield 13, 3) := by decide +kernel
theorem dX6_weight_27 : decode cX6_weight 27 = .ok (.iload_n 2, 1) := by decide +kernel
theorem dX6_weight_28 : decode cX6_weight 28 = .ok (.iaload, 1) := by decide +kernel
theorem dX6_weight_29 : decode cX6_weight 29 = .ok (.iadd, 1) := by decide +kernel
theorem dX6_weight_30 : decode cX6_weight 30 = .ok (.istore_n 1, 1) := by decide +kernel
theorem dX6_weight_31 : decode cX6_weight 31 = .ok (.iinc 2 1, 3) := by decide +kernel
theorem dX6_weight_34 : decode cX6_weight 34 = .ok (.goto (-20), 3) := by decide +kernel
theorem dX6_weight_37 : decode cX6_weight 37 = .ok (.iload_n 1, 1) := by decide +kernel
theorem dX6_weight_38 : decode cX6_weight 38 = .ok (.ireturn, 1) := by decide +kernel
theorem dX6_safe_0 : decode cX6_safe 0 = .ok (.iload_n 1, 1) := by decide +kernel
theorem dX6_safe_1 : decode cX6_safe 1 = .ok (.iconst 0, 1) := by decide +kernel
theorem dX6_safe_2 : decode cX6_safe 2 = .ok (.bipush 12, 2) := by decide +kernel
theorem dX6_safe_4 : decode cX6_safe 4 = .ok (.invokestatic 68, 3) := by decide +kernel
theorem dX6_safe_7 : decode cX6_safe 7 = .ok (.ifCond .eq 22, 3) := by decide +kernel
theorem dX6_safe_10 : decode cX6_safe 10 = .ok (.iload_n 2, 1) := by decide +kernel
theorem dX6_safe_11 : decode cX6_safe 11 = .ok (.iconst 1, 1) := by decide +kernel
theorem dX6_safe_12 : decode cX6_safe 12 = .ok (.bipush 12, 2) := by decide +kernel
theorem dX6_safe_14 : decode cX6_safe 14 = .ok (.invokestatic 68, 3) := by decide +kernel
theorem dX6_safe_17 : decode cX6_safe 17 = .ok (.ifCond .eq 12, 3) := by decide +kernel
theorem dX6_safe_20 : decode cX6_safe 20 = .ok (.iload_n 3, 1) := by decide +kernel
theorem dX6_safe_21 : decode cX6_safe 21 = .ok (.iconst 0, 1) := by decide +kernel
theorem dX6_safe_22 : decode cX6_safe 22 = .ok (.iconst 1, 1) := by decide +kernel
theorem dX6_safe_23 : decode cX6_safe 23 = .ok (.invokestatic 68, 3) := by decide +kernel
theorem dX6_safe_26 : decode cX6_safe 26 = .ok (.ifCond .ne 7, 3) := by decide +kernel
theorem dX6_safe_29 : decode cX6_safe 29 = .ok (.ldc2_w 174, 3) := by decide +kernel
theorem dX6_safe_32 : decode cX6_safe 32 = .ok (.lreturn, 1) := by decide +kernel
theorem dX6_safe_33 : decode cX6_safe 33 = .ok (.lconst 1, 1) := by decide +kernel
theorem dX6_safe_34 : decode cX6_safe 34 = .ok (.lstore 4, 2) := by decide +kernel
theorem dX6_safe_36 : decode cX6_safe 36 = .ok (.lconst 1, 1) := by decide +kernel
theorem dX6_safe_37 : decode cX6_safe 37 = .ok (.lstore 6, 2) := by decide +kernel
theorem dX6_safe_39 : decode cX6_safe 39 = .ok (.iconst 0, 1) := by decide +kernel
theorem dX6_safe_40 : decode cX6_safe 40 = .ok (.istore 8, 2) := by decide +kernel
theorem dX6_safe_42 : decode cX6_safe 42 = .ok (.iload 8, 2) := by decide +kernel
theorem dX6_safe_44 : decode cX6_safe 44 = .ok (.iload_n 1, 1) := by decide +kernel
theorem dX6_safe_45 : decode cX6_safe 45 = .ok (.if_icmp .ge 30, 3) := by decide +kernel
theorem dX6_safe_48 : decode cX6_safe 48 = .ok (.lload 4, 2) := by decide +kernel
theorem dX6_safe_50 : decode cX6_safe 50 = .ok (.bipush 16, 2) := by decide +kernel
theorem dX6_safe_52 : decode cX6_safe 52 = .ok (.iload 8, 2) := by decide +kernel
theorem dX6_safe_54 : decode cX6_safe 54 = .ok (.iload_n 2, 1) := by decide +kernel
theorem dX6_safe_55 : decode cX6_safe 55 = .ok (.irem, 1) := by decide +kernel
theorem dX6_safe_56 : decode cX6_safe 56 = .ok (.isub, 1) := by decide +kernel
theorem dX6_safe_57 : decode cX6_safe 57 = .ok (.i2l, 1) := by decide +kernel
theorem dX6_safe_58 : decode cX6_safe 58 = .ok (.lmul, 1) := by decide +kernel
theorem dX6_safe_59 : decode cX6_safe 59 = .ok (.lstore 4, 2) := by decide +kernel
theorem dX6_safe_61 : decode cX6_safe 61 = .ok (.lload 6, 2) := by decide +kernel
theorem dX6_safe_63 : decode cX6_safe 63 = .ok (.ldc2_w 176, 3) := by decide +kernel
theorem dX6_safe_66 : decode cX6_safe 66 = .ok (.lmul, 1) := by decide +kernel
theorem dX6_safe_67 : decode cX6_safe 67 = .ok (.lstore 6, 2) := by decide +kernel
theorem dX6_safe_69 : decode cX6_safe 69 = .ok (.iinc 8 1, 3) := by decide +kernel
theorem dX6_safe_72 : decode cX6_safe 72 = .ok (.goto (-30), 3) := by decide +kernel
theorem dX6_safe_75 : decode cX6_safe 75 = .ok (.lload 4, 2) := by decide +kernel
theorem dX6_safe_77 : decode cX6_safe 77 = .ok (.ldc2_w 178, 3) := by decide +kernel
theorem dX6_safe_80 : decode cX6_safe 80 = .ok (.lrem, 1) := by decide +kernel
theorem dX6_safe_81 : decode cX6_safe 81 = .ok (.lconst 0, 1) := by decide +kernel
theorem dX6_safe_82 : decode cX6_safe 82 = .ok (.lcmp, 1) := by decide +kernel
theorem dX6_safe_83 : decode cX6_safe 83 = .ok (.ifCond .ne 33, 3) := by decide +kernel
theorem dX6_safe_86 : decode cX6_safe 86 = .ok (.lload 6, 2) := by decide +kernel
theorem dX6_safe_88 : decode cX6_safe 88 = .ok (.ldc2_w 178, 3) := by decide +kernel
theorem dX6_safe_91 : decode cX6_safe 91 = .ok (.lrem, 1) := by decide +kernel
theorem dX6_safe_92 : decode cX6_safe 92 = .ok (.lconst 0, 1) := by decide +kernel
theorem dX6_safe_93 : decode cX6_safe 93 = .ok (.lcmp, 1) := by decide +kernel
theorem dX6_safe_94 : decode cX6_safe 94 = .ok (.ifCond .ne 22, 3) := by decide +kernel
theorem dX6_safe_97 : decode cX6_safe 97 = .ok (.lload 4, 2) := by decide +kernel
theorem dX6_safe_99 : decode cX6_safe 99 = .ok (.ldc2_w 178, 3) := by decide +kernel
theorem dX6_safe_102 : decode cX6_safe 102 = .ok (.ldiv, 1) := by decide +kernel
theorem dX6_safe_103 : decode cX6_safe 103 = .ok (.lstore 4, 2) := by decide +kernel
theorem dX6_safe_105 : decode cX6_safe 105 = .ok (.lload 6, 2) := by decide +kernel
theorem dX6_safe_107 : decode cX6_safe 107 = .ok (.ldc2_w 178, 3) := by decide +kernel
theorem dX6_safe_110 : decode cX6_safe 110 = .ok (.ldiv, 1) := by decide +kernel
theorem dX6_safe_111 : decode cX6_safe 111 = .ok (.lstore 6, 2) := by decide +kernel
theorem dX6_safe_113 : decode cX6_safe 113 = .ok (.goto (-38), 3) := by decide +kernel
theorem dX6_safe_116 : decode cX6_safe 116 = .ok (.iload_n 3, 1) := by decide +kernel
theorem dX6_safe_117 : decode cX6_safe 117 = .ok (.ifCond .ne 8, 3) := by decide +kernel
theorem dX6_safe_120 : decode cX6_safe 120 = .ok (.lload 4, 2) := by decide +kernel
theorem dX6_safe_122 : decode cX6_safe 122 = .ok (.goto 5, 3) := by decide +kernel
theorem dX6_safe_125 : decode cX6_safe 125 = .ok (.lload 6, 2) := by decide +kernel
theorem dX6_safe_127 : decode cX6_safe 127 = .ok (.lreturn, 1) := by decide +kernel
theorem dX6_wrongInUse_0 : decode cX6_wrongInUse 0 = .ok (.iconst 0, 1) := by decide +kernel
theorem dX6_wrongInUse_1 : decode cX6_wrongInUse 1 = .ok (.istore_n 2, 1) := by decide +kernel
theorem dX6_wrongInUse_2 : decode cX6_wrongInUse 2 = .ok (.iconst 0, 1) := by decide +kernel
theorem dX6_wrongInUse_3 : decode cX6_wrongInUse 3 = .ok (.istore_n 3, 1) := by decide +kernel
theorem dX6_wrongInUse_4 : decode cX6_wrongInUse 4 = .ok (.iload_n 3, 1) := by decide +kernel
theorem dX6_wrongInUse_5 : decode cX6_wrongInUse 5 = .ok (.iconst 4, 1) := by decide +kernel
theorem dX6_wrongInUse_6 : decode cX6_wrongInUse 6 = .ok (.if_icmp .ge 30, 3) := by decide +kernel
theorem dX6_wrongInUse_9 : decode cX6_wrongInUse 9 = .ok (.aload_n 0, 1) := by decide +kernel
theorem dX6_wrongInUse_10 : decode cX6_wrongInUse 10 = .ok (.getfield 57, 3) := by decide +kernel
theorem dX6_wrongInUse_13 : decode cX6_wrongInUse 13 = .ok (.ifCond .le 23, 3) := by decide +kernel
theorem dX6_wrongInUse_16 : decode cX6_wrongInUse 16 = .ok (.iload_n 2, 1) := by decide +kernel
theorem dX6_wrongInUse_17 : decode cX6_wrongInUse 17 = .ok (.aload_n 0, 1) := by decide +kernel
theorem dX6_wrongInUse_18 : decode cX6_wrongInUse 18 = .ok (.aload_n 0, 1) := by decide +kernel
theorem dX6_wrongInUse_19 : decode cX6_wrongInUse 19 = .ok (.getfield 26, 3) := by decide +kernel
theorem dX6_wrongInUse_22 : decode cX6_wrongInUse 22 = .ok (.iload_n 3, 1) := by decide +kernel
theorem dX6_wrongInUse_23 : decode cX6_wrongInUse 23 = .ok (.iaload, 1) := by decide +kernel
theorem dX6_wrongInUse_24 : decode cX6_wrongInUse 24 = .ok (.iload_n 1, 1) := by decide +kernel
theorem dX6_wrongInUse_25 : decode cX6_wrongInUse 25 = .ok (.invokevirtual 152, 3) := by decide +kernel
theorem dX6_wrongInUse_28 : decode cX6_wrongInUse 28 = .ok (.iadd, 1) := by decide +kernel
theorem dX6_wrongInUse_29 : decode cX6_wrongInUse 29 = .ok (.istore_n 2, 1) := by decide +kernel
theorem dX6_wrongInUse_30 : decode cX6_wrongInUse 30 = .ok (.iinc 3 1, 3) := by decide +kernel
theorem dX6_wrongInUse_33 : decode cX6_wrongInUse 33 = .ok (.goto (-29), 3) := by decide +kernel
theorem dX6_wrongInUse_36 : decode cX6_wrongInUse 36 = .ok (.iload_n 2, 1) := by decide +kernel
theorem dX6_wrongInUse_37 : decode cX6_wrongInUse 37 = .ok (.ireturn, 1) := by decide +kernel
theorem dX6_many_0 : decode cX6_many 0 = .ok (.iload_n 1, 1) := by decide +kernel
theorem dX6_many_1 : decode cX6_many 1 = .ok (.tableswitch 142 0 9 #[55, 76, 76, 76, 85, 91, 97, 110, 128, 135], 55) := by decide +kernel
theorem dX6_many_56 : decode cX6_many 56 = .ok (.aload_n 0, 1) := by decide +kernel
theorem dX6_many_57 : decode cX6_many 57 = .ok (.getfield 44, 3) := by decide +kernel
theorem dX6_many_60 : decode cX6_many 60 = .ok (.iconst 0, 1) := by decide +kernel
theorem dX6_many_61 : decode cX6_many 61 = .ok (.iaload, 1) := by decide +kernel
theorem dX6_many_62 : decode cX6_many 62 = .ok (.aload_n 0, 1) := by decide +kernel
theorem dX6_many_63 : decode cX6_many 63 = .ok (.getfield 44, 3) := by decide +kernel
theorem dX6_many_66 : decode cX6_many 66 = .ok (.iconst 1, 1) := by decide +kernel
theorem dX6_many_67 : decode cX6_many 67 = .ok (.iaload, 1) := by decide +kernel
theorem dX6_many_68 : decode cX6_many 68 = .ok (.iadd, 1) := by decide +kernel
theorem dX6_many_69 : decode cX6_many 69 = .ok (.aload_n 0, 1) := by decide +kernel
theorem dX6_many_70 : decode cX6_many 70 = .ok (.getfield 44, 3) := by decide +kernel
theorem dX6_many_73 : decode cX6_many 73 = .ok (.iconst 2, 1) := by decide +kernel
theorem dX6_many_74 : decode cX6_many 74 = .ok (.iaload, 1) := by decide +kernel
theorem dX6_many_75 : decode cX6_many 75 = .ok (.iadd, 1) := by decide +kernel
theorem dX6_many_76 : decode cX6_many 76 = .ok (.ireturn, 1) := by decide +kernel
theorem dX6_many_77 : decode cX6_many 77 = .ok (.aload_n 0, 1) := by decide +kernel
theorem dX6_many_78 : decode cX6_many 78 = .ok (.getfield 44, 3) := by decide +kernel
theorem dX6_many_81 : decode cX6_many 81 = .ok (.iload_n 1, 1) := by decide +kernel
theorem dX6_many_82 : decode cX6_many 82 = .ok (.iconst 1, 1) := by decide +kernel
theorem dX6_many_83 : decode cX6_many 83 = .ok (.isub, 1) := by decide +kernel
theorem dX6_many_84 : decode cX6_many 84 = .ok (.iaload, 1) := by decide +kernel
theorem dX6_many_85 : decode cX6_many 85 = .ok (.ireturn, 1) := by decide +kernel
theorem dX6_many_86 : decode cX6_many 86 = .ok (.aload_n 0, 1) := by decide +kernel
theorem dX6_many_87 : decode cX6_many 87 = .ok (.iconst 1, 1) := by decide +kernel
theorem dX6_many_88 : decode cX6_many 88 = .ok (.invokevirtual 180, 3) := by decide +kernel
theorem dX6_many_91 : decode cX6_many 91 = .ok (.ireturn, 1) := by decide +kernel
theorem dX6_many_92 : decode cX6_many 92 = .ok (.aload_n 0, 1) := by decide +kernel
theorem dX6_many_93 : decode cX6_many 93 = .ok (.iconst 0, 1) := by decide +kernel
theorem dX6_many_94 : decode cX6_many 94 = .ok (.invokevirtual 180, 3) := by decide +kernel
theorem dX6_many_97 : decode cX6_many 97 = .ok (.ireturn, 1) := by decide +kernel
theorem dX6_many_98 : decode cX6_many 98 = .ok (.aload_n 0, 1) := by decide +kernel
theorem dX6_many_99 : decode cX6_many 99 = .ok (.getfield 117, 3) := by decide +kernel
theorem dX6_many_102 : decode cX6_many 102 = .ok (.ifCond .eq 7, 3) := by decide +kernel
theorem dX6_many_105 : decode cX6_many 105 = .ok (.iconst 1, 1) := by decide +kernel
theorem dX6_many_106 : decode cX6_many 106 = .ok (.goto 4, 3) := by decide +kernel
theorem dX6_many_109 : decode cX6_many 109 = .ok (.iconst 0, 1) := by decide +kernel
theorem dX6_many_110 : decode cX6_many 110 = .ok (.ireturn, 1) := by decide +kernel
theorem dX6_many_111 : decode cX6_many 111 = .ok (.aload_n 0, 1) := by decide +kernel
theorem dX6_many_112 : decode cX6_many 112 = .ok (.getfield 57, 3) := by decide +kernel
theorem dX6_many_115 : decode cX6_many 115 = .ok (.ifCond .ne 7, 3) := by decide +kernel
theorem dX6_many_118 : decode cX6_many 118 = .ok (.iconst 0, 1) := by decide +kernel
theorem dX6_many_119 : decode cX6_many 119 = .ok (.goto 9, 3) := by decide +kernel
theorem dX6_many_122 : decode cX6_many 122 = .ok (.iconst 2, 1) := by decide +kernel
theorem dX6_many_123 : decode cX6_many 123 = .ok (.aload_n 0, 1) := by decide +kernel
theorem dX6_many_124 : decode cX6_many 124 = .ok (.getfield 114, 3) := by decide +kernel
theorem dX6_many_127 : decode cX6_many 127 = .ok (.isub, 1) := by decide +kernel
theorem dX6_many_128 : decode cX6_many 128 = .ok (.ireturn, 1) := by decide +kernel
theorem dX6_many_129 : decode cX6_many 129 = .ok (.aload_n 0, 1) := by decide +kernel
theorem dX6_many_130 : decode cX6_many 130 = .ok (.getfield 121, 3) := by decide +kernel
theorem dX6_many_133 : decode cX6_many 133 = .ok (.iconst 4, 1) := by decide +kernel
theorem dX6_many_134 : decode cX6_many 134 = .ok (.idiv, 1) := by decide +kernel
theorem dX6_many_135 : decode cX6_many 135 = .ok (.ireturn, 1) := by decide +kernel
theorem dX6_many_136 : decode cX6_many 136 = .ok (.aload_n 0, 1) := by decide +kernel
theorem dX6_many_137 : decode cX6_many 137 = .ok (.getfield 121, 3) := by decide +kernel
theorem dX6_many_140 : decode cX6_many 140 = .ok (.iconst 4, 1) := by decide +kernel
theorem dX6_many_141 : decode cX6_many 141 = .ok (.irem, 1) := by decide +kernel
theorem dX6_many_142 : decode cX6_many 142 = .ok (.ireturn, 1) := by decide +kernel
theorem dX6_many_143 : decode cX6_many 143 = .ok (.bipush (-2), 2) := by decide +kernel
theorem dX6_many_145 : decode cX6_many 145 = .ok (.ireturn, 1) := by decide +kernel
theorem dJ6_bitCount_0f7a4_0 : decode cJ6_bitCount_0f7a4 0 = .ok (.iload_n 0, 1) := by decide +kernel
theorem dJ6_bitCount_0f7a4_1 : decode cJ6_bitCount_0f7a4 1 = .ok (.iload_n 0, 1) := by decide +kernel
theorem dJ6_bitCount_0f7a4_2 : decode cJ6_bitCount_0f7a4 2 = .ok (.iconst 1, 1) := by decide +kernel
theorem dJ6_bitCount_0f7a4_3 : decode cJ6_bitCount_0f7a4 3 = .ok (.iushr, 1) := by decide +kernel
theorem dJ6_bitCount_0f7a4_4 : decode cJ6_bitCount_0f7a4 4 = .ok (.ldc_w 265, 3) := by decide +kernel
theorem dJ6_bitCount_0f7a4_7 : decode cJ6_bitCount_0f7a4 7 = .ok (.iand, 1) := by decide +kernel
theorem dJ6_bitCount_0f7a4_8 : decode cJ6_bitCount_0f7a4 8 = .ok (.isub, 1) := by decide +kernel
theorem dJ6_bitCount_0f7a4_9 : decode cJ6_bitCount_0f7a4 9 = .ok (.istore_n 0, 1) := by decide +kernel
theorem dJ6_bitCount_0f7a4_10 : decode cJ6_bitCount_0f7a4 10 = .ok (.iload_n 0, 1) := by decide +kernel
theorem dJ6_bitCount_0f7a4_11 : decode cJ6_bitCount_0f7a4 11 = .ok (.ldc_w 266, 3) := by decide +kernel
theorem dJ6_bitCount_0f7a4_14 : decode cJ6_bitCount_0f7a4 14 = .ok (.iand, 1) := by decide +kernel
theorem dJ6_bitCount_0f7a4_15 : decode cJ6_bitCount_0f7a4 15 = .ok (.iload_n 0, 1) := by decide +kernel
theorem dJ6_bitCount_0f7a4_16 : decode cJ6_bitCount_0f7a4 16 = .ok (.iconst 2, 1) := by decide +kernel
theorem dJ6_bitCount_0f7a4_17 : decode cJ6_bitCount_0f7a4 17 = .ok (.iushr, 1) := by decide +kernel
theorem dJ6_bitCount_0f7a4_18 : decode cJ6_bitCount_0f7a4 18 = .ok (.ldc_w 266, 3) := by decide +kernel
theorem dJ6_bitCount_0f7a4_21 : decode cJ6_bitCount_0f7a4 21 = .ok (.iand, 1) := by decide +kernel
theorem dJ6_bitCount_0f7a4_22 : decode cJ6_bitCount_0f7a4 22 = .ok (.iadd, 1) := by decide +kernel
theorem dJ6_bitCount_0f7a4_23 : decode cJ6_bitCount_0f7a4 23 = .ok (.istore_n 0, 1) := by decide +kernel
theorem dJ6_bitCount_0f7a4_24 : decode cJ6_bitCount_0f7a4 24 = .ok (.iload_n 0, 1) := by decide +kernel
theorem dJ6_bitCount_0f7a4_25 : decode cJ6_bitCount_0f7a4 25 = .ok (.iload_n 0, 1) := by decide +kernel
theorem dJ6_bitCount_0f7a4_26 : decode cJ6_bitCount_0f7a4 26 = .ok (.iconst 4, 1) := by decide +kernel
theorem dJ6_bitCount_0f7a4_27 : decode cJ6_bitCount_0f7a4 27 = .ok (.iushr, 1) := by decide +kernel
theorem dJ6_bitCount_0f7a4_28 : decode cJ6_bitCount_0f7a4 28 = .ok (.iadd, 1) := by decide +kernel
theorem dJ6_bitCount_0f7a4_29 : decode cJ6_bitCount_0f7a4 29 = .ok (.ldc_w 267, 3) := by decide +kernel
theorem dJ6_bitCount_0f7a4_32 : decode cJ6_bitCount_0f7a4 32 = .ok (.iand, 1) := by decide +kernel
theorem dJ6_bitCount_0f7a4_33 : decode cJ6_bitCount_0f7a4 33 = .ok (.istore_n 0, 1) := by decide +kernel
theorem dJ6_bitCount_0f7a4_34 : decode cJ6_bitCount_0f7a4 34 = .ok (.iload_n 0, 1) := by decide +kernel
theorem dJ6_bitCount_0f7a4_35 : decode cJ6_bitCount_0f7a4 35 = .ok (.iload_n 0, 1) := by decide +kernel
theorem dJ6_bitCount_0f7a4_36 : decode cJ6_bitCount_0f7a4 36 = .ok (.bipush 8, 2) := by decide +kernel
theorem dJ6_bitCount_0f7a4_38 : decode cJ6_bitCount_0f7a4 38 = .ok (.iushr, 1) := by decide +kernel
theorem dJ6_bitCount_0f7a4_39 : decode cJ6_bitCount_0f7a4 39 = .ok (.iadd, 1) := by decide +kernel
theorem dJ6_bitCount_0f7a4_40 : decode cJ6_bitCount_0f7a4 40 = .ok (.istore_n 0, 1) := by decide +kernel
theorem dJ6_bitCount_0f7a4_41 : decode cJ6_bitCount_0f7a4 41 = .ok (.iload_n 0, 1) := by decide +kernel
theorem dJ6_bitCount_0f7a4_42 : decode cJ6_bitCount_0f7a4 42 = .ok (.iload_n 0, 1) := by decide +kernel
theorem dJ6_bitCount_0f7a4_43 : decode cJ6_bitCount_0f7a4 43 = .ok (.bipush 16, 2) := by decide +kernel
theorem dJ6_bitCount_0f7a4_45 : decode cJ6_bitCount_0f7a4 45 = .ok (.iushr, 1) := by decide +kernel
theorem dJ6_bitCount_0f7a4_46 : decode cJ6_bitCount_0f7a4 46 = .ok (.iadd, 1) := by decide +kernel
theorem dJ6_bitCount_0f7a4_47 : decode cJ6_bitCount_0f7a4 47 = .ok (.istore_n 0, 1) := by decide +kernel
theorem dJ6_bitCount_0f7a4_48 : decode cJ6_bitCount_0f7a4 48 = .ok (.iload_n 0, 1) := by decide +kernel
theorem dJ6_bitCount_0f7a4_49 : decode cJ6_bitCount_0f7a4 49 = .ok (.bipush 63, 2) := by decide +kernel
theorem dJ6_bitCount_0f7a4_51 : decode cJ6_bitCount_0f7a4 51 = .ok (.iand, 1) := by decide +kernel
theorem dJ6_bitCount_0f7a4_52 : decode cJ6_bitCount_0f7a4 52 = .ok (.ireturn, 1) := by decide +kernel
theorem dJ9_max_7cf53_0 : decode cJ9_max_7cf53 0 = .ok (.iload_n 0, 1) := by decide +kernel
theorem dJ9_max_7cf53_1 : decode cJ9_max_7cf53 1 = .ok (.iload_n 1, 1) := by decide +kernel
theorem dJ9_max_7cf53_2 : decode cJ9_max_7cf53 2 = .ok (.if_icmp .lt 7, 3) := by decide +kernel
theorem dJ9_max_7cf53_5 : decode cJ9_max_7cf53 5 = .ok (.iload_n 0, 1) := by decide +kernel
theorem dJ9_max_7cf53_6 : decode cJ9_max_7cf53 6 = .ok (.goto 4, 3) := by decide +kernel
theorem dJ9_max_7cf53_9 : decode cJ9_max_7cf53 9 = .ok (.iload_n 1, 1) := by decide +kernel
theorem dJ9_max_7cf53_10 : decode cJ9_max_7cf53 10 = .ok (.ireturn, 1) := by decide +kernel
theorem dJ7_fill_53178_0 : decode cJ7_fill_53178 0 = .ok (.iconst 0, 1) := by decide +kernel
theorem dJ7_fill_53178_1 : decode cJ7_fill_53178 1 = .ok (.istore_n 2, 1) := by decide +kernel
theorem dJ7_fill_53178_2 : decode cJ7_fill_53178 2 = .ok (.aload_n 0, 1) := by decide +kernel
theorem dJ7_fill_53178_3 : decode cJ7_fill_53178 3 = .ok (.arraylength, 1) := by decide +kernel
theorem dJ7_fill_53178_4 : decode cJ7_fill_53178 4 = .ok (.istore_n 3, 1) := by decide +kernel
theorem dJ7_fill_53178_5 : decode cJ7_fill_53178 5 = .ok (.iload_n 2, 1) := by decide +kernel
theorem dJ7_fill_53178_6 : decode cJ7_fill_53178 6 = .ok (.iload_n 3, 1) := by decide +kernel
theorem dJ7_fill_53178_7 : decode cJ7_fill_53178 7 = .ok (.if_icmp .ge 13, 3) := by decide +kernel
theorem dJ7_fill_53178_10 : decode cJ7_fill_53178 10 = .ok (.aload_n 0, 1) := by decide +kernel
theorem dJ7_fill_53178_11 : decode cJ7_fill_53178 11 = .ok (.iload_n 2, 1) := by decide +kernel
theorem dJ7_fill_53178_12 : decode cJ7_fill_53178 12 = .ok (.iload_n 1, 1) := by decide +kernel
theorem dJ7_fill_53178_13 : decode cJ7_fill_53178 13 = .ok (.iastore, 1) := by decide +kernel
theorem dJ7_fill_53178_14 : decode cJ7_fill_53178 14 = .ok (.iinc 2 1, 3) := by decide +kernel
theorem dJ7_fill_53178_17 : decode cJ7_fill_53178 17 = .ok (.goto (-12), 3) := by decide +kernel
theorem dJ7_fill_53178_20 : decode cJ7_fill_53178 20 = .ok (.return_, 1) := by decide +kernel
theorem dL_law_0 : decode cL_law 0 = .ok (.new 7, 3) := by decide +kernel
theorem dL_law_3 : decode cL_law 3 = .ok (.dup, 1) := by decide +kernel
theorem dL_law_4 : decode cL_law 4 = .ok (.invokespecial 9, 3) := by decide +kernel
theorem dL_law_7 : decode cL_law 7 = .ok (.astore_n 1, 1) := by decide +kernel
theorem dL_law_8 : decode cL_law 8 = .ok (.new 10, 3) := by decide +kernel
theorem dL_law_11 : decode cL_law 11 = .ok (.dup, 1) := by decide +kernel
theorem dL_law_12 : decode cL_law 12 = .ok (.invokespecial 12, 3) := by decide +kernel
theorem dL_law_15 : decode cL_law 15 = .ok (.astore_n 2, 1) := by decide +kernel
theorem dL_law_16 : decode cL_law 16 = .ok (.iconst 0, 1) := by decide +kernel
theorem dL_law_17 : decode cL_law 17 = .ok (.istore_n 3, 1) := by decide +kernel
theorem dL_law_18 : decode cL_law 18 = .ok (.iload_n 3, 1) := by decide +kernel
theorem dL_law_19 : decode cL_law 19 = .ok (.aload_n 0, 1) := by decide +kernel
theorem dL_law_20 : decode cL_law 20 = .ok (.arraylength, 1) := by decide +kernel
theorem dL_law_21 : decode cL_law 21 = .ok (.iconst 5, 1) := by decide +kernel
theorem dL_law_22 : decode cL_law 22 = .ok (.isub, 1) := by decide +kernel
theorem dL_law_23 : decode cL_law 23 = .ok (.if_icmp .gt 840, 3) := by decide +kernel
theorem dL_law_26 : decode cL_law 26 = .ok (.aload_n 0, 1) := by decide +kernel
theorem dL_law_27 : decode cL_law 27 = .ok (.iload_n 3, 1) := by decide +kernel
theorem dL_law_28 : decode cL_law 28 = .ok (.iaload, 1) := by decide +kernel
theorem dL_law_29 : decode cL_law 29 = .ok (.bipush 31, 2) := by decide +kernel
theorem dL_law_31 : decode cL_law 31 = .ok (.iand, 1) := by decide +kernel
theorem dL_law_32 : decode cL_law 32 = .ok (.tableswitch 825 0 23 #[112, 145, 168, 191, 214, 237, 260, 303, 336, 369, 412, 465, 488, 511, 554, 597, 620, 643, 666, 689, 712, 745, 758, 802], 112) := by decide +kernel
theorem dL_law_144 : decode cL_law 144 = .ok (.aload_n 1, 1) := by decide +kernel
theorem dL_law_145 : decode cL_law 145 = .ok (.aload_n 0, 1) := by decide +kernel
theorem dL_law_146 : decode cL_law 146 = .ok (.iload_n 3, 1) := by decide +kernel
theorem dL_law_147 : decode cL_law 147 = .ok (.iconst 1, 1) := by decide +kernel
theorem dL_law_148 : decode cL_law 148 = .ok (.iadd, 1) := by decide +kernel
theorem dL_law_149 : decode cL_law 149 = .ok (.iaload, 1) := by decide +kernel
theorem dL_law_150 : decode cL_law 150 = .ok (.aload_n 0, 1) := by decide +kernel
theorem dL_law_151 : decode cL_law 151 = .ok (.iload_n 3, 1) := by decide +kernel
theorem dL_law_152 : decode cL_law 152 = .ok (.iconst 2, 1) := by decide +kernel
theorem dL_law_153 : decode cL_law 153 = .ok (.iadd, 1) := by decide +kernel
theorem dL_law_154 : decode cL_law 154 = .ok (.iaload, 1) := by decide +kernel
theorem dL_law_155 : decode cL_law 155 = .ok (.invokevirtual 13, 3) := by decide +kernel
theorem dL_law_158 : decode cL_law 158 = .ok (.aload_n 2, 1) := by decide +kernel
theorem dL_law_159 : decode cL_law 159 = .ok (.aload_n 0, 1) := by decide +kernel
theorem dL_law_160 : decode cL_law 160 = .ok (.iload_n 3, 1) := by decide +kernel
theorem dL_law_161 : decode cL_law 161 = .ok (.iconst 1, 1) := by decide +kernel
theorem dL_law_162 : decode cL_law 162 = .ok (.iadd, 1) := by decide +kernel
theorem dL_law_163 : decode cL_law 163 = .ok (.iaload, 1) := by decide +kernel
theorem dL_law_164 : decode cL_law 164 = .ok (.aload_n 0, 1) := by decide +kernel
theorem dL_law_165 : decode cL_law 165 = .ok (.iload_n 3, 1) := by decide +kernel
theorem dL_law_166 : decode cL_law 166 = .ok (.iconst 2, 1) := by decide +kernel
theorem dL_law_167 : decode cL_law 167 = .ok (.iadd, 1) := by decide +kernel
theorem dL_law_168 : decode cL_law 168 = .ok (.iaload, 1) := by decide +kernel
theorem dL_law_169 : decode cL_law 169 = .ok (.invokevirtual 17, 3) := by decide +kernel
theorem dL_law_172 : decode cL_law 172 = .ok (.if_icmp .eq 685, 3) := by decide +kernel
theorem dL_law_175 : decode cL_law 175 = .ok (.iconst 0, 1) := by decide +kernel
theorem dL_law_176 : decode cL_law 176 = .ok (.ireturn, 1) := by decide +kernel
theorem dL_law_177 : decode cL_law 177 = .ok (.aload_n 1, 1) := by decide +kernel
theorem dL_law_178 : decode cL_law 178 = .ok (.aload_n 0, 1) := by decide +kernel
theorem dL_law_179 : decode cL_law 179 = .ok (.iload_n 3, 1) := by decide +kernel
theorem dL_law_180 : decode cL_law 180 = .ok (.iconst 1, 1) := by decide +kernel
theorem dL_law_181 : decode cL_law 181 = .ok (.iadd, 1) := by decide +kernel
theorem dL_law_182 : decode cL_law 182 = .ok (.iaload, 1) := by decide +kernel
theorem dL_law_183 : decode cL_law 183 = .ok (.invokevirtual 18, 3) := by decide +kernel
theorem dL_law_186 : decode cL_law 186 = .ok (.aload_n 2, 1) := by decide +kernel
theorem dL_law_187 : decode cL_law 187 = .ok (.aload_n 0, 1) := by decide +kernel
theorem dL_law_188 : decode cL_law 188 = .ok (.iload_n 3, 1) := by decide +kernel
theorem dL_law_189 : decode cL_law 189 = .ok (.iconst 1, 1) := by decide +kernel
theorem dL_law_190 : decode cL_law 190 = .ok (.iadd, 1) := by decide +kernel
theorem dL_law_191 : decode cL_law 191 = .ok (.iaload, 1) := by decide +kernel
theorem dL_law_192 : decode cL_law 192 = .ok (.invokevirtual 22, 3) := by decide +kernel
theorem dL_law_195 : decode cL_law 195 = .ok (.if_icmp .eq 662, 3) := by decide +kernel
theorem dL_law_198 : decode cL_law 198 = .ok (.iconst 0, 1) := by decide +kernel
theorem dL_law_199 : decode cL_law 199 = .ok (.ireturn, 1) := by decide +kernel
theorem dL_law_200 : decode cL_law 200 = .ok (.aload_n 1, 1) := by decide +kernel
theorem dL_law_201 : decode cL_law 201 = .ok (.aload_n 0, 1) := by decide +kernel
theorem dL_law_202 : decode cL_law 202 = .ok (.iload_n 3, 1) := by decide +kernel
theorem dL_law_203 : decode cL_law 203 = .ok (.iconst 1, 1) := by decide +kernel
theorem dL_law_204 : decode cL_law 204 = .ok (.iadd, 1) := by decide +kernel
theorem dL_law_205 : decode cL_law 205 = .ok (.iaload, 1) := by decide +kernel
theorem dL_law_206 : decode cL_law 206 = .ok (.invokevirtual 23, 3) := by decide +kernel
theorem dL_law_209 : decode cL_law 209 = .ok (.aload_n 2, 1) := by decide +kernel
theorem dL_law_210 : decode cL_law 210 = .ok (.aload_n 0, 1) := by decide +kernel
theorem dL_law_211 : decode cL_law 211 = .ok (.iload_n 3, 1) := by decide +kernel
theorem dL_law_212 : decode cL_law 212 = .ok (.iconst 1, 1) := by decide +kernel
theorem dL_law_213 : decode cL_law 213 = .ok (.iadd, 1) := by decide +kernel
theorem dL_law_214 : decode cL_law 214 = .ok (.iaload, 1) := by decide +kernel
theorem dL_law_215 : decode cL_law 215 = .ok (.invokevirtual 26, 3) := by decide +kernel
theorem dL_law_218 : decode cL_law 218 = .ok (.if_icmp .eq 639, 3) := by decide +kernel
theorem dL_law_221 : decode cL_law 221 = .ok (.iconst 0, 1) := by decide +kernel
theorem dL_law_222 : decode cL_law 222 = .ok (.ireturn, 1) := by decide +kernel
theorem dL_law_223 : decode cL_law 223 = .ok (.aload_n 1, 1) := by decide +kernel
theorem dL_law_224 : decode cL_law 224 = .ok (.aload_n 0, 1) := by decide +kernel
theorem dL_law_225 : decode cL_law 225 = .ok (.iload_n 3, 1) := by decide +kernel
theorem dL_law_226 : decode cL_law 226 = .ok (.iconst 1, 1) := by decide +kernel
theorem dL_law_227 : decode cL_law 227 = .ok (.iadd, 1) := by decide +kernel
theorem dL_law_228 : decode cL_law 228 = .ok (.iaload, 1) := by decide +kernel
theorem dL_law_229 : decode cL_law 229 = .ok (.invokevirtual 27, 3) := by decide +kernel
theorem dL_law_232 : decode cL_law 232 = .ok (.aload_n 2, 1) := by decide +kernel
theorem dL_law_233 : decode cL_law 233 = .ok (.aload_n 0, 1) := by decide +kernel
theorem dL_law_234 : decode cL_law 234 = .ok (.iload_n 3, 1) := by decide +kernel
theorem dL_law_235 : decode cL_law 235 = .ok (.iconst 1, 1) := by decide +kernel
theorem dL_law_236 : decode cL_law 236 = .ok (.iadd, 1) := by decide +kernel
theorem dL_law_237 : decode cL_law 237 = .ok (.iaload, 1) := by decide +kernel
theorem dL_law_238 : decode cL_law 238 = .ok (.invokevirtual 30, 3) := by decide +kernel
theorem dL_law_241 : decode cL_law 241 = .ok (.if_icmp .eq 616, 3) := by decide +kernel
theorem dL_law_244 : decode cL_law 244 = .ok (.iconst 0, 1) := by decide +kernel
theorem dL_law_245 : decode cL_law 245 = .ok (.ireturn, 1) := by decide +kernel
theorem dL_law_246 : decode cL_law 246 = .ok (.aload_n 1, 1) := by decide +kernel
theorem dL_law_247 : decode cL_law 247 = .ok (.aload_n 0, 1) := by decide +kernel
theorem dL_law_248 : decode cL_law 248 = .ok (.iload_n 3, 1) := by decide +kernel
theorem dL_law_249 : decode cL_law 249 = .ok (.iconst 1, 1) := by decide +kernel
theorem dL_law_250 : decode cL_law 250 = .ok (.iadd, 1) := by decide +kernel
theorem dL_law_251 : decode cL_law 251 = .ok (.iaload, 1) := by decide +kernel
theorem dL_law_252 : decode cL_law 252 = .ok (.invokevirtual 31, 3) := by decide +kernel
theorem dL_law_255 : decode cL_law 255 = .ok (.aload_n 2, 1) := by decide +kernel
theorem dL_law_256 : decode cL_law 256 = .ok (.aload_n 0, 1) := by decide +kernel
theorem dL_law_257 : decode cL_law 257 = .ok (.iload_n 3, 1) := by decide +kernel
theorem dL_law_258 : decode cL_law 258 = .ok (.iconst 1, 1) := by decide +kernel
theorem dL_law_259 : decode cL_law 259 = .ok (.iadd, 1) := by decide +kernel
theorem dL_law_260 : decode cL_law 260 = .ok (.iaload, 1) := by decide +kernel
theorem dL_law_261 : decode cL_law 261 = .ok (.invokevirtual 34, 3) := by decide +kernel
theorem dL_law_264 : decode cL_law 264 = .ok (.if_icmp .eq 593, 3) := by decide +kernel
theorem dL_law_267 : decode cL_law 267 = .ok (.iconst 0, 1) := by decide +kernel
theorem dL_law_268 : decode cL_law 268 = .ok (.ireturn, 1) := by decide +kernel
theorem dL_law_269 : decode cL_law 269 = .ok (.aload_n 1, 1) := by decide +kernel
theorem dL_law_270 : decode cL_law 270 = .ok (.aload_n 0, 1) := by decide +kernel
theorem dL_law_271 : decode cL_law 271 = .ok (.iload_n 3, 1) := by decide +kernel
theorem dL_law_272 : decode cL_law 272 = .ok (.iconst 1, 1) := by decide +kernel
theorem dL_law_273 : decode cL_law 273 = .ok (.iadd, 1) := by decide +kernel
theorem dL_law_274 : decode cL_law 274 = .ok (.iaload, 1) := by decide +kernel
theorem dL_law_275 : decode cL_law 275 = .ok (.invokevirtual 35, 3) := by decide +kernel
theorem dL_law_278 : decode cL_law 278 = .ok (.aload_n 2, 1) := by decide +kernel
theorem dL_law_279 : decode cL_law 279 = .ok (.aload_n 0, 1) := by decide +kernel
theorem dL_law_280 : decode cL_law 280 = .ok (.iload_n 3, 1) := by decide +kernel
theorem dL_law_281 : decode cL_law 281 = .ok (.iconst 1, 1) := by decide +kernel
theorem dL_law_282 : decode cL_law 282 = .ok (.iadd, 1) := by decide +kernel
theorem dL_law_283 : decode cL_law 283 = .ok (.iaload, 1) := by decide +kernel
theorem dL_law_284 : decode cL_law 284 = .ok (.invokevirtual 38, 3) := by decide +kernel
theorem dL_law_287 : decode cL_law 287 = .ok (.if_icmp .eq 570, 3) := by decide +kernel
theorem dL_law_290 : decode cL_law 290 = .ok (.iconst 0, 1) := by decide +kernel
theorem dL_law_291 : decode cL_law 291 = .ok (.ireturn, 1) := by decide +kernel
theorem dL_law_292 : decode cL_law 292 = .ok (.aload_n 1, 1) := by decide +kernel
theorem dL_law_293 : decode cL_law 293 = .ok (.aload_n 0, 1) := by decide +kernel
theorem dL_law_294 : decode cL_law 294 = .ok (.iload_n 3, 1) := by decide +kernel
theorem dL_law_295 : decode cL_law 295 = .ok (.iconst 1, 1) := by decide +kernel
theorem dL_law_296 : decode cL_law 296 = .ok (.iadd, 1) := by decide +kernel
theorem dL_law_297 : decode cL_law 297 = .ok (.iaload, 1) := by decide +kernel
theorem dL_law_298 : decode cL_law 298 = .ok (.aload_n 0, 1) := by decide +kernel
theorem dL_law_299 : decode cL_law 299 = .ok (.iload_n 3, 1) := by decide +kernel
theorem dL_law_300 : decode cL_law 300 = .ok (.iconst 2, 1) := by decide +kernel
theorem dL_law_301 : decode cL_law 301 = .ok (.iadd, 1) := by decide +kernel
theorem dL_law_302 : decode cL_law 302 = .ok (.iaload, 1) := by decide +kernel
theorem dL_law_303 : decode cL_law 303 = .ok (.aload_n 0, 1) := by decide +kernel
theorem dL_law_304 : decode cL_law 304 = .ok (.iload_n 3, 1) := by decide +kernel
theorem dL_law_305 : decode cL_law 305 = .ok (.iconst 3, 1) := by decide +kernel
theorem dL_law_306 : decode cL_law 306 = .ok (.iadd, 1) := by decide +kernel
theorem dL_law_307 : decode cL_law 307 = .ok (.iaload, 1) := by decide +kernel
theorem dL_law_308 : decode cL_law 308 = .ok (.invokevirtual 39, 3) := by decide +kernel
theorem dL_law_311 : decode cL_law 311 = .ok (.aload_n 2, 1) := by decide +kernel
theorem dL_law_312 : decode cL_law 312 = .ok (.aload_n 0, 1) := by decide +kernel
theorem dL_law_313 : decode cL_law 313 = .ok (.iload_n 3, 1) := by decide +kernel
theorem dL_law_314 : decode cL_law 314 = .ok (.iconst 1, 1) := by decide +kernel
theorem dL_law_315 : decode cL_law 315 = .ok (.iadd, 1) := by decide +kernel
theorem dL_law_316 : decode cL_law 316 = .ok (.iaload, 1) := by decide +kernel
theorem dL_law_317 : decode cL_law 317 = .ok (.aload_n 0, 1) := by decide +kernel
theorem dL_law_318 : decode cL_law 318 = .ok (.iload_n 3, 1) := by decide +kernel
theorem dL_law_319 : decode cL_law 319 = .ok (.iconst 2, 1) := by decide +kernel
theorem dL_law_320 : decode cL_law 320 = .ok (.iadd, 1) := by decide +kernel
theorem dL_law_321 : decode cL_law 321 = .ok (.iaload, 1) := by decide +kernel
theorem dL_law_322 : decode cL_law 322 = .ok (.aload_n 0, 1) := by decide +kernel
theorem dL_law_323 : decode cL_law 323 = .ok (.iload_n 3, 1) := by decide +kernel
theorem dL_law_324 : decode cL_law 324 = .ok (.iconst 3, 1) := by decide +kernel
theorem dL_law_325 : decode cL_law 325 = .ok (.iadd, 1) := by decide +kernel
theorem dL_law_326 : decode cL_law 326 = .ok (.iaload, 1) := by decide +kernel
theorem dL_law_327 : decode cL_law 327 = .ok (.invokevirtual 43, 3) := by decide +kernel
theorem dL_law_330 : decode cL_law 330 = .ok (.if_icmp .eq 527, 3) := by decide +kernel
theorem dL_law_333 : decode cL_law 333 = .ok (.iconst 0, 1) := by decide +kernel
theorem dL_law_334 : decode cL_law 334 = .ok (.ireturn, 1) := by decide +kernel
theorem dL_law_335 : decode cL_law 335 = .ok (.aload_n 1, 1) := by decide +kernel
theorem dL_law_336 : decode cL_law 336 = .ok (.aload_n 0, 1) := by decide +kernel
theorem dL_law_337 : decode cL_law 337 = .ok (.iload_n 3, 1) := by decide +kernel
theorem dL_law_338 : decode cL_law 338 = .ok (.iconst 1, 1) := by decide +kernel
theorem dL_law_339 : decode cL_law 339 = .ok (.iadd, 1) := by decide +kernel
theorem dL_law_340 : decode cL_law 340 = .ok (.iaload, 1) := by decide +kernel
theorem dL_law_341 : decode cL_law 341 = .ok (.aload_n 0, 1) := by decide +kernel
theorem dL_law_342 : decode cL_law 342 = .ok (.iload_n 3, 1) := by decide +kernel
theorem dL_law_343 : decode cL_law 343 = .ok (.iconst 2, 1) := by decide +kernel
theorem dL_law_344 : decode cL_law 344 = .ok (.iadd, 1) := by decide +kernel
theorem dL_law_345 : decode cL_law 345 = .ok (.iaload, 1) := by decide +kernel
theorem dL_law_346 : decode cL_law 346 = .ok (.invokevirtual 44, 3) := by decide +kernel
theorem dL_law_349 : decode cL_law 349 = .ok (.aload_n 2, 1) := by decide +kernel
theorem dL_law_350 : decode cL_law 350 = .ok (.aload_n 0, 1) := by decide +kernel
theorem dL_law_351 : decode cL_law 351 = .ok (.iload_n 3, 1) := by decide +kernel
theorem dL_law_352 : decode cL_law 352 = .ok (.iconst 1, 1) := by decide +kernel
theorem dL_law_353 : decode cL_law 353 = .ok (.iadd, 1) := by decide +kernel
theorem dL_law_354 : decode cL_law 354 = .ok (.iaload, 1) := by decide +kernel
theorem dL_law_355 : decode cL_law 355 = .ok (.aload_n 0, 1) := by decide +kernel
theorem dL_law_356 : decode cL_law 356 = .ok (.iload_n 3, 1) := by decide +kernel
theorem dL_law_357 : decode cL_law 357 = .ok (.iconst 2, 1) := by decide +kernel
theorem dL_law_358 : decode cL_law 358 = .ok (.iadd, 1) := by decide +kernel
theorem dL_law_359 : decode cL_law 359 = .ok (.iaload, 1) := by decide +kernel
theorem dL_law_360 : decode cL_law 360 = .ok (.invokevirtual 47, 3) := by decide +kernel
theorem dL_law_363 : decode cL_law 363 = .ok (.if_icmp .eq 494, 3) := by decide +kernel
theorem dL_law_366 : decode cL_law 366 = .ok (.iconst 0, 1) := by decide +kernel
theorem dL_law_367 : decode cL_law 367 = .ok (.ireturn, 1) := by decide +kernel
theorem dL_law_368 : decode cL_law 368 = .ok (.aload_n 1, 1) := by decide +kernel
theorem dL_law_369 : decode cL_law 369 = .ok (.aload_n 0, 1) := by decide +kernel
theorem dL_law_370 : decode cL_law 370 = .ok (.iload_n 3, 1) := by decide +kernel
theorem dL_law_371 : decode cL_law 371 = .ok (.iconst 1, 1) := by decide +kernel
theorem dL_law_372 : decode cL_law 372 = .ok (.iadd, 1) := by decide +kernel
theorem dL_law_373 : decode cL_law 373 = .ok (.iaload, 1) := by decide +kernel
theorem dL_law_374 : decode cL_law 374 = .ok (.aload_n 0, 1) := by decide +kernel
theorem dL_law_375 : decode cL_law 375 = .ok (.iload_n 3, 1) := by decide +kernel
theorem dL_law_376 : decode cL_law 376 = .ok (.iconst 2, 1) := by decide +kernel
theorem dL_law_377 : decode cL_law 377 = .ok (.iadd, 1) := by decide +kernel
theorem dL_law_378 : decode cL_law 378 = .ok (.iaload, 1) := by decide +kernel
theorem dL_law_379 : decode cL_law 379 = .ok (.invokevirtual 48, 3) := by decide +kernel
theorem dL_law_382 : decode cL_law 382 = .ok (.aload_n 2, 1) := by decide +kernel
theorem dL_law_383 : decode cL_law 383 = .ok (.aload_n 0, 1) := by decide +kernel
theorem dL_law_384 : decode cL_law 384 = .ok (.iload_n 3, 1) := by decide +kernel
theorem dL_law_385 : decode cL_law 385 = .ok (.iconst 1, 1) := by decide +kernel
theorem dL_law_386 : decode cL_law 386 = .ok (.iadd, 1) := by decide +kernel
theorem dL_law_387 : decode cL_law 387 = .ok (.iaload, 1) := by decide +kernel
theorem dL_law_388 : decode cL_law 388 = .ok (.aload_n 0, 1) := by decide +kernel
theorem dL_law_389 : decode cL_law 389 = .ok (.iload_n 3, 1) := by decide +kernel
theorem dL_law_390 : decode cL_law 390 = .ok (.iconst 2, 1) := by decide +kernel
theorem dL_law_391 : decode cL_law 391 = .ok (.iadd, 1) := by decide +kernel
theorem dL_law_392 : decode cL_law 392 = .ok (.iaload, 1) := by decide +kernel
theorem dL_law_393 : decode cL_law 393 = .ok (.invokevirtual 51, 3) := by decide +kernel
theorem dL_law_396 : decode cL_law 396 = .ok (.if_icmp .eq 461, 3) := by decide +kernel
theorem dL_law_399 : decode cL_law 399 = .ok (.iconst 0, 1) := by decide +kernel
theorem dL_law_400 : decode cL_law 400 = .ok (.ireturn, 1) := by decide +kernel
theorem dL_law_401 : decode cL_law 401 = .ok (.aload_n 1, 1) := by decide +kernel
theorem dL_law_402 : decode cL_law 402 = .ok (.aload_n 0, 1) := by decide +kernel
theorem dL_law_403 : decode cL_law 403 = .ok (.iload_n 3, 1) := by decide +kernel
theorem dL_law_404 : decode cL_law 404 = .ok (.iconst 1, 1) := by decide +kernel
theorem dL_law_405 : decode cL_law 405 = .ok (.iadd, 1) := by decide +kernel
theorem dL_law_406 : decode cL_law 406 = .ok (.iaload, 1) := by decide +kernel
theorem dL_law_407 : decode cL_law 407 = .ok (.aload_n 0, 1) := by decide +kernel
theorem dL_law_408 : decode cL_law 408 = .ok (.iload_n 3, 1) := by decide +kernel
theorem dL_law_409 : decode cL_law 409 = .ok (.iconst 2, 1) := by decide +kernel
theorem dL_law_410 : decode cL_law 410 = .ok (.iadd, 1) := by decide +kernel
theorem dL_law_411 : decode cL_law 411 = .ok (.iaload, 1) := by decide +kernel
theorem dL_law_412 : decode cL_law 412 = .ok (.aload_n 0, 1) := by decide +kernel
theorem dL_law_413 : decode cL_law 413 = .ok (.iload_n 3, 1) := by decide +kernel
theorem dL_law_414 : decode cL_law 414 = .ok (.iconst 3, 1) := by decide +kernel
theorem dL_law_415 : decode cL_law 415 = .ok (.iadd, 1) := by decide +kernel
theorem dL_law_416 : decode cL_law 416 = .ok (.iaload, 1) := by decide +kernel
theorem dL_law_417 : decode cL_law 417 = .ok (.invokevirtual 52, 3) := by decide +kernel
theorem dL_law_420 : decode cL_law 420 = .ok (.aload_n 2, 1) := by decide +kernel
theorem dL_law_421 : decode cL_law 421 = .ok (.aload_n 0, 1) := by decide +kernel
theorem dL_law_422 : decode cL_law 422 = .ok (.iload_n 3, 1) := by decide +kernel
theorem dL_law_423 : decode cL_law 423 = .ok (.iconst 1, 1) := by decide +kernel
theorem dL_law_424 : decode cL_law 424 = .ok (.iadd, 1) := by decide +kernel
theorem dL_law_425 : decode cL_law 425 = .ok (.iaload, 1) := by decide +kernel
theorem dL_law_426 : decode cL_law 426 = .ok (.aload_n 0, 1) := by decide +kernel
theorem dL_law_427 : decode cL_law 427 = .ok (.iload_n 3, 1) := by decide +kernel
theorem dL_law_428 : decode cL_law 428 = .ok (.iconst 2, 1) := by decide +kernel
theorem dL_law_429 : decode cL_law 429 = .ok (.iadd, 1) := by decide +kernel
theorem dL_law_430 : decode cL_law 430 = .ok (.iaload, 1) := by decide +kernel
theorem dL_law_431 : decode cL_law 431 = .ok (.aload_n 0, 1) := by decide +kernel
theorem dL_law_432 : decode cL_law 432 = .ok (.iload_n 3, 1) := by decide +kernel
theorem dL_law_433 : decode cL_law 433 = .ok (.iconst 3, 1) := by decide +kernel
theorem dL_law_434 : decode cL_law 434 = .ok (.iadd, 1) := by decide +kernel
theorem dL_law_435 : decode cL_law 435 = .ok (.iaload, 1) := by decide +kernel
theorem dL_law_436 : decode cL_law 436 = .ok (.invokevirtual 55, 3) := by decide +kernel
theorem dL_law_439 : decode cL_law 439 = .ok (.if_icmp .eq 418, 3) := by decide +kernel
theorem dL_law_442 : decode cL_law 442 = .ok (.iconst 0, 1) := by decide +kernel
theorem dL_law_443 : decode cL_law 443 = .ok (.ireturn, 1) := by decide +kernel
theorem dL_law_444 : decode cL_law 444 = .ok (.aload_n 1, 1) := by decide +kernel
theorem dL_law_445 : decode cL_law 445 = .ok (.aload_n 0, 1) := by decide +kernel
theorem dL_law_446 : decode cL_law 446 = .ok (.iload_n 3, 1) := by decide +kernel
theorem dL_law_447 : decode cL_law 447 = .ok (.iconst 1, 1) := by decide +kernel
theorem dL_law_448 : decode cL_law 448 = .ok (.iadd, 1) := by decide +kernel
theorem dL_law_449 : decode cL_law 449 = .ok (.iaload, 1) := by decide +kernel
theorem dL_law_450 : decode cL_law 450 = .ok (.aload_n 0, 1) := by decide +kernel
theorem dL_law_451 : decode cL_law 451 = .ok (.iload_n 3, 1) := by decide +kernel
theorem dL_law_452 : decode cL_law 452 = .ok (.iconst 2, 1) := by decide +kernel
theorem dL_law_453 : decode cL_law 453 = .ok (.iadd, 1) := by decide +kernel
theorem dL_law_454 : decode cL_law 454 = .ok (.iaload, 1) := by decide +kernel
theorem dL_law_455 : decode cL_law 455 = .ok (.aload_n 0, 1) := by decide +kernel
theorem dL_law_456 : decode cL_law 456 = .ok (.iload_n 3, 1) := by decide +kernel
theorem dL_law_457 : decode cL_law 457 = .ok (.iconst 3, 1) := by decide +kernel
theorem dL_law_458 : decode cL_law 458 = .ok (.iadd, 1) := by decide +kernel
theorem dL_law_459 : decode cL_law 459 = .ok (.iaload, 1) := by decide +kernel
theorem dL_law_460 : decode cL_law 460 = .ok (.aload_n 0, 1) := by decide +kernel
theorem dL_law_461 : decode cL_law 461 = .ok (.iload_n 3, 1) := by decide +kernel
theorem dL_law_462 : decode cL_law 462 = .ok (.iconst 4, 1) := by decide +kernel
theorem dL_law_463 : decode cL_law 463 = .ok (.iadd, 1) := by decide +kernel
theorem dL_law_464 : decode cL_law 464 = .ok (.iaload, 1) := by decide +kernel
theorem dL_law_465 : decode cL_law 465 = .ok (.invokevirtual 56, 3) := by decide +kernel
theorem dL_law_468 : decode cL_law 468 = .ok (.aload_n 2, 1) := by decide +kernel
theorem dL_law_469 : decode cL_law 469 = .ok (.aload_n 0, 1) := by decide +kernel
theorem dL_law_470 : decode cL_law 470 = .ok (.iload_n 3, 1) := by decide +kernel
theorem dL_law_471 : decode cL_law 471 = .ok (.iconst 1, 1) := by decide +kernel
theorem dL_law_472 : decode cL_law 472 = .ok (.iadd, 1) := by decide +kernel
theorem dL_law_473 : decode cL_law 473 = .ok (.iaload, 1) := by decide +kernel
theorem dL_law_474 : decode cL_law 474 = .ok (.aload_n 0, 1) := by decide +kernel
theorem dL_law_475 : decode cL_law 475 = .ok (.iload_n 3, 1) := by decide +kernel
theorem dL_law_476 : decode cL_law 476 = .ok (.iconst 2, 1) := by decide +kernel
theorem dL_law_477 : decode cL_law 477 = .ok (.iadd, 1) := by decide +kernel
theorem dL_law_478 : decode cL_law 478 = .ok (.iaload, 1) := by decide +kernel
theorem dL_law_479 : decode cL_law 479 = .ok (.aload_n 0, 1) := by decide +kernel
theorem dL_law_480 : decode cL_law 480 = .ok (.iload_n 3, 1) := by decide +kernel
theorem dL_law_481 : decode cL_law 481 = .ok (.iconst 3, 1) := by decide +kernel
theorem dL_law_482 : decode cL_law 482 = .ok (.iadd, 1) := by decide +kernel
theorem dL_law_483 : decode cL_law 483 = .ok (.iaload, 1) := by decide +kernel
theorem dL_law_484 : decode cL_law 484 = .ok (.aload_n 0, 1) := by decide +kernel
theorem dL_law_485 : decode cL_law 485 = .ok (.iload_n 3, 1) := by decide +kernel
theorem dL_law_486 : decode cL_law 486 = .ok (.iconst 4, 1) := by decide +kernel
theorem dL_law_487 : decode cL_law 487 = .ok (.iadd, 1) := by decide +kernel
theorem dL_law_488 : decode cL_law 488 = .ok (.iaload, 1) := by decide +kernel
theorem dL_law_489 : decode cL_law 489 = .ok (.invokevirtual 60, 3) := by decide +kernel
theorem dL_law_492 : decode cL_law 492 = .ok (.if_icmp .eq 365, 3) := by decide +kernel
theorem dL_law_495 : decode cL_law 495 = .ok (.iconst 0, 1) := by decide +kernel
theorem dL_law_496 : decode cL_law 496 = .ok (.ireturn, 1) := by decide +kernel
theorem dL_law_497 : decode cL_law 497 = .ok (.aload_n 1, 1) := by decide +kernel
theorem dL_law_498 : decode cL_law 498 = .ok (.aload_n 0, 1) := by decide +kernel
theorem dL_law_499 : decode cL_law 499 = .ok (.iload_n 3, 1) := by decide +kernel
theorem dL_law_500 : decode cL_law 500 = .ok (.iconst 1, 1) := by decide +kernel
theorem dL_law_501 : decode cL_law 501 = .ok (.iadd, 1) := by decide +kernel
theorem dL_law_502 : decode cL_law 502 = .ok (.iaload, 1) := by decide +kernel
theorem dL_law_503 : decode cL_law 503 = .ok (.invokevirtual 61, 3) := by decide +kernel
theorem dL_law_506 : decode cL_law 506 = .ok (.aload_n 2, 1) := by decide +kernel
theorem dL_law_507 : decode cL_law 507 = .ok (.aload_n 0, 1) := by decide +kernel
theorem dL_law_508 : decode cL_law 508 = .ok (.iload_n 3, 1) := by decide +kernel
theorem dL_law_509 : decode cL_law 509 = .ok (.iconst 1, 1) := by decide +kernel
theorem dL_law_510 : decode cL_law 510 = .ok (.iadd, 1) := by decide +kernel
theorem dL_law_511 : decode cL_law 511 = .ok (.iaload, 1) := by decide +kernel
theorem dL_law_512 : decode cL_law 512 = .ok (.invokevirtual 64, 3) := by decide +kernel
theorem dL_law_515 : decode cL_law 515 = .ok (.if_icmp .eq 342, 3) := by decide +kernel
theorem dL_law_518 : decode cL_law 518 = .ok (.iconst 0, 1) := by decide +kernel
theorem dL_law_519 : decode cL_law 519 = .ok (.ireturn, 1) := by decide +kernel
theorem dL_law_520 : decode cL_law 520 = .ok (.aload_n 1, 1) := by decide +kernel
theorem dL_law_521 : decode cL_law 521 = .ok (.aload_n 0, 1) := by decide +kernel
theorem dL_law_522 : decode cL_law 522 = .ok (.iload_n 3, 1) := by decide +kernel
theorem dL_law_523 : decode cL_law 523 = .ok (.iconst 1, 1) := by decide +kernel
theorem dL_law_524 : decode cL_law 524 = .ok (.iadd, 1) := by decide +kernel
theorem dL_law_525 : decode cL_law 525 = .ok (.iaload, 1) := by decide +kernel
theorem dL_law_526 : decode cL_law 526 = .ok (.invokevirtual 65, 3) := by decide +kernel
theorem dL_law_529 : decode cL_law 529 = .ok (.aload_n 2, 1) := by decide +kernel
theorem dL_law_530 : decode cL_law 530 = .ok (.aload_n 0, 1) := by decide +kernel
theorem dL_law_531 : decode cL_law 531 = .ok (.iload_n 3, 1) := by decide +kernel
theorem dL_law_532 : decode cL_law 532 = .ok (.iconst 1, 1) := by decide +kernel
theorem dL_law_533 : decode cL_law 533 = .ok (.iadd, 1) := by decide +kernel
theorem dL_law_534 : decode cL_law 534 = .ok (.iaload, 1) := by decide +kernel
theorem dL_law_535 : decode cL_law 535 = .ok (.invokevirtual 68, 3) := by decide +kernel
theorem dL_law_538 : decode cL_law 538 = .ok (.if_icmp .eq 319, 3) := by decide +kernel
theorem dL_law_541 : decode cL_law 541 = .ok (.iconst 0, 1) := by decide +kernel
theorem dL_law_542 : decode cL_law 542 = .ok (.ireturn, 1) := by decide +kernel
theorem dL_law_543 : decode cL_law 543 = .ok (.aload_n 1, 1) := by decide +kernel
theorem dL_law_544 : decode cL_law 544 = .ok (.aload_n 0, 1) := by decide +kernel
theorem dL_law_545 : decode cL_law 545 = .ok (.iload_n 3, 1) := by decide +kernel
theorem dL_law_546 : decode cL_law 546 = .ok (.iconst 1, 1) := by decide +kernel
theorem dL_law_547 : decode cL_law 547 = .ok (.iadd, 1) := by decide +kernel
theorem dL_law_548 : decode cL_law 548 = .ok (.iaload, 1) := by decide +kernel
theorem dL_law_549 : decode cL_law 549 = .ok (.aload_n 0, 1) := by decide +kernel
theorem dL_law_550 : decode cL_law 550 = .ok (.iload_n 3, 1) := by decide +kernel
theorem dL_law_551 : decode cL_law 551 = .ok (.iconst 2, 1) := by decide +kernel
theorem dL_law_552 : decode cL_law 552 = .ok (.iadd, 1) := by decide +kernel
theorem dL_law_553 : decode cL_law 553 = .ok (.iaload, 1) := by decide +kernel
theorem dL_law_554 : decode cL_law 554 = .ok (.aload_n 0, 1) := by decide +kernel
theorem dL_law_555 : decode cL_law 555 = .ok (.iload_n 3, 1) := by decide +kernel
theorem dL_law_556 : decode cL_law 556 = .ok (.iconst 3, 1) := by decide +kernel
theorem dL_law_557 : decode cL_law 557 = .ok (.iadd, 1) := by decide +kernel
theorem dL_law_558 : decode cL_law 558 = .ok (.iaload, 1) := by decide +kernel
theorem dL_law_559 : decode cL_law 559 = .ok (.invokevirtual 69, 3) := by decide +kernel
theorem dL_law_562 : decode cL_law 562 = .ok (.aload_n 2, 1) := by decide +kernel
theorem dL_law_563 : decode cL_law 563 = .ok (.aload_n 0, 1) := by decide +kernel
theorem dL_law_564 : decode cL_law 564 = .ok (.iload_n 3, 1) := by decide +kernel
theorem dL_law_565 : decode cL_law 565 = .ok (.iconst 1, 1) := by decide +kernel
theorem dL_law_566 : decode cL_law 566 = .ok (.iadd, 1) := by decide +kernel
theorem dL_law_567 : decode cL_law 567 = .ok (.iaload, 1) := by decide +kernel
theorem dL_law_568 : decode cL_law 568 = .ok (.aload_n 0, 1) := by decide +kernel
theorem dL_law_569 : decode cL_law 569 = .ok (.iload_n 3, 1) := by decide +kernel
theorem dL_law_570 : decode cL_law 570 = .ok (.iconst 2, 1) := by decide +kernel
theorem dL_law_571 : decode cL_law 571 = .ok (.iadd, 1) := by decide +kernel
theorem dL_law_572 : decode cL_law 572 = .ok (.iaload, 1) := by decide +kernel
theorem dL_law_573 : decode cL_law 573 = .ok (.aload_n 0, 1) := by decide +kernel
theorem dL_law_574 : decode cL_law 574 = .ok (.iload_n 3, 1) := by decide +kernel
theorem dL_law_575 : decode cL_law 575 = .ok (.iconst 3, 1) := by decide +kernel
theorem dL_law_576 : decode cL_law 576 = .ok (.iadd, 1) := by decide +kernel
theorem dL_law_577 : decode cL_law 577 = .ok (.iaload, 1) := by decide +kernel
theorem dL_law_578 : decode cL_law 578 = .ok (.invokevirtual 72, 3) := by decide +kernel
theorem dL_law_581 : decode cL_law 581 = .ok (.if_icmp .eq 276, 3) := by decide +kernel
theorem dL_law_584 : decode cL_law 584 = .ok (.iconst 0, 1) := by decide +kernel
theorem dL_law_585 : decode cL_law 585 = .ok (.ireturn, 1) := by decide +kernel
theorem dL_law_586 : decode cL_law 586 = .ok (.aload_n 1, 1) := by decide +kernel
theorem dL_law_587 : decode cL_law 587 = .ok (.aload_n 0, 1) := by decide +kernel
theorem dL_law_588 : decode cL_law 588 = .ok (.iload_n 3, 1) := by decide +kernel
theorem dL_law_589 : decode cL_law 589 = .ok (.iconst 1, 1) := by decide +kernel
theorem dL_law_590 : decode cL_law 590 = .ok (.iadd, 1) := by decide +kernel
theorem dL_law_591 : decode cL_law 591 = .ok (.iaload, 1) := by decide +kernel
theorem dL_law_592 : decode cL_law 592 = .ok (.aload_n 0, 1) := by decide +kernel
theorem dL_law_593 : decode cL_law 593 = .ok (.iload_n 3, 1) := by decide +kernel
theorem dL_law_594 : decode cL_law 594 = .ok (.iconst 2, 1) := by decide +kernel
theorem dL_law_595 : decode cL_law 595 = .ok (.iadd, 1) := by decide +kernel
theorem dL_law_596 : decode cL_law 596 = .ok (.iaload, 1) := by decide +kernel
theorem dL_law_597 : decode cL_law 597 = .ok (.aload_n 0, 1) := by decide +kernel
theorem dL_law_598 : decode cL_law 598 = .ok (.iload_n 3, 1) := by decide +kernel
theorem dL_law_599 : decode cL_law 599 = .ok (.iconst 3, 1) := by decide +kernel
theorem dL_law_600 : decode cL_law 600 = .ok (.iadd, 1) := by decide +kernel
theorem dL_law_601 : decode cL_law 601 = .ok (.iaload, 1) := by decide +kernel
theorem dL_law_602 : decode cL_law 602 = .ok (.invokevirtual 73, 3) := by decide +kernel
theorem dL_law_605 : decode cL_law 605 = .ok (.aload_n 2, 1) := by decide +kernel
theorem dL_law_606 : decode cL_law 606 = .ok (.aload_n 0, 1) := by decide +kernel
theorem dL_law_607 : decode cL_law 607 = .ok (.iload_n 3, 1) := by decide +kernel
theorem dL_law_608 : decode cL_law 608 = .ok (.iconst 1, 1) := by decide +kernel
theorem dL_law_609 : decode cL_law 609 = .ok (.iadd, 1) := by decide +kernel
theorem dL_law_610 : decode cL_law 610 = .ok (.iaload, 1) := by decide +kernel
theorem dL_law_611 : decode cL_law 611 = .ok (.aload_n 0, 1) := by decide +kernel
theorem dL_law_612 : decode cL_law 612 = .ok (.iload_n 3, 1) := by decide +kernel
theorem dL_law_613 : decode cL_law 613 = .ok (.iconst 2, 1) := by decide +kernel
theorem dL_law_614 : decode cL_law 614 = .ok (.iadd, 1) := by decide +kernel
theorem dL_law_615 : decode cL_law 615 = .ok (.iaload, 1) := by decide +kernel
theorem dL_law_616 : decode cL_law 616 = .ok (.aload_n 0, 1) := by decide +kernel
theorem dL_law_617 : decode cL_law 617 = .ok (.iload_n 3, 1) := by decide +kernel
theorem dL_law_618 : decode cL_law 618 = .ok (.iconst 3, 1) := by decide +kernel
theorem dL_law_619 : decode cL_law 619 = .ok (.iadd, 1) := by decide +kernel
theorem dL_law_620 : decode cL_law 620 = .ok (.iaload, 1) := by decide +kernel
theorem dL_law_621 : decode cL_law 621 = .ok (.invokevirtual 76, 3) := by decide +kernel
theorem dL_law_624 : decode cL_law 624 = .ok (.if_icmp .eq 233, 3) := by decide +kernel
theorem dL_law_627 : decode cL_law 627 = .ok (.iconst 0, 1) := by decide +kernel
theorem dL_law_628 : decode cL_law 628 = .ok (.ireturn, 1) := by decide +kernel
theorem dL_law_629 : decode cL_law 629 = .ok (.aload_n 1, 1) := by decide +kernel
theorem dL_law_630 : decode cL_law 630 = .ok (.aload_n 0, 1) := by decide +kernel
theorem dL_law_631 : decode cL_law 631 = .ok (.iload_n 3, 1) := by decide +kernel
theorem dL_law_632 : decode cL_law 632 = .ok (.iconst 1, 1) := by decide +kernel
theorem dL_law_633 : decode cL_law 633 = .ok (.iadd, 1) := by decide +kernel
theorem dL_law_634 : decode cL_law 634 = .ok (.iaload, 1) := by decide +kernel
theorem dL_law_635 : decode cL_law 635 = .ok (.invokevirtual 77, 3) := by decide +kernel
theorem dL_law_638 : decode cL_law 638 = .ok (.aload_n 2, 1) := by decide +kernel
theorem dL_law_639 : decode cL_law 639 = .ok (.aload_n 0, 1) := by decide +kernel
theorem dL_law_640 : decode cL_law 640 = .ok (.iload_n 3, 1) := by decide +kernel
theorem dL_law_641 : decode cL_law 641 = .ok (.iconst 1, 1) := by decide +kernel
theorem dL_law_642 : decode cL_law 642 = .ok (.iadd, 1) := by decide +kernel
theorem dL_law_643 : decode cL_law 643 = .ok (.iaload, 1) := by decide +kernel
theorem dL_law_644 : decode cL_law 644 = .ok (.invokevirtual 80, 3) := by decide +kernel
theorem dL_law_647 : decode cL_law 647 = .ok (.if_icmp .eq 210, 3) := by decide +kernel
theorem dL_law_650 : decode cL_law 650 = .ok (.iconst 0, 1) := by decide +kernel
theorem dL_law_651 : decode cL_law 651 = .ok (.ireturn, 1) := by decide +kernel
theorem dL_law_652 : decode cL_law 652 = .ok (.aload_n 1, 1) := by decide +kernel
theorem dL_law_653 : decode cL_law 653 = .ok (.aload_n 0, 1) := by decide +kernel
theorem dL_law_654 : decode cL_law 654 = .ok (.iload_n 3, 1) := by decide +kernel
theorem dL_law_655 : decode cL_law 655 = .ok (.iconst 1, 1) := by decide +kernel
theorem dL_law_656 : decode cL_law 656 = .ok (.iadd, 1) := by decide +kernel
theorem dL_law_657 : decode cL_law 657 = .ok (.iaload, 1) := by decide +kernel
theorem dL_law_658 : decode cL_law 658 = .ok (.invokevirtual 81, 3) := by decide +kernel
theorem dL_law_661 : decode cL_law 661 = .ok (.aload_n 2, 1) := by decide +kernel
theorem dL_law_662 : decode cL_law 662 = .ok (.aload_n 0, 1) := by decide +kernel
theorem dL_law_663 : decode cL_law 663 = .ok (.iload_n 3, 1) := by decide +kernel
theorem dL_law_664 : decode cL_law 664 = .ok (.iconst 1, 1) := by decide +kernel
theorem dL_law_665 : decode cL_law 665 = .ok (.iadd, 1) := by decide +kernel
theorem dL_law_666 : decode cL_law 666 = .ok (.iaload, 1) := by decide +kernel
theorem dL_law_667 : decode cL_law 667 = .ok (.invokevirtual 84, 3) := by decide +kernel
theorem dL_law_670 : decode cL_law 670 = .ok (.if_icmp .eq 187, 3) := by decide +kernel
theorem dL_law_673 : decode cL_law 673 = .ok (.iconst 0, 1) := by decide +kernel
theorem dL_law_674 : decode cL_law 674 = .ok (.ireturn, 1) := by decide +kernel
theorem dL_law_675 : decode cL_law 675 = .ok (.aload_n 1, 1) := by decide +kernel
theorem dL_law_676 : decode cL_law 676 = .ok (.aload_n 0, 1) := by decide +kernel
theorem dL_law_677 : decode cL_law 677 = .ok (.iload_n 3, 1) := by decide +kernel
theorem dL_law_678 : decode cL_law 678 = .ok (.iconst 1, 1) := by decide +kernel
theorem dL_law_679 : decode cL_law 679 = .ok (.iadd, 1) := by decide +kernel
theorem dL_law_680 : decode cL_law 680 = .ok (.iaload, 1) := by decide +kernel
theorem dL_law_681 : decode cL_law 681 = .ok (.invokevirtual 85, 3) := by decide +kernel
theorem dL_law_684 : decode cL_law 684 = .ok (.aload_n 2, 1) := by decide +kernel
theorem dL_law_685 : decode cL_law 685 = .ok (.aload_n 0, 1) := by decide +kernel
theorem dL_law_686 : decode cL_law 686 = .ok (.iload_n 3, 1) := by decide +kernel
theorem dL_law_687 : decode cL_law 687 = .ok (.iconst 1, 1) := by decide +kernel
theorem dL_law_688 : decode cL_law 688 = .ok (.iadd, 1) := by decide +kernel
theorem dL_law_689 : decode cL_law 689 = .ok (.iaload, 1) := by decide +kernel
theorem dL_law_690 : decode cL_law 690 = .ok (.invokevirtual 88, 3) := by decide +kernel
theorem dL_law_693 : decode cL_law 693 = .ok (.if_icmp .eq 164, 3) := by decide +kernel
theorem dL_law_696 : decode cL_law 696 = .ok (.iconst 0, 1) := by decide +kernel
theorem dL_law_697 : decode cL_law 697 = .ok (.ireturn, 1) := by decide +kernel
theorem dL_law_698 : decode cL_law 698 = .ok (.aload_n 1, 1) := by decide +kernel
theorem dL_law_699 : decode cL_law 699 = .ok (.aload_n 0, 1) := by decide +kernel
theorem dL_law_700 : decode cL_law 700 = .ok (.iload_n 3, 1) := by decide +kernel
theorem dL_law_701 : decode cL_law 701 = .ok (.iconst 1, 1) := by decide +kernel
theorem dL_law_702 : decode cL_law 702 = .ok (.iadd, 1) := by decide +kernel
theorem dL_law_703 : decode cL_law 703 = .ok (.iaload, 1) := by decide +kernel
theorem dL_law_704 : decode cL_law 704 = .ok (.invokevirtual 89, 3) := by decide +kernel
theorem dL_law_707 : decode cL_law 707 = .ok (.aload_n 2, 1) := by decide +kernel
theorem dL_law_708 : decode cL_law 708 = .ok (.aload_n 0, 1) := by decide +kernel
theorem dL_law_709 : decode cL_law 709 = .ok (.iload_n 3, 1) := by decide +kernel
theorem dL_law_710 : decode cL_law 710 = .ok (.iconst 1, 1) := by decide +kernel
theorem dL_law_711 : decode cL_law 711 = .ok (.iadd, 1) := by decide +kernel
theorem dL_law_712 : decode cL_law 712 = .ok (.iaload, 1) := by decide +kernel
theorem dL_law_713 : decode cL_law 713 = .ok (.invokevirtual 92, 3) := by decide +kernel
theorem dL_law_716 : decode cL_law 716 = .ok (.if_icmp .eq 141, 3) := by decide +kernel
theorem dL_law_719 : decode cL_law 719 = .ok (.iconst 0, 1) := by decide +kernel
theorem dL_law_720 : decode cL_law 720 = .ok (.ireturn, 1) := by decide +kernel
theorem dL_law_721 : decode cL_law 721 = .ok (.aload_n 1, 1) := by decide +kernel
theorem dL_law_722 : decode cL_law 722 = .ok (.aload_n 0, 1) := by decide +kernel
theorem dL_law_723 : decode cL_law 723 = .ok (.iload_n 3, 1) := by decide +kernel
theorem dL_law_724 : decode cL_law 724 = .ok (.iconst 1, 1) := by decide +kernel
theorem dL_law_725 : decode cL_law 725 = .ok (.iadd, 1) := by decide +kernel
theorem dL_law_726 : decode cL_law 726 = .ok (.iaload, 1) := by decide +kernel
theorem dL_law_727 : decode cL_law 727 = .ok (.invokevirtual 93, 3) := by decide +kernel
theorem dL_law_730 : decode cL_law 730 = .ok (.aload_n 2, 1) := by decide +kernel
theorem dL_law_731 : decode cL_law 731 = .ok (.aload_n 0, 1) := by decide +kernel
theorem dL_law_732 : decode cL_law 732 = .ok (.iload_n 3, 1) := by decide +kernel
theorem dL_law_733 : decode cL_law 733 = .ok (.iconst 1, 1) := by decide +kernel
theorem dL_law_734 : decode cL_law 734 = .ok (.iadd, 1) := by decide +kernel
theorem dL_law_735 : decode cL_law 735 = .ok (.iaload, 1) := by decide +kernel
theorem dL_law_736 : decode cL_law 736 = .ok (.invokevirtual 96, 3) := by decide +kernel
theorem dL_law_739 : decode cL_law 739 = .ok (.if_icmp .eq 118, 3) := by decide +kernel
theorem dL_law_742 : decode cL_law 742 = .ok (.iconst 0, 1) := by decide +kernel
theorem dL_law_743 : decode cL_law 743 = .ok (.ireturn, 1) := by decide +kernel
theorem dL_law_744 : decode cL_law 744 = .ok (.aload_n 1, 1) := by decide +kernel
theorem dL_law_745 : decode cL_law 745 = .ok (.aload_n 0, 1) := by decide +kernel
theorem dL_law_746 : decode cL_law 746 = .ok (.iload_n 3, 1) := by decide +kernel
theorem dL_law_747 : decode cL_law 747 = .ok (.iconst 1, 1) := by decide +kernel
theorem dL_law_748 : decode cL_law 748 = .ok (.iadd, 1) := by decide +kernel
theorem dL_law_749 : decode cL_law 749 = .ok (.iaload, 1) := by decide +kernel
theorem dL_law_750 : decode cL_law 750 = .ok (.aload_n 0, 1) := by decide +kernel
theorem dL_law_751 : decode cL_law 751 = .ok (.iload_n 3, 1) := by decide +kernel
theorem dL_law_752 : decode cL_law 752 = .ok (.iconst 2, 1) := by decide +kernel
theorem dL_law_753 : decode cL_law 753 = .ok (.iadd, 1) := by decide +kernel
theorem dL_law_754 : decode cL_law 754 = .ok (.iaload, 1) := by decide +kernel
theorem dL_law_755 : decode cL_law 755 = .ok (.invokevirtual 97, 3) := by decide +kernel
theorem dL_law_758 : decode cL_law 758 = .ok (.aload_n 2, 1) := by decide +kernel
theorem dL_law_759 : decode cL_law 759 = .ok (.aload_n 0, 1) := by decide +kernel
theorem dL_law_760 : decode cL_law 760 = .ok (.iload_n 3, 1) := by decide +kernel
theorem dL_law_761 : decode cL_law 761 = .ok (.iconst 1, 1) := by decide +kernel
theorem dL_law_762 : decode cL_law 762 = .ok (.iadd, 1) := by decide +kernel
theorem dL_law_763 : decode cL_law 763 = .ok (.iaload, 1) := by decide +kernel
theorem dL_law_764 : decode cL_law 764 = .ok (.aload_n 0, 1) := by decide +kernel
theorem dL_law_765 : decode cL_law 765 = .ok (.iload_n 3, 1) := by decide +kernel
theorem dL_law_766 : decode cL_law 766 = .ok (.iconst 2, 1) := by decide +kernel
theorem dL_law_767 : decode cL_law 767 = .ok (.iadd, 1) := by decide +kernel
theorem dL_law_768 : decode cL_law 768 = .ok (.iaload, 1) := by decide +kernel
theorem dL_law_769 : decode cL_law 769 = .ok (.invokevirtual 100, 3) := by decide +kernel
theorem dL_law_772 : decode cL_law 772 = .ok (.if_icmp .eq 85, 3) := by decide +kernel
theorem dL_law_775 : decode cL_law 775 = .ok (.iconst 0, 1) := by decide +kernel
theorem dL_law_776 : decode cL_law 776 = .ok (.ireturn, 1) := by decide +kernel
theorem dL_law_777 : decode cL_law 777 = .ok (.aload_n 1, 1) := by decide +kernel
theorem dL_law_778 : decode cL_law 778 = .ok (.invokevirtual 101, 3) := by decide +kernel
theorem dL_law_781 : decode cL_law 781 = .ok (.aload_n 2, 1) := by decide +kernel
theorem dL_law_782 : decode cL_law 782 = .ok (.invokevirtual 105, 3) := by decide +kernel
theorem dL_law_785 : decode cL_law 785 = .ok (.if_icmp .eq 72, 3) := by decide +kernel
theorem dL_law_788 : decode cL_law 788 = .ok (.iconst 0, 1) := by decide +kernel
theorem dL_law_789 : decode cL_law 789 = .ok (.ireturn, 1) := by decide +kernel
theorem dL_law_790 : decode cL_law 790 = .ok (.aload_n 1, 1) := by decide +kernel
theorem dL_law_791 : decode cL_law 791 = .ok (.aload_n 0, 1) := by decide +kernel
theorem dL_law_792 : decode cL_law 792 = .ok (.iload_n 3, 1) := by decide +kernel
theorem dL_law_793 : decode cL_law 793 = .ok (.iconst 1, 1) := by decide +kernel
theorem dL_law_794 : decode cL_law 794 = .ok (.iadd, 1) := by decide +kernel
theorem dL_law_795 : decode cL_law 795 = .ok (.iaload, 1) := by decide +kernel
theorem dL_law_796 : decode cL_law 796 = .ok (.aload_n 0, 1) := by decide +kernel
theorem dL_law_797 : decode cL_law 797 = .ok (.iload_n 3, 1) := by decide +kernel
theorem dL_law_798 : decode cL_law 798 = .ok (.iconst 2, 1) := by decide +kernel
theorem dL_law_799 : decode cL_law 799 = .ok (.iadd, 1) := by decide +kernel
theorem dL_law_800 : decode cL_law 800 = .ok (.iaload, 1) := by decide +kernel
theorem dL_law_801 : decode cL_law 801 = .ok (.aload_n 0, 1) := by decide +kernel
theorem dL_law_802 : decode cL_law 802 = .ok (.iload_n 3, 1) := by decide +kernel
theorem dL_law_803 : decode cL_law 803 = .ok (.iconst 3, 1) := by decide +kernel
theorem dL_law_804 : decode cL_law 804 = .ok (.iadd, 1) := by decide +kernel
theorem dL_law_805 : decode cL_law 805 = .ok (.iaload, 1) := by decide +kernel
theorem dL_law_806 : decode cL_law 806 = .ok (.invokevirtual 106, 3) := by decide +kernel
theorem dL_law_809 : decode cL_law 809 = .ok (.aload_n 2, 1) := by decide +kernel
theorem dL_law_810 : decode cL_law 810 = .ok (.aload_n 0, 1) := by decide +kernel
theorem dL_law_811 : decode cL_law 811 = .ok (.iload_n 3, 1) := by decide +kernel
theorem dL_law_812 : decode cL_law 812 = .ok (.iconst 1, 1) := by decide +kernel
theorem dL_law_813 : decode cL_law 813 = .ok (.iadd, 1) := by decide +kernel
theorem dL_law_814 : decode cL_law 814 = .ok (.iaload, 1) := by decide +kernel
theorem dL_law_815 : decode cL_law 815 = .ok (.aload_n 0, 1) := by decide +kernel
theorem dL_law_816 : decode cL_law 816 = .ok (.iload_n 3, 1) := by decide +kernel
theorem dL_law_817 : decode cL_law 817 = .ok (.iconst 2, 1) := by decide +kernel
theorem dL_law_818 : decode cL_law 818 = .ok (.iadd, 1) := by decide +kernel
theorem dL_law_819 : decode cL_law 819 = .ok (.iaload, 1) := by decide +kernel
theorem dL_law_820 : decode cL_law 820 = .ok (.aload_n 0, 1) := by decide +kernel
theorem dL_law_821 : decode cL_law 821 = .ok (.iload_n 3, 1) := by decide +kernel
theorem dL_law_822 : decode cL_law 822 = .ok (.iconst 3, 1) := by decide +kernel
theorem dL_law_823 : decode cL_law 823 = .ok (.iadd, 1) := by decide +kernel
theorem dL_law_824 : decode cL_law 824 = .ok (.iaload, 1) := by decide +kernel
theorem dL_law_825 : decode cL_law 825 = .ok (.invokevirtual 110, 3) := by decide +kernel
theorem dL_law_828 : decode cL_law 828 = .ok (.lcmp, 1) := by decide +kernel
theorem dL_law_829 : decode cL_law 829 = .ok (.ifCond .eq 28, 3) := by decide +kernel
theorem dL_law_832 : decode cL_law 832 = .ok (.iconst 0, 1) := by decide +kernel
theorem dL_law_833 : decode cL_law 833 = .ok (.ireturn, 1) := by decide +kernel
theorem dL_law_834 : decode cL_law 834 = .ok (.aload_n 1, 1) := by decide +kernel
theorem dL_law_835 : decode cL_law 835 = .ok (.aload_n 0, 1) := by decide +kernel
theorem dL_law_836 : decode cL_law 836 = .ok (.iload_n 3, 1) := by decide +kernel
theorem dL_law_837 : decode cL_law 837 = .ok (.iconst 1, 1) := by decide +kernel
theorem dL_law_838 : decode cL_law 838 = .ok (.iadd, 1) := by decide +kernel
theorem dL_law_839 : decode cL_law 839 = .ok (.iaload, 1) := by decide +kernel
theorem dL_law_840 : decode cL_law 840 = .ok (.invokevirtual 111, 3) := by decide +kernel
theorem dL_law_843 : decode cL_law 843 = .ok (.aload_n 2, 1) := by decide +kernel
theorem dL_law_844 : decode cL_law 844 = .ok (.aload_n 0, 1) := by decide +kernel
theorem dL_law_845 : decode cL_law 845 = .ok (.iload_n 3, 1) := by decide +kernel
theorem dL_law_846 : decode cL_law 846 = .ok (.iconst 1, 1) := by decide +kernel
theorem dL_law_847 : decode cL_law 847 = .ok (.iadd, 1) := by decide +kernel
theorem dL_law_848 : decode cL_law 848 = .ok (.iaload, 1) := by decide +kernel
theorem dL_law_849 : decode cL_law 849 = .ok (.invokevirtual 114, 3) := by decide +kernel
theorem dL_law_852 : decode cL_law 852 = .ok (.if_icmp .eq 5, 3) := by decide +kernel
theorem dL_law_855 : decode cL_law 855 = .ok (.iconst 0, 1) := by decide +kernel
theorem dL_law_856 : decode cL_law 856 = .ok (.ireturn, 1) := by decide +kernel
theorem dL_law_857 : decode cL_law 857 = .ok (.iinc 3 5, 3) := by decide +kernel
theorem dL_law_860 : decode cL_law 860 = .ok (.goto (-842), 3) := by decide +kernel
theorem dL_law_863 : decode cL_law 863 = .ok (.iconst 1, 1) := by decide +kernel
theorem dL_law_864 : decode cL_law 864 = .ok (.ireturn, 1) := by decide +kernel
end
section
theorem fX2_11 : r_Fl RX2 11 2 0 := ⟨RX2, TX2, 5, rfl, iwX2, by decide, lk 25 (by decide +kernel), rfl⟩
theorem fX2_15 : r_Fl RX2 15 2 1 := ⟨RX2, TX2, 5, rfl, iwX2, by decide, lk 26 (by decide +kernel), rfl⟩
theorem fX2_18 : r_Fl RX2 18 2 2 := ⟨RX2, TX2, 5, rfl, iwX2, by decide, lk 27 (by decide +kernel), rfl⟩
theorem fX2_24 : r_Fl RX2 24 2 3 := ⟨RX2, TX2, 5, rfl, iwX2, by decide, lk 28 (by decide +kernel), rfl⟩
theorem pX2_24 : r_Fp RX2 24 2 3 .int := ⟨RX2, TX2, 5, rfl, iwX2, by decide, lk 28 (by decide +kernel), rfl, tyX2, tyX2_ok, nmX2, rfl, by decide +kernel⟩
theorem fX2_28 : r_Fl RX2 28 2 4 := ⟨RX2, TX2, 5, rfl, iwX2, by decide, lk 29 (by decide +kernel), rfl⟩
theorem pX2_28 : r_Fp RX2 28 2 4 .int := ⟨RX2, TX2, 5, rfl, iwX2, by decide, lk 29 (by decide +kernel), rfl, tyX2, tyX2_ok, nmX2, rfl, by decide +kernel⟩
theorem fX1_13 : r_Fl RX1 13 1 0 := ⟨RX1, TX1, 3, rfl, iwX1, by decide, lk 54 (by decide +kernel), rfl⟩
theorem fX1_17 : r_Fl RX1 17 1 1 := ⟨RX1, TX1, 3, rfl, iwX1, by decide, lk 55 (by decide +kernel), rfl⟩
theorem fX1_20 : r_Fl RX1 20 1 2 := ⟨RX1, TX1, 3, rfl, iwX1, by decide, lk 56 (by decide +kernel), rfl⟩
theorem fX4_9 : r_Fl RX4 9 4 0 := ⟨RX4, TX4, 10, rfl, iwX4, by decide, lk 70 (by decide +kernel), rfl⟩
theorem fX4_15 : r_Fl RX4 15 4 1 := ⟨RX4, TX4, 10, rfl, iwX4, by decide, lk 71 (by decide +kernel), rfl⟩
theorem fX4_18 : r_Fl RX4 18 4 2 := ⟨RX4, TX4, 10, rfl, iwX4, by decide, lk 72 (by decide +kernel), rfl⟩
theorem fX4_46 : r_Fl RX4 46 4 3 := ⟨RX4, TX4, 10, rfl, iwX4, by decide, lk 73 (by decide +kernel), rfl⟩
theorem pX4_46 : r_Fp RX4 46 4 3 .int := ⟨RX4, TX4, 10, rfl, iwX4, by decide, lk 73 (by decide +kernel), rfl, tyX4, tyX4_ok, nmX4, rfl, by decide +kernel⟩
theorem fX4_21 : r_Fl RX4 21 4 4 := ⟨RX4, TX4, 10, rfl, iwX4, by decide, lk 74 (by decide +kernel), rfl⟩
theorem pX4_21 : r_Fp RX4 21 4 4 .int := ⟨RX4, TX4, 10, rfl, iwX4, by decide, lk 74 (by decide +kernel), rfl, tyX4, tyX4_ok, nmX4, rfl, by decide +kernel⟩
theorem fX4_25 : r_Fl RX4 25 4 5 := ⟨RX4, TX4, 10, rfl, iwX4, by decide, lk 75 (by decide +kernel), rfl⟩
theorem pX4_25 : r_Fp RX4 25 4 5 .int := ⟨RX4, TX4, 10, rfl, iwX4, by decide, lk 75 (by decide +kernel), rfl, tyX4, tyX4_ok, nmX4, rfl, by decide +kernel⟩
theorem fX4_28 : r_Fl RX4 28 4 6 := ⟨RX4, TX4, 10, rfl, iwX4, by decide, lk 76 (by decide +kernel), rfl⟩
theorem pX4_28 : r_Fp RX4 28 4 6 .int := ⟨RX4, TX4, 10, rfl, iwX4, by decide, lk 76 (by decide +kernel), rfl, tyX4, tyX4_ok, nmX4, rfl, by decide +kernel⟩
theorem fX4_31 : r_Fl RX4 31 4 7 := ⟨RX4, TX4, 10, rfl, iwX4, by decide, lk 77 (by decide +kernel), rfl⟩
theorem pX4_31 : r_Fp RX4 31 4 7 .int := ⟨RX4, TX4, 10, rfl, iwX4, by decide, lk 77 (by decide +kernel), rfl, tyX4, tyX4_ok, nmX4, rfl, by decide +kernel⟩
theorem fX4_34 : r_Fl RX4 34 4 8 := ⟨RX4, TX4, 10, rfl, iwX4, by decide, lk 78 (by decide +kernel), rfl⟩
theorem pX4_34 : r_Fp RX4 34 4 8 .int := ⟨RX4, TX4, 10, rfl, iwX4, by decide, lk 78 (by decide +kernel), rfl, tyX4, tyX4_ok, nmX4, rfl, by decide +kernel⟩
theorem fX4_37 : r_Fl RX4 37 4 9 := ⟨RX4, TX4, 10, rfl, iwX4, by decide, lk 79 (by decide +kernel), rfl⟩
theorem pX4_37 : r_Fp RX4 37 4 9 .int := ⟨RX4, TX4, 10, rfl, iwX4, by decide, lk 79 (by decide +kernel), rfl, tyX4, tyX4_ok, nmX4, rfl, by decide +kernel⟩
theorem fX0_39 : r_Fl RX0 39 0 0 := ⟨RX0, TX0, 11, rfl, iwX0, by decide, lk 101 (by decide +kernel), rfl⟩
theorem fX0_12 : r_Fl RX0 12 0 1 := ⟨RX0, TX0, 11, rfl, iwX0, by decide, lk 102 (by decide +kernel), rfl⟩
theorem fX0_21 : r_Fl RX0 21 0 2 := ⟨RX0, TX0, 11, rfl, iwX0, by decide, lk 103 (by decide +kernel), rfl⟩
theorem fX0_25 : r_Fl RX0 25 0 3 := ⟨RX0, TX0, 11, rfl, iwX0, by decide, lk 104 (by decide +kernel), rfl⟩
theorem fX0_29 : r_Fl RX0 29 0 4 := ⟨RX0, TX0, 11, rfl, iwX0, by decide, lk 105 (by decide +kernel), rfl⟩
theorem fX0_32 : r_Fl RX0 32 0 5 := ⟨RX0, TX0, 11, rfl, iwX0, by decide, lk 106 (by decide +kernel), rfl⟩
theorem fX0_53 : r_Fl RX0 53 0 6 := ⟨RX0, TX0, 11, rfl, iwX0, by decide, lk 107 (by decide +kernel), rfl⟩
theorem pX0_53 : r_Fp RX0 53 0 6 .int := ⟨RX0, TX0, 11, rfl, iwX0, by decide, lk 107 (by decide +kernel), rfl, tyX0, tyX0_ok, nmX0, rfl, by decide +kernel⟩
theorem fX0_35 : r_Fl RX0 35 0 7 := ⟨RX0, TX0, 11, rfl, iwX0, by decide, lk 108 (by decide +kernel), rfl⟩
theorem pX0_35 : r_Fp RX0 35 0 7 .int := ⟨RX0, TX0, 11, rfl, iwX0, by decide, lk 108 (by decide +kernel), rfl, tyX0, tyX0_ok, nmX0, rfl, by decide +kernel⟩
theorem fX0_62 : r_Fl RX0 62 0 8 := ⟨RX0, TX0, 11, rfl, iwX0, by decide, lk 109 (by decide +kernel), rfl⟩
theorem pX0_62 : r_Fp RX0 62 0 8 .int := ⟨RX0, TX0, 11, rfl, iwX0, by decide, lk 109 (by decide +kernel), rfl, tyX0, tyX0_ok, nmX0, rfl, by decide +kernel⟩
theorem fX0_65 : r_Fl RX0 65 0 9 := ⟨RX0, TX0, 11, rfl, iwX0, by decide, lk 110 (by decide +kernel), rfl⟩
theorem pX0_65 : r_Fp RX0 65 0 9 .int := ⟨RX0, TX0, 11, rfl, iwX0, by decide, lk 110 (by decide +kernel), rfl, tyX0, tyX0_ok, nmX0, rfl, by decide +kernel⟩
theorem fX0_68 : r_Fl RX0 68 0 10 := ⟨RX0, TX0, 11, rfl, iwX0, by decide, lk 111 (by decide +kernel), rfl⟩
theorem pX0_68 : r_Fp RX0 68 0 10 .int := ⟨RX0, TX0, 11, rfl, iwX0, by decide, lk 111 (by decide +kernel), rfl, tyX0, tyX0_ok, nmX0, rfl, by decide +kernel⟩
theorem fX3_17 : r_Fl RX3 17 3 0 := ⟨RX3, TX3, 3, rfl, iwX3, by decide, lk 141 (by decide +kernel), rfl⟩
theorem fX3_13 : r_Fl RX3 13 3 1 := ⟨RX3, TX3, 3, rfl, iwX3, by decide, lk 142 (by decide +kernel), rfl⟩
theorem fX3_21 : r_Fl RX3 21 3 2 := ⟨RX3, TX3, 3, rfl, iwX3, by decide, lk 143 (by decide +kernel), rfl⟩
theorem pX3_21 : r_Fp RX3 21 3 2 .boolean := ⟨RX3, TX3, 3, rfl, iwX3, by decide, lk 143 (by decide +kernel), rfl, tyX3, tyX3_ok, nmX3, rfl, by decide +kernel⟩
theorem fX5_12 : r_Fl RX5 12 5 0 := ⟨RX5, TX5, 3, rfl, iwX5, by decide, lk 151 (by decide +kernel), rfl⟩
theorem fX5_23 : r_Fl RX5 23 5 1 := ⟨RX5, TX5, 3, rfl, iwX5, by decide, lk 152 (by decide +kernel), rfl⟩
theorem fX5_30 : r_Fl RX5 30 5 2 := ⟨RX5, TX5, 3, rfl, iwX5, by decide, lk 153 (by decide +kernel), rfl⟩
theorem vL_13 : r_Vl RL 13 MX5_code 5 2 := ⟨lk 161 (by decide +kernel), lk 162 (by decide +kernel), lk 163 (by decide +kernel), lk 1 (by decide +kernel), lk 164 (by decide +kernel), rfl, by decide +kernel, by decide +kernel, by decide +kernel, by decide⟩
theorem vX5_34 : r_Sl RX5 34 MX2_allows 2 := ⟨lk 165 (by decide +kernel), lk 166 (by decide +kernel), lk 2 (by decide +kernel), lk 167 (by decide +kernel), by decide +kernel, by decide +kernel, by decide +kernel, by decide⟩
theorem vX5_38 : r_Vl RX5 38 MX2_choose 2 2 := ⟨lk 170 (by decide +kernel), lk 171 (by decide +kernel), lk 172 (by decide +kernel), lk 2 (by decide +kernel), lk 173 (by decide +kernel), rfl, by decide +kernel, by decide +kernel, by decide +kernel, by decide⟩
theorem vX2_31 : r_Sl RX2 31 MJ7_fill_53178 2 := ⟨lk 174 (by decide +kernel), lk 175 (by decide +kernel), lk 8 (by decide +kernel), lk 176 (by decide +kernel), by decide +kernel, by decide +kernel, by decide +kernel, by decide⟩
theorem vX2_37 : r_Vl RX2 37 MX2_bestFreeColumn 2 0 := ⟨lk 177 (by decide +kernel), lk 179 (by decide +kernel), lks 0 (by decide +kernel), lk 2 (by decide +kernel), lk 180 (by decide +kernel), rfl, by decide +kernel, by decide +kernel, by decide +kernel, by decide⟩
theorem vX2_45 : r_Sl RX2 45 MJ6_bitCount_0f7a4 1 := ⟨lk 181 (by decide +kernel), lk 182 (by decide +kernel), lk 9 (by decide +kernel), lk 183 (by decide +kernel), by decide +kernel, by decide +kernel, by decide +kernel, by decide⟩
theorem vX2_51 : r_Vl RX2 51 MX2_fullestRowWith 2 1 := ⟨lk 187 (by decide +kernel), lk 189 (by decide +kernel), lks 1 (by decide +kernel), lk 2 (by decide +kernel), lk 190 (by decide +kernel), rfl, by decide +kernel, by decide +kernel, by decide +kernel, by decide⟩
theorem vX2_54 : r_Sl RX2 54 MJ9_max_7cf53 2 := ⟨lk 191 (by decide +kernel), lk 192 (by decide +kernel), lk 10 (by decide +kernel), lk 193 (by decide +kernel), by decide +kernel, by decide +kernel, by decide +kernel, by decide⟩
theorem vX2_41 : r_Vl RX2 41 MX2_give 2 2 := ⟨lk 194 (by decide +kernel), lk 196 (by decide +kernel), lks 2 (by decide +kernel), lk 2 (by decide +kernel), lk 197 (by decide +kernel), rfl, by decide +kernel, by decide +kernel, by decide +kernel, by decide⟩
theorem vX5_42 : r_Vl RX5 42 MX0_renew 0 0 := ⟨lk 198 (by decide +kernel), lk 199 (by decide +kernel), lk 200 (by decide +kernel), lk 3 (by decide +kernel), lk 201 (by decide +kernel), rfl, by decide +kernel, by decide +kernel, by decide +kernel, by decide⟩
theorem vX0_43 : r_Vl RX0 43 MX1_clear 1 0 := ⟨lk 202 (by decide +kernel), lk 203 (by decide +kernel), lk 204 (by decide +kernel), lk 4 (by decide +kernel), lk 205 (by decide +kernel), rfl, by decide +kernel, by decide +kernel, by decide +kernel, by decide⟩
theorem vX1_23 : r_Sl RX1 23 MJ7_fill_53178 2 := ⟨lk 206 (by decide +kernel), lk 175 (by decide +kernel), lk 8 (by decide +kernel), lk 176 (by decide +kernel), by decide +kernel, by decide +kernel, by decide +kernel, by decide⟩
theorem vX0_46 : r_Vl RX0 46 MX4_clear 4 0 := ⟨lk 207 (by decide +kernel), lk 208 (by decide +kernel), lk 209 (by decide +kernel), lk 5 (by decide +kernel), lk 210 (by decide +kernel), rfl, by decide +kernel, by decide +kernel, by decide +kernel, by decide⟩
theorem vX4_40 : r_Sl RX4 40 MJ7_fill_53178 2 := ⟨lk 211 (by decide +kernel), lk 175 (by decide +kernel), lk 8 (by decide +kernel), lk 176 (by decide +kernel), by decide +kernel, by decide +kernel, by decide +kernel, by decide⟩
theorem vX0_47 : r_Sl RX0 47 MJ7_fill_53178 2 := ⟨lk 212 (by decide +kernel), lk 175 (by decide +kernel), lk 8 (by decide +kernel), lk 176 (by decide +kernel), by decide +kernel, by decide +kernel, by decide +kernel, by decide⟩
theorem vX0_56 : r_Vl RX0 56 MX2_width 2 0 := ⟨lk 213 (by decide +kernel), lk 214 (by decide +kernel), lk 215 (by decide +kernel), lk 2 (by decide +kernel), lk 216 (by decide +kernel), rfl, by decide +kernel, by decide +kernel, by decide +kernel, by decide⟩
theorem vX5_45 : r_Vl RX5 45 MX3_forget 3 0 := ⟨lk 217 (by decide +kernel), lk 218 (by decide +kernel), lk 219 (by decide +kernel), lk 6 (by decide +kernel), lk 220 (by decide +kernel), rfl, by decide +kernel, by decide +kernel, by decide +kernel, by decide⟩
theorem vX5_48 : r_Vl RX5 48 MX2_width 2 0 := ⟨lk 221 (by decide +kernel), lk 214 (by decide +kernel), lk 215 (by decide +kernel), lk 2 (by decide +kernel), lk 216 (by decide +kernel), rfl, by decide +kernel, by decide +kernel, by decide +kernel, by decide⟩
theorem vL_18 : r_Vl RL 18 MX5_column 5 1 := ⟨lk 222 (by decide +kernel), lk 223 (by decide +kernel), lk 224 (by decide +kernel), lk 1 (by decide +kernel), lk 225 (by decide +kernel), rfl, by decide +kernel, by decide +kernel, by decide +kernel, by decide⟩
theorem vX5_52 : r_Vl RX5 52 MX2_hasBit 2 1 := ⟨lk 226 (by decide +kernel), lk 227 (by decide +kernel), lk 228 (by decide +kernel), lk 2 (by decide +kernel), lk 229 (by decide +kernel), rfl, by decide +kernel, by decide +kernel, by decide +kernel, by decide⟩
theorem vX2_60 : r_Vl RX2 60 MX2_width 2 0 := ⟨lk 230 (by decide +kernel), lk 214 (by decide +kernel), lk 215 (by decide +kernel), lk 2 (by decide +kernel), lk 216 (by decide +kernel), rfl, by decide +kernel, by decide +kernel, by decide +kernel, by decide⟩
theorem vX5_56 : r_Vl RX5 56 MX2_columnOf 2 1 := ⟨lk 231 (by decide +kernel), lk 232 (by decide +kernel), lk 233 (by decide +kernel), lk 2 (by decide +kernel), lk 234 (by decide +kernel), rfl, by decide +kernel, by decide +kernel, by decide +kernel, by decide⟩
theorem vL_23 : r_Vl RL 23 MX5_ones 5 1 := ⟨lk 235 (by decide +kernel), lk 236 (by decide +kernel), lk 237 (by decide +kernel), lk 1 (by decide +kernel), lk 238 (by decide +kernel), rfl, by decide +kernel, by decide +kernel, by decide +kernel, by decide⟩
theorem vX5_60 : r_Vl RX5 60 MX2_hasRow 2 1 := ⟨lk 239 (by decide +kernel), lk 240 (by decide +kernel), lk 241 (by decide +kernel), lk 2 (by decide +kernel), lk 242 (by decide +kernel), rfl, by decide +kernel, by decide +kernel, by decide +kernel, by decide⟩
theorem vX5_63 : r_Vl RX5 63 MX2_onesOfRow 2 1 := ⟨lk 243 (by decide +kernel), lk 244 (by decide +kernel), lk 245 (by decide +kernel), lk 2 (by decide +kernel), lk 246 (by decide +kernel), rfl, by decide +kernel, by decide +kernel, by decide +kernel, by decide⟩
theorem vL_27 : r_Vl RL 27 MX5_word 5 1 := ⟨lk 247 (by decide +kernel), lk 248 (by decide +kernel), lk 249 (by decide +kernel), lk 1 (by decide +kernel), lk 250 (by decide +kernel), rfl, by decide +kernel, by decide +kernel, by decide +kernel, by decide⟩
theorem vX5_66 : r_Vl RX5 66 MX2_stands 2 0 := ⟨lk 251 (by decide +kernel), lk 252 (by decide +kernel), lk 253 (by decide +kernel), lk 2 (by decide +kernel), lk 254 (by decide +kernel), rfl, by decide +kernel, by decide +kernel, by decide +kernel, by decide⟩
theorem vX5_70 : r_Vl RX5 70 MX2_hasValue 2 1 := ⟨lk 255 (by decide +kernel), lk 256 (by decide +kernel), lk 257 (by decide +kernel), lk 2 (by decide +kernel), lk 258 (by decide +kernel), rfl, by decide +kernel, by decide +kernel, by decide +kernel, by decide⟩
theorem vX5_73 : r_Vl RX5 73 MX2_wordOf 2 1 := ⟨lk 259 (by decide +kernel), lk 260 (by decide +kernel), lk 261 (by decide +kernel), lk 2 (by decide +kernel), lk 262 (by decide +kernel), rfl, by decide +kernel, by decide +kernel, by decide +kernel, by decide⟩
theorem vX2_70 : r_Vl RX2 70 MX2_syndromeOf 2 1 := ⟨lk 263 (by decide +kernel), lk 264 (by decide +kernel), lk 265 (by decide +kernel), lk 2 (by decide +kernel), lk 266 (by decide +kernel), rfl, by decide +kernel, by decide +kernel, by decide +kernel, by decide⟩
theorem vL_31 : r_Vl RL 31 MX5_syndrome 5 1 := ⟨lk 267 (by decide +kernel), lk 268 (by decide +kernel), lk 269 (by decide +kernel), lk 1 (by decide +kernel), lk 270 (by decide +kernel), rfl, by decide +kernel, by decide +kernel, by decide +kernel, by decide⟩
theorem vX5_76 : r_Vl RX5 76 MX2_hasSet 2 1 := ⟨lk 271 (by decide +kernel), lk 272 (by decide +kernel), lk 273 (by decide +kernel), lk 2 (by decide +kernel), lk 274 (by decide +kernel), rfl, by decide +kernel, by decide +kernel, by decide +kernel, by decide⟩
theorem vX2_67 : r_Vl RX2 67 MX2_allBits 2 0 := ⟨lk 275 (by decide +kernel), lk 276 (by decide +kernel), lk 277 (by decide +kernel), lk 2 (by decide +kernel), lk 278 (by decide +kernel), rfl, by decide +kernel, by decide +kernel, by decide +kernel, by decide⟩
theorem vX5_79 : r_Vl RX5 79 MX2_syndromeOf 2 1 := ⟨lk 279 (by decide +kernel), lk 264 (by decide +kernel), lk 265 (by decide +kernel), lk 2 (by decide +kernel), lk 266 (by decide +kernel), rfl, by decide +kernel, by decide +kernel, by decide +kernel, by decide⟩
theorem vL_35 : r_Vl RL 35 MX5_mended 5 1 := ⟨lk 280 (by decide +kernel), lk 281 (by decide +kernel), lk 282 (by decide +kernel), lk 1 (by decide +kernel), lk 283 (by decide +kernel), rfl, by decide +kernel, by decide +kernel, by decide +kernel, by decide⟩
theorem vX5_82 : r_Vl RX5 82 MX2_mend 2 1 := ⟨lk 284 (by decide +kernel), lk 285 (by decide +kernel), lk 286 (by decide +kernel), lk 2 (by decide +kernel), lk 287 (by decide +kernel), rfl, by decide +kernel, by decide +kernel, by decide +kernel, by decide⟩
theorem vL_39 : r_Vl RL 39 MX5_write 5 3 := ⟨lk 288 (by decide +kernel), lk 289 (by decide +kernel), lk 290 (by decide +kernel), lk 1 (by decide +kernel), lk 291 (by decide +kernel), rfl, by decide +kernel, by decide +kernel, by decide +kernel, by decide⟩
theorem vX5_85 : r_Vl RX5 85 MX5_hasWord 5 2 := ⟨lk 292 (by decide +kernel), lk 294 (by decide +kernel), lks 3 (by decide +kernel), lk 1 (by decide +kernel), lk 295 (by decide +kernel), rfl, by decide +kernel, by decide +kernel, by decide +kernel, by decide⟩
theorem vX5_137 : r_Vl RX5 137 MX5_hasPage 5 1 := ⟨lk 296 (by decide +kernel), lk 298 (by decide +kernel), lks 4 (by decide +kernel), lk 1 (by decide +kernel), lk 299 (by decide +kernel), rfl, by decide +kernel, by decide +kernel, by decide +kernel, by decide⟩
theorem vX5_128 : r_Sl RX5 128 MX5_isWord 1 := ⟨lk 300 (by decide +kernel), lk 301 (by decide +kernel), lk 1 (by decide +kernel), lk 302 (by decide +kernel), by decide +kernel, by decide +kernel, by decide +kernel, by decide⟩
theorem vX5_88 : r_Vl RX5 88 MX0_keep 0 3 := ⟨lk 303 (by decide +kernel), lk 304 (by decide +kernel), lk 305 (by decide +kernel), lk 3 (by decide +kernel), lk 306 (by decide +kernel), rfl, by decide +kernel, by decide +kernel, by decide +kernel, by decide⟩
theorem vX0_75 : r_Vl RX0 75 MX2_wordOf 2 1 := ⟨lk 307 (by decide +kernel), lk 260 (by decide +kernel), lk 261 (by decide +kernel), lk 2 (by decide +kernel), lk 262 (by decide +kernel), rfl, by decide +kernel, by decide +kernel, by decide +kernel, by decide⟩
theorem vX0_79 : r_Vl RX0 79 MX0_putBits 0 3 := ⟨lk 308 (by decide +kernel), lk 310 (by decide +kernel), lks 5 (by decide +kernel), lk 3 (by decide +kernel), lk 311 (by decide +kernel), rfl, by decide +kernel, by decide +kernel, by decide +kernel, by decide⟩
theorem vX0_83 : r_Vl RX0 83 MX0_rowOf 0 2 := ⟨lk 312 (by decide +kernel), lk 314 (by decide +kernel), lks 6 (by decide +kernel), lk 3 (by decide +kernel), lk 315 (by decide +kernel), rfl, by decide +kernel, by decide +kernel, by decide +kernel, by decide⟩
theorem vX0_92 : r_Vl RX0 92 MX0_placesOf 0 1 := ⟨lk 316 (by decide +kernel), lk 318 (by decide +kernel), lks 7 (by decide +kernel), lk 3 (by decide +kernel), lk 319 (by decide +kernel), rfl, by decide +kernel, by decide +kernel, by decide +kernel, by decide⟩
theorem vX0_162 : r_Vl RX0 162 MX0_placesInUse 0 0 := ⟨lk 320 (by decide +kernel), lk 322 (by decide +kernel), lks 8 (by decide +kernel), lk 3 (by decide +kernel), lk 323 (by decide +kernel), rfl, by decide +kernel, by decide +kernel, by decide +kernel, by decide⟩
theorem vX0_89 : r_Vl RX0 89 MX2_allBits 2 0 := ⟨lk 324 (by decide +kernel), lk 276 (by decide +kernel), lk 277 (by decide +kernel), lk 2 (by decide +kernel), lk 278 (by decide +kernel), rfl, by decide +kernel, by decide +kernel, by decide +kernel, by decide⟩
theorem vX0_165 : r_Vl RX0 165 MX1_put 1 3 := ⟨lk 325 (by decide +kernel), lk 326 (by decide +kernel), lk 327 (by decide +kernel), lk 4 (by decide +kernel), lk 328 (by decide +kernel), rfl, by decide +kernel, by decide +kernel, by decide +kernel, by decide⟩
theorem vL_44 : r_Vl RL 44 MX5_read 5 2 := ⟨lk 329 (by decide +kernel), lk 330 (by decide +kernel), lk 331 (by decide +kernel), lk 1 (by decide +kernel), lk 332 (by decide +kernel), rfl, by decide +kernel, by decide +kernel, by decide +kernel, by decide⟩
theorem vX5_92 : r_Vl RX5 92 MX0_lookAt 0 2 := ⟨lk 333 (by decide +kernel), lk 334 (by decide +kernel), lk 335 (by decide +kernel), lk 3 (by decide +kernel), lk 336 (by decide +kernel), rfl, by decide +kernel, by decide +kernel, by decide +kernel, by decide⟩
theorem vX0_111 : r_Vl RX0 111 MX0_bitsOf 0 2 := ⟨lk 337 (by decide +kernel), lk 338 (by decide +kernel), lk 339 (by decide +kernel), lk 3 (by decide +kernel), lk 340 (by decide +kernel), rfl, by decide +kernel, by decide +kernel, by decide +kernel, by decide⟩
theorem vX0_86 : r_Vl RX0 86 MX1_valuesIn 1 1 := ⟨lk 341 (by decide +kernel), lk 342 (by decide +kernel), lk 343 (by decide +kernel), lk 4 (by decide +kernel), lk 344 (by decide +kernel), rfl, by decide +kernel, by decide +kernel, by decide +kernel, by decide⟩
theorem vX0_114 : r_Vl RX0 114 MX2_syndromeOf 2 1 := ⟨lk 345 (by decide +kernel), lk 264 (by decide +kernel), lk 265 (by decide +kernel), lk 2 (by decide +kernel), lk 266 (by decide +kernel), rfl, by decide +kernel, by decide +kernel, by decide +kernel, by decide⟩
theorem vX0_117 : r_Vl RX0 117 MX4_noteLook 4 4 := ⟨lk 346 (by decide +kernel), lk 347 (by decide +kernel), lk 348 (by decide +kernel), lk 5 (by decide +kernel), lk 349 (by decide +kernel), rfl, by decide +kernel, by decide +kernel, by decide +kernel, by decide⟩
theorem vX0_121 : r_Vl RX0 121 MX2_bitWithColumn 2 1 := ⟨lk 350 (by decide +kernel), lk 351 (by decide +kernel), lk 352 (by decide +kernel), lk 2 (by decide +kernel), lk 353 (by decide +kernel), rfl, by decide +kernel, by decide +kernel, by decide +kernel, by decide⟩
theorem vX0_98 : r_Vl RX0 98 MX0_placeOf 0 1 := ⟨lk 354 (by decide +kernel), lk 355 (by decide +kernel), lk 356 (by decide +kernel), lk 3 (by decide +kernel), lk 357 (by decide +kernel), rfl, by decide +kernel, by decide +kernel, by decide +kernel, by decide⟩
theorem vX0_124 : r_Vl RX0 124 MX1_addMark 1 2 := ⟨lk 358 (by decide +kernel), lk 359 (by decide +kernel), lk 360 (by decide +kernel), lk 4 (by decide +kernel), lk 361 (by decide +kernel), rfl, by decide +kernel, by decide +kernel, by decide +kernel, by decide⟩
theorem vX0_127 : r_Vl RX0 127 MX0_swapIfDue 0 1 := ⟨lk 362 (by decide +kernel), lk 364 (by decide +kernel), lks 9 (by decide +kernel), lk 3 (by decide +kernel), lk 365 (by decide +kernel), rfl, by decide +kernel, by decide +kernel, by decide +kernel, by decide⟩
theorem vX0_168 : r_Vl RX0 168 MX1_badInPlace 1 1 := ⟨lk 366 (by decide +kernel), lk 367 (by decide +kernel), lk 368 (by decide +kernel), lk 4 (by decide +kernel), lk 369 (by decide +kernel), rfl, by decide +kernel, by decide +kernel, by decide +kernel, by decide⟩
theorem vX1_53 : r_Vl RX1 53 MX1_isBad 1 2 := ⟨lk 370 (by decide +kernel), lk 372 (by decide +kernel), lks 10 (by decide +kernel), lk 4 (by decide +kernel), lk 373 (by decide +kernel), rfl, by decide +kernel, by decide +kernel, by decide +kernel, by decide⟩
theorem vX1_39 : r_Vl RX1 39 MX1_marksAt 1 2 := ⟨lk 374 (by decide +kernel), lk 375 (by decide +kernel), lk 376 (by decide +kernel), lk 4 (by decide +kernel), lk 377 (by decide +kernel), rfl, by decide +kernel, by decide +kernel, by decide +kernel, by decide⟩
theorem vX0_171 : r_Vl RX0 171 MX1_copyPlace 1 2 := ⟨lk 378 (by decide +kernel), lk 379 (by decide +kernel), lk 380 (by decide +kernel), lk 4 (by decide +kernel), lk 381 (by decide +kernel), rfl, by decide +kernel, by decide +kernel, by decide +kernel, by decide⟩
theorem vX1_47 : r_Vl RX1 47 MX1_valueAt 1 2 := ⟨lk 382 (by decide +kernel), lk 383 (by decide +kernel), lk 384 (by decide +kernel), lk 4 (by decide +kernel), lk 385 (by decide +kernel), rfl, by decide +kernel, by decide +kernel, by decide +kernel, by decide⟩
theorem vX1_50 : r_Vl RX1 50 MX1_renewCell 1 3 := ⟨lk 386 (by decide +kernel), lk 388 (by decide +kernel), lks 11 (by decide +kernel), lk 4 (by decide +kernel), lk 389 (by decide +kernel), rfl, by decide +kernel, by decide +kernel, by decide +kernel, by decide⟩
theorem vX1_35 : r_Vl RX1 35 MX1_setValue 1 3 := ⟨lk 390 (by decide +kernel), lk 391 (by decide +kernel), lk 392 (by decide +kernel), lk 4 (by decide +kernel), lk 393 (by decide +kernel), rfl, by decide +kernel, by decide +kernel, by decide +kernel, by decide⟩
theorem vX1_43 : r_Vl RX1 43 MX1_loosen 1 2 := ⟨lk 394 (by decide +kernel), lk 395 (by decide +kernel), lk 396 (by decide +kernel), lk 4 (by decide +kernel), lk 397 (by decide +kernel), rfl, by decide +kernel, by decide +kernel, by decide +kernel, by decide⟩
theorem vX0_131 : r_Vl RX0 131 MX0_retireIfDue 0 1 := ⟨lk 398 (by decide +kernel), lk 400 (by decide +kernel), lks 12 (by decide +kernel), lk 3 (by decide +kernel), lk 401 (by decide +kernel), rfl, by decide +kernel, by decide +kernel, by decide +kernel, by decide⟩
theorem vX0_159 : r_Vl RX0 159 MX0_spareFramesLeft 0 0 := ⟨lk 402 (by decide +kernel), lk 404 (by decide +kernel), lks 13 (by decide +kernel), lk 3 (by decide +kernel), lk 405 (by decide +kernel), rfl, by decide +kernel, by decide +kernel, by decide +kernel, by decide⟩
theorem vX0_174 : r_Vl RX0 174 MX1_badInFrame 1 2 := ⟨lk 406 (by decide +kernel), lk 407 (by decide +kernel), lk 408 (by decide +kernel), lk 4 (by decide +kernel), lk 409 (by decide +kernel), rfl, by decide +kernel, by decide +kernel, by decide +kernel, by decide⟩
theorem vX0_177 : r_Vl RX0 177 MX1_copyFrame 1 2 := ⟨lk 410 (by decide +kernel), lk 411 (by decide +kernel), lk 412 (by decide +kernel), lk 4 (by decide +kernel), lk 413 (by decide +kernel), rfl, by decide +kernel, by decide +kernel, by decide +kernel, by decide⟩
theorem vX0_134 : r_Vl RX0 134 MX4_noteMending 4 3 := ⟨lk 414 (by decide +kernel), lk 415 (by decide +kernel), lk 416 (by decide +kernel), lk 5 (by decide +kernel), lk 417 (by decide +kernel), rfl, by decide +kernel, by decide +kernel, by decide +kernel, by decide⟩
theorem vX5_96 : r_Vl RX5 96 MX2_valueOf 2 1 := ⟨lk 418 (by decide +kernel), lk 419 (by decide +kernel), lk 420 (by decide +kernel), lk 2 (by decide +kernel), lk 421 (by decide +kernel), rfl, by decide +kernel, by decide +kernel, by decide +kernel, by decide⟩
theorem vL_48 : r_Vl RL 48 MX5_raw 5 2 := ⟨lk 422 (by decide +kernel), lk 423 (by decide +kernel), lk 424 (by decide +kernel), lk 1 (by decide +kernel), lk 425 (by decide +kernel), rfl, by decide +kernel, by decide +kernel, by decide +kernel, by decide⟩
theorem vX5_99 : r_Vl RX5 99 MX0_bitsOf 0 2 := ⟨lk 426 (by decide +kernel), lk 338 (by decide +kernel), lk 339 (by decide +kernel), lk 3 (by decide +kernel), lk 340 (by decide +kernel), rfl, by decide +kernel, by decide +kernel, by decide +kernel, by decide⟩
theorem vL_52 : r_Vl RL 52 MX5_flip 5 3 := ⟨lk 427 (by decide +kernel), lk 428 (by decide +kernel), lk 429 (by decide +kernel), lk 1 (by decide +kernel), lk 430 (by decide +kernel), rfl, by decide +kernel, by decide +kernel, by decide +kernel, by decide⟩
theorem vX5_102 : r_Vl RX5 102 MX0_turn 0 3 := ⟨lk 431 (by decide +kernel), lk 432 (by decide +kernel), lk 433 (by decide +kernel), lk 3 (by decide +kernel), lk 434 (by decide +kernel), rfl, by decide +kernel, by decide +kernel, by decide +kernel, by decide⟩
theorem vX0_95 : r_Vl RX0 95 MX1_turn 1 2 := ⟨lk 435 (by decide +kernel), lk 436 (by decide +kernel), lk 437 (by decide +kernel), lk 4 (by decide +kernel), lk 438 (by decide +kernel), rfl, by decide +kernel, by decide +kernel, by decide +kernel, by decide⟩
theorem vX1_29 : r_Sl RX1 29 MJ6_bitCount_0f7a4 1 := ⟨lk 439 (by decide +kernel), lk 182 (by decide +kernel), lk 9 (by decide +kernel), lk 183 (by decide +kernel), by decide +kernel, by decide +kernel, by decide +kernel, by decide⟩
theorem vL_56 : r_Vl RL 56 MX5_stick 5 4 := ⟨lk 440 (by decide +kernel), lk 441 (by decide +kernel), lk 442 (by decide +kernel), lk 1 (by decide +kernel), lk 443 (by decide +kernel), rfl, by decide +kernel, by decide +kernel, by decide +kernel, by decide⟩
theorem vX5_106 : r_Vl RX5 106 MX0_loosen 0 3 := ⟨lk 444 (by decide +kernel), lk 445 (by decide +kernel), lk 446 (by decide +kernel), lk 3 (by decide +kernel), lk 447 (by decide +kernel), rfl, by decide +kernel, by decide +kernel, by decide +kernel, by decide⟩
theorem vX0_107 : r_Vl RX0 107 MX1_loosen 1 2 := ⟨lk 448 (by decide +kernel), lk 395 (by decide +kernel), lk 396 (by decide +kernel), lk 4 (by decide +kernel), lk 397 (by decide +kernel), rfl, by decide +kernel, by decide +kernel, by decide +kernel, by decide⟩
theorem vX0_101 : r_Vl RX0 101 MX1_valueAt 1 2 := ⟨lk 449 (by decide +kernel), lk 383 (by decide +kernel), lk 384 (by decide +kernel), lk 4 (by decide +kernel), lk 385 (by decide +kernel), rfl, by decide +kernel, by decide +kernel, by decide +kernel, by decide⟩
theorem vX5_109 : r_Vl RX5 109 MX0_hold 0 4 := ⟨lk 450 (by decide +kernel), lk 451 (by decide +kernel), lk 452 (by decide +kernel), lk 3 (by decide +kernel), lk 453 (by decide +kernel), rfl, by decide +kernel, by decide +kernel, by decide +kernel, by decide⟩
theorem vX0_104 : r_Vl RX0 104 MX1_hold 1 3 := ⟨lk 454 (by decide +kernel), lk 455 (by decide +kernel), lk 456 (by decide +kernel), lk 4 (by decide +kernel), lk 457 (by decide +kernel), rfl, by decide +kernel, by decide +kernel, by decide +kernel, by decide⟩
theorem vL_61 : r_Vl RL 61 MX5_scrub 5 1 := ⟨lk 458 (by decide +kernel), lk 459 (by decide +kernel), lk 460 (by decide +kernel), lk 1 (by decide +kernel), lk 461 (by decide +kernel), rfl, by decide +kernel, by decide +kernel, by decide +kernel, by decide⟩
theorem vX5_113 : r_Vl RX5 113 MX0_scrubNext 0 0 := ⟨lk 462 (by decide +kernel), lk 463 (by decide +kernel), lk 464 (by decide +kernel), lk 3 (by decide +kernel), lk 465 (by decide +kernel), rfl, by decide +kernel, by decide +kernel, by decide +kernel, by decide⟩
theorem vX0_138 : r_Vl RX0 138 MX0_stepScrubber 0 0 := ⟨lk 466 (by decide +kernel), lk 468 (by decide +kernel), lks 14 (by decide +kernel), lk 3 (by decide +kernel), lk 469 (by decide +kernel), rfl, by decide +kernel, by decide +kernel, by decide +kernel, by decide⟩
theorem vX0_141 : r_Vl RX0 141 MX0_lookAt 0 2 := ⟨lk 470 (by decide +kernel), lk 334 (by decide +kernel), lk 335 (by decide +kernel), lk 3 (by decide +kernel), lk 336 (by decide +kernel), rfl, by decide +kernel, by decide +kernel, by decide +kernel, by decide⟩
theorem vX0_144 : r_Vl RX0 144 MX4_latest 4 1 := ⟨lk 471 (by decide +kernel), lk 472 (by decide +kernel), lk 473 (by decide +kernel), lk 5 (by decide +kernel), lk 474 (by decide +kernel), rfl, by decide +kernel, by decide +kernel, by decide +kernel, by decide⟩
theorem vL_65 : r_Vl RL 65 MX5_look 5 1 := ⟨lk 475 (by decide +kernel), lk 476 (by decide +kernel), lk 477 (by decide +kernel), lk 1 (by decide +kernel), lk 478 (by decide +kernel), rfl, by decide +kernel, by decide +kernel, by decide +kernel, by decide⟩
theorem vX5_116 : r_Vl RX5 116 MX0_log 0 0 := ⟨lk 479 (by decide +kernel), lk 480 (by decide +kernel), lk 481 (by decide +kernel), lk 3 (by decide +kernel), lk 482 (by decide +kernel), rfl, by decide +kernel, by decide +kernel, by decide +kernel, by decide⟩
theorem vX5_120 : r_Vl RX5 120 MX4_latest 4 1 := ⟨lk 483 (by decide +kernel), lk 472 (by decide +kernel), lk 473 (by decide +kernel), lk 5 (by decide +kernel), lk 474 (by decide +kernel), rfl, by decide +kernel, by decide +kernel, by decide +kernel, by decide⟩
theorem vL_69 : r_Vl RL 69 MX5_fate 5 3 := ⟨lk 484 (by decide +kernel), lk 485 (by decide +kernel), lk 486 (by decide +kernel), lk 1 (by decide +kernel), lk 487 (by decide +kernel), rfl, by decide +kernel, by decide +kernel, by decide +kernel, by decide⟩
theorem vX5_125 : r_Vl RX5 125 MX0_keptValue 0 2 := ⟨lk 488 (by decide +kernel), lk 489 (by decide +kernel), lk 490 (by decide +kernel), lk 3 (by decide +kernel), lk 491 (by decide +kernel), rfl, by decide +kernel, by decide +kernel, by decide +kernel, by decide⟩
theorem vL_73 : r_Vl RL 73 MX5_marks 5 3 := ⟨lk 492 (by decide +kernel), lk 493 (by decide +kernel), lk 494 (by decide +kernel), lk 1 (by decide +kernel), lk 495 (by decide +kernel), rfl, by decide +kernel, by decide +kernel, by decide +kernel, by decide⟩
theorem vX5_131 : r_Vl RX5 131 MX2_hasPlace 2 1 := ⟨lk 496 (by decide +kernel), lk 497 (by decide +kernel), lk 498 (by decide +kernel), lk 2 (by decide +kernel), lk 499 (by decide +kernel), rfl, by decide +kernel, by decide +kernel, by decide +kernel, by decide⟩
theorem vX2_63 : r_Vl RX2 63 MX2_stands 2 0 := ⟨lk 500 (by decide +kernel), lk 252 (by decide +kernel), lk 253 (by decide +kernel), lk 2 (by decide +kernel), lk 254 (by decide +kernel), rfl, by decide +kernel, by decide +kernel, by decide +kernel, by decide⟩
theorem vX5_134 : r_Vl RX5 134 MX0_marksOf 0 3 := ⟨lk 501 (by decide +kernel), lk 502 (by decide +kernel), lk 503 (by decide +kernel), lk 3 (by decide +kernel), lk 504 (by decide +kernel), rfl, by decide +kernel, by decide +kernel, by decide +kernel, by decide⟩
theorem vX0_71 : r_Vl RX0 71 MX1_marksAt 1 2 := ⟨lk 505 (by decide +kernel), lk 375 (by decide +kernel), lk 376 (by decide +kernel), lk 4 (by decide +kernel), lk 377 (by decide +kernel), rfl, by decide +kernel, by decide +kernel, by decide +kernel, by decide⟩
theorem vL_77 : r_Vl RL 77 MX5_frame 5 1 := ⟨lk 506 (by decide +kernel), lk 507 (by decide +kernel), lk 508 (by decide +kernel), lk 1 (by decide +kernel), lk 509 (by decide +kernel), rfl, by decide +kernel, by decide +kernel, by decide +kernel, by decide⟩
theorem vX5_140 : r_Vl RX5 140 MX0_frameOf 0 1 := ⟨lk 510 (by decide +kernel), lk 511 (by decide +kernel), lk 512 (by decide +kernel), lk 3 (by decide +kernel), lk 513 (by decide +kernel), rfl, by decide +kernel, by decide +kernel, by decide +kernel, by decide⟩
theorem vL_81 : r_Vl RL 81 MX5_place 5 1 := ⟨lk 514 (by decide +kernel), lk 515 (by decide +kernel), lk 516 (by decide +kernel), lk 1 (by decide +kernel), lk 517 (by decide +kernel), rfl, by decide +kernel, by decide +kernel, by decide +kernel, by decide⟩
theorem vX5_143 : r_Vl RX5 143 MX0_placeOf 0 1 := ⟨lk 518 (by decide +kernel), lk 355 (by decide +kernel), lk 356 (by decide +kernel), lk 3 (by decide +kernel), lk 357 (by decide +kernel), rfl, by decide +kernel, by decide +kernel, by decide +kernel, by decide⟩
theorem vL_85 : r_Vl RL 85 MX5_retired 5 1 := ⟨lk 519 (by decide +kernel), lk 520 (by decide +kernel), lk 521 (by decide +kernel), lk 1 (by decide +kernel), lk 522 (by decide +kernel), rfl, by decide +kernel, by decide +kernel, by decide +kernel, by decide⟩
theorem vX5_146 : r_Vl RX5 146 MX0_retiredFrame 0 1 := ⟨lk 523 (by decide +kernel), lk 524 (by decide +kernel), lk 525 (by decide +kernel), lk 3 (by decide +kernel), lk 526 (by decide +kernel), rfl, by decide +kernel, by decide +kernel, by decide +kernel, by decide⟩
theorem vL_89 : r_Vl RL 89 MX5_troubled 5 1 := ⟨lk 527 (by decide +kernel), lk 528 (by decide +kernel), lk 529 (by decide +kernel), lk 1 (by decide +kernel), lk 530 (by decide +kernel), rfl, by decide +kernel, by decide +kernel, by decide +kernel, by decide⟩
theorem vX5_149 : r_Vl RX5 149 MX4_troubledPage 4 1 := ⟨lk 531 (by decide +kernel), lk 532 (by decide +kernel), lk 533 (by decide +kernel), lk 5 (by decide +kernel), lk 534 (by decide +kernel), rfl, by decide +kernel, by decide +kernel, by decide +kernel, by decide⟩
theorem vL_93 : r_Vl RL 93 MX5_mends 5 1 := ⟨lk 535 (by decide +kernel), lk 536 (by decide +kernel), lk 537 (by decide +kernel), lk 1 (by decide +kernel), lk 538 (by decide +kernel), rfl, by decide +kernel, by decide +kernel, by decide +kernel, by decide⟩
theorem vX5_152 : r_Vl RX5 152 MX4_mendsOf 4 1 := ⟨lk 539 (by decide +kernel), lk 540 (by decide +kernel), lk 541 (by decide +kernel), lk 5 (by decide +kernel), lk 542 (by decide +kernel), rfl, by decide +kernel, by decide +kernel, by decide +kernel, by decide⟩
theorem vL_97 : r_Vl RL 97 MX5_patterns 5 2 := ⟨lk 543 (by decide +kernel), lk 544 (by decide +kernel), lk 545 (by decide +kernel), lk 1 (by decide +kernel), lk 546 (by decide +kernel), rfl, by decide +kernel, by decide +kernel, by decide +kernel, by decide⟩
theorem vX5_155 : r_Vl RX5 155 MX3_countOf 3 2 := ⟨lk 547 (by decide +kernel), lk 548 (by decide +kernel), lk 549 (by decide +kernel), lk 6 (by decide +kernel), lk 550 (by decide +kernel), rfl, by decide +kernel, by decide +kernel, by decide +kernel, by decide⟩
theorem vX3_25 : r_Vl RX3 25 MX3_countAll 3 0 := ⟨lk 551 (by decide +kernel), lk 553 (by decide +kernel), lks 15 (by decide +kernel), lk 6 (by decide +kernel), lk 554 (by decide +kernel), rfl, by decide +kernel, by decide +kernel, by decide +kernel, by decide⟩
theorem vX3_41 : r_Sl RX3 41 MJ7_fill_53178 2 := ⟨lk 555 (by decide +kernel), lk 175 (by decide +kernel), lk 8 (by decide +kernel), lk 176 (by decide +kernel), by decide +kernel, by decide +kernel, by decide +kernel, by decide⟩
theorem vX3_47 : r_Vl RX3 47 MX2_width 2 0 := ⟨lk 556 (by decide +kernel), lk 214 (by decide +kernel), lk 215 (by decide +kernel), lk 2 (by decide +kernel), lk 216 (by decide +kernel), rfl, by decide +kernel, by decide +kernel, by decide +kernel, by decide⟩
theorem vX3_51 : r_Vl RX3 51 MX2_columnOf 2 1 := ⟨lk 557 (by decide +kernel), lk 232 (by decide +kernel), lk 233 (by decide +kernel), lk 2 (by decide +kernel), lk 234 (by decide +kernel), rfl, by decide +kernel, by decide +kernel, by decide +kernel, by decide⟩
theorem vX3_28 : r_Vl RX3 28 MX3_allOf 3 1 := ⟨lk 558 (by decide +kernel), lk 560 (by decide +kernel), lks 16 (by decide +kernel), lk 6 (by decide +kernel), lk 561 (by decide +kernel), rfl, by decide +kernel, by decide +kernel, by decide +kernel, by decide⟩
theorem vX3_32 : r_Vl RX3 32 MX3_missedOf 3 1 := ⟨lk 562 (by decide +kernel), lk 564 (by decide +kernel), lks 17 (by decide +kernel), lk 6 (by decide +kernel), lk 565 (by decide +kernel), rfl, by decide +kernel, by decide +kernel, by decide +kernel, by decide⟩
theorem vX3_35 : r_Vl RX3 35 MX3_rightlyMendedOf 3 1 := ⟨lk 566 (by decide +kernel), lk 568 (by decide +kernel), lks 18 (by decide +kernel), lk 6 (by decide +kernel), lk 569 (by decide +kernel), rfl, by decide +kernel, by decide +kernel, by decide +kernel, by decide⟩
theorem vX3_38 : r_Vl RX3 38 MX3_mendedOf 3 1 := ⟨lk 570 (by decide +kernel), lk 572 (by decide +kernel), lks 19 (by decide +kernel), lk 6 (by decide +kernel), lk 573 (by decide +kernel), rfl, by decide +kernel, by decide +kernel, by decide +kernel, by decide⟩
theorem vL_101 : r_Vl RL 101 MX5_weight 5 0 := ⟨lk 574 (by decide +kernel), lk 575 (by decide +kernel), lk 576 (by decide +kernel), lk 1 (by decide +kernel), lk 577 (by decide +kernel), rfl, by decide +kernel, by decide +kernel, by decide +kernel, by decide⟩
theorem vX5_158 : r_Vl RX5 158 MX2_onesOfAllRows 2 0 := ⟨lk 578 (by decide +kernel), lk 579 (by decide +kernel), lk 580 (by decide +kernel), lk 2 (by decide +kernel), lk 581 (by decide +kernel), rfl, by decide +kernel, by decide +kernel, by decide +kernel, by decide⟩
theorem vL_106 : r_Vl RL 106 MX5_safe 5 3 := ⟨lk 582 (by decide +kernel), lk 583 (by decide +kernel), lk 584 (by decide +kernel), lk 1 (by decide +kernel), lk 585 (by decide +kernel), rfl, by decide +kernel, by decide +kernel, by decide +kernel, by decide⟩
theorem vX5_163 : r_Sl RX5 163 MX5_safeWalks 2 := ⟨lk 587 (by decide +kernel), lk 588 (by decide +kernel), lk 1 (by decide +kernel), lk 589 (by decide +kernel), by decide +kernel, by decide +kernel, by decide +kernel, by decide⟩
theorem vL_111 : r_Vl RL 111 MX5_many 5 1 := ⟨lk 590 (by decide +kernel), lk 591 (by decide +kernel), lk 592 (by decide +kernel), lk 1 (by decide +kernel), lk 593 (by decide +kernel), rfl, by decide +kernel, by decide +kernel, by decide +kernel, by decide⟩
theorem vX5_167 : r_Vl RX5 167 MX0_tally 0 1 := ⟨lk 594 (by decide +kernel), lk 595 (by decide +kernel), lk 596 (by decide +kernel), lk 3 (by decide +kernel), lk 597 (by decide +kernel), rfl, by decide +kernel, by decide +kernel, by decide +kernel, by decide⟩
theorem vX0_147 : r_Vl RX0 147 MX4_allLooks 4 0 := ⟨lk 598 (by decide +kernel), lk 599 (by decide +kernel), lk 600 (by decide +kernel), lk 5 (by decide +kernel), lk 601 (by decide +kernel), rfl, by decide +kernel, by decide +kernel, by decide +kernel, by decide⟩
theorem vX0_150 : r_Vl RX0 150 MX4_looksOf 4 1 := ⟨lk 602 (by decide +kernel), lk 603 (by decide +kernel), lk 604 (by decide +kernel), lk 5 (by decide +kernel), lk 605 (by decide +kernel), rfl, by decide +kernel, by decide +kernel, by decide +kernel, by decide⟩
theorem vX0_153 : r_Vl RX0 153 MX0_badInUse 0 0 := ⟨lk 606 (by decide +kernel), lk 608 (by decide +kernel), lks 20 (by decide +kernel), lk 3 (by decide +kernel), lk 609 (by decide +kernel), rfl, by decide +kernel, by decide +kernel, by decide +kernel, by decide⟩
theorem vX0_156 : r_Vl RX0 156 MX0_stuckInUse 0 0 := ⟨lk 610 (by decide +kernel), lk 612 (by decide +kernel), lks 21 (by decide +kernel), lk 3 (by decide +kernel), lk 613 (by decide +kernel), rfl, by decide +kernel, by decide +kernel, by decide +kernel, by decide⟩
theorem vX0_180 : r_Vl RX0 180 MX1_stuckInFrame 1 2 := ⟨lk 614 (by decide +kernel), lk 615 (by decide +kernel), lk 616 (by decide +kernel), lk 4 (by decide +kernel), lk 617 (by decide +kernel), rfl, by decide +kernel, by decide +kernel, by decide +kernel, by decide⟩
theorem fX6_57 : r_Fl RX6 57 6 0 := ⟨RX6, TX6, 20, rfl, iwX6, by decide, lk 624 (by decide +kernel), rfl⟩
theorem pX6_57 : r_Fp RX6 57 6 0 .int := ⟨RX6, TX6, 20, rfl, iwX6, by decide, lk 624 (by decide +kernel), rfl, tyX6, tyX6_ok, nmX6, rfl, by decide +kernel⟩
theorem fX6_61 : r_Fl RX6 61 6 1 := ⟨RX6, TX6, 20, rfl, iwX6, by decide, lk 625 (by decide +kernel), rfl⟩
theorem pX6_61 : r_Fp RX6 61 6 1 .int := ⟨RX6, TX6, 20, rfl, iwX6, by decide, lk 625 (by decide +kernel), rfl, tyX6, tyX6_ok, nmX6, rfl, by decide +kernel⟩
theorem fX6_7 : r_Fl RX6 7 6 2 := ⟨RX6, TX6, 20, rfl, iwX6, by decide, lk 626 (by decide +kernel), rfl⟩
theorem fX6_13 : r_Fl RX6 13 6 3 := ⟨RX6, TX6, 20, rfl, iwX6, by decide, lk 627 (by decide +kernel), rfl⟩
theorem fX6_16 : r_Fl RX6 16 6 4 := ⟨RX6, TX6, 20, rfl, iwX6, by decide, lk 628 (by decide +kernel), rfl⟩
theorem fX6_19 : r_Fl RX6 19 6 5 := ⟨RX6, TX6, 20, rfl, iwX6, by decide, lk 629 (by decide +kernel), rfl⟩
theorem fX6_23 : r_Fl RX6 23 6 6 := ⟨RX6, TX6, 20, rfl, iwX6, by decide, lk 630 (by decide +kernel), rfl⟩
theorem fX6_26 : r_Fl RX6 26 6 7 := ⟨RX6, TX6, 20, rfl, iwX6, by decide, lk 631 (by decide +kernel), rfl⟩
theorem fX6_29 : r_Fl RX6 29 6 8 := ⟨RX6, TX6, 20, rfl, iwX6, by decide, lk 632 (by decide +kernel), rfl⟩
theorem fX6_32 : r_Fl RX6 32 6 9 := ⟨RX6, TX6, 20, rfl, iwX6, by decide, lk 633 (by decide +kernel), rfl⟩
theorem fX6_35 : r_Fl RX6 35 6 10 := ⟨RX6, TX6, 20, rfl, iwX6, by decide, lk 634 (by decide +kernel), rfl⟩
theorem fX6_38 : r_Fl RX6 38 6 11 := ⟨RX6, TX6, 20, rfl, iwX6, by decide, lk 635 (by decide +kernel), rfl⟩
theorem fX6_111 : r_Fl RX6 111 6 12 := ⟨RX6, TX6, 20, rfl, iwX6, by decide, lk 636 (by decide +kernel), rfl⟩
theorem pX6_111 : r_Fp RX6 111 6 12 .int := ⟨RX6, TX6, 20, rfl, iwX6, by decide, lk 636 (by decide +kernel), rfl, tyX6, tyX6_ok, nmX6, rfl, by decide +kernel⟩
theorem fX6_41 : r_Fl RX6 41 6 13 := ⟨RX6, TX6, 20, rfl, iwX6, by decide, lk 637 (by decide +kernel), rfl⟩
theorem fX6_114 : r_Fl RX6 114 6 14 := ⟨RX6, TX6, 20, rfl, iwX6, by decide, lk 638 (by decide +kernel), rfl⟩
theorem pX6_114 : r_Fp RX6 114 6 14 .int := ⟨RX6, TX6, 20, rfl, iwX6, by decide, lk 638 (by decide +kernel), rfl, tyX6, tyX6_ok, nmX6, rfl, by decide +kernel⟩
theorem fX6_117 : r_Fl RX6 117 6 15 := ⟨RX6, TX6, 20, rfl, iwX6, by decide, lk 639 (by decide +kernel), rfl⟩
theorem pX6_117 : r_Fp RX6 117 6 15 .boolean := ⟨RX6, TX6, 20, rfl, iwX6, by decide, lk 639 (by decide +kernel), rfl, tyX6, tyX6_ok, nmX6, rfl, by decide +kernel⟩
theorem fX6_121 : r_Fl RX6 121 6 16 := ⟨RX6, TX6, 20, rfl, iwX6, by decide, lk 640 (by decide +kernel), rfl⟩
theorem pX6_121 : r_Fp RX6 121 6 16 .int := ⟨RX6, TX6, 20, rfl, iwX6, by decide, lk 640 (by decide +kernel), rfl, tyX6, tyX6_ok, nmX6, rfl, by decide +kernel⟩
theorem fX6_44 : r_Fl RX6 44 6 17 := ⟨RX6, TX6, 20, rfl, iwX6, by decide, lk 641 (by decide +kernel), rfl⟩
theorem fX6_47 : r_Fl RX6 47 6 18 := ⟨RX6, TX6, 20, rfl, iwX6, by decide, lk 642 (by decide +kernel), rfl⟩
theorem fX6_50 : r_Fl RX6 50 6 19 := ⟨RX6, TX6, 20, rfl, iwX6, by decide, lk 643 (by decide +kernel), rfl⟩
theorem vL_17 : r_Vl RL 17 MX6_code 6 2 := ⟨lk 686 (by decide +kernel), lk 687 (by decide +kernel), lk 688 (by decide +kernel), lk 7 (by decide +kernel), lk 689 (by decide +kernel), rfl, by decide +kernel, by decide +kernel, by decide +kernel, by decide⟩
theorem vX6_68 : r_Sl RX6 68 MX6_within 3 := ⟨lk 690 (by decide +kernel), lk 691 (by decide +kernel), lk 7 (by decide +kernel), lk 692 (by decide +kernel), by decide +kernel, by decide +kernel, by decide +kernel, by decide⟩
theorem vX6_83 : r_Sl RX6 83 MX6_mostData 1 := ⟨lk 693 (by decide +kernel), lk 694 (by decide +kernel), lk 7 (by decide +kernel), lk 695 (by decide +kernel), by decide +kernel, by decide +kernel, by decide +kernel, by decide⟩
theorem vX6_86 : r_Vl RX6 86 MX6_nextColumn 6 1 := ⟨lk 696 (by decide +kernel), lk 698 (by decide +kernel), lks 22 (by decide +kernel), lk 7 (by decide +kernel), lk 699 (by decide +kernel), rfl, by decide +kernel, by decide +kernel, by decide +kernel, by decide⟩
theorem vX6_72 : r_Sl RX6 72 MX6_sizeOf 1 := ⟨lk 700 (by decide +kernel), lk 701 (by decide +kernel), lk 7 (by decide +kernel), lk 702 (by decide +kernel), by decide +kernel, by decide +kernel, by decide +kernel, by decide⟩
theorem vX6_53 : r_Sl RX6 53 MX6_isIn 2 := ⟨lk 703 (by decide +kernel), lk 704 (by decide +kernel), lk 7 (by decide +kernel), lk 705 (by decide +kernel), by decide +kernel, by decide +kernel, by decide +kernel, by decide⟩
theorem vX6_76 : r_Vl RX6 76 MX6_isChosen 6 2 := ⟨lk 706 (by decide +kernel), lk 708 (by decide +kernel), lks 23 (by decide +kernel), lk 7 (by decide +kernel), lk 709 (by decide +kernel), rfl, by decide +kernel, by decide +kernel, by decide +kernel, by decide⟩
theorem vX6_80 : r_Vl RX6 80 MX6_fullestWith 6 1 := ⟨lk 710 (by decide +kernel), lk 712 (by decide +kernel), lks 24 (by decide +kernel), lk 7 (by decide +kernel), lk 713 (by decide +kernel), rfl, by decide +kernel, by decide +kernel, by decide +kernel, by decide⟩
theorem vX6_89 : r_Vl RX6 89 MX6_begins 6 0 := ⟨lk 714 (by decide +kernel), lk 716 (by decide +kernel), lks 25 (by decide +kernel), lk 7 (by decide +kernel), lk 717 (by decide +kernel), rfl, by decide +kernel, by decide +kernel, by decide +kernel, by decide⟩
theorem vX6_64 : r_Vl RX6 64 MX6_bits 6 0 := ⟨lk 718 (by decide +kernel), lk 720 (by decide +kernel), lks 26 (by decide +kernel), lk 7 (by decide +kernel), lk 721 (by decide +kernel), rfl, by decide +kernel, by decide +kernel, by decide +kernel, by decide⟩
theorem vL_22 : r_Vl RL 22 MX6_column 6 1 := ⟨lk 722 (by decide +kernel), lk 723 (by decide +kernel), lk 724 (by decide +kernel), lk 7 (by decide +kernel), lk 725 (by decide +kernel), rfl, by decide +kernel, by decide +kernel, by decide +kernel, by decide⟩
theorem vX6_92 : r_Vl RX6 92 MX6_isBit 6 1 := ⟨lk 726 (by decide +kernel), lk 728 (by decide +kernel), lks 27 (by decide +kernel), lk 7 (by decide +kernel), lk 729 (by decide +kernel), rfl, by decide +kernel, by decide +kernel, by decide +kernel, by decide⟩
theorem vL_26 : r_Vl RL 26 MX6_ones 6 1 := ⟨lk 730 (by decide +kernel), lk 731 (by decide +kernel), lk 732 (by decide +kernel), lk 7 (by decide +kernel), lk 733 (by decide +kernel), rfl, by decide +kernel, by decide +kernel, by decide +kernel, by decide⟩
theorem vL_30 : r_Vl RL 30 MX6_word 6 1 := ⟨lk 734 (by decide +kernel), lk 735 (by decide +kernel), lk 736 (by decide +kernel), lk 7 (by decide +kernel), lk 737 (by decide +kernel), rfl, by decide +kernel, by decide +kernel, by decide +kernel, by decide⟩
theorem vX6_102 : r_Vl RX6 102 MX6_wordOf 6 1 := ⟨lk 738 (by decide +kernel), lk 740 (by decide +kernel), lks 28 (by decide +kernel), lk 7 (by decide +kernel), lk 741 (by decide +kernel), rfl, by decide +kernel, by decide +kernel, by decide +kernel, by decide⟩
theorem vX6_96 : r_Vl RX6 96 MX6_syndromeOf 6 1 := ⟨lk 742 (by decide +kernel), lk 744 (by decide +kernel), lks 29 (by decide +kernel), lk 7 (by decide +kernel), lk 745 (by decide +kernel), rfl, by decide +kernel, by decide +kernel, by decide +kernel, by decide⟩
theorem vL_34 : r_Vl RL 34 MX6_syndrome 6 1 := ⟨lk 746 (by decide +kernel), lk 747 (by decide +kernel), lk 748 (by decide +kernel), lk 7 (by decide +kernel), lk 749 (by decide +kernel), rfl, by decide +kernel, by decide +kernel, by decide +kernel, by decide⟩
theorem vX6_105 : r_Vl RX6 105 MX6_isSet 6 1 := ⟨lk 750 (by decide +kernel), lk 752 (by decide +kernel), lks 30 (by decide +kernel), lk 7 (by decide +kernel), lk 753 (by decide +kernel), rfl, by decide +kernel, by decide +kernel, by decide +kernel, by decide⟩
theorem vL_38 : r_Vl RL 38 MX6_mended 6 1 := ⟨lk 754 (by decide +kernel), lk 755 (by decide +kernel), lk 756 (by decide +kernel), lk 7 (by decide +kernel), lk 757 (by decide +kernel), rfl, by decide +kernel, by decide +kernel, by decide +kernel, by decide⟩
theorem vX6_108 : r_Vl RX6 108 MX6_mendedOf 6 1 := ⟨lk 758 (by decide +kernel), lk 760 (by decide +kernel), lks 31 (by decide +kernel), lk 7 (by decide +kernel), lk 761 (by decide +kernel), rfl, by decide +kernel, by decide +kernel, by decide +kernel, by decide⟩
theorem vX6_99 : r_Vl RX6 99 MX6_bitOf 6 1 := ⟨lk 762 (by decide +kernel), lk 764 (by decide +kernel), lks 32 (by decide +kernel), lk 7 (by decide +kernel), lk 765 (by decide +kernel), rfl, by decide +kernel, by decide +kernel, by decide +kernel, by decide⟩
theorem vL_43 : r_Vl RL 43 MX6_write 6 3 := ⟨lk 766 (by decide +kernel), lk 767 (by decide +kernel), lk 768 (by decide +kernel), lk 7 (by decide +kernel), lk 769 (by decide +kernel), rfl, by decide +kernel, by decide +kernel, by decide +kernel, by decide⟩
theorem vX6_131 : r_Vl RX6 131 MX6_isWord 6 2 := ⟨lk 770 (by decide +kernel), lk 772 (by decide +kernel), lks 33 (by decide +kernel), lk 7 (by decide +kernel), lk 773 (by decide +kernel), rfl, by decide +kernel, by decide +kernel, by decide +kernel, by decide⟩
theorem vX6_134 : r_Vl RX6 134 MX6_puts 6 3 := ⟨lk 774 (by decide +kernel), lk 776 (by decide +kernel), lks 34 (by decide +kernel), lk 7 (by decide +kernel), lk 777 (by decide +kernel), rfl, by decide +kernel, by decide +kernel, by decide +kernel, by decide⟩
theorem vX6_128 : r_Vl RX6 128 MX6_cellOf 6 3 := ⟨lk 778 (by decide +kernel), lk 780 (by decide +kernel), lks 35 (by decide +kernel), lk 7 (by decide +kernel), lk 781 (by decide +kernel), rfl, by decide +kernel, by decide +kernel, by decide +kernel, by decide⟩
theorem vX6_124 : r_Sl RX6 124 MX6_at 3 := ⟨lk 782 (by decide +kernel), lk 783 (by decide +kernel), lk 7 (by decide +kernel), lk 784 (by decide +kernel), by decide +kernel, by decide +kernel, by decide +kernel, by decide⟩
theorem vL_47 : r_Vl RL 47 MX6_read 6 2 := ⟨lk 785 (by decide +kernel), lk 786 (by decide +kernel), lk 787 (by decide +kernel), lk 7 (by decide +kernel), lk 788 (by decide +kernel), rfl, by decide +kernel, by decide +kernel, by decide +kernel, by decide⟩
theorem vX6_165 : r_Vl RX6 165 MX6_looksAt 6 2 := ⟨lk 789 (by decide +kernel), lk 791 (by decide +kernel), lks 36 (by decide +kernel), lk 7 (by decide +kernel), lk 792 (by decide +kernel), rfl, by decide +kernel, by decide +kernel, by decide +kernel, by decide⟩
theorem vX6_159 : r_Vl RX6 159 MX6_rawOf 6 2 := ⟨lk 793 (by decide +kernel), lk 795 (by decide +kernel), lks 37 (by decide +kernel), lk 7 (by decide +kernel), lk 796 (by decide +kernel), rfl, by decide +kernel, by decide +kernel, by decide +kernel, by decide⟩
theorem vX6_162 : r_Vl RX6 162 MX6_marksBit 6 3 := ⟨lk 797 (by decide +kernel), lk 799 (by decide +kernel), lks 38 (by decide +kernel), lk 7 (by decide +kernel), lk 800 (by decide +kernel), rfl, by decide +kernel, by decide +kernel, by decide +kernel, by decide⟩
theorem vX6_145 : r_Vl RX6 145 MX6_badIn 6 1 := ⟨lk 801 (by decide +kernel), lk 803 (by decide +kernel), lks 39 (by decide +kernel), lk 7 (by decide +kernel), lk 804 (by decide +kernel), rfl, by decide +kernel, by decide +kernel, by decide +kernel, by decide⟩
theorem vX6_148 : r_Vl RX6 148 MX6_swaps 6 1 := ⟨lk 805 (by decide +kernel), lk 807 (by decide +kernel), lks 40 (by decide +kernel), lk 7 (by decide +kernel), lk 808 (by decide +kernel), rfl, by decide +kernel, by decide +kernel, by decide +kernel, by decide⟩
theorem vX6_141 : r_Vl RX6 141 MX6_takesOver 6 2 := ⟨lk 809 (by decide +kernel), lk 811 (by decide +kernel), lks 41 (by decide +kernel), lk 7 (by decide +kernel), lk 812 (by decide +kernel), rfl, by decide +kernel, by decide +kernel, by decide +kernel, by decide⟩
theorem vX6_152 : r_Vl RX6 152 MX6_wrongIn 6 2 := ⟨lk 813 (by decide +kernel), lk 815 (by decide +kernel), lks 42 (by decide +kernel), lk 7 (by decide +kernel), lk 816 (by decide +kernel), rfl, by decide +kernel, by decide +kernel, by decide +kernel, by decide⟩
theorem vX6_138 : r_Vl RX6 138 MX6_isUsed 6 1 := ⟨lk 817 (by decide +kernel), lk 819 (by decide +kernel), lks 43 (by decide +kernel), lk 7 (by decide +kernel), lk 820 (by decide +kernel), rfl, by decide +kernel, by decide +kernel, by decide +kernel, by decide⟩
theorem vX6_156 : r_Vl RX6 156 MX6_retires 6 1 := ⟨lk 821 (by decide +kernel), lk 823 (by decide +kernel), lks 44 (by decide +kernel), lk 7 (by decide +kernel), lk 824 (by decide +kernel), rfl, by decide +kernel, by decide +kernel, by decide +kernel, by decide⟩
theorem vL_51 : r_Vl RL 51 MX6_raw 6 2 := ⟨lk 825 (by decide +kernel), lk 826 (by decide +kernel), lk 827 (by decide +kernel), lk 7 (by decide +kernel), lk 828 (by decide +kernel), rfl, by decide +kernel, by decide +kernel, by decide +kernel, by decide⟩
theorem vL_55 : r_Vl RL 55 MX6_flip 6 3 := ⟨lk 829 (by decide +kernel), lk 830 (by decide +kernel), lk 831 (by decide +kernel), lk 7 (by decide +kernel), lk 832 (by decide +kernel), rfl, by decide +kernel, by decide +kernel, by decide +kernel, by decide⟩
theorem vL_60 : r_Vl RL 60 MX6_stick 6 4 := ⟨lk 833 (by decide +kernel), lk 834 (by decide +kernel), lk 835 (by decide +kernel), lk 7 (by decide +kernel), lk 836 (by decide +kernel), rfl, by decide +kernel, by decide +kernel, by decide +kernel, by decide⟩
theorem vL_64 : r_Vl RL 64 MX6_scrub 6 1 := ⟨lk 837 (by decide +kernel), lk 838 (by decide +kernel), lk 839 (by decide +kernel), lk 7 (by decide +kernel), lk 840 (by decide +kernel), rfl, by decide +kernel, by decide +kernel, by decide +kernel, by decide⟩
theorem vL_68 : r_Vl RL 68 MX6_look 6 1 := ⟨lk 841 (by decide +kernel), lk 842 (by decide +kernel), lk 843 (by decide +kernel), lk 7 (by decide +kernel), lk 844 (by decide +kernel), rfl, by decide +kernel, by decide +kernel, by decide +kernel, by decide⟩
theorem vL_72 : r_Vl RL 72 MX6_fate 6 3 := ⟨lk 845 (by decide +kernel), lk 846 (by decide +kernel), lk 847 (by decide +kernel), lk 7 (by decide +kernel), lk 848 (by decide +kernel), rfl, by decide +kernel, by decide +kernel, by decide +kernel, by decide⟩
theorem vL_76 : r_Vl RL 76 MX6_marks 6 3 := ⟨lk 849 (by decide +kernel), lk 850 (by decide +kernel), lk 851 (by decide +kernel), lk 7 (by decide +kernel), lk 852 (by decide +kernel), rfl, by decide +kernel, by decide +kernel, by decide +kernel, by decide⟩
theorem vL_80 : r_Vl RL 80 MX6_frame 6 1 := ⟨lk 853 (by decide +kernel), lk 854 (by decide +kernel), lk 855 (by decide +kernel), lk 7 (by decide +kernel), lk 856 (by decide +kernel), rfl, by decide +kernel, by decide +kernel, by decide +kernel, by decide⟩
theorem vL_84 : r_Vl RL 84 MX6_place 6 1 := ⟨lk 857 (by decide +kernel), lk 858 (by decide +kernel), lk 859 (by decide +kernel), lk 7 (by decide +kernel), lk 860 (by decide +kernel), rfl, by decide +kernel, by decide +kernel, by decide +kernel, by decide⟩
theorem vL_88 : r_Vl RL 88 MX6_retired 6 1 := ⟨lk 861 (by decide +kernel), lk 862 (by decide +kernel), lk 863 (by decide +kernel), lk 7 (by decide +kernel), lk 864 (by decide +kernel), rfl, by decide +kernel, by decide +kernel, by decide +kernel, by decide⟩
theorem vL_92 : r_Vl RL 92 MX6_troubled 6 1 := ⟨lk 865 (by decide +kernel), lk 866 (by decide +kernel), lk 867 (by decide +kernel), lk 7 (by decide +kernel), lk 868 (by decide +kernel), rfl, by decide +kernel, by decide +kernel, by decide +kernel, by decide⟩
theorem vL_96 : r_Vl RL 96 MX6_mends 6 1 := ⟨lk 869 (by decide +kernel), lk 870 (by decide +kernel), lk 871 (by decide +kernel), lk 7 (by decide +kernel), lk 872 (by decide +kernel), rfl, by decide +kernel, by decide +kernel, by decide +kernel, by decide⟩
theorem vL_100 : r_Vl RL 100 MX6_patterns 6 2 := ⟨lk 873 (by decide +kernel), lk 874 (by decide +kernel), lk 875 (by decide +kernel), lk 7 (by decide +kernel), lk 876 (by decide +kernel), rfl, by decide +kernel, by decide +kernel, by decide +kernel, by decide⟩
theorem vX6_168 : r_Vl RX6 168 MX6_tells 6 1 := ⟨lk 877 (by decide +kernel), lk 879 (by decide +kernel), lks 45 (by decide +kernel), lk 7 (by decide +kernel), lk 880 (by decide +kernel), rfl, by decide +kernel, by decide +kernel, by decide +kernel, by decide⟩
theorem vX6_171 : r_Sl RX6 171 MX6_nextSet 1 := ⟨lk 881 (by decide +kernel), lk 882 (by decide +kernel), lk 7 (by decide +kernel), lk 883 (by decide +kernel), by decide +kernel, by decide +kernel, by decide +kernel, by decide⟩
theorem vL_105 : r_Vl RL 105 MX6_weight 6 0 := ⟨lk 884 (by decide +kernel), lk 885 (by decide +kernel), lk 886 (by decide +kernel), lk 7 (by decide +kernel), lk 887 (by decide +kernel), rfl, by decide +kernel, by decide +kernel, by decide +kernel, by decide⟩
theorem vL_110 : r_Vl RL 110 MX6_safe 6 3 := ⟨lk 888 (by decide +kernel), lk 889 (by decide +kernel), lk 890 (by decide +kernel), lk 7 (by decide +kernel), lk 891 (by decide +kernel), rfl, by decide +kernel, by decide +kernel, by decide +kernel, by decide⟩
theorem vL_114 : r_Vl RL 114 MX6_many 6 1 := ⟨lk 895 (by decide +kernel), lk 896 (by decide +kernel), lk 897 (by decide +kernel), lk 7 (by decide +kernel), lk 898 (by decide +kernel), rfl, by decide +kernel, by decide +kernel, by decide +kernel, by decide⟩
theorem vX6_180 : r_Vl RX6 180 MX6_wrongInUse 6 1 := ⟨lk 899 (by decide +kernel), lk 901 (by decide +kernel), lks 46 (by decide +kernel), lk 7 (by decide +kernel), lk 902 (by decide +kernel), rfl, by decide +kernel, by decide +kernel, by decide +kernel, by decide⟩
end
section
/-! calls by the number of their arguments; arrays by a counted place; loops -/
section More
variable {M : r_M} {h : Nat} {X : r_X} {Post : Option Value → r_Sg → Prop} {pc : Nat} {L S : List Value} {σ σ' : r_Sg}
variable {idx ci q h' : Nat} {M' : r_M} {fl : List (Option Nat)} {rest : List Value} {v a b c e : Value}
theorem g_V0 (d : decode M.2.1 pc = .ok (.invokevirtual idx, 3)) (hv : r_Vl M.1.cls idx M' ci 0) (hs : r_SH[q]? = some (.inr (ci, fl))) (hc : (rest.map fun v => v.category).sum ≤ 8) (hh : h' + 1 ≤ h) (hev : Ev h' M' [.ref q] σ (some v) σ') (k : G M h X Post (pc + 3) L (v :: rest) σ') : G M h X Post pc L (.ref q :: rest) σ := g_callV (As := []) d hv hs rfl hc hh hev k
theorem g_V1 (d : decode M.2.1 pc = .ok (.invokevirtual idx, 3)) (hv : r_Vl M.1.cls idx M' ci 1) (hs : r_SH[q]? = some (.inr (ci, fl))) (hc : (rest.map fun v => v.category).sum ≤ 8) (hh : h' + 1 ≤ h) (hev : Ev h' M' [.ref q, a] σ (some v) σ') (k : G M h X Post (pc + 3) L (v :: rest) σ') : G M h X Post pc L (a :: .ref q :: rest) σ := g_callV (As := [a]) d hv hs rfl hc hh hev k
theorem g_V2 (d : decode M.2.1 pc = .ok (.invokevirtual idx, 3)) (hv : r_Vl M.1.cls idx M' ci 2) (hs : r_SH[q]? = some (.inr (ci, fl))) (hc : (rest.map fun v => v.category).sum ≤ 8) (hh : h' + 1 ≤ h) (hev : Ev h' M' [.ref q, a, b] σ (some v) σ') (k : G M h X Post (pc + 3) L (v :: rest) σ') : G M h X Post pc L (b :: a :: .ref q :: rest) σ := g_callV (As := [a, b]) d hv hs rfl hc hh hev k
theorem g_V3 (d : decode M.2.1 pc = .ok (.invokevirtual idx, 3)) (hv : r_Vl M.1.cls idx M' ci 3) (hs : r_SH[q]? = some (.inr (ci, fl))) (hc : (rest.map fun v => v.category).sum ≤ 8) (hh : h' + 1 ≤ h) (hev : Ev h' M' [.ref q, a, b, c] σ (some v) σ') (k : G M h X Post (pc + 3) L (v :: rest) σ') : G M h X Post pc L (c :: b :: a :: .ref q :: rest) σ := g_callV (As := [a, b, c]) d hv hs rfl hc hh hev k
theorem g_V4 (d : decode M.2.1 pc = .ok (.invokevirtual idx, 3)) (hv : r_Vl M.1.cls idx M' ci 4) (hs : r_SH[q]? = some (.inr (ci, fl))) (hc : (rest.map fun v => v.category).sum ≤ 8) (hh : h' + 1 ≤ h) (hev : Ev h' M' [.ref q, a, b, c, e] σ (some v) σ') (k : G M h X Post (pc + 3) L (v :: rest) σ') : G M h X Post pc L (e :: c :: b :: a :: .ref q :: rest) σ := g_callV (As := [a, b, c, e]) d hv hs rfl hc hh hev k
theorem g_V0v (d : decode M.2.1 pc = .ok (.invokevirtual idx, 3)) (hv : r_Vl M.1.cls idx M' ci 0) (hs : r_SH[q]? = some (.inr (ci, fl))) (hc : (rest.map fun v => v.category).sum ≤ 8) (hh : h' + 1 ≤ h) (hev : Ev h' M' [.ref q] σ none σ') (k : G M h X Post (pc + 3) L rest σ') : G M h X Post pc L (.ref q :: rest) σ := g_callV (As := []) d hv hs rfl hc hh hev k
theorem g_V1v (d : decode M.2.1 pc = .ok (.invokevirtual idx, 3)) (hv : r_Vl M.1.cls idx M' ci 1) (hs : r_SH[q]? = some (.inr (ci, fl))) (hc : (rest.map fun v => v.category).sum ≤ 8) (hh : h' + 1 ≤ h) (hev : Ev h' M' [.ref q, a] σ none σ') (k : G M h X Post (pc + 3) L rest σ') : G M h X Post pc L (a :: .ref q :: rest) σ := g_callV (As := [a]) d hv hs rfl hc hh hev k
theorem g_V2v (d : decode M.2.1 pc = .ok (.invokevirtual idx, 3)) (hv : r_Vl M.1.cls idx M' ci 2) (hs : r_SH[q]? = some (.inr (ci, fl))) (hc : (rest.map fun v => v.category).sum ≤ 8) (hh : h' + 1 ≤ h) (hev : Ev h' M' [.ref q, a, b] σ none σ') (k : G M h X Post (pc + 3) L rest σ') : G M h X Post pc L (b :: a :: .ref q :: rest) σ := g_callV (As := [a, b]) d hv hs rfl hc hh hev k
theorem g_V3v (d : decode M.2.1 pc = .ok (.invokevirtual idx, 3)) (hv : r_Vl M.1.cls idx M' ci 3) (hs : r_SH[q]? = some (.inr (ci, fl))) (hc : (rest.map fun v => v.category).sum ≤ 8) (hh : h' + 1 ≤ h) (hev : Ev h' M' [.ref q, a, b, c] σ none σ') (k : G M h X Post (pc + 3) L rest σ') : G M h X Post pc L (c :: b :: a :: .ref q :: rest) σ := g_callV (As := [a, b, c]) d hv hs rfl hc hh hev k
theorem g_V4v (d : decode M.2.1 pc = .ok (.invokevirtual idx, 3)) (hv : r_Vl M.1.cls idx M' ci 4) (hs : r_SH[q]? = some (.inr (ci, fl))) (hc : (rest.map fun v => v.category).sum ≤ 8) (hh : h' + 1 ≤ h) (hev : Ev h' M' [.ref q, a, b, c, e] σ none σ') (k : G M h X Post (pc + 3) L rest σ') : G M h X Post pc L (e :: c :: b :: a :: .ref q :: rest) σ := g_callV (As := [a, b, c, e]) d hv hs rfl hc hh hev k
theorem g_S1 (d : decode M.2.1 pc = .ok (.invokestatic idx, 3)) (hv : r_Sl M.1.cls idx M' 1) (hc : (rest.map fun v => v.category).sum ≤ 8) (hh : h' + 1 ≤ h) (hev : Ev h' M' [a] σ (some v) σ') (k : G M h X Post (pc + 3) L (v :: rest) σ') : G M h X Post pc L (a :: rest) σ := g_callS (As := [a]) d hv rfl hc hh hev k
theorem g_S2 (d : decode M.2.1 pc = .ok (.invokestatic idx, 3)) (hv : r_Sl M.1.cls idx M' 2) (hc : (rest.map fun v => v.category).sum ≤ 8) (hh : h' + 1 ≤ h) (hev : Ev h' M' [a, b] σ (some v) σ') (k : G M h X Post (pc + 3) L (v :: rest) σ') : G M h X Post pc L (b :: a :: rest) σ := g_callS (As := [a, b]) d hv rfl hc hh hev k
theorem g_S3 (d : decode M.2.1 pc = .ok (.invokestatic idx, 3)) (hv : r_Sl M.1.cls idx M' 3) (hc : (rest.map fun v => v.category).sum ≤ 8) (hh : h' + 1 ≤ h) (hev : Ev h' M' [a, b, c] σ (some v) σ') (k : G M h X Post (pc + 3) L (v :: rest) σ') : G M h X Post pc L (c :: b :: a :: rest) σ := g_callS (As := [a, b, c]) d hv rfl hc hh hev k
theorem g_S2v (d : decode M.2.1 pc = .ok (.invokestatic idx, 3)) (hv : r_Sl M.1.cls idx M' 2) (hc : (rest.map fun v => v.category).sum ≤ 8) (hh : h' + 1 ≤ h) (hev : Ev h' M' [a, b] σ none σ') (k : G M h X Post (pc + 3) L rest σ') : G M h X Post pc L (b :: a :: rest) σ := g_callS (As := [a, b]) d hv rfl hc hh hev k
theorem r_SHn {q n : Nat} {z : Bool} (hs : r_SH[q]? = some (.inl (n, z))) : n ≤ 504 := by
  have h : r_SH.all (fun sh => match sh with
    | .inl p => decide (p.1 ≤ 504)
    | .inr _ => true) = true := by decide
  have := List.all_eq_true.mp h _ (List.mem_of_getElem? hs)
  simpa using this
theorem g_ial {q n : Nat} {i : Int32} (j : Nat) (d : decode M.2.1 pc = .ok (.iaload, 1)) (hs : r_SH[q]? = some (.inl (n, false))) (hi : i = nI j) (hj : j < n) (k : G M h X Post (pc + 1) L (.int (σ q j) :: S) σ) : G M h X Post pc L (.int i :: .ref q :: S) σ := by
  subst hi
  have hn := r_SHn hs
  refine g_iald d hs (vp_in_nI hj (by omega)) ?_
  rw [nI_clamp (by omega)]
  exact k
theorem g_zal {q n : Nat} {i : Int32} (j : Nat) (d : decode M.2.1 pc = .ok (.baload, 1)) (hs : r_SH[q]? = some (.inl (n, true))) (hi : i = nI j) (hj : j < n) (k : G M h X Post (pc + 1) L (.int (σ q j) :: S) σ) : G M h X Post pc L (.int i :: .ref q :: S) σ := by
  subst hi
  have hn := r_SHn hs
  refine g_zald d hs (vp_in_nI hj (by omega)) ?_
  rw [nI_clamp (by omega)]
  exact k
theorem g_ias {q n : Nat} {i v : Int32} (j : Nat) (d : decode M.2.1 pc = .ok (.iastore, 1)) (hs : r_SH[q]? = some (.inl (n, false))) (hi : i = nI j) (hj : j < n) (k : G M h X Post (pc + 1) L S (r_up σ q j v)) : G M h X Post pc L (.int v :: .int i :: .ref q :: S) σ := by
  subst hi
  have hn := r_SHn hs
  refine g_iast d hs (vp_in_nI hj (by omega)) ?_
  rw [nI_clamp (by omega)]
  exact k
theorem g_zas {q n : Nat} {i v : Int32} (j : Nat) (d : decode M.2.1 pc = .ok (.bastore, 1)) (hs : r_SH[q]? = some (.inl (n, true))) (hi : i = nI j) (hj : j < n) (hv : v = 0 ∨ v = 1) (k : G M h X Post (pc + 1) L S (r_up σ q j v)) : G M h X Post pc L (.int v :: .int i :: .ref q :: S) σ := by
  subst hi
  have hn := r_SHn hs
  refine g_zast d hs (vp_in_nI hj (by omega)) hv ?_
  rw [nI_clamp (by omega)]
  exact k
/-- a counted loop: n rounds from its head back to it -/
theorem r_loop {n : Nat} (Lf : Nat → List Value) (sf : Nat → r_Sg) (hstep : ∀ k, k < n → G M h X Post pc (Lf (k + 1)) S (sf (k + 1)) → G M h X Post pc (Lf k) S (sf k)) (hend : G M h X Post pc (Lf n) S (sf n)) : G M h X Post pc (Lf 0) S (sf 0) := by
  have key : ∀ k, k ≤ n → G M h X Post pc (Lf (n - k)) S (sf (n - k)) := by
    intro k
    induction k with
    | zero => intro _; exact hend
    | succ k ih =>
      intro hk
      refine hstep (n - (k + 1)) (by omega) ?_
      rw [show n - (k + 1) + 1 = n - k by omega]
      exact ih (by omega)
  have := key n (Nat.le_refl n)
  rwa [Nat.sub_self] at this
/-- names: another form of what is on the stack, of the ints -/
theorem g_s {S' : List Value} (e : S = S') (k : G M h X Post pc L S' σ) : G M h X Post pc L S σ := e ▸ k
theorem g_l {L' : List Value} (e : L = L') (k : G M h X Post pc L' S σ) : G M h X Post pc L S σ := e ▸ k
theorem g_g {σ' : r_Sg} (e : σ = σ') (k : G M h X Post pc L S σ') : G M h X Post pc L S σ := e ▸ k
theorem g_t {x y : Int32} (e : x = y) (k : G M h X Post pc L (.int y :: S) σ) : G M h X Post pc L (.int x :: S) σ := e ▸ k
theorem Ev_r {r r' : Option Value} {as : List Value} (h1 : Ev h M as σ r σ') (e : r = r') : Ev h M as σ r' σ' := e ▸ h1
/-- a walk by what its end must be -/
theorem Ev_w {as : List Value} {r : Option Value} (L0 : List Value) (hg : G M h none (fun r1 s1 => r1 = r ∧ s1 = σ') 0 L0 [] σ) (hp : plainName M.1.cls = true) (hc : as.all (fun w => !(r_lg2 w)) = true) (hl : as.length ≤ M.2.2.1) (hL : L0 = as ++ List.replicate (M.2.2.1 - as.length) .null) : Ev h M as σ r σ' := by
  subst hL
  refine Ev_of hp (fun w hw => ?_) hl hg
  have h1 := List.all_eq_true.mp hc w hw
  have h2 : r_lg2 w = false := by simpa using h1
  have h3 := r_lg2_cat h2
  rcases lv_cat w with h | h
  · exact h
  · exact absurd h h3
end More
end
section
/-! MendedBank.Code: d data bits, c rows (both 0: no code) -/
def bI (P : Prop) [Decidable P] : Int32 := if P then 1 else 0
theorem bI_0 {P : Prop} [Decidable P] : bI P = 0 ↔ ¬ P := by unfold bI; split <;> simp_all
theorem bI_1 {P : Prop} [Decidable P] : ¬ bI P = 0 ↔ P := by unfold bI; split <;> simp_all
theorem bI_t {P : Prop} [Decidable P] (h : P) : bI P = 1 := if_pos h
theorem bI_f {P : Prop} [Decidable P] (h : ¬ P) : bI P = 0 := if_neg h
theorem bI_c {P Q : Prop} [Decidable P] [Decidable Q] (h : P ↔ Q) : bI P = bI Q := by unfold bI; simp [h]
/-- the places of a cell from 0 to n set to v -/
def r_fill (σ : r_Sg) (q n : Nat) (v : Int32) : r_Sg := fun c i => if c = q ∧ i < n then v else σ c i
theorem r_fill_0 (σ : r_Sg) (q : Nat) (v : Int32) : σ = r_fill σ q 0 v := by funext a b; simp [r_fill]
theorem r_fill_s (σ : r_Sg) (q k : Nat) (v : Int32) : r_up (r_fill σ q k v) q k v = r_fill σ q (k + 1) v := by
  funext a b
  by_cases h1 : a = q
  · subst h1
    by_cases h2 : b = k
    · subst h2; simp [r_up, r_fill, upd]
    · have h3 : b < k + 1 ↔ b < k := by omega
      simp [r_up, r_fill, upd, h2, h3]
  · simp [r_up, r_fill, h1]
def r_sum (f : Nat → Int32) : Nat → Int32
  | 0 => 0
  | n + 1 => r_sum f n + f n
/-- bit b of a set of bits -/
def r_b (x : Int32) (b : Nat) : Int32 := (x >>> (nI b &&& 31)) &&& 1
def r_syn (col : Nat → Int32) (set : Int32) : Nat → Int32
  | 0 => 0
  | b + 1 => if r_b set b = 0 then r_syn col set b else r_syn col set b ^^^ col b
def r_ush (x y : Int32) : Int32 := (x.toUInt32 >>> (y.toUInt32 &&& Int32.toUInt32 31)).toInt32
def r_bc1 (x : Int32) : Int32 := x - (r_ush x 1 &&& 1431655765)
def r_bc2 (x : Int32) : Int32 := (x &&& 858993459) + (r_ush x 2 &&& 858993459)
def r_bc3 (x : Int32) : Int32 := (x + r_ush x 4) &&& 252645135
def r_bc4 (x : Int32) : Int32 := x + r_ush x 8
def r_bc5 (x : Int32) : Int32 := (x + r_ush x 16) &&& 63
/-- Integer.bitCount -/
def r_bc (x : Int32) : Int32 := r_bc5 (r_bc4 (r_bc3 (r_bc2 (r_bc1 x))))
theorem kc_265 : Cond.constant RJ6 265 1431655765 ∈ r_tbl := lk 184 (by decide +kernel)
theorem kc_266 : Cond.constant RJ6 266 858993459 ∈ r_tbl := lk 185 (by decide +kernel)
theorem kc_267 : Cond.constant RJ6 267 252645135 ∈ r_tbl := lk 186 (by decide +kernel)

theorem g_mmax {M : r_M} {h : Nat} {X : r_X} {Post : Option Value → r_Sg → Prop} {pc : Nat} {L S : List Value} {σ : r_Sg} {idx : Nat} {x y : Int32} (d : decode M.2.1 pc = .ok (.invokestatic idx, 3)) (hv : r_Sl M.1.cls idx MJ9_max_7cf53 2) (hc : (S.map fun v => v.category).sum ≤ 8) (hh : 1 ≤ h) (k : G M h X Post (pc + 3) L (.int (if x < y then y else x) :: S) σ) : G M h X Post pc L (.int y :: .int x :: S) σ := by
  intro E p l e R s m args below meth c A cells slots Q C H locs ls hP hD hS hL
  obtain ⟨v1, v2, v4, v5, v7, v8, v9, v10⟩ := hv
  have e1 : Lib.Math.max.code = cJ9_max_7cf53 := by first | rfl | decide +kernel
  have v5' : Cond.code Lib.Math.max.name Lib.Math.max.code 2 (some .int) ∈ r_tbl := by rw [e1]; exact v5
  have hR := C.2.2.2.2.2.2.2.2.2.2.1
  have hcs := C.2.2.2.2.2.2.2.2.2.2.2.1
  exact va_mmax C.1 C.2.1 (C.2.2.1.trans hL.1.symm) C.2.2.2.1 (C.2.2.2.2.1 _ v1) (C.2.2.2.2.1 _ v2) (C.2.2.2.2.1 _ v4) (C.2.2.2.2.1 _ v5') (by omega) (by rw [r_cats]; omega) hcs.1 hcs.2 d (k E p l e R s m args below meth c A cells slots Q C H locs ls hP hD hS hL)

set_option maxRecDepth 4000 in
theorem ev_J6_bitCount_0f7a4 {σ : r_Sg} {x : Int32}  : Ev 0 MJ6_bitCount_0f7a4 [.int x] σ (some (.int (r_bc x))) σ := by
  refine Ev_w [.int x] ?_ (by decide) rfl (Nat.le_of_ble_eq_true rfl) rfl
  refine g_iload_n dJ6_bitCount_0f7a4_0 rfl ?_
  refine g_iload_n dJ6_bitCount_0f7a4_1 rfl ?_
  refine g_iconst (v := 1) dJ6_bitCount_0f7a4_2 (by decide) ?_
  refine g_iushr dJ6_bitCount_0f7a4_3 rfl ?_
  refine g_ldcw dJ6_bitCount_0f7a4_4 kc_265 ?_
  refine g_iand dJ6_bitCount_0f7a4_7 ?_
  refine g_isub dJ6_bitCount_0f7a4_8 ?_
  refine g_istore_n dJ6_bitCount_0f7a4_9 (by decide) rfl ?_
  refine g_iload_n dJ6_bitCount_0f7a4_10 rfl ?_
  refine g_ldcw dJ6_bitCount_0f7a4_11 kc_266 ?_
  refine g_iand dJ6_bitCount_0f7a4_14 ?_
  refine g_iload_n dJ6_bitCount_0f7a4_15 rfl ?_
  refine g_iconst (v := 2) dJ6_bitCount_0f7a4_16 (by decide) ?_
  refine g_iushr dJ6_bitCount_0f7a4_17 rfl ?_
  refine g_ldcw dJ6_bitCount_0f7a4_18 kc_266 ?_
  refine g_iand dJ6_bitCount_0f7a4_21 ?_
  refine g_iadd dJ6_bitCount_0f7a4_22 ?_
  refine g_istore_n dJ6_bitCount_0f7a4_23 (by decide) rfl ?_
  refine g_iload_n dJ6_bitCount_0f7a4_24 rfl ?_
  refine g_iload_n dJ6_bitCount_0f7a4_25 rfl ?_
  refine g_iconst (v := 4) dJ6_bitCount_0f7a4_26 (by decide) ?_
  refine g_iushr dJ6_bitCount_0f7a4_27 rfl ?_
  refine g_iadd dJ6_bitCount_0f7a4_28 ?_
  refine g_ldcw dJ6_bitCount_0f7a4_29 kc_267 ?_
  refine g_iand dJ6_bitCount_0f7a4_32 ?_
  refine g_istore_n dJ6_bitCount_0f7a4_33 (by decide) rfl ?_
  refine g_iload_n dJ6_bitCount_0f7a4_34 rfl ?_
  refine g_iload_n dJ6_bitCount_0f7a4_35 rfl ?_
  refine g_bipush (v := 8) dJ6_bitCount_0f7a4_36 (by decide) ?_
  refine g_iushr dJ6_bitCount_0f7a4_38 rfl ?_
  refine g_iadd dJ6_bitCount_0f7a4_39 ?_
  refine g_istore_n dJ6_bitCount_0f7a4_40 (by decide) rfl ?_
  refine g_iload_n dJ6_bitCount_0f7a4_41 rfl ?_
  refine g_iload_n dJ6_bitCount_0f7a4_42 rfl ?_
  refine g_bipush (v := 16) dJ6_bitCount_0f7a4_43 (by decide) ?_
  refine g_iushr dJ6_bitCount_0f7a4_45 rfl ?_
  refine g_iadd dJ6_bitCount_0f7a4_46 ?_
  refine g_istore_n dJ6_bitCount_0f7a4_47 (by decide) rfl ?_
  refine g_iload_n dJ6_bitCount_0f7a4_48 rfl ?_
  refine g_bipush (v := 63) dJ6_bitCount_0f7a4_49 (by decide) ?_
  refine g_iand dJ6_bitCount_0f7a4_51 ?_
  exact g_iret dJ6_bitCount_0f7a4_52 rfl ⟨rfl, rfl⟩

set_option maxRecDepth 4000 in
theorem ev_J7_fill_53178 {σ : r_Sg} {q n : Nat} {v : Int32} (hs : r_SH[q]? = some (.inl (n, false))) : Ev 0 MJ7_fill_53178 [.ref q, .int v] σ none (r_fill σ q n v) := by
  have hn := r_SHn hs
  refine Ev_w [.ref q, .int v, .null, .null] ?_ (by decide) rfl (Nat.le_of_ble_eq_true rfl) rfl
  refine g_iconst (v := 0) dJ7_fill_53178_0 (by decide) ?_
  refine g_istore_n dJ7_fill_53178_1 (by decide) rfl ?_
  refine g_aload_n dJ7_fill_53178_2 rfl ?_
  refine g_alen (v := nI n) dJ7_fill_53178_3 hs rfl ?_
  refine g_istore_n dJ7_fill_53178_4 (by decide) rfl ?_
  refine g_g (r_fill_0 σ q v) ?_
  refine r_loop (n := n) (fun k => [.ref q, .int v, .int (nI k), .int (nI n)]) (fun k => r_fill σ q k v) (fun k hk ih => ?_) ?_
  · refine g_iload_n dJ7_fill_53178_5 rfl ?_
    refine g_iload_n dJ7_fill_53178_6 rfl ?_
    refine g_icge (tgt := 20) dJ7_fill_53178_7 (by decide) (fun c7 => absurd c7 (nI_ge hk (by omega))) (fun c7 => ?_)
    refine g_aload_n dJ7_fill_53178_10 rfl ?_
    refine g_iload_n dJ7_fill_53178_11 rfl ?_
    refine g_iload_n dJ7_fill_53178_12 rfl ?_
    refine g_ias _ dJ7_fill_53178_13 hs rfl hk ?_
    refine g_iinc (v := nI (k + 1)) dJ7_fill_53178_14 rfl (nI_1 k) (by decide) rfl ?_
    refine g_goto (tgt := 5) dJ7_fill_53178_17 (by decide) ?_
    exact g_g (r_fill_s σ q k v) ih
  · refine g_iload_n dJ7_fill_53178_5 rfl ?_
    refine g_iload_n dJ7_fill_53178_6 rfl ?_
    refine g_icge (tgt := 20) dJ7_fill_53178_7 (by decide) (fun c7 => ?_) (fun c7 => absurd (nI_le (Nat.le_refl _) (by omega)) c7)
    exact g_ret dJ7_fill_53178_20 rfl ⟨rfl, rfl⟩

set_option maxRecDepth 4000 in
theorem ev_X2_width {σ : r_Sg}  : Ev 0 MX2_width [.ref 1] σ (some (.int (σ 1 3 + σ 1 4))) σ := by
  refine Ev_w [.ref 1] ?_ (by decide) rfl (Nat.le_of_ble_eq_true rfl) rfl
  refine g_aload_n dX2_width_0 rfl ?_
  refine g_getI dX2_width_1 fX2_24 rfl rfl ?_
  refine g_aload_n dX2_width_4 rfl ?_
  refine g_getI dX2_width_5 fX2_28 rfl rfl ?_
  refine g_iadd dX2_width_8 ?_
  exact g_iret dX2_width_9 rfl ⟨rfl, rfl⟩

set_option maxRecDepth 4000 in
theorem ev_X2_stands {σ : r_Sg}  : Ev 0 MX2_stands [.ref 1] σ (some (.int (bI (0 < σ 1 4)))) σ := by
  refine Ev_w [.ref 1] ?_ (by decide) rfl (Nat.le_of_ble_eq_true rfl) rfl
  refine g_aload_n dX2_stands_0 rfl ?_
  refine g_getI dX2_stands_1 fX2_28 rfl rfl ?_
  refine g_ifle (tgt := 11) dX2_stands_4 (by decide) (fun c4 => ?_) (fun c4 => ?_)
  · refine g_iconst (v := 0) dX2_stands_11 (by decide) ?_
    exact g_zret dX2_stands_12 rfl (by first | exact Or.inl rfl | exact Or.inr rfl) ⟨by simp only [bI_0, Decidable.not_not, Int32.not_le, Int32.not_lt, Int32.lt_iff_toInt_lt, Int32.le_iff_toInt_le] at *; unfold bI; split <;> first | rfl | (exfalso; omega), rfl⟩
  · refine g_iconst (v := 1) dX2_stands_7 (by decide) ?_
    refine g_goto (tgt := 12) dX2_stands_8 (by decide) ?_
    exact g_zret dX2_stands_12 rfl (by first | exact Or.inl rfl | exact Or.inr rfl) ⟨by simp only [bI_0, Decidable.not_not, Int32.not_le, Int32.not_lt, Int32.lt_iff_toInt_lt, Int32.le_iff_toInt_le] at *; unfold bI; split <;> first | rfl | (exfalso; omega), rfl⟩

set_option maxRecDepth 4000 in
theorem ev_X2_allBits {σ : r_Sg}  : Ev 1 MX2_allBits [.ref 1] σ (some (.int ((1 <<< ((σ 1 3 + σ 1 4) &&& 31)) - 1))) σ := by
  refine Ev_w [.ref 1] ?_ (by decide) rfl (Nat.le_of_ble_eq_true rfl) rfl
  refine g_iconst (v := 1) dX2_allBits_0 (by decide) ?_
  refine g_aload_n dX2_allBits_1 rfl ?_
  refine g_V0 dX2_allBits_2 vX2_60 rfl (Nat.le_of_ble_eq_true rfl) (by decide) (ev_X2_width) ?_
  refine g_ishl dX2_allBits_5 ?_
  refine g_iconst (v := 1) dX2_allBits_6 (by decide) ?_
  refine g_isub dX2_allBits_7 ?_
  exact g_iret dX2_allBits_8 rfl ⟨rfl, rfl⟩

set_option maxRecDepth 4000 in
theorem ev_X2_hasBit {σ : r_Sg} {b : Int32}  : Ev 1 MX2_hasBit [.ref 1, .int b] σ (some (.int (bI (0 ≤ b ∧ b < σ 1 3 + σ 1 4)))) σ := by
  refine Ev_w [.ref 1, .int b] ?_ (by decide) rfl (Nat.le_of_ble_eq_true rfl) rfl
  refine g_iload_n dX2_hasBit_0 rfl ?_
  refine g_iflt (tgt := 16) dX2_hasBit_1 (by decide) (fun c1 => ?_) (fun c1 => ?_)
  · refine g_iconst (v := 0) dX2_hasBit_16 (by decide) ?_
    exact g_zret dX2_hasBit_17 rfl (by first | exact Or.inl rfl | exact Or.inr rfl) ⟨by simp only [bI_0, Decidable.not_not, Int32.not_le, Int32.not_lt, Int32.lt_iff_toInt_lt, Int32.le_iff_toInt_le] at *; unfold bI; split <;> first | rfl | (exfalso; omega), rfl⟩
  · refine g_iload_n dX2_hasBit_4 rfl ?_
    refine g_aload_n dX2_hasBit_5 rfl ?_
    refine g_V0 dX2_hasBit_6 vX2_60 rfl (Nat.le_of_ble_eq_true rfl) (by decide) (ev_X2_width) ?_
    refine g_icge (tgt := 16) dX2_hasBit_9 (by decide) (fun c9 => ?_) (fun c9 => ?_)
    · refine g_iconst (v := 0) dX2_hasBit_16 (by decide) ?_
      exact g_zret dX2_hasBit_17 rfl (by first | exact Or.inl rfl | exact Or.inr rfl) ⟨by simp only [bI_0, Decidable.not_not, Int32.not_le, Int32.not_lt, Int32.lt_iff_toInt_lt, Int32.le_iff_toInt_le] at *; unfold bI; split <;> first | rfl | (exfalso; omega), rfl⟩
    · refine g_iconst (v := 1) dX2_hasBit_12 (by decide) ?_
      refine g_goto (tgt := 17) dX2_hasBit_13 (by decide) ?_
      exact g_zret dX2_hasBit_17 rfl (by first | exact Or.inl rfl | exact Or.inr rfl) ⟨by simp only [bI_0, Decidable.not_not, Int32.not_le, Int32.not_lt, Int32.lt_iff_toInt_lt, Int32.le_iff_toInt_le] at *; unfold bI; split <;> first | rfl | (exfalso; omega), rfl⟩

set_option maxRecDepth 4000 in
theorem ev_X2_hasRow {σ : r_Sg} {b : Int32}  : Ev 0 MX2_hasRow [.ref 1, .int b] σ (some (.int (bI (0 ≤ b ∧ b < σ 1 4)))) σ := by
  refine Ev_w [.ref 1, .int b] ?_ (by decide) rfl (Nat.le_of_ble_eq_true rfl) rfl
  refine g_iload_n dX2_hasRow_0 rfl ?_
  refine g_iflt (tgt := 16) dX2_hasRow_1 (by decide) (fun c1 => ?_) (fun c1 => ?_)
  · refine g_iconst (v := 0) dX2_hasRow_16 (by decide) ?_
    exact g_zret dX2_hasRow_17 rfl (by first | exact Or.inl rfl | exact Or.inr rfl) ⟨by simp only [bI_0, Decidable.not_not, Int32.not_le, Int32.not_lt, Int32.lt_iff_toInt_lt, Int32.le_iff_toInt_le] at *; unfold bI; split <;> first | rfl | (exfalso; omega), rfl⟩
  · refine g_iload_n dX2_hasRow_4 rfl ?_
    refine g_aload_n dX2_hasRow_5 rfl ?_
    refine g_getI dX2_hasRow_6 fX2_28 rfl rfl ?_
    refine g_icge (tgt := 16) dX2_hasRow_9 (by decide) (fun c9 => ?_) (fun c9 => ?_)
    · refine g_iconst (v := 0) dX2_hasRow_16 (by decide) ?_
      exact g_zret dX2_hasRow_17 rfl (by first | exact Or.inl rfl | exact Or.inr rfl) ⟨by simp only [bI_0, Decidable.not_not, Int32.not_le, Int32.not_lt, Int32.lt_iff_toInt_lt, Int32.le_iff_toInt_le] at *; unfold bI; split <;> first | rfl | (exfalso; omega), rfl⟩
    · refine g_iconst (v := 1) dX2_hasRow_12 (by decide) ?_
      refine g_goto (tgt := 17) dX2_hasRow_13 (by decide) ?_
      exact g_zret dX2_hasRow_17 rfl (by first | exact Or.inl rfl | exact Or.inr rfl) ⟨by simp only [bI_0, Decidable.not_not, Int32.not_le, Int32.not_lt, Int32.lt_iff_toInt_lt, Int32.le_iff_toInt_le] at *; unfold bI; split <;> first | rfl | (exfalso; omega), rfl⟩

set_option maxRecDepth 4000 in
theorem ev_X2_hasPlace {σ : r_Sg} {b : Int32}  : Ev 1 MX2_hasPlace [.ref 1, .int b] σ (some (.int (bI (0 < σ 1 4 ∧ 0 ≤ b ∧ b ≤ σ 1 3 + σ 1 4)))) σ := by
  refine Ev_w [.ref 1, .int b] ?_ (by decide) rfl (Nat.le_of_ble_eq_true rfl) rfl
  refine g_aload_n dX2_hasPlace_0 rfl ?_
  refine g_V0 dX2_hasPlace_1 vX2_63 rfl (Nat.le_of_ble_eq_true rfl) (by decide) (ev_X2_stands) ?_
  refine g_ifeq (tgt := 23) dX2_hasPlace_4 (by decide) (fun c4 => ?_) (fun c4 => ?_)
  · refine g_iconst (v := 0) dX2_hasPlace_23 (by decide) ?_
    exact g_zret dX2_hasPlace_24 rfl (by first | exact Or.inl rfl | exact Or.inr rfl) ⟨by simp only [bI_0, Decidable.not_not, Int32.not_le, Int32.not_lt, Int32.lt_iff_toInt_lt, Int32.le_iff_toInt_le] at *; unfold bI; split <;> first | rfl | (exfalso; omega), rfl⟩
  · refine g_iload_n dX2_hasPlace_7 rfl ?_
    refine g_iflt (tgt := 23) dX2_hasPlace_8 (by decide) (fun c8 => ?_) (fun c8 => ?_)
    · refine g_iconst (v := 0) dX2_hasPlace_23 (by decide) ?_
      exact g_zret dX2_hasPlace_24 rfl (by first | exact Or.inl rfl | exact Or.inr rfl) ⟨by simp only [bI_0, Decidable.not_not, Int32.not_le, Int32.not_lt, Int32.lt_iff_toInt_lt, Int32.le_iff_toInt_le] at *; unfold bI; split <;> first | rfl | (exfalso; omega), rfl⟩
    · refine g_iload_n dX2_hasPlace_11 rfl ?_
      refine g_aload_n dX2_hasPlace_12 rfl ?_
      refine g_V0 dX2_hasPlace_13 vX2_60 rfl (Nat.le_of_ble_eq_true rfl) (by decide) (ev_X2_width) ?_
      refine g_icgt (tgt := 23) dX2_hasPlace_16 (by decide) (fun c16 => ?_) (fun c16 => ?_)
      · refine g_iconst (v := 0) dX2_hasPlace_23 (by decide) ?_
        exact g_zret dX2_hasPlace_24 rfl (by first | exact Or.inl rfl | exact Or.inr rfl) ⟨by simp only [bI_0, Decidable.not_not, Int32.not_le, Int32.not_lt, Int32.lt_iff_toInt_lt, Int32.le_iff_toInt_le] at *; unfold bI; split <;> first | rfl | (exfalso; omega), rfl⟩
      · refine g_iconst (v := 1) dX2_hasPlace_19 (by decide) ?_
        refine g_goto (tgt := 24) dX2_hasPlace_20 (by decide) ?_
        exact g_zret dX2_hasPlace_24 rfl (by first | exact Or.inl rfl | exact Or.inr rfl) ⟨by simp only [bI_0, Decidable.not_not, Int32.not_le, Int32.not_lt, Int32.lt_iff_toInt_lt, Int32.le_iff_toInt_le] at *; unfold bI; split <;> first | rfl | (exfalso; omega), rfl⟩

set_option maxRecDepth 4000 in
theorem ev_X2_hasValue {σ : r_Sg} {b : Int32}  : Ev 0 MX2_hasValue [.ref 1, .int b] σ (some (.int (bI (0 ≤ b ∧ b < 1 <<< (σ 1 3 &&& 31))))) σ := by
  refine Ev_w [.ref 1, .int b] ?_ (by decide) rfl (Nat.le_of_ble_eq_true rfl) rfl
  refine g_iload_n dX2_hasValue_0 rfl ?_
  refine g_iflt (tgt := 18) dX2_hasValue_1 (by decide) (fun c1 => ?_) (fun c1 => ?_)
  · refine g_iconst (v := 0) dX2_hasValue_18 (by decide) ?_
    exact g_zret dX2_hasValue_19 rfl (by first | exact Or.inl rfl | exact Or.inr rfl) ⟨by simp only [bI_0, Decidable.not_not, Int32.not_le, Int32.not_lt, Int32.lt_iff_toInt_lt, Int32.le_iff_toInt_le] at *; unfold bI; split <;> first | rfl | (exfalso; omega), rfl⟩
  · refine g_iload_n dX2_hasValue_4 rfl ?_
    refine g_iconst (v := 1) dX2_hasValue_5 (by decide) ?_
    refine g_aload_n dX2_hasValue_6 rfl ?_
    refine g_getI dX2_hasValue_7 fX2_24 rfl rfl ?_
    refine g_ishl dX2_hasValue_10 ?_
    refine g_icge (tgt := 18) dX2_hasValue_11 (by decide) (fun c11 => ?_) (fun c11 => ?_)
    · refine g_iconst (v := 0) dX2_hasValue_18 (by decide) ?_
      exact g_zret dX2_hasValue_19 rfl (by first | exact Or.inl rfl | exact Or.inr rfl) ⟨by simp only [bI_0, Decidable.not_not, Int32.not_le, Int32.not_lt, Int32.lt_iff_toInt_lt, Int32.le_iff_toInt_le] at *; unfold bI; split <;> first | rfl | (exfalso; omega), rfl⟩
    · refine g_iconst (v := 1) dX2_hasValue_14 (by decide) ?_
      refine g_goto (tgt := 19) dX2_hasValue_15 (by decide) ?_
      exact g_zret dX2_hasValue_19 rfl (by first | exact Or.inl rfl | exact Or.inr rfl) ⟨by simp only [bI_0, Decidable.not_not, Int32.not_le, Int32.not_lt, Int32.lt_iff_toInt_lt, Int32.le_iff_toInt_le] at *; unfold bI; split <;> first | rfl | (exfalso; omega), rfl⟩

set_option maxRecDepth 4000 in
theorem ev_X2_hasSet {σ : r_Sg} {b : Int32}  : Ev 2 MX2_hasSet [.ref 1, .int b] σ (some (.int (bI (0 ≤ b ∧ b ≤ (1 <<< ((σ 1 3 + σ 1 4) &&& 31)) - 1)))) σ := by
  refine Ev_w [.ref 1, .int b] ?_ (by decide) rfl (Nat.le_of_ble_eq_true rfl) rfl
  refine g_iload_n dX2_hasSet_0 rfl ?_
  refine g_iflt (tgt := 16) dX2_hasSet_1 (by decide) (fun c1 => ?_) (fun c1 => ?_)
  · refine g_iconst (v := 0) dX2_hasSet_16 (by decide) ?_
    exact g_zret dX2_hasSet_17 rfl (by first | exact Or.inl rfl | exact Or.inr rfl) ⟨by simp only [bI_0, Decidable.not_not, Int32.not_le, Int32.not_lt, Int32.lt_iff_toInt_lt, Int32.le_iff_toInt_le] at *; unfold bI; split <;> first | rfl | (exfalso; omega), rfl⟩
  · refine g_iload_n dX2_hasSet_4 rfl ?_
    refine g_aload_n dX2_hasSet_5 rfl ?_
    refine g_V0 dX2_hasSet_6 vX2_67 rfl (Nat.le_of_ble_eq_true rfl) (by decide) (ev_X2_allBits) ?_
    refine g_icgt (tgt := 16) dX2_hasSet_9 (by decide) (fun c9 => ?_) (fun c9 => ?_)
    · refine g_iconst (v := 0) dX2_hasSet_16 (by decide) ?_
      exact g_zret dX2_hasSet_17 rfl (by first | exact Or.inl rfl | exact Or.inr rfl) ⟨by simp only [bI_0, Decidable.not_not, Int32.not_le, Int32.not_lt, Int32.lt_iff_toInt_lt, Int32.le_iff_toInt_le] at *; unfold bI; split <;> first | rfl | (exfalso; omega), rfl⟩
    · refine g_iconst (v := 1) dX2_hasSet_12 (by decide) ?_
      refine g_goto (tgt := 17) dX2_hasSet_13 (by decide) ?_
      exact g_zret dX2_hasSet_17 rfl (by first | exact Or.inl rfl | exact Or.inr rfl) ⟨by simp only [bI_0, Decidable.not_not, Int32.not_le, Int32.not_lt, Int32.lt_iff_toInt_lt, Int32.le_iff_toInt_le] at *; unfold bI; split <;> first | rfl | (exfalso; omega), rfl⟩

set_option maxRecDepth 4000 in
theorem ev_X2_columnOf {σ : r_Sg} {j : Nat} (hj : j < 20) : Ev 0 MX2_columnOf [.ref 1, .int (nI j)] σ (some (.int (σ 2 j))) σ := by
  refine Ev_w [.ref 1, .int (nI j)] ?_ (by decide) rfl (Nat.le_of_ble_eq_true rfl) rfl
  refine g_aload_n dX2_columnOf_0 rfl ?_
  refine g_getR dX2_columnOf_1 fX2_11 rfl rfl ?_
  refine g_iload_n dX2_columnOf_4 rfl ?_
  refine g_ial _ dX2_columnOf_5 rfl rfl (by omega) ?_
  exact g_iret dX2_columnOf_6 rfl ⟨rfl, rfl⟩

set_option maxRecDepth 4000 in
theorem ev_X2_onesOfRow {σ : r_Sg} {j : Nat} (hj : j < 6) : Ev 0 MX2_onesOfRow [.ref 1, .int (nI j)] σ (some (.int (σ 3 j))) σ := by
  refine Ev_w [.ref 1, .int (nI j)] ?_ (by decide) rfl (Nat.le_of_ble_eq_true rfl) rfl
  refine g_aload_n dX2_onesOfRow_0 rfl ?_
  refine g_getR dX2_onesOfRow_1 fX2_15 rfl rfl ?_
  refine g_iload_n dX2_onesOfRow_4 rfl ?_
  refine g_ial _ dX2_onesOfRow_5 rfl rfl (by omega) ?_
  exact g_iret dX2_onesOfRow_6 rfl ⟨rfl, rfl⟩

set_option maxRecDepth 4000 in
theorem ev_X2_bitWithColumn {σ : r_Sg} {j : Nat} (hj : j < 64) : Ev 0 MX2_bitWithColumn [.ref 1, .int (nI j)] σ (some (.int (σ 4 j))) σ := by
  refine Ev_w [.ref 1, .int (nI j)] ?_ (by decide) rfl (Nat.le_of_ble_eq_true rfl) rfl
  refine g_aload_n dX2_bitWithColumn_0 rfl ?_
  refine g_getR dX2_bitWithColumn_1 fX2_18 rfl rfl ?_
  refine g_iload_n dX2_bitWithColumn_4 rfl ?_
  refine g_ial _ dX2_bitWithColumn_5 rfl rfl (by omega) ?_
  exact g_iret dX2_bitWithColumn_6 rfl ⟨rfl, rfl⟩

set_option maxRecDepth 4000 in
theorem ev_X2_onesOfAllRows {σ : r_Sg} {c : Nat} (hc : σ 1 4 = nI c) (hc6 : c ≤ 6) : Ev 0 MX2_onesOfAllRows [.ref 1] σ (some (.int (r_sum (σ 3) c))) σ := by
  refine Ev_w [.ref 1, .null, .null] ?_ (by decide) rfl (Nat.le_of_ble_eq_true rfl) rfl
  refine g_iconst (v := 0) dX2_onesOfAllRows_0 (by decide) ?_
  refine g_istore_n dX2_onesOfAllRows_1 (by decide) rfl ?_
  refine g_iconst (v := 0) dX2_onesOfAllRows_2 (by decide) ?_
  refine g_istore_n dX2_onesOfAllRows_3 (by decide) rfl ?_
  refine r_loop (n := c) (fun k => [.ref 1, .int (r_sum (σ 3) k), .int (nI k)]) (fun k => σ) (fun k hk ih => ?_) ?_
  · refine g_iload_n dX2_onesOfAllRows_4 rfl ?_
    refine g_aload_n dX2_onesOfAllRows_5 rfl ?_
    refine g_getI dX2_onesOfAllRows_6 fX2_28 rfl rfl ?_
    refine g_t hc ?_
    refine g_icge (tgt := 27) dX2_onesOfAllRows_9 (by decide) (fun c9 => absurd c9 (nI_ge hk (by omega))) (fun c9 => ?_)
    refine g_iload_n dX2_onesOfAllRows_12 rfl ?_
    refine g_aload_n dX2_onesOfAllRows_13 rfl ?_
    refine g_getR dX2_onesOfAllRows_14 fX2_15 rfl rfl ?_
    refine g_iload_n dX2_onesOfAllRows_17 rfl ?_
    refine g_ial _ dX2_onesOfAllRows_18 rfl rfl (by omega) ?_
    refine g_iadd dX2_onesOfAllRows_19 ?_
    refine g_istore_n dX2_onesOfAllRows_20 (by decide) rfl ?_
    refine g_iinc (v := nI (k + 1)) dX2_onesOfAllRows_21 rfl (nI_1 k) (by decide) rfl ?_
    refine g_goto (tgt := 4) dX2_onesOfAllRows_24 (by decide) ?_
    exact ih
  · refine g_iload_n dX2_onesOfAllRows_4 rfl ?_
    refine g_aload_n dX2_onesOfAllRows_5 rfl ?_
    refine g_getI dX2_onesOfAllRows_6 fX2_28 rfl rfl ?_
    refine g_t hc ?_
    refine g_icge (tgt := 27) dX2_onesOfAllRows_9 (by decide) (fun c9 => ?_) (fun c9 => absurd (nI_le (Nat.le_refl _) (by omega)) c9)
    refine g_iload_n dX2_onesOfAllRows_27 rfl ?_
    exact g_iret dX2_onesOfAllRows_28 rfl ⟨rfl, rfl⟩

set_option maxRecDepth 4000 in
theorem ev_X2_syndromeOf {σ : r_Sg} {w : Nat} {set : Int32} (hw : σ 1 3 + σ 1 4 = nI w) (hw20 : w ≤ 20) : Ev 1 MX2_syndromeOf [.ref 1, .int set] σ (some (.int (r_syn (σ 2) set w))) σ := by
  refine Ev_w [.ref 1, .int set, .null, .null] ?_ (by decide) rfl (Nat.le_of_ble_eq_true rfl) rfl
  refine g_iconst (v := 0) dX2_syndromeOf_0 (by decide) ?_
  refine g_istore_n dX2_syndromeOf_1 (by decide) rfl ?_
  refine g_iconst (v := 0) dX2_syndromeOf_2 (by decide) ?_
  refine g_istore_n dX2_syndromeOf_3 (by decide) rfl ?_
  refine r_loop (n := w) (fun k => [.ref 1, .int set, .int (r_syn (σ 2) set k), .int (nI k)]) (fun k => σ) (fun k hk ih => ?_) ?_
  · refine g_iload_n dX2_syndromeOf_4 rfl ?_
    refine g_aload_n dX2_syndromeOf_5 rfl ?_
    refine g_V0 dX2_syndromeOf_6 vX2_60 rfl (Nat.le_of_ble_eq_true rfl) (by decide) (Ev_r ev_X2_width (by rw [hw])) ?_
    refine g_icge (tgt := 35) dX2_syndromeOf_9 (by decide) (fun c9 => absurd c9 (nI_ge hk (by omega))) (fun c9 => ?_)
    refine g_iload_n dX2_syndromeOf_12 rfl ?_
    refine g_iload_n dX2_syndromeOf_13 rfl ?_
    refine g_ishr dX2_syndromeOf_14 ?_
    refine g_iconst (v := 1) dX2_syndromeOf_15 (by decide) ?_
    refine g_iand dX2_syndromeOf_16 ?_
    refine g_ifeq (tgt := 29) dX2_syndromeOf_17 (by decide) (fun c17 => ?_) (fun c17 => ?_)
    · refine g_iinc (v := nI (k + 1)) dX2_syndromeOf_29 rfl (nI_1 k) (by decide) rfl ?_
      refine g_goto (tgt := 4) dX2_syndromeOf_32 (by decide) ?_
      exact g_l (by simp [r_ls, r_syn, r_b, c17]) ih
    · refine g_iload_n dX2_syndromeOf_20 rfl ?_
      refine g_aload_n dX2_syndromeOf_21 rfl ?_
      refine g_getR dX2_syndromeOf_22 fX2_11 rfl rfl ?_
      refine g_iload_n dX2_syndromeOf_25 rfl ?_
      refine g_ial _ dX2_syndromeOf_26 rfl rfl (by omega) ?_
      refine g_ixor dX2_syndromeOf_27 ?_
      refine g_istore_n dX2_syndromeOf_28 (by decide) rfl ?_
      refine g_iinc (v := nI (k + 1)) dX2_syndromeOf_29 rfl (nI_1 k) (by decide) rfl ?_
      refine g_goto (tgt := 4) dX2_syndromeOf_32 (by decide) ?_
      exact g_l (by simp [r_ls, r_syn, r_b, c17]) ih
  · refine g_iload_n dX2_syndromeOf_4 rfl ?_
    refine g_aload_n dX2_syndromeOf_5 rfl ?_
    refine g_V0 dX2_syndromeOf_6 vX2_60 rfl (Nat.le_of_ble_eq_true rfl) (by decide) (Ev_r ev_X2_width (by rw [hw])) ?_
    refine g_icge (tgt := 35) dX2_syndromeOf_9 (by decide) (fun c9 => ?_) (fun c9 => absurd (nI_le (Nat.le_refl _) (by omega)) c9)
    refine g_iload_n dX2_syndromeOf_35 rfl ?_
    exact g_iret dX2_syndromeOf_36 rfl ⟨rfl, rfl⟩

set_option maxRecDepth 4000 in
theorem ev_X2_wordOf {σ : r_Sg} {w : Nat} {v : Int32} (hw : σ 1 3 + σ 1 4 = nI w) (hw20 : w ≤ 20) : Ev 2 MX2_wordOf [.ref 1, .int v] σ (some (.int (v ||| (r_syn (σ 2) v w <<< (σ 1 3 &&& 31))))) σ := by
  refine Ev_w [.ref 1, .int v] ?_ (by decide) rfl (Nat.le_of_ble_eq_true rfl) rfl
  refine g_iload_n dX2_wordOf_0 rfl ?_
  refine g_aload_n dX2_wordOf_1 rfl ?_
  refine g_iload_n dX2_wordOf_2 rfl ?_
  refine g_V1 dX2_wordOf_3 vX2_70 rfl (Nat.le_of_ble_eq_true rfl) (by decide) (ev_X2_syndromeOf (by first | assumption | omega) (by first | assumption | omega)) ?_
  refine g_aload_n dX2_wordOf_6 rfl ?_
  refine g_getI dX2_wordOf_7 fX2_24 rfl rfl ?_
  refine g_ishl dX2_wordOf_10 ?_
  refine g_ior dX2_wordOf_11 ?_
  exact g_iret dX2_wordOf_12 rfl ⟨rfl, rfl⟩

set_option maxRecDepth 4000 in
theorem ev_X2_valueOf {σ : r_Sg} {v : Int32}  : Ev 0 MX2_valueOf [.ref 1, .int v] σ (some (.int (v &&& ((1 <<< (σ 1 3 &&& 31)) - 1)))) σ := by
  refine Ev_w [.ref 1, .int v] ?_ (by decide) rfl (Nat.le_of_ble_eq_true rfl) rfl
  refine g_iload_n dX2_valueOf_0 rfl ?_
  refine g_iconst (v := 1) dX2_valueOf_1 (by decide) ?_
  refine g_aload_n dX2_valueOf_2 rfl ?_
  refine g_getI dX2_valueOf_3 fX2_24 rfl rfl ?_
  refine g_ishl dX2_valueOf_6 ?_
  refine g_iconst (v := 1) dX2_valueOf_7 (by decide) ?_
  refine g_isub dX2_valueOf_8 ?_
  refine g_iand dX2_valueOf_9 ?_
  exact g_iret dX2_valueOf_10 rfl ⟨rfl, rfl⟩

def r_mend (σ : r_Sg) (set y : Int32) : Int32 := if y = 0 then set else if σ 4 y.toNatClampNeg = -9 then -5 else set ^^^ (1 <<< (σ 4 y.toNatClampNeg &&& 31))

set_option maxRecDepth 4000 in
theorem ev_X2_mend {σ : r_Sg} {w y : Nat} {v : Int32} (hw : σ 1 3 + σ 1 4 = nI w) (hw20 : w ≤ 20) (hy : r_syn (σ 2) v w = nI y) (hy64 : y < 64) : Ev 2 MX2_mend [.ref 1, .int v] σ (some (.int (r_mend σ v (nI y)))) σ := by
  refine Ev_w [.ref 1, .int v, .null, .null] ?_ (by decide) rfl (Nat.le_of_ble_eq_true rfl) rfl
  refine g_aload_n dX2_mend_0 rfl ?_
  refine g_iload_n dX2_mend_1 rfl ?_
  refine g_V1 dX2_mend_2 vX2_70 rfl (Nat.le_of_ble_eq_true rfl) (by decide) (Ev_r (ev_X2_syndromeOf hw hw20) (by rw [hy])) ?_
  refine g_istore_n dX2_mend_5 (by decide) rfl ?_
  refine g_iload_n dX2_mend_6 rfl ?_
  refine g_ifne (tgt := 12) dX2_mend_7 (by decide) (fun c7 => ?_) (fun c7 => ?_)
  · refine g_aload_n dX2_mend_12 rfl ?_
    refine g_getR dX2_mend_13 fX2_18 rfl rfl ?_
    refine g_iload_n dX2_mend_16 rfl ?_
    refine g_ial _ dX2_mend_17 rfl rfl (by omega) ?_
    refine g_istore_n dX2_mend_18 (by decide) rfl ?_
    refine g_iload_n dX2_mend_19 rfl ?_
    refine g_bipush (v := (-9)) dX2_mend_20 (by decide) ?_
    refine g_icne (tgt := 30) dX2_mend_22 (by decide) (fun c22 => ?_) (fun c22 => ?_)
    · refine g_iload_n dX2_mend_30 rfl ?_
      refine g_iconst (v := 1) dX2_mend_31 (by decide) ?_
      refine g_iload_n dX2_mend_32 rfl ?_
      refine g_ishl dX2_mend_33 ?_
      refine g_ixor dX2_mend_34 ?_
      exact g_iret dX2_mend_35 rfl ⟨by simp [r_mend, nI_clamp (show y < 2 ^ 31 by omega), *], rfl⟩
    · refine g_bipush (v := (-5)) dX2_mend_25 (by decide) ?_
      refine g_goto (tgt := 35) dX2_mend_27 (by decide) ?_
      exact g_iret dX2_mend_35 rfl ⟨by simp [r_mend, nI_clamp (show y < 2 ^ 31 by omega), *], rfl⟩
  · refine g_iload_n dX2_mend_10 rfl ?_
    exact g_iret dX2_mend_11 rfl ⟨by simp [r_mend, nI_clamp (show y < 2 ^ 31 by omega), *], rfl⟩
end
section
/-! Code.choose: the columns of each code, by the table r_T; the table is checked by the kernel -/
def r_sub : List Value → List Value → Prop
  | [], [] => True
  | a :: x, b :: y => (a = .null ∨ a = b) ∧ r_sub x y
  | _, _ => False
theorem r_sub_at : ∀ {x y : List Value}, r_sub x y → ∀ (i : Nat) (v : Value), x[i]? = some v → v ≠ .null → y[i]? = some v
  | [], [], _, i, v, h, _ => by simp at h
  | a :: x, b :: y, hs, i, v, h, hv => by
    cases i with
    | zero =>
      simp at h
      subst h
      rcases hs.1 with h1 | h1
      · exact absurd h1 hv
      · simp [h1]
    | succ i => simpa using r_sub_at hs.2 i v (by simpa using h) hv
  | [], _ :: _, hs, _, _, _, _ => hs.elim
  | _ :: _, [], hs, _, _, _, _ => hs.elim
theorem g_w {M : r_M} {h : Nat} {X : r_X} {Post : Option Value → r_Sg → Prop} {pc : Nat} {L S : List Value} {σ : r_Sg} (L' : List Value) (hs : r_sub L' L) (k : G M h X Post pc L' S σ) : G M h X Post pc L S σ := by
  intro E p l e R s m args below meth c A cells slots Q C H locs ls hP hD hS hL
  exact k E p l e R s m args below meth c A cells slots Q C H locs ls hP hD hS ⟨hL.1, hL.2.1, fun i v hi hv => hL.2.2 i v (r_sub_at hs i v hi hv) hv⟩
def r_full (ro : Nat → Int32) (col : Int32) : Nat → Int32
  | 0 => 0
  | k + 1 => if r_full ro col k < ro k + r_b col k then ro k + r_b col k else r_full ro col k
def r_bst (ro bb : Nat → Int32) (c col : Nat) (t : Int32 × Int32 × Int32) : Int32 × Int32 × Int32 :=
  if (¬ r_bc (nI col) = 3 ∧ ¬ r_bc (nI col) = 5) ∨ ¬ bb col = -9 then t
  else if t.1 = 0 ∨ r_bc (nI col) < t.2.1 ∨ (r_bc (nI col) = t.2.1 ∧ r_full ro (nI col) c < t.2.2) then (nI col, r_bc (nI col), r_full ro (nI col) c) else t
def r_bsts (ro bb : Nat → Int32) (c : Nat) : Nat → Int32 × Int32 × Int32
  | 0 => (0, 0, 0)
  | k + 1 => r_bst ro bb c (k + 1) (r_bsts ro bb c k)
theorem r_shl1 : ∀ c, c < 31 → (1 : Int32) <<< (nI c &&& 31) = nI (2 ^ c) := by decide

set_option maxRecDepth 4000 in
theorem ev_X2_fullestRowWith {σ : r_Sg} {c : Nat} {col : Int32} (hc : σ 1 4 = nI c) (hc6 : c ≤ 6) : Ev 1 MX2_fullestRowWith [.ref 1, .int col] σ (some (.int (r_full (σ 3) col c))) σ := by
  refine Ev_w [.ref 1, .int col, .null, .null] ?_ (by decide) rfl (Nat.le_of_ble_eq_true rfl) rfl
  refine g_iconst (v := 0) dX2_fullestRowWith_0 (by decide) ?_
  refine g_istore_n dX2_fullestRowWith_1 (by decide) rfl ?_
  refine g_iconst (v := 0) dX2_fullestRowWith_2 (by decide) ?_
  refine g_istore_n dX2_fullestRowWith_3 (by decide) rfl ?_
  refine r_loop (n := c) (fun k => [.ref 1, .int col, .int (r_full (σ 3) col k), .int (nI k)]) (fun k => σ) (fun k hk ih => ?_) ?_
  · refine g_iload_n dX2_fullestRowWith_4 rfl ?_
    refine g_aload_n dX2_fullestRowWith_5 rfl ?_
    refine g_getI dX2_fullestRowWith_6 fX2_28 rfl rfl ?_
    refine g_t hc ?_
    refine g_icge (tgt := 35) dX2_fullestRowWith_9 (by decide) (fun c9 => absurd c9 (nI_ge hk (by omega))) (fun c9 => ?_)
    refine g_iload_n dX2_fullestRowWith_12 rfl ?_
    refine g_aload_n dX2_fullestRowWith_13 rfl ?_
    refine g_getR dX2_fullestRowWith_14 fX2_15 rfl rfl ?_
    refine g_iload_n dX2_fullestRowWith_17 rfl ?_
    refine g_ial _ dX2_fullestRowWith_18 rfl rfl (by omega) ?_
    refine g_iload_n dX2_fullestRowWith_19 rfl ?_
    refine g_iload_n dX2_fullestRowWith_20 rfl ?_
    refine g_ishr dX2_fullestRowWith_21 ?_
    refine g_iconst (v := 1) dX2_fullestRowWith_22 (by decide) ?_
    refine g_iand dX2_fullestRowWith_23 ?_
    refine g_iadd dX2_fullestRowWith_24 ?_
    refine g_mmax dX2_fullestRowWith_25 vX2_54 (Nat.le_of_ble_eq_true rfl) (by decide) ?_
    refine g_istore_n dX2_fullestRowWith_28 (by decide) rfl ?_
    refine g_iinc (v := nI (k + 1)) dX2_fullestRowWith_29 rfl (nI_1 k) (by decide) rfl ?_
    refine g_goto (tgt := 4) dX2_fullestRowWith_32 (by decide) ?_
    exact ih
  · refine g_iload_n dX2_fullestRowWith_4 rfl ?_
    refine g_aload_n dX2_fullestRowWith_5 rfl ?_
    refine g_getI dX2_fullestRowWith_6 fX2_28 rfl rfl ?_
    refine g_t hc ?_
    refine g_icge (tgt := 35) dX2_fullestRowWith_9 (by decide) (fun c9 => ?_) (fun c9 => absurd (nI_le (Nat.le_refl _) (by omega)) c9)
    refine g_iload_n dX2_fullestRowWith_35 rfl ?_
    exact g_iret dX2_fullestRowWith_36 rfl ⟨rfl, rfl⟩

set_option maxRecDepth 4000 in
theorem ev_X2_bestFreeColumn {σ : r_Sg} {c N : Nat} (hc : σ 1 4 = nI c) (hc6 : c ≤ 6) (hN : 1 <<< (σ 1 4 &&& 31) = nI N) (hN1 : 1 ≤ N) (hN64 : N ≤ 64) : Ev 2 MX2_bestFreeColumn [.ref 1] σ (some (.int (r_bsts (σ 3) (σ 4) c (N - 1)).1)) σ := by
  refine Ev_w [.ref 1, .null, .null, .null, .null, .null, .null] ?_ (by decide) rfl (Nat.le_of_ble_eq_true rfl) rfl
  refine g_iconst (v := 0) dX2_bestFreeColumn_0 (by decide) ?_
  refine g_istore_n dX2_bestFreeColumn_1 (by decide) rfl ?_
  refine g_iconst (v := 0) dX2_bestFreeColumn_2 (by decide) ?_
  refine g_istore_n dX2_bestFreeColumn_3 (by decide) rfl ?_
  refine g_iconst (v := 0) dX2_bestFreeColumn_4 (by decide) ?_
  refine g_istore_n dX2_bestFreeColumn_5 (by decide) rfl ?_
  refine g_iconst (v := 1) dX2_bestFreeColumn_6 (by decide) ?_
  refine g_istore dX2_bestFreeColumn_7 (by decide) rfl ?_
  refine r_loop (n := N - 1) (fun k => [.ref 1, .int (r_bsts (σ 3) (σ 4) c k).1, .int (r_bsts (σ 3) (σ 4) c k).2.1, .int (r_bsts (σ 3) (σ 4) c k).2.2, .int (nI (k + 1)), .null, .null]) (fun k => σ) (fun k hk ih => ?_) ?_
  · refine g_iload dX2_bestFreeColumn_9 rfl ?_
    refine g_iconst (v := 1) dX2_bestFreeColumn_11 (by decide) ?_
    refine g_aload_n dX2_bestFreeColumn_12 rfl ?_
    refine g_getI dX2_bestFreeColumn_13 fX2_28 rfl rfl ?_
    refine g_ishl dX2_bestFreeColumn_16 ?_
    refine g_t hN ?_
    refine g_icge (tgt := 99) dX2_bestFreeColumn_17 (by decide) (fun c17 => absurd c17 (nI_ge (show k + 1 < N by omega) (by omega))) (fun c17 => ?_)
    refine g_iload dX2_bestFreeColumn_20 rfl ?_
    refine g_S1 dX2_bestFreeColumn_22 vX2_45 (Nat.le_of_ble_eq_true rfl) (by decide) (ev_J6_bitCount_0f7a4) ?_
    refine g_istore dX2_bestFreeColumn_25 (by decide) rfl ?_
    refine g_iload dX2_bestFreeColumn_27 rfl ?_
    refine g_iconst (v := 3) dX2_bestFreeColumn_29 (by decide) ?_
    refine g_iceq (tgt := 39) dX2_bestFreeColumn_30 (by decide) (fun c30 => ?_) (fun c30 => ?_)
    · refine g_aload_n dX2_bestFreeColumn_39 rfl ?_
      refine g_getR dX2_bestFreeColumn_40 fX2_18 rfl rfl ?_
      refine g_iload dX2_bestFreeColumn_43 rfl ?_
      refine g_ial (k + 1) dX2_bestFreeColumn_45 rfl rfl (by omega) ?_
      refine g_bipush (v := (-9)) dX2_bestFreeColumn_46 (by decide) ?_
      refine g_iceq (tgt := 54) dX2_bestFreeColumn_48 (by decide) (fun c48 => ?_) (fun c48 => ?_)
      · refine g_aload_n dX2_bestFreeColumn_54 rfl ?_
        refine g_iload dX2_bestFreeColumn_55 rfl ?_
        refine g_V1 dX2_bestFreeColumn_57 vX2_51 rfl (Nat.le_of_ble_eq_true rfl) (by decide) (ev_X2_fullestRowWith hc hc6) ?_
        refine g_istore dX2_bestFreeColumn_60 (by decide) rfl ?_
        refine g_iload_n dX2_bestFreeColumn_62 rfl ?_
        refine g_ifeq (tgt := 84) dX2_bestFreeColumn_63 (by decide) (fun c63 => ?_) (fun c63 => ?_)
        · refine g_iload dX2_bestFreeColumn_84 rfl ?_
          refine g_istore_n dX2_bestFreeColumn_86 (by decide) rfl ?_
          refine g_iload dX2_bestFreeColumn_87 rfl ?_
          refine g_istore_n dX2_bestFreeColumn_89 (by decide) rfl ?_
          refine g_iload dX2_bestFreeColumn_90 rfl ?_
          refine g_istore_n dX2_bestFreeColumn_92 (by decide) rfl ?_
          refine g_iinc (v := nI (k + 1 + 1)) dX2_bestFreeColumn_93 rfl (nI_1 (k + 1)) (by decide) rfl ?_
          refine g_goto (tgt := 9) dX2_bestFreeColumn_96 (by decide) ?_
          have e : r_bsts (σ 3) (σ 4) c (k + 1) = ((nI (k + 1)), (r_bc (nI (k + 1))), (r_full (σ 3) (nI (k + 1)) c)) := by have q := @Int32.not_lt (r_full (σ 3) (nI (k + 1)) c) (r_bsts (σ 3) (σ 4) c k).2.2; simp only [r_bsts, r_bst]; grind
          refine g_w [.ref 1, .int (nI (k + 1)), .int (r_bc (nI (k + 1))), .int (r_full (σ 3) (nI (k + 1)) c), .int (nI (k + 1 + 1)), .null, .null] (And.intro (Or.inr rfl) (And.intro (Or.inr rfl) (And.intro (Or.inr rfl) (And.intro (Or.inr rfl) (And.intro (Or.inr rfl) (And.intro (Or.inl rfl) (And.intro (Or.inl rfl) (True.intro)))))))) ?_
          exact g_l (by rw [e]) ih
        · refine g_iload dX2_bestFreeColumn_66 rfl ?_
          refine g_iload_n dX2_bestFreeColumn_68 rfl ?_
          refine g_iclt (tgt := 84) dX2_bestFreeColumn_69 (by decide) (fun c69 => ?_) (fun c69 => ?_)
          · refine g_iload dX2_bestFreeColumn_84 rfl ?_
            refine g_istore_n dX2_bestFreeColumn_86 (by decide) rfl ?_
            refine g_iload dX2_bestFreeColumn_87 rfl ?_
            refine g_istore_n dX2_bestFreeColumn_89 (by decide) rfl ?_
            refine g_iload dX2_bestFreeColumn_90 rfl ?_
            refine g_istore_n dX2_bestFreeColumn_92 (by decide) rfl ?_
            refine g_iinc (v := nI (k + 1 + 1)) dX2_bestFreeColumn_93 rfl (nI_1 (k + 1)) (by decide) rfl ?_
            refine g_goto (tgt := 9) dX2_bestFreeColumn_96 (by decide) ?_
            have e : r_bsts (σ 3) (σ 4) c (k + 1) = ((nI (k + 1)), (r_bc (nI (k + 1))), (r_full (σ 3) (nI (k + 1)) c)) := by have q := @Int32.not_lt (r_full (σ 3) (nI (k + 1)) c) (r_bsts (σ 3) (σ 4) c k).2.2; simp only [r_bsts, r_bst]; grind
            refine g_w [.ref 1, .int (nI (k + 1)), .int (r_bc (nI (k + 1))), .int (r_full (σ 3) (nI (k + 1)) c), .int (nI (k + 1 + 1)), .null, .null] (And.intro (Or.inr rfl) (And.intro (Or.inr rfl) (And.intro (Or.inr rfl) (And.intro (Or.inr rfl) (And.intro (Or.inr rfl) (And.intro (Or.inl rfl) (And.intro (Or.inl rfl) (True.intro)))))))) ?_
            exact g_l (by rw [e]) ih
          · refine g_iload dX2_bestFreeColumn_72 rfl ?_
            refine g_iload_n dX2_bestFreeColumn_74 rfl ?_
            refine g_icne (tgt := 93) dX2_bestFreeColumn_75 (by decide) (fun c75 => ?_) (fun c75 => ?_)
            · refine g_iinc (v := nI (k + 1 + 1)) dX2_bestFreeColumn_93 rfl (nI_1 (k + 1)) (by decide) rfl ?_
              refine g_goto (tgt := 9) dX2_bestFreeColumn_96 (by decide) ?_
              have e : r_bsts (σ 3) (σ 4) c (k + 1) = r_bsts (σ 3) (σ 4) c k := by have q := @Int32.not_lt (r_full (σ 3) (nI (k + 1)) c) (r_bsts (σ 3) (σ 4) c k).2.2; simp only [r_bsts, r_bst]; grind
              refine g_w [.ref 1, .int (r_bsts (σ 3) (σ 4) c k).1, .int (r_bsts (σ 3) (σ 4) c k).2.1, .int (r_bsts (σ 3) (σ 4) c k).2.2, .int (nI (k + 1 + 1)), .null, .null] (And.intro (Or.inr rfl) (And.intro (Or.inr rfl) (And.intro (Or.inr rfl) (And.intro (Or.inr rfl) (And.intro (Or.inr rfl) (And.intro (Or.inl rfl) (And.intro (Or.inl rfl) (True.intro)))))))) ?_
              exact g_l (by rw [e]) ih
            · refine g_iload dX2_bestFreeColumn_78 rfl ?_
              refine g_iload_n dX2_bestFreeColumn_80 rfl ?_
              refine g_icge (tgt := 93) dX2_bestFreeColumn_81 (by decide) (fun c81 => ?_) (fun c81 => ?_)
              · refine g_iinc (v := nI (k + 1 + 1)) dX2_bestFreeColumn_93 rfl (nI_1 (k + 1)) (by decide) rfl ?_
                refine g_goto (tgt := 9) dX2_bestFreeColumn_96 (by decide) ?_
                have e : r_bsts (σ 3) (σ 4) c (k + 1) = r_bsts (σ 3) (σ 4) c k := by have q := @Int32.not_lt (r_full (σ 3) (nI (k + 1)) c) (r_bsts (σ 3) (σ 4) c k).2.2; simp only [r_bsts, r_bst]; grind
                refine g_w [.ref 1, .int (r_bsts (σ 3) (σ 4) c k).1, .int (r_bsts (σ 3) (σ 4) c k).2.1, .int (r_bsts (σ 3) (σ 4) c k).2.2, .int (nI (k + 1 + 1)), .null, .null] (And.intro (Or.inr rfl) (And.intro (Or.inr rfl) (And.intro (Or.inr rfl) (And.intro (Or.inr rfl) (And.intro (Or.inr rfl) (And.intro (Or.inl rfl) (And.intro (Or.inl rfl) (True.intro)))))))) ?_
                exact g_l (by rw [e]) ih
              · refine g_iload dX2_bestFreeColumn_84 rfl ?_
                refine g_istore_n dX2_bestFreeColumn_86 (by decide) rfl ?_
                refine g_iload dX2_bestFreeColumn_87 rfl ?_
                refine g_istore_n dX2_bestFreeColumn_89 (by decide) rfl ?_
                refine g_iload dX2_bestFreeColumn_90 rfl ?_
                refine g_istore_n dX2_bestFreeColumn_92 (by decide) rfl ?_
                refine g_iinc (v := nI (k + 1 + 1)) dX2_bestFreeColumn_93 rfl (nI_1 (k + 1)) (by decide) rfl ?_
                refine g_goto (tgt := 9) dX2_bestFreeColumn_96 (by decide) ?_
                have e : r_bsts (σ 3) (σ 4) c (k + 1) = ((nI (k + 1)), (r_bc (nI (k + 1))), (r_full (σ 3) (nI (k + 1)) c)) := by have q := @Int32.not_lt (r_full (σ 3) (nI (k + 1)) c) (r_bsts (σ 3) (σ 4) c k).2.2; simp only [r_bsts, r_bst]; grind
                refine g_w [.ref 1, .int (nI (k + 1)), .int (r_bc (nI (k + 1))), .int (r_full (σ 3) (nI (k + 1)) c), .int (nI (k + 1 + 1)), .null, .null] (And.intro (Or.inr rfl) (And.intro (Or.inr rfl) (And.intro (Or.inr rfl) (And.intro (Or.inr rfl) (And.intro (Or.inr rfl) (And.intro (Or.inl rfl) (And.intro (Or.inl rfl) (True.intro)))))))) ?_
                exact g_l (by rw [e]) ih
      · refine g_goto (tgt := 93) dX2_bestFreeColumn_51 (by decide) ?_
        refine g_iinc (v := nI (k + 1 + 1)) dX2_bestFreeColumn_93 rfl (nI_1 (k + 1)) (by decide) rfl ?_
        refine g_goto (tgt := 9) dX2_bestFreeColumn_96 (by decide) ?_
        have e : r_bsts (σ 3) (σ 4) c (k + 1) = r_bsts (σ 3) (σ 4) c k := by have q := @Int32.not_lt (r_full (σ 3) (nI (k + 1)) c) (r_bsts (σ 3) (σ 4) c k).2.2; simp only [r_bsts, r_bst]; grind
        refine g_w [.ref 1, .int (r_bsts (σ 3) (σ 4) c k).1, .int (r_bsts (σ 3) (σ 4) c k).2.1, .int (r_bsts (σ 3) (σ 4) c k).2.2, .int (nI (k + 1 + 1)), .null, .null] (And.intro (Or.inr rfl) (And.intro (Or.inr rfl) (And.intro (Or.inr rfl) (And.intro (Or.inr rfl) (And.intro (Or.inr rfl) (And.intro (Or.inl rfl) (And.intro (Or.inl rfl) (True.intro)))))))) ?_
        exact g_l (by rw [e]) ih
    · refine g_iload dX2_bestFreeColumn_33 rfl ?_
      refine g_iconst (v := 5) dX2_bestFreeColumn_35 (by decide) ?_
      refine g_icne (tgt := 93) dX2_bestFreeColumn_36 (by decide) (fun c36 => ?_) (fun c36 => ?_)
      · refine g_iinc (v := nI (k + 1 + 1)) dX2_bestFreeColumn_93 rfl (nI_1 (k + 1)) (by decide) rfl ?_
        refine g_goto (tgt := 9) dX2_bestFreeColumn_96 (by decide) ?_
        have e : r_bsts (σ 3) (σ 4) c (k + 1) = r_bsts (σ 3) (σ 4) c k := by have q := @Int32.not_lt (r_full (σ 3) (nI (k + 1)) c) (r_bsts (σ 3) (σ 4) c k).2.2; simp only [r_bsts, r_bst]; grind
        refine g_w [.ref 1, .int (r_bsts (σ 3) (σ 4) c k).1, .int (r_bsts (σ 3) (σ 4) c k).2.1, .int (r_bsts (σ 3) (σ 4) c k).2.2, .int (nI (k + 1 + 1)), .null, .null] (And.intro (Or.inr rfl) (And.intro (Or.inr rfl) (And.intro (Or.inr rfl) (And.intro (Or.inr rfl) (And.intro (Or.inr rfl) (And.intro (Or.inl rfl) (And.intro (Or.inl rfl) (True.intro)))))))) ?_
        exact g_l (by rw [e]) ih
      · refine g_aload_n dX2_bestFreeColumn_39 rfl ?_
        refine g_getR dX2_bestFreeColumn_40 fX2_18 rfl rfl ?_
        refine g_iload dX2_bestFreeColumn_43 rfl ?_
        refine g_ial (k + 1) dX2_bestFreeColumn_45 rfl rfl (by omega) ?_
        refine g_bipush (v := (-9)) dX2_bestFreeColumn_46 (by decide) ?_
        refine g_iceq (tgt := 54) dX2_bestFreeColumn_48 (by decide) (fun c48 => ?_) (fun c48 => ?_)
        · refine g_aload_n dX2_bestFreeColumn_54 rfl ?_
          refine g_iload dX2_bestFreeColumn_55 rfl ?_
          refine g_V1 dX2_bestFreeColumn_57 vX2_51 rfl (Nat.le_of_ble_eq_true rfl) (by decide) (ev_X2_fullestRowWith hc hc6) ?_
          refine g_istore dX2_bestFreeColumn_60 (by decide) rfl ?_
          refine g_iload_n dX2_bestFreeColumn_62 rfl ?_
          refine g_ifeq (tgt := 84) dX2_bestFreeColumn_63 (by decide) (fun c63 => ?_) (fun c63 => ?_)
          · refine g_iload dX2_bestFreeColumn_84 rfl ?_
            refine g_istore_n dX2_bestFreeColumn_86 (by decide) rfl ?_
            refine g_iload dX2_bestFreeColumn_87 rfl ?_
            refine g_istore_n dX2_bestFreeColumn_89 (by decide) rfl ?_
            refine g_iload dX2_bestFreeColumn_90 rfl ?_
            refine g_istore_n dX2_bestFreeColumn_92 (by decide) rfl ?_
            refine g_iinc (v := nI (k + 1 + 1)) dX2_bestFreeColumn_93 rfl (nI_1 (k + 1)) (by decide) rfl ?_
            refine g_goto (tgt := 9) dX2_bestFreeColumn_96 (by decide) ?_
            have e : r_bsts (σ 3) (σ 4) c (k + 1) = ((nI (k + 1)), (r_bc (nI (k + 1))), (r_full (σ 3) (nI (k + 1)) c)) := by have q := @Int32.not_lt (r_full (σ 3) (nI (k + 1)) c) (r_bsts (σ 3) (σ 4) c k).2.2; simp only [r_bsts, r_bst]; grind
            refine g_w [.ref 1, .int (nI (k + 1)), .int (r_bc (nI (k + 1))), .int (r_full (σ 3) (nI (k + 1)) c), .int (nI (k + 1 + 1)), .null, .null] (And.intro (Or.inr rfl) (And.intro (Or.inr rfl) (And.intro (Or.inr rfl) (And.intro (Or.inr rfl) (And.intro (Or.inr rfl) (And.intro (Or.inl rfl) (And.intro (Or.inl rfl) (True.intro)))))))) ?_
            exact g_l (by rw [e]) ih
          · refine g_iload dX2_bestFreeColumn_66 rfl ?_
            refine g_iload_n dX2_bestFreeColumn_68 rfl ?_
            refine g_iclt (tgt := 84) dX2_bestFreeColumn_69 (by decide) (fun c69 => ?_) (fun c69 => ?_)
            · refine g_iload dX2_bestFreeColumn_84 rfl ?_
              refine g_istore_n dX2_bestFreeColumn_86 (by decide) rfl ?_
              refine g_iload dX2_bestFreeColumn_87 rfl ?_
              refine g_istore_n dX2_bestFreeColumn_89 (by decide) rfl ?_
              refine g_iload dX2_bestFreeColumn_90 rfl ?_
              refine g_istore_n dX2_bestFreeColumn_92 (by decide) rfl ?_
              refine g_iinc (v := nI (k + 1 + 1)) dX2_bestFreeColumn_93 rfl (nI_1 (k + 1)) (by decide) rfl ?_
              refine g_goto (tgt := 9) dX2_bestFreeColumn_96 (by decide) ?_
              have e : r_bsts (σ 3) (σ 4) c (k + 1) = ((nI (k + 1)), (r_bc (nI (k + 1))), (r_full (σ 3) (nI (k + 1)) c)) := by have q := @Int32.not_lt (r_full (σ 3) (nI (k + 1)) c) (r_bsts (σ 3) (σ 4) c k).2.2; simp only [r_bsts, r_bst]; grind
              refine g_w [.ref 1, .int (nI (k + 1)), .int (r_bc (nI (k + 1))), .int (r_full (σ 3) (nI (k + 1)) c), .int (nI (k + 1 + 1)), .null, .null] (And.intro (Or.inr rfl) (And.intro (Or.inr rfl) (And.intro (Or.inr rfl) (And.intro (Or.inr rfl) (And.intro (Or.inr rfl) (And.intro (Or.inl rfl) (And.intro (Or.inl rfl) (True.intro)))))))) ?_
              exact g_l (by rw [e]) ih
            · refine g_iload dX2_bestFreeColumn_72 rfl ?_
              refine g_iload_n dX2_bestFreeColumn_74 rfl ?_
              refine g_icne (tgt := 93) dX2_bestFreeColumn_75 (by decide) (fun c75 => ?_) (fun c75 => ?_)
              · refine g_iinc (v := nI (k + 1 + 1)) dX2_bestFreeColumn_93 rfl (nI_1 (k + 1)) (by decide) rfl ?_
                refine g_goto (tgt := 9) dX2_bestFreeColumn_96 (by decide) ?_
                have e : r_bsts (σ 3) (σ 4) c (k + 1) = r_bsts (σ 3) (σ 4) c k := by have q := @Int32.not_lt (r_full (σ 3) (nI (k + 1)) c) (r_bsts (σ 3) (σ 4) c k).2.2; simp only [r_bsts, r_bst]; grind
                refine g_w [.ref 1, .int (r_bsts (σ 3) (σ 4) c k).1, .int (r_bsts (σ 3) (σ 4) c k).2.1, .int (r_bsts (σ 3) (σ 4) c k).2.2, .int (nI (k + 1 + 1)), .null, .null] (And.intro (Or.inr rfl) (And.intro (Or.inr rfl) (And.intro (Or.inr rfl) (And.intro (Or.inr rfl) (And.intro (Or.inr rfl) (And.intro (Or.inl rfl) (And.intro (Or.inl rfl) (True.intro)))))))) ?_
                exact g_l (by rw [e]) ih
              · refine g_iload dX2_bestFreeColumn_78 rfl ?_
                refine g_iload_n dX2_bestFreeColumn_80 rfl ?_
                refine g_icge (tgt := 93) dX2_bestFreeColumn_81 (by decide) (fun c81 => ?_) (fun c81 => ?_)
                · refine g_iinc (v := nI (k + 1 + 1)) dX2_bestFreeColumn_93 rfl (nI_1 (k + 1)) (by decide) rfl ?_
                  refine g_goto (tgt := 9) dX2_bestFreeColumn_96 (by decide) ?_
                  have e : r_bsts (σ 3) (σ 4) c (k + 1) = r_bsts (σ 3) (σ 4) c k := by have q := @Int32.not_lt (r_full (σ 3) (nI (k + 1)) c) (r_bsts (σ 3) (σ 4) c k).2.2; simp only [r_bsts, r_bst]; grind
                  refine g_w [.ref 1, .int (r_bsts (σ 3) (σ 4) c k).1, .int (r_bsts (σ 3) (σ 4) c k).2.1, .int (r_bsts (σ 3) (σ 4) c k).2.2, .int (nI (k + 1 + 1)), .null, .null] (And.intro (Or.inr rfl) (And.intro (Or.inr rfl) (And.intro (Or.inr rfl) (And.intro (Or.inr rfl) (And.intro (Or.inr rfl) (And.intro (Or.inl rfl) (And.intro (Or.inl rfl) (True.intro)))))))) ?_
                  exact g_l (by rw [e]) ih
                · refine g_iload dX2_bestFreeColumn_84 rfl ?_
                  refine g_istore_n dX2_bestFreeColumn_86 (by decide) rfl ?_
                  refine g_iload dX2_bestFreeColumn_87 rfl ?_
                  refine g_istore_n dX2_bestFreeColumn_89 (by decide) rfl ?_
                  refine g_iload dX2_bestFreeColumn_90 rfl ?_
                  refine g_istore_n dX2_bestFreeColumn_92 (by decide) rfl ?_
                  refine g_iinc (v := nI (k + 1 + 1)) dX2_bestFreeColumn_93 rfl (nI_1 (k + 1)) (by decide) rfl ?_
                  refine g_goto (tgt := 9) dX2_bestFreeColumn_96 (by decide) ?_
                  have e : r_bsts (σ 3) (σ 4) c (k + 1) = ((nI (k + 1)), (r_bc (nI (k + 1))), (r_full (σ 3) (nI (k + 1)) c)) := by have q := @Int32.not_lt (r_full (σ 3) (nI (k + 1)) c) (r_bsts (σ 3) (σ 4) c k).2.2; simp only [r_bsts, r_bst]; grind
                  refine g_w [.ref 1, .int (nI (k + 1)), .int (r_bc (nI (k + 1))), .int (r_full (σ 3) (nI (k + 1)) c), .int (nI (k + 1 + 1)), .null, .null] (And.intro (Or.inr rfl) (And.intro (Or.inr rfl) (And.intro (Or.inr rfl) (And.intro (Or.inr rfl) (And.intro (Or.inr rfl) (And.intro (Or.inl rfl) (And.intro (Or.inl rfl) (True.intro)))))))) ?_
                  exact g_l (by rw [e]) ih
        · refine g_goto (tgt := 93) dX2_bestFreeColumn_51 (by decide) ?_
          refine g_iinc (v := nI (k + 1 + 1)) dX2_bestFreeColumn_93 rfl (nI_1 (k + 1)) (by decide) rfl ?_
          refine g_goto (tgt := 9) dX2_bestFreeColumn_96 (by decide) ?_
          have e : r_bsts (σ 3) (σ 4) c (k + 1) = r_bsts (σ 3) (σ 4) c k := by have q := @Int32.not_lt (r_full (σ 3) (nI (k + 1)) c) (r_bsts (σ 3) (σ 4) c k).2.2; simp only [r_bsts, r_bst]; grind
          refine g_w [.ref 1, .int (r_bsts (σ 3) (σ 4) c k).1, .int (r_bsts (σ 3) (σ 4) c k).2.1, .int (r_bsts (σ 3) (σ 4) c k).2.2, .int (nI (k + 1 + 1)), .null, .null] (And.intro (Or.inr rfl) (And.intro (Or.inr rfl) (And.intro (Or.inr rfl) (And.intro (Or.inr rfl) (And.intro (Or.inr rfl) (And.intro (Or.inl rfl) (And.intro (Or.inl rfl) (True.intro)))))))) ?_
          exact g_l (by rw [e]) ih
  · refine g_iload dX2_bestFreeColumn_9 rfl ?_
    refine g_iconst (v := 1) dX2_bestFreeColumn_11 (by decide) ?_
    refine g_aload_n dX2_bestFreeColumn_12 rfl ?_
    refine g_getI dX2_bestFreeColumn_13 fX2_28 rfl rfl ?_
    refine g_ishl dX2_bestFreeColumn_16 ?_
    refine g_t hN ?_
    refine g_icge (tgt := 99) dX2_bestFreeColumn_17 (by decide) (fun c17 => ?_) (fun c17 => absurd (nI_le (show N ≤ N - 1 + 1 by omega) (by omega)) c17)
    refine g_iload_n dX2_bestFreeColumn_99 rfl ?_
    exact g_iret dX2_bestFreeColumn_100 rfl ⟨rfl, rfl⟩

set_option maxRecDepth 4000 in
theorem ev_X2_give {σ : r_Sg} {b x : Nat} (hb : b < 20) (hx : x < 64) : Ev 0 MX2_give [.ref 1, .int (nI b), .int (nI x)] σ none (r_up (r_up σ 2 b (nI x)) 4 x (nI b)) := by
  refine Ev_w [.ref 1, .int (nI b), .int (nI x)] ?_ (by decide) rfl (Nat.le_of_ble_eq_true rfl) rfl
  refine g_aload_n dX2_give_0 rfl ?_
  refine g_getR dX2_give_1 fX2_11 rfl rfl ?_
  refine g_iload_n dX2_give_4 rfl ?_
  refine g_iload_n dX2_give_5 rfl ?_
  refine g_ias _ dX2_give_6 rfl rfl (by omega) ?_
  refine g_aload_n dX2_give_7 rfl ?_
  refine g_getR dX2_give_8 fX2_18 rfl rfl ?_
  refine g_iload_n dX2_give_11 rfl ?_
  refine g_iload_n dX2_give_12 rfl ?_
  refine g_ias _ dX2_give_13 rfl rfl (by omega) ?_
  exact g_ret dX2_give_14 rfl ⟨rfl, rfl⟩

def r_T (c b : Nat) : Nat := if c = 4 then ([7, 11, 13, 14] : List Nat).getD b 0 else if c = 5 then ([7, 11, 28, 13, 14, 19, 21, 26, 22, 25, 31] : List Nat).getD b 0 else ([7, 56, 11, 52, 13, 50, 14, 49, 19, 44, 21, 42, 22, 41] : List Nat).getD b 0
def r_RO (c : Nat) : Nat → Nat → Nat
  | 0, _ => 0
  | b + 1, i => r_RO c b i + r_T c b / 2 ^ i % 2
def r_BB (c : Nat) : Nat → Nat → Int32
  | 0, _ => -9
  | b + 1, x => if x = r_T c b then nI b else r_BB c b x
def r_CO (c d j : Nat) : Nat := if j < d then r_T c j else 2 ^ (j - d)
def r_BF (c d : Nat) : Nat → Nat → Int32
  | 0, x => r_BB c d x
  | k + 1, x => if x = 2 ^ k then nI (d + k) else r_BF c d k x
/-- the codes that there are -/
def r_ok (d c : Nat) : Prop := 1 ≤ d ∧ ((c = 4 ∧ d ≤ 4) ∨ (c = 5 ∧ d ≤ 11) ∨ (c = 6 ∧ d ≤ 14))
theorem r_best4 : ∀ b, b < 4 → (r_bsts (fun i => nI (r_RO 4 b i)) (r_BB 4 b) 4 15).1 = nI (r_T 4 b) := by decide +kernel
theorem r_best5 : ∀ b, b < 11 → (r_bsts (fun i => nI (r_RO 5 b i)) (r_BB 5 b) 5 31).1 = nI (r_T 5 b) := by decide +kernel
theorem r_best6 : ∀ b, b < 14 → (r_bsts (fun i => nI (r_RO 6 b i)) (r_BB 6 b) 6 63).1 = nI (r_T 6 b) := by decide +kernel
theorem r_best {d c b : Nat} (h : r_ok d c) (hb : b < d) : (r_bsts (fun i => nI (r_RO c b i)) (r_BB c b) c (2 ^ c - 1)).1 = nI (r_T c b) := by
  obtain ⟨h1, ⟨rfl, h2⟩ | ⟨rfl, h2⟩ | ⟨rfl, h2⟩⟩ := h
  · exact r_best4 b (by omega)
  · exact r_best5 b (by omega)
  · exact r_best6 b (by omega)
theorem r_T4 : ∀ b, b < 4 → r_T 4 b < 2 ^ 4 ∧ 0 < r_T 4 b := by decide
theorem r_T5 : ∀ b, b < 11 → r_T 5 b < 2 ^ 5 ∧ 0 < r_T 5 b := by decide
theorem r_T6 : ∀ b, b < 14 → r_T 6 b < 2 ^ 6 ∧ 0 < r_T 6 b := by decide
theorem r_Tlt {d c b : Nat} (h : r_ok d c) (hb : b < d) : r_T c b < 2 ^ c ∧ 0 < r_T c b := by
  obtain ⟨h1, ⟨rfl, h2⟩ | ⟨rfl, h2⟩ | ⟨rfl, h2⟩⟩ := h
  · exact r_T4 b (by omega)
  · exact r_T5 b (by omega)
  · exact r_T6 b (by omega)
theorem r_ok_c {d c : Nat} (h : r_ok d c) : 4 ≤ c ∧ c ≤ 6 ∧ d ≤ 14 ∧ 1 ≤ d ∧ d + c ≤ 20 ∧ 2 ^ c ≤ 64 ∧ 16 ≤ 2 ^ c := by
  obtain ⟨h1, ⟨rfl, h2⟩ | ⟨rfl, h2⟩ | ⟨rfl, h2⟩⟩ := h <;> refine ⟨?_, ?_, ?_, ?_, ?_, ?_, ?_⟩ <;> omega
theorem r_full_congr {ro ro' : Nat → Int32} {col : Int32} : ∀ {k : Nat}, (∀ i, i < k → ro i = ro' i) → r_full ro col k = r_full ro' col k
  | 0, _ => rfl
  | k + 1, h => by
    have h1 := r_full_congr (col := col) (k := k) (fun i hi => h i (by omega))
    simp only [r_full, h1, h k (by omega)]
theorem r_bsts_congr {ro ro' bb bb' : Nat → Int32} {c : Nat} (hr : ∀ i, i < c → ro i = ro' i) : ∀ {k : Nat}, (∀ x, x < k + 1 → bb x = bb' x) → r_bsts ro bb c k = r_bsts ro' bb' c k
  | 0, _ => rfl
  | k + 1, h => by
    have h1 := r_bsts_congr hr (k := k) (bb := bb) (bb' := bb') (fun x hx => h x (by omega))
    simp only [r_bsts, r_bst, h1, h (k + 1) (by omega), r_full_congr hr]
theorem r_smod : ∀ n, n < 32 → ((nI n &&& 31).toBitVec.smod 32).toNat = n := by decide
theorem r_b_nI {n i : Nat} (h : n < 2 ^ 31) (hi : i < 32) : r_b (nI n) i = nI (n / 2 ^ i % 2) := by
  unfold r_b
  rw [pk_shrN h _ i (r_smod i hi), pk_andN (k := 1) (by have : n / 2 ^ i ≤ n := Nat.div_le_self _ _; omega) rfl]
def r_cs (σ : r_Sg) (c b : Nat) : r_Sg := fun q i => if q = 2 then (if i < b then nI (r_T c i) else σ 2 i) else if q = 3 then (if i < 6 then nI (r_RO c b i) else σ 3 i) else if q = 4 then (if i < 64 then r_BB c b i else σ 4 i) else σ q i
def r_rw (σ : r_Sg) (col : Int32) (k : Nat) : r_Sg := fun q i => if q = 3 then (if i < k then σ 3 i + r_b col i else σ 3 i) else σ q i
def r_cf (σ : r_Sg) (c d k : Nat) : r_Sg := fun q i => if q = 2 then (if i < d + k then nI (r_CO c d i) else σ 2 i) else if q = 3 then (if i < 6 then nI (r_RO c d i) else σ 3 i) else if q = 4 then (if i < 64 then r_BF c d k i else σ 4 i) else σ q i
theorem r_E0 (σ : r_Sg) (c : Nat) : r_fill (r_fill σ 3 6 0) 4 64 (-9) = r_cs σ c 0 := by
  funext q i
  by_cases h2 : q = 2
  · subst h2; simp [r_fill, r_cs]
  · by_cases h3 : q = 3
    · subst h3; simp [r_fill, r_cs, r_RO]; rfl
    · by_cases h4 : q = 4
      · subst h4; simp [r_fill, r_cs, r_BB]
      · simp [r_fill, r_cs, h2, h3, h4]
theorem r_E1a (σ : r_Sg) (col : Int32) (j : Nat) : r_up (r_rw σ col j) 3 j (σ 3 j + r_b col j) = r_rw σ col (j + 1) := by
  funext q i
  by_cases h3 : q = 3
  · subst h3
    by_cases hi : i = j
    · subst hi; simp [r_up, upd, r_rw]
    · have : i < j + 1 ↔ i < j := by omega
      simp [r_up, upd, r_rw, hi, this]
  · simp [r_up, r_rw, h3]
theorem r_E1 (σ : r_Sg) {d c k : Nat} (h : r_ok d c) (hk : k < d) : r_rw (r_up (r_up (r_cs σ c k) 2 k (nI (r_T c k))) 4 (r_T c k) (nI k)) (nI (r_T c k)) c = r_cs σ c (k + 1) := by
  have hT := r_Tlt h hk
  have hc := r_ok_c h
  funext q i
  by_cases h2 : q = 2
  · subst h2
    by_cases hi : i = k
    · subst hi; simp [r_rw, r_up, upd, r_cs]
    · have : i < k + 1 ↔ i < k := by omega
      simp [r_rw, r_up, upd, r_cs, hi, this]
  · by_cases h3 : q = 3
    · subst h3
      simp only [r_rw, r_up]
      by_cases hi : i < c
      · have h6 : i < 6 := by omega
        simp [r_cs, r_RO, hi, h6, r_b_nI (show r_T c k < 2 ^ 31 by omega) (show i < 32 by omega), nI_add]
      · by_cases h6 : i < 6
        · have hle : 2 ^ c ≤ 2 ^ i := Nat.pow_le_pow_right (by omega) (by omega)
          have h0 : r_T c k / 2 ^ i = 0 := Nat.div_eq_of_lt (by omega)
          simp [r_cs, r_RO, hi, h6, h0]
        · simp [r_cs, hi, h6]
    · by_cases h4 : q = 4
      · subst h4
        by_cases hi : i = r_T c k
        · have h9 : r_T c k < 64 := by omega
          rw [hi]
          simp [r_rw, r_up, upd, r_cs, r_BB, h9]
        · simp [r_rw, r_up, upd, r_cs, r_BB, hi]
      · simp [r_rw, r_up, r_cs, h2, h3, h4]
theorem r_E2 (σ : r_Sg) (c d : Nat) : r_cs σ c d = r_cf σ c d 0 := by
  funext q i
  by_cases h2 : q = 2
  · subst h2
    by_cases hi : i < d <;> simp [r_cs, r_cf, r_CO, hi]
  · simp [r_cs, r_cf, h2, r_BF]
theorem r_E3 (σ : r_Sg) (c d : Nat) {k : Nat} (hk : 2 ^ k < 64) : r_up (r_up (r_cf σ c d k) 2 (d + k) (nI (2 ^ k))) 4 (2 ^ k) (nI (d + k)) = r_cf σ c d (k + 1) := by
  funext q i
  by_cases h2 : q = 2
  · subst h2
    by_cases hi : i = d + k
    · subst hi; have h9 : ¬ d + k < d := (by omega); simp [r_up, upd, r_cf, r_CO, h9]
    · have : i < d + (k + 1) ↔ i < d + k := by omega
      simp [r_up, upd, r_cf, hi, this]
  · by_cases h3 : q = 3
    · subst h3; simp [r_up, r_cf]
    · by_cases h4 : q = 4
      · subst h4
        by_cases hi : i = 2 ^ k
        · rw [hi]; simp [r_up, upd, r_cf, r_BF, hk]
        · simp [r_up, upd, r_cf, r_BF, hi]
      · simp [r_up, r_cf, h2, h3, h4]

set_option maxRecDepth 4000 in
theorem ev_X2_choose {σ : r_Sg} {d c : Nat} (hok : r_ok d c) : Ev 3 MX2_choose [.ref 1, .int (nI d), .int (nI c)] σ none (r_cf (r_up (r_up σ 1 3 (nI d)) 1 4 (nI c)) c d c) := by
  have hc := r_ok_c hok
  refine Ev_w [.ref 1, .int (nI d), .int (nI c), .null, .null, .null] ?_ (by decide) rfl (Nat.le_of_ble_eq_true rfl) rfl
  refine g_aload_n dX2_choose_0 rfl ?_
  refine g_iload_n dX2_choose_1 rfl ?_
  refine g_putI dX2_choose_2 pX2_24 rfl rfl ?_
  refine g_aload_n dX2_choose_5 rfl ?_
  refine g_iload_n dX2_choose_6 rfl ?_
  refine g_putI dX2_choose_7 pX2_28 rfl rfl ?_
  refine g_aload_n dX2_choose_10 rfl ?_
  refine g_getR dX2_choose_11 fX2_15 rfl rfl ?_
  refine g_iconst (v := 0) dX2_choose_14 (by decide) ?_
  refine g_S2v dX2_choose_15 vX2_31 (Nat.le_of_ble_eq_true rfl) (by decide) (ev_J7_fill_53178 (n := 6) rfl) ?_
  refine g_aload_n dX2_choose_18 rfl ?_
  refine g_getR dX2_choose_19 fX2_18 rfl rfl ?_
  refine g_bipush (v := (-9)) dX2_choose_22 (by decide) ?_
  refine g_S2v dX2_choose_24 vX2_31 (Nat.le_of_ble_eq_true rfl) (by decide) (ev_J7_fill_53178 (n := 64) rfl) ?_
  refine g_iconst (v := 0) dX2_choose_27 (by decide) ?_
  refine g_istore_n dX2_choose_28 (by decide) rfl ?_
  refine g_g (r_E0 _ c) ?_
  refine r_loop (n := d) (fun k => [.ref 1, .int (nI d), .int (nI c), .int (nI k), .null, .null]) (fun k => r_cs (r_up (r_up σ 1 3 (nI d)) 1 4 (nI c)) c k) (fun k hk ih => ?_) ?_
  · refine g_iload_n dX2_choose_29 rfl ?_
    refine g_iload_n dX2_choose_30 rfl ?_
    refine g_icge (tgt := 85) dX2_choose_31 (by decide) (fun c31 => absurd c31 (nI_ge hk (by omega))) (fun c31 => ?_)
    refine g_aload_n dX2_choose_34 rfl ?_
    have hT := r_Tlt hok hk
    refine g_V0 dX2_choose_35 vX2_37 rfl (Nat.le_of_ble_eq_true rfl) (by decide) (Ev_r (ev_X2_bestFreeColumn (σ := r_cs (r_up (r_up σ 1 3 (nI d)) 1 4 (nI c)) c k) (c := c) (N := 2 ^ c) (by simp [r_cs, r_up, upd]) (by omega) (by simp only [r_cs, r_up, upd]; simp; exact r_shl1 c (by omega)) (by omega) (by omega)) (by rw [r_bsts_congr (ro' := fun i => nI (r_RO c k i)) (bb' := r_BB c k) (by intro i hi; have h6 : i < 6 := (by omega); simp [r_cs, h6]) (by intro x hx; have h6 : x < 64 := (by omega); simp [r_cs, h6]), r_best hok hk])) ?_
    refine g_istore dX2_choose_38 (by decide) rfl ?_
    refine g_aload_n dX2_choose_40 rfl ?_
    refine g_iload_n dX2_choose_41 rfl ?_
    refine g_iload dX2_choose_42 rfl ?_
    refine g_V2v dX2_choose_44 vX2_41 rfl (Nat.le_of_ble_eq_true rfl) (by decide) (ev_X2_give (by omega) (by omega)) ?_
    refine g_iconst (v := 0) dX2_choose_47 (by decide) ?_
    refine g_istore dX2_choose_48 (by decide) rfl ?_
    refine g_g (σ' := r_rw (r_up (r_up (r_cs (r_up (r_up σ 1 3 (nI d)) 1 4 (nI c)) c k) 2 k (nI (r_T c k))) 4 (r_T c k) (nI k)) (nI (r_T c k)) 0) (by funext q i; by_cases h3 : q = 3 <;> simp [r_rw, h3]) ?_
    refine r_loop (n := c) (fun j => [.ref 1, .int (nI d), .int (nI c), .int (nI k), .int (nI (r_T c k)), .int (nI j)]) (fun j => r_rw (r_up (r_up (r_cs (r_up (r_up σ 1 3 (nI d)) 1 4 (nI c)) c k) 2 k (nI (r_T c k))) 4 (r_T c k) (nI k)) (nI (r_T c k)) j) (fun j hj ih => ?_) ?_
    · refine g_iload dX2_choose_50 rfl ?_
      refine g_iload_n dX2_choose_52 rfl ?_
      refine g_icge (tgt := 79) dX2_choose_53 (by decide) (fun c53 => absurd c53 (nI_ge hj (by omega))) (fun c53 => ?_)
      refine g_aload_n dX2_choose_56 rfl ?_
      refine g_getR dX2_choose_57 fX2_15 rfl rfl ?_
      refine g_iload dX2_choose_60 rfl ?_
      refine g_dup2 dX2_choose_62 rfl rfl ?_
      refine g_ial _ dX2_choose_63 rfl rfl (by omega) ?_
      refine g_iload dX2_choose_64 rfl ?_
      refine g_iload dX2_choose_66 rfl ?_
      refine g_ishr dX2_choose_68 ?_
      refine g_iconst (v := 1) dX2_choose_69 (by decide) ?_
      refine g_iand dX2_choose_70 ?_
      refine g_iadd dX2_choose_71 ?_
      refine g_ias _ dX2_choose_72 rfl rfl (by omega) ?_
      refine g_iinc (v := nI (j + 1)) dX2_choose_73 rfl (nI_1 j) (by decide) rfl ?_
      refine g_goto (tgt := 50) dX2_choose_76 (by decide) ?_
      exact g_g (by rw [← r_E1a]; congr 1; simp [r_rw, r_b]) ih
    · refine g_iload dX2_choose_50 rfl ?_
      refine g_iload_n dX2_choose_52 rfl ?_
      refine g_icge (tgt := 79) dX2_choose_53 (by decide) (fun c53 => ?_) (fun c53 => absurd (nI_le (Nat.le_refl _) (by omega)) c53)
      refine g_iinc (v := nI (k + 1)) dX2_choose_79 rfl (nI_1 k) (by decide) rfl ?_
      refine g_goto (tgt := 29) dX2_choose_82 (by decide) ?_
      refine g_w [.ref 1, .int (nI d), .int (nI c), .int (nI (k + 1)), .null, .null] (And.intro (Or.inr rfl) (And.intro (Or.inr rfl) (And.intro (Or.inr rfl) (And.intro (Or.inr rfl) (And.intro (Or.inl rfl) (And.intro (Or.inl rfl) (True.intro))))))) ?_
      exact g_g (r_E1 _ hok hk) ih
  · refine g_iload_n dX2_choose_29 rfl ?_
    refine g_iload_n dX2_choose_30 rfl ?_
    refine g_icge (tgt := 85) dX2_choose_31 (by decide) (fun c31 => ?_) (fun c31 => absurd (nI_le (Nat.le_refl _) (by omega)) c31)
    refine g_iconst (v := 0) dX2_choose_85 (by decide) ?_
    refine g_istore_n dX2_choose_86 (by decide) rfl ?_
    refine g_g (r_E2 _ c d) ?_
    refine r_loop (n := c) (fun k => [.ref 1, .int (nI d), .int (nI c), .int (nI k), .null, .null]) (fun k => r_cf (r_up (r_up σ 1 3 (nI d)) 1 4 (nI c)) c d k) (fun k hk ih => ?_) ?_
    · refine g_iload_n dX2_choose_87 rfl ?_
      refine g_iload_n dX2_choose_88 rfl ?_
      refine g_icge (tgt := 108) dX2_choose_89 (by decide) (fun c89 => absurd c89 (nI_ge hk (by omega))) (fun c89 => ?_)
      refine g_aload_n dX2_choose_92 rfl ?_
      refine g_iload_n dX2_choose_93 rfl ?_
      refine g_iload_n dX2_choose_94 rfl ?_
      refine g_iadd dX2_choose_95 ?_
      refine g_t (nI_add d k) ?_
      refine g_iconst (v := 1) dX2_choose_96 (by decide) ?_
      refine g_iload_n dX2_choose_97 rfl ?_
      refine g_ishl dX2_choose_98 ?_
      refine g_t (r_shl1 k (by omega)) ?_
      have hk6 : 2 ^ k ≤ 2 ^ 5 := Nat.pow_le_pow_right (by omega) (by omega)
      have hk7 : (2 : Nat) ^ 5 = 32 := rfl
      refine g_V2v dX2_choose_99 vX2_41 rfl (Nat.le_of_ble_eq_true rfl) (by decide) (ev_X2_give (by omega) (by omega)) ?_
      refine g_iinc (v := nI (k + 1)) dX2_choose_102 rfl (nI_1 k) (by decide) rfl ?_
      refine g_goto (tgt := 87) dX2_choose_105 (by decide) ?_
      exact g_g (r_E3 _ c d (by omega)) ih
    · refine g_iload_n dX2_choose_87 rfl ?_
      refine g_iload_n dX2_choose_88 rfl ?_
      refine g_icge (tgt := 108) dX2_choose_89 (by decide) (fun c89 => ?_) (fun c89 => absurd (nI_le (Nat.le_refl _) (by omega)) c89)
      exact g_ret dX2_choose_108 rfl ⟨rfl, rfl⟩
end
section
/-! the reference: its code (cell 19: data, checks; 20 columnOf, 21 onesOf) -/
/-- the first place below n of which P holds; n: none -/
def r_fst (P : Nat → Bool) : Nat → Nat
  | 0 => 0
  | n + 1 => if r_fst P n < n then r_fst P n else if P n then n else n + 1
theorem r_fst_le (P : Nat → Bool) : ∀ n, r_fst P n ≤ n
  | 0 => Nat.le_refl 0
  | n + 1 => by
    have := r_fst_le P n
    unfold r_fst
    split
    · omega
    · split <;> omega
theorem r_fst_not {P : Nat → Bool} : ∀ {n k : Nat}, k < r_fst P n → P k = false
  | 0, k, h => by simp [r_fst] at h
  | n + 1, k, h => by
    have hl := r_fst_le P n
    unfold r_fst at h
    split at h
    · exact r_fst_not h
    · split at h
      · exact r_fst_not (n := n) (by omega)
      · rename_i h1 h2
        by_cases hk : k = n
        · subst hk; simpa using h2
        · exact r_fst_not (n := n) (by omega)
theorem r_fst_at {P : Nat → Bool} : ∀ {n : Nat}, r_fst P n < n → P (r_fst P n) = true
  | 0, h => by simp at h
  | n + 1, h => by
    unfold r_fst at h ⊢
    split
    · rename_i h1; exact r_fst_at h1
    · split
      · assumption
      · rename_i h1 h2; rw [if_neg h1, if_neg h2] at h; omega
theorem r_fst_congr {P Q : Nat → Bool} : ∀ {n : Nat}, (∀ k, k < n → P k = Q k) → r_fst P n = r_fst Q n
  | 0, _ => rfl
  | n + 1, h => by
    have h1 := r_fst_congr (n := n) (fun k hk => h k (by omega))
    simp only [r_fst, h1, h n (by omega)]
def r_sz (x : Int32) : Nat → Int32
  | 0 => 0
  | k + 1 => r_sz x k + r_b x k
def r_nst (cf ro : Nat → Int32) (c b col : Nat) (t : Int32) : Int32 :=
  if (r_sz (nI col) 21 = 3 ∨ r_sz (nI col) 21 = 5) ∧ ¬ (r_fst (fun j => decide (cf j = nI col)) b < b) then
    if (t = -9 ∨ r_sz (nI col) 21 < r_sz t 21) ∨ (¬ t = -9 ∧ r_sz (nI col) 21 = r_sz t 21 ∧ r_full ro (nI col) c < r_full ro t c) then nI col else t
  else t
def r_nsts (cf ro : Nat → Int32) (c b : Nat) : Nat → Int32
  | 0 => -9
  | k + 1 => r_nst cf ro c b k (r_nsts cf ro c b k)

set_option maxRecDepth 4000 in
theorem ev_X6_within {σ : r_Sg} {v a b : Int32}  : Ev 0 MX6_within [.int v, .int a, .int b] σ (some (.int (bI (a ≤ v ∧ v ≤ b)))) σ := by
  refine Ev_w [.int v, .int a, .int b] ?_ (by decide) rfl (Nat.le_of_ble_eq_true rfl) rfl
  refine g_iload_n dX6_within_0 rfl ?_
  refine g_iload_n dX6_within_1 rfl ?_
  refine g_iclt (tgt := 14) dX6_within_2 (by decide) (fun c2 => ?_) (fun c2 => ?_)
  · refine g_iconst (v := 0) dX6_within_14 (by decide) ?_
    exact g_zret dX6_within_15 rfl (by first | exact Or.inl rfl | exact Or.inr rfl) ⟨by simp only [bI_0, Decidable.not_not, Int32.not_le, Int32.not_lt, Int32.lt_iff_toInt_lt, Int32.le_iff_toInt_le] at *; unfold bI; split <;> first | rfl | (exfalso; omega), rfl⟩
  · refine g_iload_n dX6_within_5 rfl ?_
    refine g_iload_n dX6_within_6 rfl ?_
    refine g_icgt (tgt := 14) dX6_within_7 (by decide) (fun c7 => ?_) (fun c7 => ?_)
    · refine g_iconst (v := 0) dX6_within_14 (by decide) ?_
      exact g_zret dX6_within_15 rfl (by first | exact Or.inl rfl | exact Or.inr rfl) ⟨by simp only [bI_0, Decidable.not_not, Int32.not_le, Int32.not_lt, Int32.lt_iff_toInt_lt, Int32.le_iff_toInt_le] at *; unfold bI; split <;> first | rfl | (exfalso; omega), rfl⟩
    · refine g_iconst (v := 1) dX6_within_10 (by decide) ?_
      refine g_goto (tgt := 15) dX6_within_11 (by decide) ?_
      exact g_zret dX6_within_15 rfl (by first | exact Or.inl rfl | exact Or.inr rfl) ⟨by simp only [bI_0, Decidable.not_not, Int32.not_le, Int32.not_lt, Int32.lt_iff_toInt_lt, Int32.le_iff_toInt_le] at *; unfold bI; split <;> first | rfl | (exfalso; omega), rfl⟩

set_option maxRecDepth 4000 in
theorem ev_X6_isIn {σ : r_Sg} {x : Int32} {b : Nat}  : Ev 0 MX6_isIn [.int x, .int (nI b)] σ (some (.int (r_b x b))) σ := by
  refine Ev_w [.int x, .int (nI b)] ?_ (by decide) rfl (Nat.le_of_ble_eq_true rfl) rfl
  refine g_iload_n dX6_isIn_0 rfl ?_
  refine g_iload_n dX6_isIn_1 rfl ?_
  refine g_ishr dX6_isIn_2 ?_
  refine g_iconst (v := 1) dX6_isIn_3 (by decide) ?_
  refine g_iand dX6_isIn_4 ?_
  exact g_iret dX6_isIn_5 rfl ⟨rfl, rfl⟩

set_option maxRecDepth 4000 in
theorem ev_X6_sizeOf {σ : r_Sg} {x : Int32}  : Ev 1 MX6_sizeOf [.int x] σ (some (.int (r_sz x 21))) σ := by
  refine Ev_w [.int x, .null, .null] ?_ (by decide) rfl (Nat.le_of_ble_eq_true rfl) rfl
  refine g_iconst (v := 0) dX6_sizeOf_0 (by decide) ?_
  refine g_istore_n dX6_sizeOf_1 (by decide) rfl ?_
  refine g_iconst (v := 0) dX6_sizeOf_2 (by decide) ?_
  refine g_istore_n dX6_sizeOf_3 (by decide) rfl ?_
  refine r_loop (n := 21) (fun k => [.int x, .int (r_sz x k), .int (nI k)]) (fun k => σ) (fun k hk ih => ?_) ?_
  · refine g_iload_n dX6_sizeOf_4 rfl ?_
    refine g_bipush (v := nI 21) dX6_sizeOf_5 (by decide) ?_
    refine g_icge (tgt := 24) dX6_sizeOf_7 (by decide) (fun c7 => absurd c7 (nI_ge hk (by omega))) (fun c7 => ?_)
    refine g_iload_n dX6_sizeOf_10 rfl ?_
    refine g_iload_n dX6_sizeOf_11 rfl ?_
    refine g_iload_n dX6_sizeOf_12 rfl ?_
    refine g_S2 dX6_sizeOf_13 vX6_53 (Nat.le_of_ble_eq_true rfl) (by decide) (ev_X6_isIn) ?_
    refine g_iadd dX6_sizeOf_16 ?_
    refine g_istore_n dX6_sizeOf_17 (by decide) rfl ?_
    refine g_iinc (v := nI (k + 1)) dX6_sizeOf_18 rfl (nI_1 k) (by decide) rfl ?_
    refine g_goto (tgt := 4) dX6_sizeOf_21 (by decide) ?_
    exact ih
  · refine g_iload_n dX6_sizeOf_4 rfl ?_
    refine g_bipush (v := nI 21) dX6_sizeOf_5 (by decide) ?_
    refine g_icge (tgt := 24) dX6_sizeOf_7 (by decide) (fun c7 => ?_) (fun c7 => absurd (nI_le (Nat.le_refl _) (by omega)) c7)
    refine g_iload_n dX6_sizeOf_24 rfl ?_
    exact g_iret dX6_sizeOf_25 rfl ⟨rfl, rfl⟩

set_option maxRecDepth 4000 in
theorem ev_X6_bits {σ : r_Sg}  : Ev 0 MX6_bits [.ref 19] σ (some (.int (σ 19 0 + σ 19 1))) σ := by
  refine Ev_w [.ref 19] ?_ (by decide) rfl (Nat.le_of_ble_eq_true rfl) rfl
  refine g_aload_n dX6_bits_0 rfl ?_
  refine g_getI dX6_bits_1 fX6_57 rfl rfl ?_
  refine g_aload_n dX6_bits_4 rfl ?_
  refine g_getI dX6_bits_5 fX6_61 rfl rfl ?_
  refine g_iadd dX6_bits_8 ?_
  exact g_iret dX6_bits_9 rfl ⟨rfl, rfl⟩

set_option maxRecDepth 4000 in
theorem ev_X6_isBit {σ : r_Sg} {b : Int32}  : Ev 1 MX6_isBit [.ref 19, .int b] σ (some (.int (bI (0 ≤ b ∧ b ≤ σ 19 0 + σ 19 1 - 1)))) σ := by
  refine Ev_w [.ref 19, .int b] ?_ (by decide) rfl (Nat.le_of_ble_eq_true rfl) rfl
  refine g_iload_n dX6_isBit_0 rfl ?_
  refine g_iconst (v := 0) dX6_isBit_1 (by decide) ?_
  refine g_aload_n dX6_isBit_2 rfl ?_
  refine g_V0 dX6_isBit_3 vX6_64 rfl (Nat.le_of_ble_eq_true rfl) (by decide) (ev_X6_bits) ?_
  refine g_iconst (v := 1) dX6_isBit_6 (by decide) ?_
  refine g_isub dX6_isBit_7 ?_
  refine g_S3 dX6_isBit_8 vX6_68 (Nat.le_of_ble_eq_true rfl) (by decide) (ev_X6_within) ?_
  exact g_zret dX6_isBit_11 rfl (by unfold bI; split <;> simp) ⟨rfl, rfl⟩

set_option maxRecDepth 4000 in
theorem ev_X6_isSet {σ : r_Sg} {b : Int32}  : Ev 1 MX6_isSet [.ref 19, .int b] σ (some (.int (bI (0 ≤ b ∧ b ≤ (1 <<< ((σ 19 0 + σ 19 1) &&& 31)) - 1)))) σ := by
  refine Ev_w [.ref 19, .int b] ?_ (by decide) rfl (Nat.le_of_ble_eq_true rfl) rfl
  refine g_iload_n dX6_isSet_0 rfl ?_
  refine g_iconst (v := 0) dX6_isSet_1 (by decide) ?_
  refine g_iconst (v := 1) dX6_isSet_2 (by decide) ?_
  refine g_aload_n dX6_isSet_3 rfl ?_
  refine g_V0 dX6_isSet_4 vX6_64 rfl (Nat.le_of_ble_eq_true rfl) (by decide) (ev_X6_bits) ?_
  refine g_ishl dX6_isSet_7 ?_
  refine g_iconst (v := 1) dX6_isSet_8 (by decide) ?_
  refine g_isub dX6_isSet_9 ?_
  refine g_S3 dX6_isSet_10 vX6_68 (Nat.le_of_ble_eq_true rfl) (by decide) (ev_X6_within) ?_
  exact g_zret dX6_isSet_13 rfl (by unfold bI; split <;> simp) ⟨rfl, rfl⟩

set_option maxRecDepth 4000 in
theorem ev_X6_mostData {σ : r_Sg} {c : Int32}  : Ev 0 MX6_mostData [.int c] σ (some (.int (if c = 4 then 4 else if c = 5 then 11 else 14))) σ := by
  refine Ev_w [.int c] ?_ (by decide) rfl (Nat.le_of_ble_eq_true rfl) rfl
  refine g_iload_n dX6_mostData_0 rfl ?_
  refine g_iconst (v := 4) dX6_mostData_1 (by decide) ?_
  refine g_icne (tgt := 9) dX6_mostData_2 (by decide) (fun c2 => ?_) (fun c2 => ?_)
  · refine g_iload_n dX6_mostData_9 rfl ?_
    refine g_iconst (v := 5) dX6_mostData_10 (by decide) ?_
    refine g_icne (tgt := 19) dX6_mostData_11 (by decide) (fun c11 => ?_) (fun c11 => ?_)
    · refine g_bipush (v := 14) dX6_mostData_19 (by decide) ?_
      exact g_iret dX6_mostData_21 rfl ⟨by simp [*], rfl⟩
    · refine g_bipush (v := 11) dX6_mostData_14 (by decide) ?_
      refine g_goto (tgt := 21) dX6_mostData_16 (by decide) ?_
      exact g_iret dX6_mostData_21 rfl ⟨by simp [*], rfl⟩
  · refine g_iconst (v := 4) dX6_mostData_5 (by decide) ?_
    refine g_goto (tgt := 21) dX6_mostData_6 (by decide) ?_
    exact g_iret dX6_mostData_21 rfl ⟨by simp [*], rfl⟩

set_option maxRecDepth 4000 in
theorem ev_X6_isChosen {σ : r_Sg} {m : Nat} {col : Int32} (hm : m ≤ 20) : Ev 0 MX6_isChosen [.ref 19, .int col, .int (nI m)] σ (some (.int (bI (r_fst (fun j => decide (σ 20 j = col)) m < m)))) σ := by
  refine Ev_w [.ref 19, .int col, .int (nI m), .null] ?_ (by decide) rfl (Nat.le_of_ble_eq_true rfl) rfl
  refine g_iconst (v := 0) dX6_isChosen_0 (by decide) ?_
  refine g_istore_n dX6_isChosen_1 (by decide) rfl ?_
  have hJle := r_fst_le (fun j => decide (σ 20 j = col)) m
  refine r_loop (n := r_fst (fun j => decide (σ 20 j = col)) m) (fun k => [.ref 19, .int col, .int (nI m), .int (nI k)]) (fun k => σ) (fun k hk ih => ?_) ?_
  · have hP := r_fst_not hk
    refine g_iload_n dX6_isChosen_2 rfl ?_
    refine g_iload_n dX6_isChosen_3 rfl ?_
    refine g_icge (tgt := 25) dX6_isChosen_4 (by decide) (fun c4 => absurd c4 (nI_ge (show k < m by omega) (by omega))) (fun c4 => ?_)
    refine g_aload_n dX6_isChosen_7 rfl ?_
    refine g_getR dX6_isChosen_8 fX6_7 rfl rfl ?_
    refine g_iload_n dX6_isChosen_11 rfl ?_
    refine g_ial _ dX6_isChosen_12 rfl rfl (by omega) ?_
    refine g_iload_n dX6_isChosen_13 rfl ?_
    refine g_icne (tgt := 19) dX6_isChosen_14 (by decide) (fun c14 => ?_) (fun c14 => absurd c14 (by simpa using hP))
    refine g_iinc (v := nI (k + 1)) dX6_isChosen_19 rfl (nI_1 k) (by decide) rfl ?_
    refine g_goto (tgt := 2) dX6_isChosen_22 (by decide) ?_
    exact ih
  · by_cases hJ : r_fst (fun j => decide (σ 20 j = col)) m < m
    · have hP := r_fst_at hJ
      refine g_iload_n dX6_isChosen_2 rfl ?_
      refine g_iload_n dX6_isChosen_3 rfl ?_
      refine g_icge (tgt := 25) dX6_isChosen_4 (by decide) (fun c4 => absurd c4 (nI_ge hJ (by omega))) (fun c4 => ?_)
      refine g_aload_n dX6_isChosen_7 rfl ?_
      refine g_getR dX6_isChosen_8 fX6_7 rfl rfl ?_
      refine g_iload_n dX6_isChosen_11 rfl ?_
      refine g_ial _ dX6_isChosen_12 rfl rfl (by omega) ?_
      refine g_iload_n dX6_isChosen_13 rfl ?_
      refine g_icne (tgt := 19) dX6_isChosen_14 (by decide) (fun c14 => absurd (by simpa using hP) c14) (fun c14 => ?_)
      refine g_iconst (v := 1) dX6_isChosen_17 (by decide) ?_
      exact g_zret dX6_isChosen_18 rfl (by first | exact Or.inl rfl | exact Or.inr rfl) ⟨by rw [bI_t hJ], rfl⟩
    · refine g_iload_n dX6_isChosen_2 rfl ?_
      refine g_iload_n dX6_isChosen_3 rfl ?_
      refine g_icge (tgt := 25) dX6_isChosen_4 (by decide) (fun c4 => ?_) (fun c4 => absurd (nI_le (show m ≤ r_fst (fun j => decide (σ 20 j = col)) m by omega) (by omega)) c4)
      refine g_iconst (v := 0) dX6_isChosen_25 (by decide) ?_
      exact g_zret dX6_isChosen_26 rfl (by first | exact Or.inl rfl | exact Or.inr rfl) ⟨by rw [bI_f hJ], rfl⟩

set_option maxRecDepth 4000 in
theorem ev_X6_fullestWith {σ : r_Sg} {c : Nat} {col : Int32} (hc : σ 19 1 = nI c) (hc6 : c ≤ 6) : Ev 1 MX6_fullestWith [.ref 19, .int col] σ (some (.int (r_full (σ 21) col c))) σ := by
  refine Ev_w [.ref 19, .int col, .null, .null, .null] ?_ (by decide) rfl (Nat.le_of_ble_eq_true rfl) rfl
  refine g_iconst (v := 0) dX6_fullestWith_0 (by decide) ?_
  refine g_istore_n dX6_fullestWith_1 (by decide) rfl ?_
  refine g_iconst (v := 0) dX6_fullestWith_2 (by decide) ?_
  refine g_istore_n dX6_fullestWith_3 (by decide) rfl ?_
  refine r_loop (n := c) (fun k => [.ref 19, .int col, .int (r_full (σ 21) col k), .int (nI k), .null]) (fun k => σ) (fun k hk ih => ?_) ?_
  · refine g_iload_n dX6_fullestWith_4 rfl ?_
    refine g_aload_n dX6_fullestWith_5 rfl ?_
    refine g_getI dX6_fullestWith_6 fX6_61 rfl rfl ?_
    refine g_t hc ?_
    refine g_icge (tgt := 45) dX6_fullestWith_9 (by decide) (fun c9 => absurd c9 (nI_ge hk (by omega))) (fun c9 => ?_)
    refine g_aload_n dX6_fullestWith_12 rfl ?_
    refine g_getR dX6_fullestWith_13 fX6_13 rfl rfl ?_
    refine g_iload_n dX6_fullestWith_16 rfl ?_
    refine g_ial _ dX6_fullestWith_17 rfl rfl (by omega) ?_
    refine g_iload_n dX6_fullestWith_18 rfl ?_
    refine g_iload_n dX6_fullestWith_19 rfl ?_
    refine g_S2 dX6_fullestWith_20 vX6_53 (Nat.le_of_ble_eq_true rfl) (by decide) (ev_X6_isIn) ?_
    refine g_iadd dX6_fullestWith_23 ?_
    refine g_istore dX6_fullestWith_24 (by decide) rfl ?_
    refine g_iload dX6_fullestWith_26 rfl ?_
    refine g_iload_n dX6_fullestWith_28 rfl ?_
    refine g_icle (tgt := 37) dX6_fullestWith_29 (by decide) (fun c29 => ?_) (fun c29 => ?_)
    · refine g_iload_n dX6_fullestWith_37 rfl ?_
      refine g_istore_n dX6_fullestWith_38 (by decide) rfl ?_
      refine g_iinc (v := nI (k + 1)) dX6_fullestWith_39 rfl (nI_1 k) (by decide) rfl ?_
      refine g_goto (tgt := 4) dX6_fullestWith_42 (by decide) ?_
      refine g_w [.ref 19, .int col, .int (if r_full (σ 21) col k < σ 21 k + r_b col k then σ 21 k + r_b col k else r_full (σ 21) col k), .int (nI (k + 1)), .null] (And.intro (Or.inr rfl) (And.intro (Or.inr rfl) (And.intro (Or.inr (by first | rw [if_pos (Int32.not_le.mp c29)] | rw [if_neg (Int32.not_lt.mpr c29)])) (And.intro (Or.inr rfl) (And.intro (Or.inl rfl) True.intro))))) ?_
      exact ih
    · refine g_iload dX6_fullestWith_32 rfl ?_
      refine g_goto (tgt := 38) dX6_fullestWith_34 (by decide) ?_
      refine g_istore_n dX6_fullestWith_38 (by decide) rfl ?_
      refine g_iinc (v := nI (k + 1)) dX6_fullestWith_39 rfl (nI_1 k) (by decide) rfl ?_
      refine g_goto (tgt := 4) dX6_fullestWith_42 (by decide) ?_
      refine g_w [.ref 19, .int col, .int (if r_full (σ 21) col k < σ 21 k + r_b col k then σ 21 k + r_b col k else r_full (σ 21) col k), .int (nI (k + 1)), .null] (And.intro (Or.inr rfl) (And.intro (Or.inr rfl) (And.intro (Or.inr (by first | rw [if_pos (Int32.not_le.mp c29)] | rw [if_neg (Int32.not_lt.mpr c29)])) (And.intro (Or.inr rfl) (And.intro (Or.inl rfl) True.intro))))) ?_
      exact ih
  · refine g_iload_n dX6_fullestWith_4 rfl ?_
    refine g_aload_n dX6_fullestWith_5 rfl ?_
    refine g_getI dX6_fullestWith_6 fX6_61 rfl rfl ?_
    refine g_t hc ?_
    refine g_icge (tgt := 45) dX6_fullestWith_9 (by decide) (fun c9 => ?_) (fun c9 => absurd (nI_le (Nat.le_refl _) (by omega)) c9)
    refine g_iload_n dX6_fullestWith_45 rfl ?_
    exact g_iret dX6_fullestWith_46 rfl ⟨rfl, rfl⟩

set_option maxRecDepth 4000 in
theorem ev_X6_nextColumn {σ : r_Sg} {c b N : Nat} (hc : σ 19 1 = nI c) (hc6 : c ≤ 6) (hN : 1 <<< (σ 19 1 &&& 31) = nI N) (hN64 : N ≤ 64) (hb : b ≤ 20) : Ev 2 MX6_nextColumn [.ref 19, .int (nI b)] σ (some (.int (r_nsts (σ 20) (σ 21) c b N))) σ := by
  refine Ev_w [.ref 19, .int (nI b), .null, .null, .null, .null, .null] ?_ (by decide) rfl (Nat.le_of_ble_eq_true rfl) rfl
  refine g_bipush (v := (-9)) dX6_nextColumn_0 (by decide) ?_
  refine g_istore_n dX6_nextColumn_2 (by decide) rfl ?_
  refine g_iconst (v := 0) dX6_nextColumn_3 (by decide) ?_
  refine g_istore_n dX6_nextColumn_4 (by decide) rfl ?_
  refine r_loop (n := N) (fun k => [.ref 19, .int (nI b), .int (r_nsts (σ 20) (σ 21) c b k), .int (nI k), .null, .null, .null]) (fun k => σ) (fun k hk ih => ?_) ?_
  · refine g_iload_n dX6_nextColumn_5 rfl ?_
    refine g_iconst (v := 1) dX6_nextColumn_6 (by decide) ?_
    refine g_aload_n dX6_nextColumn_7 rfl ?_
    refine g_getI dX6_nextColumn_8 fX6_61 rfl rfl ?_
    refine g_ishl dX6_nextColumn_11 ?_
    refine g_t hN ?_
    refine g_icge (tgt := 121) dX6_nextColumn_12 (by decide) (fun c12 => absurd c12 (nI_ge hk (by omega))) (fun c12 => ?_)
    refine g_iload_n dX6_nextColumn_15 rfl ?_
    refine g_S1 dX6_nextColumn_16 vX6_72 (Nat.le_of_ble_eq_true rfl) (by decide) (ev_X6_sizeOf) ?_
    refine g_istore dX6_nextColumn_19 (by decide) rfl ?_
    refine g_iload dX6_nextColumn_21 rfl ?_
    refine g_iconst (v := 3) dX6_nextColumn_23 (by decide) ?_
    refine g_iceq (tgt := 33) dX6_nextColumn_24 (by decide) (fun c24 => ?_) (fun c24 => ?_)
    · refine g_aload_n dX6_nextColumn_33 rfl ?_
      refine g_iload_n dX6_nextColumn_34 rfl ?_
      refine g_iload_n dX6_nextColumn_35 rfl ?_
      refine g_V2 dX6_nextColumn_36 vX6_76 rfl (Nat.le_of_ble_eq_true rfl) (by decide) (ev_X6_isChosen (by omega)) ?_
      refine g_ifne (tgt := 115) dX6_nextColumn_39 (by decide) (fun c39 => ?_) (fun c39 => ?_)
      · have p39 := bI_1.mp c39
        refine g_iinc (v := nI (k + 1)) dX6_nextColumn_115 rfl (nI_1 k) (by decide) rfl ?_
        refine g_goto (tgt := 5) dX6_nextColumn_118 (by decide) ?_
        have e : r_nsts (σ 20) (σ 21) c b (k + 1) = r_nsts (σ 20) (σ 21) c b k := by simp only [r_nsts, r_nst]; grind
        refine g_w [.ref 19, .int (nI b), .int (r_nsts (σ 20) (σ 21) c b k), .int (nI (k + 1)), .null, .null, .null] (And.intro (Or.inr rfl) (And.intro (Or.inr rfl) (And.intro (Or.inr rfl) (And.intro (Or.inr rfl) (And.intro (Or.inl rfl) (And.intro (Or.inl rfl) (And.intro (Or.inl rfl) (True.intro)))))))) ?_
        exact g_l (by rw [e]) ih
      · have p39 := bI_0.mp c39
        refine g_iload_n dX6_nextColumn_42 rfl ?_
        refine g_bipush (v := (-9)) dX6_nextColumn_43 (by decide) ?_
        refine g_iceq (tgt := 57) dX6_nextColumn_45 (by decide) (fun c45 => ?_) (fun c45 => ?_)
        · refine g_iconst (v := 1) dX6_nextColumn_57 (by decide) ?_
          refine g_goto (tgt := 62) dX6_nextColumn_58 (by decide) ?_
          refine g_istore dX6_nextColumn_62 (by decide) rfl ?_
          refine g_iload_n dX6_nextColumn_64 rfl ?_
          refine g_bipush (v := (-9)) dX6_nextColumn_65 (by decide) ?_
          refine g_iceq (tgt := 96) dX6_nextColumn_67 (by decide) (fun c67 => ?_) (fun c67 => ?_)
          · refine g_iconst (v := 0) dX6_nextColumn_96 (by decide) ?_
            refine g_istore dX6_nextColumn_97 (by decide) rfl ?_
            refine g_iload dX6_nextColumn_99 rfl ?_
            refine g_ifne (tgt := 109) dX6_nextColumn_101 (by decide) (fun c101 => ?_) (fun c101 => absurd c101 (by decide))
            refine g_iload_n dX6_nextColumn_109 rfl ?_
            refine g_goto (tgt := 114) dX6_nextColumn_110 (by decide) ?_
            refine g_istore_n dX6_nextColumn_114 (by decide) rfl ?_
            refine g_iinc (v := nI (k + 1)) dX6_nextColumn_115 rfl (nI_1 k) (by decide) rfl ?_
            refine g_goto (tgt := 5) dX6_nextColumn_118 (by decide) ?_
            have e : r_nsts (σ 20) (σ 21) c b (k + 1) = nI k := by simp only [r_nsts, r_nst]; grind
            refine g_w [.ref 19, .int (nI b), .int (nI k), .int (nI (k + 1)), .null, .null, .null] (And.intro (Or.inr rfl) (And.intro (Or.inr rfl) (And.intro (Or.inr rfl) (And.intro (Or.inr rfl) (And.intro (Or.inl rfl) (And.intro (Or.inl rfl) (And.intro (Or.inl rfl) (True.intro)))))))) ?_
            exact g_l (by rw [e]) ih
          · refine g_iload dX6_nextColumn_70 rfl ?_
            refine g_iload_n dX6_nextColumn_72 rfl ?_
            refine g_S1 dX6_nextColumn_73 vX6_72 (Nat.le_of_ble_eq_true rfl) (by decide) (ev_X6_sizeOf) ?_
            refine g_icne (tgt := 96) dX6_nextColumn_76 (by decide) (fun c76 => ?_) (fun c76 => ?_)
            · refine g_iconst (v := 0) dX6_nextColumn_96 (by decide) ?_
              refine g_istore dX6_nextColumn_97 (by decide) rfl ?_
              refine g_iload dX6_nextColumn_99 rfl ?_
              refine g_ifne (tgt := 109) dX6_nextColumn_101 (by decide) (fun c101 => ?_) (fun c101 => absurd c101 (by decide))
              refine g_iload_n dX6_nextColumn_109 rfl ?_
              refine g_goto (tgt := 114) dX6_nextColumn_110 (by decide) ?_
              refine g_istore_n dX6_nextColumn_114 (by decide) rfl ?_
              refine g_iinc (v := nI (k + 1)) dX6_nextColumn_115 rfl (nI_1 k) (by decide) rfl ?_
              refine g_goto (tgt := 5) dX6_nextColumn_118 (by decide) ?_
              have e : r_nsts (σ 20) (σ 21) c b (k + 1) = nI k := by simp only [r_nsts, r_nst]; grind
              refine g_w [.ref 19, .int (nI b), .int (nI k), .int (nI (k + 1)), .null, .null, .null] (And.intro (Or.inr rfl) (And.intro (Or.inr rfl) (And.intro (Or.inr rfl) (And.intro (Or.inr rfl) (And.intro (Or.inl rfl) (And.intro (Or.inl rfl) (And.intro (Or.inl rfl) (True.intro)))))))) ?_
              exact g_l (by rw [e]) ih
            · refine g_aload_n dX6_nextColumn_79 rfl ?_
              refine g_iload_n dX6_nextColumn_80 rfl ?_
              refine g_V1 dX6_nextColumn_81 vX6_80 rfl (Nat.le_of_ble_eq_true rfl) (by decide) (ev_X6_fullestWith hc hc6) ?_
              refine g_aload_n dX6_nextColumn_84 rfl ?_
              refine g_iload_n dX6_nextColumn_85 rfl ?_
              refine g_V1 dX6_nextColumn_86 vX6_80 rfl (Nat.le_of_ble_eq_true rfl) (by decide) (ev_X6_fullestWith hc hc6) ?_
              refine g_icge (tgt := 96) dX6_nextColumn_89 (by decide) (fun c89 => ?_) (fun c89 => ?_)
              · have q89 := Int32.not_lt.mpr c89
                refine g_iconst (v := 0) dX6_nextColumn_96 (by decide) ?_
                refine g_istore dX6_nextColumn_97 (by decide) rfl ?_
                refine g_iload dX6_nextColumn_99 rfl ?_
                refine g_ifne (tgt := 109) dX6_nextColumn_101 (by decide) (fun c101 => ?_) (fun c101 => absurd c101 (by decide))
                refine g_iload_n dX6_nextColumn_109 rfl ?_
                refine g_goto (tgt := 114) dX6_nextColumn_110 (by decide) ?_
                refine g_istore_n dX6_nextColumn_114 (by decide) rfl ?_
                refine g_iinc (v := nI (k + 1)) dX6_nextColumn_115 rfl (nI_1 k) (by decide) rfl ?_
                refine g_goto (tgt := 5) dX6_nextColumn_118 (by decide) ?_
                have e : r_nsts (σ 20) (σ 21) c b (k + 1) = nI k := by simp only [r_nsts, r_nst]; grind
                refine g_w [.ref 19, .int (nI b), .int (nI k), .int (nI (k + 1)), .null, .null, .null] (And.intro (Or.inr rfl) (And.intro (Or.inr rfl) (And.intro (Or.inr rfl) (And.intro (Or.inr rfl) (And.intro (Or.inl rfl) (And.intro (Or.inl rfl) (And.intro (Or.inl rfl) (True.intro)))))))) ?_
                exact g_l (by rw [e]) ih
              · have q89 := Int32.not_le.mp c89
                refine g_iconst (v := 1) dX6_nextColumn_92 (by decide) ?_
                refine g_goto (tgt := 97) dX6_nextColumn_93 (by decide) ?_
                refine g_istore dX6_nextColumn_97 (by decide) rfl ?_
                refine g_iload dX6_nextColumn_99 rfl ?_
                refine g_ifne (tgt := 109) dX6_nextColumn_101 (by decide) (fun c101 => ?_) (fun c101 => absurd c101 (by decide))
                refine g_iload_n dX6_nextColumn_109 rfl ?_
                refine g_goto (tgt := 114) dX6_nextColumn_110 (by decide) ?_
                refine g_istore_n dX6_nextColumn_114 (by decide) rfl ?_
                refine g_iinc (v := nI (k + 1)) dX6_nextColumn_115 rfl (nI_1 k) (by decide) rfl ?_
                refine g_goto (tgt := 5) dX6_nextColumn_118 (by decide) ?_
                have e : r_nsts (σ 20) (σ 21) c b (k + 1) = nI k := by simp only [r_nsts, r_nst]; grind
                refine g_w [.ref 19, .int (nI b), .int (nI k), .int (nI (k + 1)), .null, .null, .null] (And.intro (Or.inr rfl) (And.intro (Or.inr rfl) (And.intro (Or.inr rfl) (And.intro (Or.inr rfl) (And.intro (Or.inl rfl) (And.intro (Or.inl rfl) (And.intro (Or.inl rfl) (True.intro)))))))) ?_
                exact g_l (by rw [e]) ih
        · refine g_iload dX6_nextColumn_48 rfl ?_
          refine g_iload_n dX6_nextColumn_50 rfl ?_
          refine g_S1 dX6_nextColumn_51 vX6_72 (Nat.le_of_ble_eq_true rfl) (by decide) (ev_X6_sizeOf) ?_
          refine g_icge (tgt := 61) dX6_nextColumn_54 (by decide) (fun c54 => ?_) (fun c54 => ?_)
          · have q54 := Int32.not_lt.mpr c54
            refine g_iconst (v := 0) dX6_nextColumn_61 (by decide) ?_
            refine g_istore dX6_nextColumn_62 (by decide) rfl ?_
            refine g_iload_n dX6_nextColumn_64 rfl ?_
            refine g_bipush (v := (-9)) dX6_nextColumn_65 (by decide) ?_
            refine g_iceq (tgt := 96) dX6_nextColumn_67 (by decide) (fun c67 => ?_) (fun c67 => ?_)
            · refine g_iconst (v := 0) dX6_nextColumn_96 (by decide) ?_
              refine g_istore dX6_nextColumn_97 (by decide) rfl ?_
              refine g_iload dX6_nextColumn_99 rfl ?_
              refine g_ifne (tgt := 109) dX6_nextColumn_101 (by decide) (fun c101 => absurd (by decide) c101) (fun c101 => ?_)
              refine g_iload dX6_nextColumn_104 rfl ?_
              refine g_ifeq (tgt := 113) dX6_nextColumn_106 (by decide) (fun c106 => ?_) (fun c106 => absurd (by decide) c106)
              refine g_iload_n dX6_nextColumn_113 rfl ?_
              refine g_istore_n dX6_nextColumn_114 (by decide) rfl ?_
              refine g_iinc (v := nI (k + 1)) dX6_nextColumn_115 rfl (nI_1 k) (by decide) rfl ?_
              refine g_goto (tgt := 5) dX6_nextColumn_118 (by decide) ?_
              have e : r_nsts (σ 20) (σ 21) c b (k + 1) = r_nsts (σ 20) (σ 21) c b k := by simp only [r_nsts, r_nst]; grind
              refine g_w [.ref 19, .int (nI b), .int (r_nsts (σ 20) (σ 21) c b k), .int (nI (k + 1)), .null, .null, .null] (And.intro (Or.inr rfl) (And.intro (Or.inr rfl) (And.intro (Or.inr rfl) (And.intro (Or.inr rfl) (And.intro (Or.inl rfl) (And.intro (Or.inl rfl) (And.intro (Or.inl rfl) (True.intro)))))))) ?_
              exact g_l (by rw [e]) ih
            · refine g_iload dX6_nextColumn_70 rfl ?_
              refine g_iload_n dX6_nextColumn_72 rfl ?_
              refine g_S1 dX6_nextColumn_73 vX6_72 (Nat.le_of_ble_eq_true rfl) (by decide) (ev_X6_sizeOf) ?_
              refine g_icne (tgt := 96) dX6_nextColumn_76 (by decide) (fun c76 => ?_) (fun c76 => ?_)
              · refine g_iconst (v := 0) dX6_nextColumn_96 (by decide) ?_
                refine g_istore dX6_nextColumn_97 (by decide) rfl ?_
                refine g_iload dX6_nextColumn_99 rfl ?_
                refine g_ifne (tgt := 109) dX6_nextColumn_101 (by decide) (fun c101 => absurd (by decide) c101) (fun c101 => ?_)
                refine g_iload dX6_nextColumn_104 rfl ?_
                refine g_ifeq (tgt := 113) dX6_nextColumn_106 (by decide) (fun c106 => ?_) (fun c106 => absurd (by decide) c106)
                refine g_iload_n dX6_nextColumn_113 rfl ?_
                refine g_istore_n dX6_nextColumn_114 (by decide) rfl ?_
                refine g_iinc (v := nI (k + 1)) dX6_nextColumn_115 rfl (nI_1 k) (by decide) rfl ?_
                refine g_goto (tgt := 5) dX6_nextColumn_118 (by decide) ?_
                have e : r_nsts (σ 20) (σ 21) c b (k + 1) = r_nsts (σ 20) (σ 21) c b k := by simp only [r_nsts, r_nst]; grind
                refine g_w [.ref 19, .int (nI b), .int (r_nsts (σ 20) (σ 21) c b k), .int (nI (k + 1)), .null, .null, .null] (And.intro (Or.inr rfl) (And.intro (Or.inr rfl) (And.intro (Or.inr rfl) (And.intro (Or.inr rfl) (And.intro (Or.inl rfl) (And.intro (Or.inl rfl) (And.intro (Or.inl rfl) (True.intro)))))))) ?_
                exact g_l (by rw [e]) ih
              · refine g_aload_n dX6_nextColumn_79 rfl ?_
                refine g_iload_n dX6_nextColumn_80 rfl ?_
                refine g_V1 dX6_nextColumn_81 vX6_80 rfl (Nat.le_of_ble_eq_true rfl) (by decide) (ev_X6_fullestWith hc hc6) ?_
                refine g_aload_n dX6_nextColumn_84 rfl ?_
                refine g_iload_n dX6_nextColumn_85 rfl ?_
                refine g_V1 dX6_nextColumn_86 vX6_80 rfl (Nat.le_of_ble_eq_true rfl) (by decide) (ev_X6_fullestWith hc hc6) ?_
                refine g_icge (tgt := 96) dX6_nextColumn_89 (by decide) (fun c89 => ?_) (fun c89 => ?_)
                · have q89 := Int32.not_lt.mpr c89
                  refine g_iconst (v := 0) dX6_nextColumn_96 (by decide) ?_
                  refine g_istore dX6_nextColumn_97 (by decide) rfl ?_
                  refine g_iload dX6_nextColumn_99 rfl ?_
                  refine g_ifne (tgt := 109) dX6_nextColumn_101 (by decide) (fun c101 => absurd (by decide) c101) (fun c101 => ?_)
                  refine g_iload dX6_nextColumn_104 rfl ?_
                  refine g_ifeq (tgt := 113) dX6_nextColumn_106 (by decide) (fun c106 => ?_) (fun c106 => absurd (by decide) c106)
                  refine g_iload_n dX6_nextColumn_113 rfl ?_
                  refine g_istore_n dX6_nextColumn_114 (by decide) rfl ?_
                  refine g_iinc (v := nI (k + 1)) dX6_nextColumn_115 rfl (nI_1 k) (by decide) rfl ?_
                  refine g_goto (tgt := 5) dX6_nextColumn_118 (by decide) ?_
                  have e : r_nsts (σ 20) (σ 21) c b (k + 1) = r_nsts (σ 20) (σ 21) c b k := by simp only [r_nsts, r_nst]; grind
                  refine g_w [.ref 19, .int (nI b), .int (r_nsts (σ 20) (σ 21) c b k), .int (nI (k + 1)), .null, .null, .null] (And.intro (Or.inr rfl) (And.intro (Or.inr rfl) (And.intro (Or.inr rfl) (And.intro (Or.inr rfl) (And.intro (Or.inl rfl) (And.intro (Or.inl rfl) (And.intro (Or.inl rfl) (True.intro)))))))) ?_
                  exact g_l (by rw [e]) ih
                · have q89 := Int32.not_le.mp c89
                  refine g_iconst (v := 1) dX6_nextColumn_92 (by decide) ?_
                  refine g_goto (tgt := 97) dX6_nextColumn_93 (by decide) ?_
                  refine g_istore dX6_nextColumn_97 (by decide) rfl ?_
                  refine g_iload dX6_nextColumn_99 rfl ?_
                  refine g_ifne (tgt := 109) dX6_nextColumn_101 (by decide) (fun c101 => absurd (by decide) c101) (fun c101 => ?_)
                  refine g_iload dX6_nextColumn_104 rfl ?_
                  refine g_ifeq (tgt := 113) dX6_nextColumn_106 (by decide) (fun c106 => absurd c106 (by decide)) (fun c106 => ?_)
                  refine g_iload_n dX6_nextColumn_109 rfl ?_
                  refine g_goto (tgt := 114) dX6_nextColumn_110 (by decide) ?_
                  refine g_istore_n dX6_nextColumn_114 (by decide) rfl ?_
                  refine g_iinc (v := nI (k + 1)) dX6_nextColumn_115 rfl (nI_1 k) (by decide) rfl ?_
                  refine g_goto (tgt := 5) dX6_nextColumn_118 (by decide) ?_
                  have e : r_nsts (σ 20) (σ 21) c b (k + 1) = nI k := by simp only [r_nsts, r_nst]; grind
                  refine g_w [.ref 19, .int (nI b), .int (nI k), .int (nI (k + 1)), .null, .null, .null] (And.intro (Or.inr rfl) (And.intro (Or.inr rfl) (And.intro (Or.inr rfl) (And.intro (Or.inr rfl) (And.intro (Or.inl rfl) (And.intro (Or.inl rfl) (And.intro (Or.inl rfl) (True.intro)))))))) ?_
                  exact g_l (by rw [e]) ih
          · have q54 := Int32.not_le.mp c54
            refine g_iconst (v := 1) dX6_nextColumn_57 (by decide) ?_
            refine g_goto (tgt := 62) dX6_nextColumn_58 (by decide) ?_
            refine g_istore dX6_nextColumn_62 (by decide) rfl ?_
            refine g_iload_n dX6_nextColumn_64 rfl ?_
            refine g_bipush (v := (-9)) dX6_nextColumn_65 (by decide) ?_
            refine g_iceq (tgt := 96) dX6_nextColumn_67 (by decide) (fun c67 => ?_) (fun c67 => ?_)
            · refine g_iconst (v := 0) dX6_nextColumn_96 (by decide) ?_
              refine g_istore dX6_nextColumn_97 (by decide) rfl ?_
              refine g_iload dX6_nextColumn_99 rfl ?_
              refine g_ifne (tgt := 109) dX6_nextColumn_101 (by decide) (fun c101 => ?_) (fun c101 => absurd c101 (by decide))
              refine g_iload_n dX6_nextColumn_109 rfl ?_
              refine g_goto (tgt := 114) dX6_nextColumn_110 (by decide) ?_
              refine g_istore_n dX6_nextColumn_114 (by decide) rfl ?_
              refine g_iinc (v := nI (k + 1)) dX6_nextColumn_115 rfl (nI_1 k) (by decide) rfl ?_
              refine g_goto (tgt := 5) dX6_nextColumn_118 (by decide) ?_
              have e : r_nsts (σ 20) (σ 21) c b (k + 1) = nI k := by simp only [r_nsts, r_nst]; grind
              refine g_w [.ref 19, .int (nI b), .int (nI k), .int (nI (k + 1)), .null, .null, .null] (And.intro (Or.inr rfl) (And.intro (Or.inr rfl) (And.intro (Or.inr rfl) (And.intro (Or.inr rfl) (And.intro (Or.inl rfl) (And.intro (Or.inl rfl) (And.intro (Or.inl rfl) (True.intro)))))))) ?_
              exact g_l (by rw [e]) ih
            · refine g_iload dX6_nextColumn_70 rfl ?_
              refine g_iload_n dX6_nextColumn_72 rfl ?_
              refine g_S1 dX6_nextColumn_73 vX6_72 (Nat.le_of_ble_eq_true rfl) (by decide) (ev_X6_sizeOf) ?_
              refine g_icne (tgt := 96) dX6_nextColumn_76 (by decide) (fun c76 => ?_) (fun c76 => ?_)
              · refine g_iconst (v := 0) dX6_nextColumn_96 (by decide) ?_
                refine g_istore dX6_nextColumn_97 (by decide) rfl ?_
                refine g_iload dX6_nextColumn_99 rfl ?_
                refine g_ifne (tgt := 109) dX6_nextColumn_101 (by decide) (fun c101 => ?_) (fun c101 => absurd c101 (by decide))
                refine g_iload_n dX6_nextColumn_109 rfl ?_
                refine g_goto (tgt := 114) dX6_nextColumn_110 (by decide) ?_
                refine g_istore_n dX6_nextColumn_114 (by decide) rfl ?_
                refine g_iinc (v := nI (k + 1)) dX6_nextColumn_115 rfl (nI_1 k) (by decide) rfl ?_
                refine g_goto (tgt := 5) dX6_nextColumn_118 (by decide) ?_
                have e : r_nsts (σ 20) (σ 21) c b (k + 1) = nI k := by simp only [r_nsts, r_nst]; grind
                refine g_w [.ref 19, .int (nI b), .int (nI k), .int (nI (k + 1)), .null, .null, .null] (And.intro (Or.inr rfl) (And.intro (Or.inr rfl) (And.intro (Or.inr rfl) (And.intro (Or.inr rfl) (And.intro (Or.inl rfl) (And.intro (Or.inl rfl) (And.intro (Or.inl rfl) (True.intro)))))))) ?_
                exact g_l (by rw [e]) ih
              · refine g_aload_n dX6_nextColumn_79 rfl ?_
                refine g_iload_n dX6_nextColumn_80 rfl ?_
                refine g_V1 dX6_nextColumn_81 vX6_80 rfl (Nat.le_of_ble_eq_true rfl) (by decide) (ev_X6_fullestWith hc hc6) ?_
                refine g_aload_n dX6_nextColumn_84 rfl ?_
                refine g_iload_n dX6_nextColumn_85 rfl ?_
                refine g_V1 dX6_nextColumn_86 vX6_80 rfl (Nat.le_of_ble_eq_true rfl) (by decide) (ev_X6_fullestWith hc hc6) ?_
                refine g_icge (tgt := 96) dX6_nextColumn_89 (by decide) (fun c89 => ?_) (fun c89 => ?_)
                · have q89 := Int32.not_lt.mpr c89
                  refine g_iconst (v := 0) dX6_nextColumn_96 (by decide) ?_
                  refine g_istore dX6_nextColumn_97 (by decide) rfl ?_
                  refine g_iload dX6_nextColumn_99 rfl ?_
                  refine g_ifne (tgt := 109) dX6_nextColumn_101 (by decide) (fun c101 => ?_) (fun c101 => absurd c101 (by decide))
                  refine g_iload_n dX6_nextColumn_109 rfl ?_
                  refine g_goto (tgt := 114) dX6_nextColumn_110 (by decide) ?_
                  refine g_istore_n dX6_nextColumn_114 (by decide) rfl ?_
                  refine g_iinc (v := nI (k + 1)) dX6_nextColumn_115 rfl (nI_1 k) (by decide) rfl ?_
                  refine g_goto (tgt := 5) dX6_nextColumn_118 (by decide) ?_
                  have e : r_nsts (σ 20) (σ 21) c b (k + 1) = nI k := by simp only [r_nsts, r_nst]; grind
                  refine g_w [.ref 19, .int (nI b), .int (nI k), .int (nI (k + 1)), .null, .null, .null] (And.intro (Or.inr rfl) (And.intro (Or.inr rfl) (And.intro (Or.inr rfl) (And.intro (Or.inr rfl) (And.intro (Or.inl rfl) (And.intro (Or.inl rfl) (And.intro (Or.inl rfl) (True.intro)))))))) ?_
                  exact g_l (by rw [e]) ih
                · have q89 := Int32.not_le.mp c89
                  refine g_iconst (v := 1) dX6_nextColumn_92 (by decide) ?_
                  refine g_goto (tgt := 97) dX6_nextColumn_93 (by decide) ?_
                  refine g_istore dX6_nextColumn_97 (by decide) rfl ?_
                  refine g_iload dX6_nextColumn_99 rfl ?_
                  refine g_ifne (tgt := 109) dX6_nextColumn_101 (by decide) (fun c101 => ?_) (fun c101 => absurd c101 (by decide))
                  refine g_iload_n dX6_nextColumn_109 rfl ?_
                  refine g_goto (tgt := 114) dX6_nextColumn_110 (by decide) ?_
                  refine g_istore_n dX6_nextColumn_114 (by decide) rfl ?_
                  refine g_iinc (v := nI (k + 1)) dX6_nextColumn_115 rfl (nI_1 k) (by decide) rfl ?_
                  refine g_goto (tgt := 5) dX6_nextColumn_118 (by decide) ?_
                  have e : r_nsts (σ 20) (σ 21) c b (k + 1) = nI k := by simp only [r_nsts, r_nst]; grind
                  refine g_w [.ref 19, .int (nI b), .int (nI k), .int (nI (k + 1)), .null, .null, .null] (And.intro (Or.inr rfl) (And.intro (Or.inr rfl) (And.intro (Or.inr rfl) (And.intro (Or.inr rfl) (And.intro (Or.inl rfl) (And.intro (Or.inl rfl) (And.intro (Or.inl rfl) (True.intro)))))))) ?_
                  exact g_l (by rw [e]) ih
    · refine g_iload dX6_nextColumn_27 rfl ?_
      refine g_iconst (v := 5) dX6_nextColumn_29 (by decide) ?_
      refine g_icne (tgt := 115) dX6_nextColumn_30 (by decide) (fun c30 => ?_) (fun c30 => ?_)
      · refine g_iinc (v := nI (k + 1)) dX6_nextColumn_115 rfl (nI_1 k) (by decide) rfl ?_
        refine g_goto (tgt := 5) dX6_nextColumn_118 (by decide) ?_
        have e : r_nsts (σ 20) (σ 21) c b (k + 1) = r_nsts (σ 20) (σ 21) c b k := by simp only [r_nsts, r_nst]; grind
        refine g_w [.ref 19, .int (nI b), .int (r_nsts (σ 20) (σ 21) c b k), .int (nI (k + 1)), .null, .null, .null] (And.intro (Or.inr rfl) (And.intro (Or.inr rfl) (And.intro (Or.inr rfl) (And.intro (Or.inr rfl) (And.intro (Or.inl rfl) (And.intro (Or.inl rfl) (And.intro (Or.inl rfl) (True.intro)))))))) ?_
        exact g_l (by rw [e]) ih
      · refine g_aload_n dX6_nextColumn_33 rfl ?_
        refine g_iload_n dX6_nextColumn_34 rfl ?_
        refine g_iload_n dX6_nextColumn_35 rfl ?_
        refine g_V2 dX6_nextColumn_36 vX6_76 rfl (Nat.le_of_ble_eq_true rfl) (by decide) (ev_X6_isChosen (by omega)) ?_
        refine g_ifne (tgt := 115) dX6_nextColumn_39 (by decide) (fun c39 => ?_) (fun c39 => ?_)
        · have p39 := bI_1.mp c39
          refine g_iinc (v := nI (k + 1)) dX6_nextColumn_115 rfl (nI_1 k) (by decide) rfl ?_
          refine g_goto (tgt := 5) dX6_nextColumn_118 (by decide) ?_
          have e : r_nsts (σ 20) (σ 21) c b (k + 1) = r_nsts (σ 20) (σ 21) c b k := by simp only [r_nsts, r_nst]; grind
          refine g_w [.ref 19, .int (nI b), .int (r_nsts (σ 20) (σ 21) c b k), .int (nI (k + 1)), .null, .null, .null] (And.intro (Or.inr rfl) (And.intro (Or.inr rfl) (And.intro (Or.inr rfl) (And.intro (Or.inr rfl) (And.intro (Or.inl rfl) (And.intro (Or.inl rfl) (And.intro (Or.inl rfl) (True.intro)))))))) ?_
          exact g_l (by rw [e]) ih
        · have p39 := bI_0.mp c39
          refine g_iload_n dX6_nextColumn_42 rfl ?_
          refine g_bipush (v := (-9)) dX6_nextColumn_43 (by decide) ?_
          refine g_iceq (tgt := 57) dX6_nextColumn_45 (by decide) (fun c45 => ?_) (fun c45 => ?_)
          · refine g_iconst (v := 1) dX6_nextColumn_57 (by decide) ?_
            refine g_goto (tgt := 62) dX6_nextColumn_58 (by decide) ?_
            refine g_istore dX6_nextColumn_62 (by decide) rfl ?_
            refine g_iload_n dX6_nextColumn_64 rfl ?_
            refine g_bipush (v := (-9)) dX6_nextColumn_65 (by decide) ?_
            refine g_iceq (tgt := 96) dX6_nextColumn_67 (by decide) (fun c67 => ?_) (fun c67 => ?_)
            · refine g_iconst (v := 0) dX6_nextColumn_96 (by decide) ?_
              refine g_istore dX6_nextColumn_97 (by decide) rfl ?_
              refine g_iload dX6_nextColumn_99 rfl ?_
              refine g_ifne (tgt := 109) dX6_nextColumn_101 (by decide) (fun c101 => ?_) (fun c101 => absurd c101 (by decide))
              refine g_iload_n dX6_nextColumn_109 rfl ?_
              refine g_goto (tgt := 114) dX6_nextColumn_110 (by decide) ?_
              refine g_istore_n dX6_nextColumn_114 (by decide) rfl ?_
              refine g_iinc (v := nI (k + 1)) dX6_nextColumn_115 rfl (nI_1 k) (by decide) rfl ?_
              refine g_goto (tgt := 5) dX6_nextColumn_118 (by decide) ?_
              have e : r_nsts (σ 20) (σ 21) c b (k + 1) = nI k := by simp only [r_nsts, r_nst]; grind
              refine g_w [.ref 19, .int (nI b), .int (nI k), .int (nI (k + 1)), .null, .null, .null] (And.intro (Or.inr rfl) (And.intro (Or.inr rfl) (And.intro (Or.inr rfl) (And.intro (Or.inr rfl) (And.intro (Or.inl rfl) (And.intro (Or.inl rfl) (And.intro (Or.inl rfl) (True.intro)))))))) ?_
              exact g_l (by rw [e]) ih
            · refine g_iload dX6_nextColumn_70 rfl ?_
              refine g_iload_n dX6_nextColumn_72 rfl ?_
              refine g_S1 dX6_nextColumn_73 vX6_72 (Nat.le_of_ble_eq_true rfl) (by decide) (ev_X6_sizeOf) ?_
              refine g_icne (tgt := 96) dX6_nextColumn_76 (by decide) (fun c76 => ?_) (fun c76 => ?_)
              · refine g_iconst (v := 0) dX6_nextColumn_96 (by decide) ?_
                refine g_istore dX6_nextColumn_97 (by decide) rfl ?_
                refine g_iload dX6_nextColumn_99 rfl ?_
                refine g_ifne (tgt := 109) dX6_nextColumn_101 (by decide) (fun c101 => ?_) (fun c101 => absurd c101 (by decide))
                refine g_iload_n dX6_nextColumn_109 rfl ?_
                refine g_goto (tgt := 114) dX6_nextColumn_110 (by decide) ?_
                refine g_istore_n dX6_nextColumn_114 (by decide) rfl ?_
                refine g_iinc (v := nI (k + 1)) dX6_nextColumn_115 rfl (nI_1 k) (by decide) rfl ?_
                refine g_goto (tgt := 5) dX6_nextColumn_118 (by decide) ?_
                have e : r_nsts (σ 20) (σ 21) c b (k + 1) = nI k := by simp only [r_nsts, r_nst]; grind
                refine g_w [.ref 19, .int (nI b), .int (nI k), .int (nI (k + 1)), .null, .null, .null] (And.intro (Or.inr rfl) (And.intro (Or.inr rfl) (And.intro (Or.inr rfl) (And.intro (Or.inr rfl) (And.intro (Or.inl rfl) (And.intro (Or.inl rfl) (And.intro (Or.inl rfl) (True.intro)))))))) ?_
                exact g_l (by rw [e]) ih
              · refine g_aload_n dX6_nextColumn_79 rfl ?_
                refine g_iload_n dX6_nextColumn_80 rfl ?_
                refine g_V1 dX6_nextColumn_81 vX6_80 rfl (Nat.le_of_ble_eq_true rfl) (by decide) (ev_X6_fullestWith hc hc6) ?_
                refine g_aload_n dX6_nextColumn_84 rfl ?_
                refine g_iload_n dX6_nextColumn_85 rfl ?_
                refine g_V1 dX6_nextColumn_86 vX6_80 rfl (Nat.le_of_ble_eq_true rfl) (by decide) (ev_X6_fullestWith hc hc6) ?_
                refine g_icge (tgt := 96) dX6_nextColumn_89 (by decide) (fun c89 => ?_) (fun c89 => ?_)
                · have q89 := Int32.not_lt.mpr c89
                  refine g_iconst (v := 0) dX6_nextColumn_96 (by decide) ?_
                  refine g_istore dX6_nextColumn_97 (by decide) rfl ?_
                  refine g_iload dX6_nextColumn_99 rfl ?_
                  refine g_ifne (tgt := 109) dX6_nextColumn_101 (by decide) (fun c101 => ?_) (fun c101 => absurd c101 (by decide))
                  refine g_iload_n dX6_nextColumn_109 rfl ?_
                  refine g_goto (tgt := 114) dX6_nextColumn_110 (by decide) ?_
                  refine g_istore_n dX6_nextColumn_114 (by decide) rfl ?_
                  refine g_iinc (v := nI (k + 1)) dX6_nextColumn_115 rfl (nI_1 k) (by decide) rfl ?_
                  refine g_goto (tgt := 5) dX6_nextColumn_118 (by decide) ?_
                  have e : r_nsts (σ 20) (σ 21) c b (k + 1) = nI k := by simp only [r_nsts, r_nst]; grind
                  refine g_w [.ref 19, .int (nI b), .int (nI k), .int (nI (k + 1)), .null, .null, .null] (And.intro (Or.inr rfl) (And.intro (Or.inr rfl) (And.intro (Or.inr rfl) (And.intro (Or.inr rfl) (And.intro (Or.inl rfl) (And.intro (Or.inl rfl) (And.intro (Or.inl rfl) (True.intro)))))))) ?_
                  exact g_l (by rw [e]) ih
                · have q89 := Int32.not_le.mp c89
                  refine g_iconst (v := 1) dX6_nextColumn_92 (by decide) ?_
                  refine g_goto (tgt := 97) dX6_nextColumn_93 (by decide) ?_
                  refine g_istore dX6_nextColumn_97 (by decide) rfl ?_
                  refine g_iload dX6_nextColumn_99 rfl ?_
                  refine g_ifne (tgt := 109) dX6_nextColumn_101 (by decide) (fun c101 => ?_) (fun c101 => absurd c101 (by decide))
                  refine g_iload_n dX6_nextColumn_109 rfl ?_
                  refine g_goto (tgt := 114) dX6_nextColumn_110 (by decide) ?_
                  refine g_istore_n dX6_nextColumn_114 (by decide) rfl ?_
                  refine g_iinc (v := nI (k + 1)) dX6_nextColumn_115 rfl (nI_1 k) (by decide) rfl ?_
                  refine g_goto (tgt := 5) dX6_nextColumn_118 (by decide) ?_
                  have e : r_nsts (σ 20) (σ 21) c b (k + 1) = nI k := by simp only [r_nsts, r_nst]; grind
                  refine g_w [.ref 19, .int (nI b), .int (nI k), .int (nI (k + 1)), .null, .null, .null] (And.intro (Or.inr rfl) (And.intro (Or.inr rfl) (And.intro (Or.inr rfl) (And.intro (Or.inr rfl) (And.intro (Or.inl rfl) (And.intro (Or.inl rfl) (And.intro (Or.inl rfl) (True.intro)))))))) ?_
                  exact g_l (by rw [e]) ih
          · refine g_iload dX6_nextColumn_48 rfl ?_
            refine g_iload_n dX6_nextColumn_50 rfl ?_
            refine g_S1 dX6_nextColumn_51 vX6_72 (Nat.le_of_ble_eq_true rfl) (by decide) (ev_X6_sizeOf) ?_
            refine g_icge (tgt := 61) dX6_nextColumn_54 (by decide) (fun c54 => ?_) (fun c54 => ?_)
            · have q54 := Int32.not_lt.mpr c54
              refine g_iconst (v := 0) dX6_nextColumn_61 (by decide) ?_
              refine g_istore dX6_nextColumn_62 (by decide) rfl ?_
              refine g_iload_n dX6_nextColumn_64 rfl ?_
              refine g_bipush (v := (-9)) dX6_nextColumn_65 (by decide) ?_
              refine g_iceq (tgt := 96) dX6_nextColumn_67 (by decide) (fun c67 => ?_) (fun c67 => ?_)
              · refine g_iconst (v := 0) dX6_nextColumn_96 (by decide) ?_
                refine g_istore dX6_nextColumn_97 (by decide) rfl ?_
                refine g_iload dX6_nextColumn_99 rfl ?_
                refine g_ifne (tgt := 109) dX6_nextColumn_101 (by decide) (fun c101 => absurd (by decide) c101) (fun c101 => ?_)
                refine g_iload dX6_nextColumn_104 rfl ?_
                refine g_ifeq (tgt := 113) dX6_nextColumn_106 (by decide) (fun c106 => ?_) (fun c106 => absurd (by decide) c106)
                refine g_iload_n dX6_nextColumn_113 rfl ?_
                refine g_istore_n dX6_nextColumn_114 (by decide) rfl ?_
                refine g_iinc (v := nI (k + 1)) dX6_nextColumn_115 rfl (nI_1 k) (by decide) rfl ?_
                refine g_goto (tgt := 5) dX6_nextColumn_118 (by decide) ?_
                have e : r_nsts (σ 20) (σ 21) c b (k + 1) = r_nsts (σ 20) (σ 21) c b k := by simp only [r_nsts, r_nst]; grind
                refine g_w [.ref 19, .int (nI b), .int (r_nsts (σ 20) (σ 21) c b k), .int (nI (k + 1)), .null, .null, .null] (And.intro (Or.inr rfl) (And.intro (Or.inr rfl) (And.intro (Or.inr rfl) (And.intro (Or.inr rfl) (And.intro (Or.inl rfl) (And.intro (Or.inl rfl) (And.intro (Or.inl rfl) (True.intro)))))))) ?_
                exact g_l (by rw [e]) ih
              · refine g_iload dX6_nextColumn_70 rfl ?_
                refine g_iload_n dX6_nextColumn_72 rfl ?_
                refine g_S1 dX6_nextColumn_73 vX6_72 (Nat.le_of_ble_eq_true rfl) (by decide) (ev_X6_sizeOf) ?_
                refine g_icne (tgt := 96) dX6_nextColumn_76 (by decide) (fun c76 => ?_) (fun c76 => ?_)
                · refine g_iconst (v := 0) dX6_nextColumn_96 (by decide) ?_
                  refine g_istore dX6_nextColumn_97 (by decide) rfl ?_
                  refine g_iload dX6_nextColumn_99 rfl ?_
                  refine g_ifne (tgt := 109) dX6_nextColumn_101 (by decide) (fun c101 => absurd (by decide) c101) (fun c101 => ?_)
                  refine g_iload dX6_nextColumn_104 rfl ?_
                  refine g_ifeq (tgt := 113) dX6_nextColumn_106 (by decide) (fun c106 => ?_) (fun c106 => absurd (by decide) c106)
                  refine g_iload_n dX6_nextColumn_113 rfl ?_
                  refine g_istore_n dX6_nextColumn_114 (by decide) rfl ?_
                  refine g_iinc (v := nI (k + 1)) dX6_nextColumn_115 rfl (nI_1 k) (by decide) rfl ?_
                  refine g_goto (tgt := 5) dX6_nextColumn_118 (by decide) ?_
                  have e : r_nsts (σ 20) (σ 21) c b (k + 1) = r_nsts (σ 20) (σ 21) c b k := by simp only [r_nsts, r_nst]; grind
                  refine g_w [.ref 19, .int (nI b), .int (r_nsts (σ 20) (σ 21) c b k), .int (nI (k + 1)), .null, .null, .null] (And.intro (Or.inr rfl) (And.intro (Or.inr rfl) (And.intro (Or.inr rfl) (And.intro (Or.inr rfl) (And.intro (Or.inl rfl) (And.intro (Or.inl rfl) (And.intro (Or.inl rfl) (True.intro)))))))) ?_
                  exact g_l (by rw [e]) ih
                · refine g_aload_n dX6_nextColumn_79 rfl ?_
                  refine g_iload_n dX6_nextColumn_80 rfl ?_
                  refine g_V1 dX6_nextColumn_81 vX6_80 rfl (Nat.le_of_ble_eq_true rfl) (by decide) (ev_X6_fullestWith hc hc6) ?_
                  refine g_aload_n dX6_nextColumn_84 rfl ?_
                  refine g_iload_n dX6_nextColumn_85 rfl ?_
                  refine g_V1 dX6_nextColumn_86 vX6_80 rfl (Nat.le_of_ble_eq_true rfl) (by decide) (ev_X6_fullestWith hc hc6) ?_
                  refine g_icge (tgt := 96) dX6_nextColumn_89 (by decide) (fun c89 => ?_) (fun c89 => ?_)
                  · have q89 := Int32.not_lt.mpr c89
                    refine g_iconst (v := 0) dX6_nextColumn_96 (by decide) ?_
                    refine g_istore dX6_nextColumn_97 (by decide) rfl ?_
                    refine g_iload dX6_nextColumn_99 rfl ?_
                    refine g_ifne (tgt := 109) dX6_nextColumn_101 (by decide) (fun c101 => absurd (by decide) c101) (fun c101 => ?_)
                    refine g_iload dX6_nextColumn_104 rfl ?_
                    refine g_ifeq (tgt := 113) dX6_nextColumn_106 (by decide) (fun c106 => ?_) (fun c106 => absurd (by decide) c106)
                    refine g_iload_n dX6_nextColumn_113 rfl ?_
                    refine g_istore_n dX6_nextColumn_114 (by decide) rfl ?_
                    refine g_iinc (v := nI (k + 1)) dX6_nextColumn_115 rfl (nI_1 k) (by decide) rfl ?_
                    refine g_goto (tgt := 5) dX6_nextColumn_118 (by decide) ?_
                    have e : r_nsts (σ 20) (σ 21) c b (k + 1) = r_nsts (σ 20) (σ 21) c b k := by simp only [r_nsts, r_nst]; grind
                    refine g_w [.ref 19, .int (nI b), .int (r_nsts (σ 20) (σ 21) c b k), .int (nI (k + 1)), .null, .null, .null] (And.intro (Or.inr rfl) (And.intro (Or.inr rfl) (And.intro (Or.inr rfl) (And.intro (Or.inr rfl) (And.intro (Or.inl rfl) (And.intro (Or.inl rfl) (And.intro (Or.inl rfl) (True.intro)))))))) ?_
                    exact g_l (by rw [e]) ih
                  · have q89 := Int32.not_le.mp c89
                    refine g_iconst (v := 1) dX6_nextColumn_92 (by decide) ?_
                    refine g_goto (tgt := 97) dX6_nextColumn_93 (by decide) ?_
                    refine g_istore dX6_nextColumn_97 (by decide) rfl ?_
                    refine g_iload dX6_nextColumn_99 rfl ?_
                    refine g_ifne (tgt := 109) dX6_nextColumn_101 (by decide) (fun c101 => absurd (by decide) c101) (fun c101 => ?_)
                    refine g_iload dX6_nextColumn_104 rfl ?_
                    refine g_ifeq (tgt := 113) dX6_nextColumn_106 (by decide) (fun c106 => absurd c106 (by decide)) (fun c106 => ?_)
                    refine g_iload_n dX6_nextColumn_109 rfl ?_
                    refine g_goto (tgt := 114) dX6_nextColumn_110 (by decide) ?_
                    refine g_istore_n dX6_nextColumn_114 (by decide) rfl ?_
                    refine g_iinc (v := nI (k + 1)) dX6_nextColumn_115 rfl (nI_1 k) (by decide) rfl ?_
                    refine g_goto (tgt := 5) dX6_nextColumn_118 (by decide) ?_
                    have e : r_nsts (σ 20) (σ 21) c b (k + 1) = nI k := by simp only [r_nsts, r_nst]; grind
                    refine g_w [.ref 19, .int (nI b), .int (nI k), .int (nI (k + 1)), .null, .null, .null] (And.intro (Or.inr rfl) (And.intro (Or.inr rfl) (And.intro (Or.inr rfl) (And.intro (Or.inr rfl) (And.intro (Or.inl rfl) (And.intro (Or.inl rfl) (And.intro (Or.inl rfl) (True.intro)))))))) ?_
                    exact g_l (by rw [e]) ih
            · have q54 := Int32.not_le.mp c54
              refine g_iconst (v := 1) dX6_nextColumn_57 (by decide) ?_
              refine g_goto (tgt := 62) dX6_nextColumn_58 (by decide) ?_
              refine g_istore dX6_nextColumn_62 (by decide) rfl ?_
              refine g_iload_n dX6_nextColumn_64 rfl ?_
              refine g_bipush (v := (-9)) dX6_nextColumn_65 (by decide) ?_
              refine g_iceq (tgt := 96) dX6_nextColumn_67 (by decide) (fun c67 => ?_) (fun c67 => ?_)
              · refine g_iconst (v := 0) dX6_nextColumn_96 (by decide) ?_
                refine g_istore dX6_nextColumn_97 (by decide) rfl ?_
                refine g_iload dX6_nextColumn_99 rfl ?_
                refine g_ifne (tgt := 109) dX6_nextColumn_101 (by decide) (fun c101 => ?_) (fun c101 => absurd c101 (by decide))
                refine g_iload_n dX6_nextColumn_109 rfl ?_
                refine g_goto (tgt := 114) dX6_nextColumn_110 (by decide) ?_
                refine g_istore_n dX6_nextColumn_114 (by decide) rfl ?_
                refine g_iinc (v := nI (k + 1)) dX6_nextColumn_115 rfl (nI_1 k) (by decide) rfl ?_
                refine g_goto (tgt := 5) dX6_nextColumn_118 (by decide) ?_
                have e : r_nsts (σ 20) (σ 21) c b (k + 1) = nI k := by simp only [r_nsts, r_nst]; grind
                refine g_w [.ref 19, .int (nI b), .int (nI k), .int (nI (k + 1)), .null, .null, .null] (And.intro (Or.inr rfl) (And.intro (Or.inr rfl) (And.intro (Or.inr rfl) (And.intro (Or.inr rfl) (And.intro (Or.inl rfl) (And.intro (Or.inl rfl) (And.intro (Or.inl rfl) (True.intro)))))))) ?_
                exact g_l (by rw [e]) ih
              · refine g_iload dX6_nextColumn_70 rfl ?_
                refine g_iload_n dX6_nextColumn_72 rfl ?_
                refine g_S1 dX6_nextColumn_73 vX6_72 (Nat.le_of_ble_eq_true rfl) (by decide) (ev_X6_sizeOf) ?_
                refine g_icne (tgt := 96) dX6_nextColumn_76 (by decide) (fun c76 => ?_) (fun c76 => ?_)
                · refine g_iconst (v := 0) dX6_nextColumn_96 (by decide) ?_
                  refine g_istore dX6_nextColumn_97 (by decide) rfl ?_
                  refine g_iload dX6_nextColumn_99 rfl ?_
                  refine g_ifne (tgt := 109) dX6_nextColumn_101 (by decide) (fun c101 => ?_) (fun c101 => absurd c101 (by decide))
                  refine g_iload_n dX6_nextColumn_109 rfl ?_
                  refine g_goto (tgt := 114) dX6_nextColumn_110 (by decide) ?_
                  refine g_istore_n dX6_nextColumn_114 (by decide) rfl ?_
                  refine g_iinc (v := nI (k + 1)) dX6_nextColumn_115 rfl (nI_1 k) (by decide) rfl ?_
                  refine g_goto (tgt := 5) dX6_nextColumn_118 (by decide) ?_
                  have e : r_nsts (σ 20) (σ 21) c b (k + 1) = nI k := by simp only [r_nsts, r_nst]; grind
                  refine g_w [.ref 19, .int (nI b), .int (nI k), .int (nI (k + 1)), .null, .null, .null] (And.intro (Or.inr rfl) (And.intro (Or.inr rfl) (And.intro (Or.inr rfl) (And.intro (Or.inr rfl) (And.intro (Or.inl rfl) (And.intro (Or.inl rfl) (And.intro (Or.inl rfl) (True.intro)))))))) ?_
                  exact g_l (by rw [e]) ih
                · refine g_aload_n dX6_nextColumn_79 rfl ?_
                  refine g_iload_n dX6_nextColumn_80 rfl ?_
                  refine g_V1 dX6_nextColumn_81 vX6_80 rfl (Nat.le_of_ble_eq_true rfl) (by decide) (ev_X6_fullestWith hc hc6) ?_
                  refine g_aload_n dX6_nextColumn_84 rfl ?_
                  refine g_iload_n dX6_nextColumn_85 rfl ?_
                  refine g_V1 dX6_nextColumn_86 vX6_80 rfl (Nat.le_of_ble_eq_true rfl) (by decide) (ev_X6_fullestWith hc hc6) ?_
                  refine g_icge (tgt := 96) dX6_nextColumn_89 (by decide) (fun c89 => ?_) (fun c89 => ?_)
                  · have q89 := Int32.not_lt.mpr c89
                    refine g_iconst (v := 0) dX6_nextColumn_96 (by decide) ?_
                    refine g_istore dX6_nextColumn_97 (by decide) rfl ?_
                    refine g_iload dX6_nextColumn_99 rfl ?_
                    refine g_ifne (tgt := 109) dX6_nextColumn_101 (by decide) (fun c101 => ?_) (fun c101 => absurd c101 (by decide))
                    refine g_iload_n dX6_nextColumn_109 rfl ?_
                    refine g_goto (tgt := 114) dX6_nextColumn_110 (by decide) ?_
                    refine g_istore_n dX6_nextColumn_114 (by decide) rfl ?_
                    refine g_iinc (v := nI (k + 1)) dX6_nextColumn_115 rfl (nI_1 k) (by decide) rfl ?_
                    refine g_goto (tgt := 5) dX6_nextColumn_118 (by decide) ?_
                    have e : r_nsts (σ 20) (σ 21) c b (k + 1) = nI k := by simp only [r_nsts, r_nst]; grind
                    refine g_w [.ref 19, .int (nI b), .int (nI k), .int (nI (k + 1)), .null, .null, .null] (And.intro (Or.inr rfl) (And.intro (Or.inr rfl) (And.intro (Or.inr rfl) (And.intro (Or.inr rfl) (And.intro (Or.inl rfl) (And.intro (Or.inl rfl) (And.intro (Or.inl rfl) (True.intro)))))))) ?_
                    exact g_l (by rw [e]) ih
                  · have q89 := Int32.not_le.mp c89
                    refine g_iconst (v := 1) dX6_nextColumn_92 (by decide) ?_
                    refine g_goto (tgt := 97) dX6_nextColumn_93 (by decide) ?_
                    refine g_istore dX6_nextColumn_97 (by decide) rfl ?_
                    refine g_iload dX6_nextColumn_99 rfl ?_
                    refine g_ifne (tgt := 109) dX6_nextColumn_101 (by decide) (fun c101 => ?_) (fun c101 => absurd c101 (by decide))
                    refine g_iload_n dX6_nextColumn_109 rfl ?_
                    refine g_goto (tgt := 114) dX6_nextColumn_110 (by decide) ?_
                    refine g_istore_n dX6_nextColumn_114 (by decide) rfl ?_
                    refine g_iinc (v := nI (k + 1)) dX6_nextColumn_115 rfl (nI_1 k) (by decide) rfl ?_
                    refine g_goto (tgt := 5) dX6_nextColumn_118 (by decide) ?_
                    have e : r_nsts (σ 20) (σ 21) c b (k + 1) = nI k := by simp only [r_nsts, r_nst]; grind
                    refine g_w [.ref 19, .int (nI b), .int (nI k), .int (nI (k + 1)), .null, .null, .null] (And.intro (Or.inr rfl) (And.intro (Or.inr rfl) (And.intro (Or.inr rfl) (And.intro (Or.inr rfl) (And.intro (Or.inl rfl) (And.intro (Or.inl rfl) (And.intro (Or.inl rfl) (True.intro)))))))) ?_
                    exact g_l (by rw [e]) ih
  · refine g_iload_n dX6_nextColumn_5 rfl ?_
    refine g_iconst (v := 1) dX6_nextColumn_6 (by decide) ?_
    refine g_aload_n dX6_nextColumn_7 rfl ?_
    refine g_getI dX6_nextColumn_8 fX6_61 rfl rfl ?_
    refine g_ishl dX6_nextColumn_11 ?_
    refine g_t hN ?_
    refine g_icge (tgt := 121) dX6_nextColumn_12 (by decide) (fun c12 => ?_) (fun c12 => absurd (nI_le (Nat.le_refl _) (by omega)) c12)
    refine g_iload_n dX6_nextColumn_121 rfl ?_
    exact g_iret dX6_nextColumn_122 rfl ⟨rfl, rfl⟩
end
section
/-! code() of the class and of the reference; column, ones, word, syndrome, mended -/
theorem r_nx4 : ∀ b, b < 4 → r_nsts (fun i => nI (r_T 4 i)) (fun i => nI (r_RO 4 b i)) 4 b 16 = nI (r_T 4 b) := by decide +kernel
theorem r_nx5 : ∀ b, b < 11 → r_nsts (fun i => nI (r_T 5 i)) (fun i => nI (r_RO 5 b i)) 5 b 32 = nI (r_T 5 b) := by decide +kernel
theorem r_nx6 : ∀ b, b < 14 → r_nsts (fun i => nI (r_T 6 i)) (fun i => nI (r_RO 6 b i)) 6 b 64 = nI (r_T 6 b) := by decide +kernel
theorem r_nx {d c b : Nat} (h : r_ok d c) (hb : b < d) : r_nsts (fun i => nI (r_T c i)) (fun i => nI (r_RO c b i)) c b (2 ^ c) = nI (r_T c b) := by
  obtain ⟨h1, ⟨rfl, h2⟩ | ⟨rfl, h2⟩ | ⟨rfl, h2⟩⟩ := h
  · exact r_nx4 b (by omega)
  · exact r_nx5 b (by omega)
  · exact r_nx6 b (by omega)
theorem r_nsts_congr {cf cf' ro ro' : Nat → Int32} {c b : Nat} (hr : ∀ i, i < c → ro i = ro' i) (hf : ∀ j, j < b → cf j = cf' j) : ∀ (k : Nat), r_nsts cf ro c b k = r_nsts cf' ro' c b k
  | 0 => rfl
  | k + 1 => by
    have h1 := r_nsts_congr (c := c) hr hf k
    have h2 : r_fst (fun j => decide (cf j = nI k)) b = r_fst (fun j => decide (cf' j = nI k)) b := r_fst_congr (fun j hj => by rw [hf j hj])
    have h3 : ∀ x, r_full ro x c = r_full ro' x c := fun x => r_full_congr hr
    simp only [r_nsts, r_nst, h1, h2, h3]
def r_mc (σ : r_Sg) (c b : Nat) : r_Sg := fun q i => if q = 20 then (if i < b then nI (r_T c i) else σ 20 i) else if q = 21 then (if i < 6 then nI (r_RO c b i) else σ 21 i) else σ q i
def r_mr (σ : r_Sg) (col : Int32) (k : Nat) : r_Sg := fun q i => if q = 21 then (if i < k then σ 21 i + r_b col i else σ 21 i) else σ q i
def r_mf (σ : r_Sg) (c d k : Nat) : r_Sg := fun q i => if q = 20 then (if i < d + k then nI (r_CO c d i) else σ 20 i) else if q = 21 then (if i < 6 then nI (r_RO c d i) else σ 21 i) else σ q i
theorem r_F0 (σ : r_Sg) (c : Nat) : r_fill σ 21 6 0 = r_mc σ c 0 := by
  funext q i
  by_cases h2 : q = 20
  · subst h2; simp [r_fill, r_mc]
  · by_cases h3 : q = 21
    · subst h3; simp [r_fill, r_mc, r_RO]; rfl
    · simp [r_fill, r_mc, h2, h3]
theorem r_F1a (σ : r_Sg) (col : Int32) (j : Nat) : r_up (r_mr σ col j) 21 j (σ 21 j + r_b col j) = r_mr σ col (j + 1) := by
  funext q i
  by_cases h3 : q = 21
  · subst h3
    by_cases hi : i = j
    · subst hi; simp [r_up, upd, r_mr]
    · have : i < j + 1 ↔ i < j := by omega
      simp [r_up, upd, r_mr, hi, this]
  · simp [r_up, r_mr, h3]
theorem r_F1 (σ : r_Sg) {d c k : Nat} (h : r_ok d c) (hk : k < d) : r_mr (r_up (r_mc σ c k) 20 k (nI (r_T c k))) (nI (r_T c k)) c = r_mc σ c (k + 1) := by
  have hT := r_Tlt h hk
  have hc := r_ok_c h
  funext q i
  by_cases h2 : q = 20
  · subst h2
    by_cases hi : i = k
    · subst hi; simp [r_mr, r_up, upd, r_mc]
    · have : i < k + 1 ↔ i < k := by omega
      simp [r_mr, r_up, upd, r_mc, hi, this]
  · by_cases h3 : q = 21
    · subst h3
      simp only [r_mr, r_up]
      by_cases hi : i < c
      · have h6 : i < 6 := by omega
        simp [r_mc, r_RO, hi, h6, r_b_nI (show r_T c k < 2 ^ 31 by omega) (show i < 32 by omega), nI_add]
      · by_cases h6 : i < 6
        · have hle : 2 ^ c ≤ 2 ^ i := Nat.pow_le_pow_right (by omega) (by omega)
          have h0 : r_T c k / 2 ^ i = 0 := Nat.div_eq_of_lt (by omega)
          simp [r_mc, r_RO, hi, h6, h0]
        · simp [r_mc, hi, h6]
    · simp [r_mr, r_up, r_mc, h2, h3]
theorem r_F2 (σ : r_Sg) (c d : Nat) : r_mc σ c d = r_mf σ c d 0 := by
  funext q i
  by_cases h2 : q = 20
  · subst h2
    by_cases hi : i < d <;> simp [r_mc, r_mf, r_CO, hi]
  · simp [r_mc, r_mf, h2]
theorem r_F3 (σ : r_Sg) (c d k : Nat) : r_up (r_mf σ c d k) 20 (d + k) (nI (2 ^ k)) = r_mf σ c d (k + 1) := by
  funext q i
  by_cases h2 : q = 20
  · subst h2
    by_cases hi : i = d + k
    · subst hi; have h9 : ¬ d + k < d := (by omega); simp [r_up, upd, r_mf, r_CO, h9]
    · have : i < d + (k + 1) ↔ i < d + k := by omega
      simp [r_up, upd, r_mf, hi, this]
  · simp [r_up, r_mf, h2]
/-- the places of a cell from 0 to n set to their own numbers -/
def r_idn (σ : r_Sg) (q n : Nat) : r_Sg := fun c i => if c = q ∧ i < n then nI i else σ c i
theorem r_idn_0 (σ : r_Sg) (q : Nat) : σ = r_idn σ q 0 := by funext a b; simp [r_idn]
theorem r_idn_s (σ : r_Sg) (q k : Nat) : r_up (r_idn σ q k) q k (nI k) = r_idn σ q (k + 1) := by
  funext a b
  by_cases h1 : a = q
  · subst h1
    by_cases h2 : b = k
    · subst h2; simp [r_up, r_idn, upd]
    · have h3 : b < k + 1 ↔ b < k := by omega
      simp [r_up, r_idn, upd, h2, h3]
  · simp [r_up, r_idn, h1]
theorem r_upF (σ : r_Sg) {q q' : Nat} (h : q ≠ q') (n k : Nat) (v x : Int32) : r_up (r_fill σ q' n v) q k x = r_fill (r_up σ q k x) q' n v := by
  funext a b
  by_cases h1 : a = q
  · subst h1; simp [r_up, r_fill, upd, h]
  · by_cases h2 : a = q'
    · subst h2; simp [r_up, r_fill, h1]
    · simp [r_up, r_fill, h1, h2]
theorem r_upI (σ : r_Sg) {q q' : Nat} (h : q ≠ q') (n k : Nat) (x : Int32) : r_up (r_idn σ q' n) q k x = r_idn (r_up σ q k x) q' n := by
  funext a b
  by_cases h1 : a = q
  · subst h1; simp [r_up, r_idn, upd, h]
  · by_cases h2 : a = q'
    · subst h2; simp [r_up, r_idn, h1]
    · simp [r_up, r_idn, h1, h2]
/-- what begins() sets -/
def r_beg (σ : r_Sg) (w : Nat) : r_Sg := r_up (r_up (r_up (r_up (r_fill (r_fill (r_fill (r_idn (r_fill (r_idn (r_fill (r_fill (r_fill σ 22 504 0) 23 504 0) 24 504 0) 25 4) 28 4 0) 26 w) 27 16 0) 32 6 (-9)) 31 3 0) 19 12 0) 19 14 0) 19 15 0) 19 16 0

set_option maxRecDepth 4000 in
theorem ev_X6_begins {σ : r_Sg} {w : Nat} (hw : σ 19 0 + σ 19 1 = nI w) (hw20 : w ≤ 20) : Ev 1 MX6_begins [.ref 19] σ none (r_beg σ w) := by
  refine Ev_w [.ref 19, .null] ?_ (by decide) rfl (Nat.le_of_ble_eq_true rfl) rfl
  refine g_iconst (v := 0) dX6_begins_0 (by decide) ?_
  refine g_istore_n dX6_begins_1 (by decide) rfl ?_
  refine g_g (by rw [← r_fill_0, ← r_fill_0, ← r_fill_0]) (σ' := (r_fill (r_fill (r_fill σ 22 0 0) 23 0 0) 24 0 0)) ?_
  refine r_loop (n := 504) (fun k => [.ref 19, .int (nI k)]) (fun k => (r_fill (r_fill (r_fill σ 22 k 0) 23 k 0) 24 k 0)) (fun k hk ih => ?_) ?_
  · refine g_iload_n dX6_begins_2 rfl ?_
    refine g_aload_n dX6_begins_3 rfl ?_
    refine g_getR dX6_begins_4 fX6_16 rfl rfl ?_
    refine g_alen (v := nI 504) dX6_begins_7 rfl rfl ?_
    refine g_icge (tgt := 38) dX6_begins_8 (by decide) (fun c8 => absurd c8 (nI_ge hk (by omega))) (fun c8 => ?_)
    refine g_aload_n dX6_begins_11 rfl ?_
    refine g_getR dX6_begins_12 fX6_16 rfl rfl ?_
    refine g_iload_n dX6_begins_15 rfl ?_
    refine g_iconst (v := 0) dX6_begins_16 (by decide) ?_
    refine g_ias _ dX6_begins_17 rfl rfl (by omega) ?_
    refine g_aload_n dX6_begins_18 rfl ?_
    refine g_getR dX6_begins_19 fX6_19 rfl rfl ?_
    refine g_iload_n dX6_begins_22 rfl ?_
    refine g_iconst (v := 0) dX6_begins_23 (by decide) ?_
    refine g_zas _ dX6_begins_24 rfl rfl (by omega) (by decide) ?_
    refine g_aload_n dX6_begins_25 rfl ?_
    refine g_getR dX6_begins_26 fX6_23 rfl rfl ?_
    refine g_iload_n dX6_begins_29 rfl ?_
    refine g_iconst (v := 0) dX6_begins_30 (by decide) ?_
    refine g_ias _ dX6_begins_31 rfl rfl (by omega) ?_
    refine g_iinc (v := nI (k + 1)) dX6_begins_32 rfl (nI_1 k) (by decide) rfl ?_
    refine g_goto (tgt := 2) dX6_begins_35 (by decide) ?_
    exact g_g (by rw [r_upF _ (by decide), r_upF _ (by decide), r_fill_s, r_upF _ (by decide), r_fill_s, r_fill_s]) ih
  · refine g_iload_n dX6_begins_2 rfl ?_
    refine g_aload_n dX6_begins_3 rfl ?_
    refine g_getR dX6_begins_4 fX6_16 rfl rfl ?_
    refine g_alen (v := nI 504) dX6_begins_7 rfl rfl ?_
    refine g_icge (tgt := 38) dX6_begins_8 (by decide) (fun c8 => ?_) (fun c8 => absurd (nI_le (Nat.le_refl _) (by omega)) c8)
    refine g_iconst (v := 0) dX6_begins_38 (by decide) ?_
    refine g_istore_n dX6_begins_39 (by decide) rfl ?_
    refine g_g (by rw [← r_idn_0, ← r_fill_0]) (σ' := (r_fill (r_idn (r_fill (r_fill (r_fill σ 22 504 0) 23 504 0) 24 504 0) 25 0) 28 0 0)) ?_
    refine r_loop (n := 4) (fun k => [.ref 19, .int (nI k)]) (fun k => (r_fill (r_idn (r_fill (r_fill (r_fill σ 22 504 0) 23 504 0) 24 504 0) 25 k) 28 k 0)) (fun k hk ih => ?_) ?_
    · refine g_iload_n dX6_begins_40 rfl ?_
      refine g_iconst (v := nI 4) dX6_begins_41 (by decide) ?_
      refine g_icge (tgt := 65) dX6_begins_42 (by decide) (fun c42 => absurd c42 (nI_ge hk (by omega))) (fun c42 => ?_)
      refine g_aload_n dX6_begins_45 rfl ?_
      refine g_getR dX6_begins_46 fX6_26 rfl rfl ?_
      refine g_iload_n dX6_begins_49 rfl ?_
      refine g_iload_n dX6_begins_50 rfl ?_
      refine g_ias _ dX6_begins_51 rfl rfl (by omega) ?_
      refine g_aload_n dX6_begins_52 rfl ?_
      refine g_getR dX6_begins_53 fX6_35 rfl rfl ?_
      refine g_iload_n dX6_begins_56 rfl ?_
      refine g_iconst (v := 0) dX6_begins_57 (by decide) ?_
      refine g_ias _ dX6_begins_58 rfl rfl (by omega) ?_
      refine g_iinc (v := nI (k + 1)) dX6_begins_59 rfl (nI_1 k) (by decide) rfl ?_
      refine g_goto (tgt := 40) dX6_begins_62 (by decide) ?_
      exact g_g (by rw [r_upF _ (by decide), r_idn_s, r_fill_s]) ih
    · refine g_iload_n dX6_begins_40 rfl ?_
      refine g_iconst (v := nI 4) dX6_begins_41 (by decide) ?_
      refine g_icge (tgt := 65) dX6_begins_42 (by decide) (fun c42 => ?_) (fun c42 => absurd (nI_le (Nat.le_refl _) (by omega)) c42)
      refine g_iconst (v := 0) dX6_begins_65 (by decide) ?_
      refine g_istore_n dX6_begins_66 (by decide) rfl ?_
      refine g_g (r_idn_0 _ 26) ?_
      refine r_loop (n := w) (fun k => [.ref 19, .int (nI k)]) (fun k => r_idn (r_fill (r_idn (r_fill (r_fill (r_fill σ 22 504 0) 23 504 0) 24 504 0) 25 4) 28 4 0) 26 k) (fun k hk ih => ?_) ?_
      · refine g_iload_n dX6_begins_67 rfl ?_
        refine g_aload_n dX6_begins_68 rfl ?_
        refine g_V0 dX6_begins_69 vX6_64 rfl (Nat.le_of_ble_eq_true rfl) (by decide) (Ev_r (r' := some (.int (nI w))) ev_X6_bits (by simp [r_fill, r_idn, hw])) ?_
        refine g_icge (tgt := 88) dX6_begins_72 (by decide) (fun c72 => absurd c72 (nI_ge hk (by omega))) (fun c72 => ?_)
        refine g_aload_n dX6_begins_75 rfl ?_
        refine g_getR dX6_begins_76 fX6_29 rfl rfl ?_
        refine g_iload_n dX6_begins_79 rfl ?_
        refine g_iload_n dX6_begins_80 rfl ?_
        refine g_ias _ dX6_begins_81 rfl rfl (by omega) ?_
        refine g_iinc (v := nI (k + 1)) dX6_begins_82 rfl (nI_1 k) (by decide) rfl ?_
        refine g_goto (tgt := 67) dX6_begins_85 (by decide) ?_
        exact g_g (r_idn_s _ _ _) ih
      · refine g_iload_n dX6_begins_67 rfl ?_
        refine g_aload_n dX6_begins_68 rfl ?_
        refine g_V0 dX6_begins_69 vX6_64 rfl (Nat.le_of_ble_eq_true rfl) (by decide) (Ev_r (r' := some (.int (nI w))) ev_X6_bits (by simp [r_fill, r_idn, hw])) ?_
        refine g_icge (tgt := 88) dX6_begins_72 (by decide) (fun c72 => ?_) (fun c72 => absurd (nI_le (Nat.le_refl _) (by omega)) c72)
        refine g_iconst (v := 0) dX6_begins_88 (by decide) ?_
        refine g_istore_n dX6_begins_89 (by decide) rfl ?_
        refine g_g (r_fill_0 _ 27 0) ?_
        refine r_loop (n := 16) (fun k => [.ref 19, .int (nI k)]) (fun k => r_fill (r_idn (r_fill (r_idn (r_fill (r_fill (r_fill σ 22 504 0) 23 504 0) 24 504 0) 25 4) 28 4 0) 26 w) 27 k 0) (fun k hk ih => ?_) ?_
        · refine g_iload_n dX6_begins_90 rfl ?_
          refine g_bipush (v := nI 16) dX6_begins_91 (by decide) ?_
          refine g_icge (tgt := 109) dX6_begins_93 (by decide) (fun c93 => absurd c93 (nI_ge hk (by omega))) (fun c93 => ?_)
          refine g_aload_n dX6_begins_96 rfl ?_
          refine g_getR dX6_begins_97 fX6_32 rfl rfl ?_
          refine g_iload_n dX6_begins_100 rfl ?_
          refine g_iconst (v := 0) dX6_begins_101 (by decide) ?_
          refine g_ias _ dX6_begins_102 rfl rfl (by omega) ?_
          refine g_iinc (v := nI (k + 1)) dX6_begins_103 rfl (nI_1 k) (by decide) rfl ?_
          refine g_goto (tgt := 90) dX6_begins_106 (by decide) ?_
          exact g_g (r_fill_s _ _ _ _) ih
        · refine g_iload_n dX6_begins_90 rfl ?_
          refine g_bipush (v := nI 16) dX6_begins_91 (by decide) ?_
          refine g_icge (tgt := 109) dX6_begins_93 (by decide) (fun c93 => ?_) (fun c93 => absurd (nI_le (Nat.le_refl _) (by omega)) c93)
          refine g_iconst (v := 0) dX6_begins_109 (by decide) ?_
          refine g_istore_n dX6_begins_110 (by decide) rfl ?_
          refine g_g (r_fill_0 _ 32 (-9)) ?_
          refine r_loop (n := 6) (fun k => [.ref 19, .int (nI k)]) (fun k => r_fill (r_fill (r_idn (r_fill (r_idn (r_fill (r_fill (r_fill σ 22 504 0) 23 504 0) 24 504 0) 25 4) 28 4 0) 26 w) 27 16 0) 32 k (-9)) (fun k hk ih => ?_) ?_
          · refine g_iload_n dX6_begins_111 rfl ?_
            refine g_aload_n dX6_begins_112 rfl ?_
            refine g_getR dX6_begins_113 fX6_47 rfl rfl ?_
            refine g_alen (v := nI 6) dX6_begins_116 rfl rfl ?_
            refine g_icge (tgt := 134) dX6_begins_117 (by decide) (fun c117 => absurd c117 (nI_ge hk (by omega))) (fun c117 => ?_)
            refine g_aload_n dX6_begins_120 rfl ?_
            refine g_getR dX6_begins_121 fX6_47 rfl rfl ?_
            refine g_iload_n dX6_begins_124 rfl ?_
            refine g_bipush (v := (-9)) dX6_begins_125 (by decide) ?_
            refine g_ias _ dX6_begins_127 rfl rfl (by omega) ?_
            refine g_iinc (v := nI (k + 1)) dX6_begins_128 rfl (nI_1 k) (by decide) rfl ?_
            refine g_goto (tgt := 111) dX6_begins_131 (by decide) ?_
            exact g_g (r_fill_s _ _ _ _) ih
          · refine g_iload_n dX6_begins_111 rfl ?_
            refine g_aload_n dX6_begins_112 rfl ?_
            refine g_getR dX6_begins_113 fX6_47 rfl rfl ?_
            refine g_alen (v := nI 6) dX6_begins_116 rfl rfl ?_
            refine g_icge (tgt := 134) dX6_begins_117 (by decide) (fun c117 => ?_) (fun c117 => absurd (nI_le (Nat.le_refl _) (by omega)) c117)
            refine g_iconst (v := 0) dX6_begins_134 (by decide) ?_
            refine g_istore_n dX6_begins_135 (by decide) rfl ?_
            refine g_g (r_fill_0 _ 31 0) ?_
            refine r_loop (n := 3) (fun k => [.ref 19, .int (nI k)]) (fun k => r_fill (r_fill (r_fill (r_idn (r_fill (r_idn (r_fill (r_fill (r_fill σ 22 504 0) 23 504 0) 24 504 0) 25 4) 28 4 0) 26 w) 27 16 0) 32 6 (-9)) 31 k 0) (fun k hk ih => ?_) ?_
            · refine g_iload_n dX6_begins_136 rfl ?_
              refine g_aload_n dX6_begins_137 rfl ?_
              refine g_getR dX6_begins_138 fX6_44 rfl rfl ?_
              refine g_alen (v := nI 3) dX6_begins_141 rfl rfl ?_
              refine g_icge (tgt := 158) dX6_begins_142 (by decide) (fun c142 => absurd c142 (nI_ge hk (by omega))) (fun c142 => ?_)
              refine g_aload_n dX6_begins_145 rfl ?_
              refine g_getR dX6_begins_146 fX6_44 rfl rfl ?_
              refine g_iload_n dX6_begins_149 rfl ?_
              refine g_iconst (v := 0) dX6_begins_150 (by decide) ?_
              refine g_ias _ dX6_begins_151 rfl rfl (by omega) ?_
              refine g_iinc (v := nI (k + 1)) dX6_begins_152 rfl (nI_1 k) (by decide) rfl ?_
              refine g_goto (tgt := 136) dX6_begins_155 (by decide) ?_
              exact g_g (r_fill_s _ _ _ _) ih
            · refine g_iload_n dX6_begins_136 rfl ?_
              refine g_aload_n dX6_begins_137 rfl ?_
              refine g_getR dX6_begins_138 fX6_44 rfl rfl ?_
              refine g_alen (v := nI 3) dX6_begins_141 rfl rfl ?_
              refine g_icge (tgt := 158) dX6_begins_142 (by decide) (fun c142 => ?_) (fun c142 => absurd (nI_le (Nat.le_refl _) (by omega)) c142)
              refine g_aload_n dX6_begins_158 rfl ?_
              refine g_iconst (v := 0) dX6_begins_159 (by decide) ?_
              refine g_putI dX6_begins_160 pX6_111 rfl rfl ?_
              refine g_aload_n dX6_begins_163 rfl ?_
              refine g_iconst (v := 0) dX6_begins_164 (by decide) ?_
              refine g_putI dX6_begins_165 pX6_114 rfl rfl ?_
              refine g_aload_n dX6_begins_168 rfl ?_
              refine g_iconst (v := 0) dX6_begins_169 (by decide) ?_
              refine g_putZ dX6_begins_170 pX6_117 rfl rfl (by decide) ?_
              refine g_aload_n dX6_begins_173 rfl ?_
              refine g_iconst (v := 0) dX6_begins_174 (by decide) ?_
              refine g_putI dX6_begins_175 pX6_121 rfl rfl ?_
              exact g_ret dX6_begins_178 rfl ⟨rfl, rfl⟩

theorem r_guard {d c : Int32} : (∃ a b : Nat, r_ok a b ∧ d = nI a ∧ c = nI b) ↔ ((4 ≤ c ∧ c ≤ 6) ∧ 1 ≤ d ∧ d ≤ (if c = 4 then 4 else if c = 5 then 11 else 14)) := by
  constructor
  · rintro ⟨a, b, h, rfl, rfl⟩
    obtain ⟨h1, ⟨rfl, h2⟩ | ⟨rfl, h2⟩ | ⟨rfl, h2⟩⟩ := h
    · exact ⟨by decide, nI_le h1 (by omega), nI_le (b := 4) h2 (by omega)⟩
    · exact ⟨by decide, nI_le h1 (by omega), nI_le (b := 11) h2 (by omega)⟩
    · exact ⟨by decide, nI_le h1 (by omega), nI_le (b := 14) h2 (by omega)⟩
  · rintro ⟨⟨h1, h2⟩, h3, h4⟩
    have hc0 : ¬ c < 0 := by rw [Int32.lt_iff_toInt_lt]; rw [Int32.le_iff_toInt_le] at h1; have e : (4 : Int32).toInt = 4 := rfl; have e2 : (0 : Int32).toInt = 0 := rfl; omega
    obtain ⟨b, hb, rfl⟩ := nI_of hc0
    have hd0 : ¬ d < 0 := by rw [Int32.lt_iff_toInt_lt]; rw [Int32.le_iff_toInt_le] at h3; have e : (1 : Int32).toInt = 1 := rfl; have e2 : (0 : Int32).toInt = 0 := rfl; omega
    obtain ⟨a, ha, rfl⟩ := nI_of hd0
    have g1 : 4 ≤ b := (nI_leI (a := 4) (by omega) hb).mp h1
    have g2 : b ≤ 6 := (nI_leI (b := 6) hb (by omega)).mp h2
    have g3 : 1 ≤ a := (nI_leI (a := 1) (by omega) ha).mp h3
    refine ⟨a, b, ⟨g3, ?_⟩, rfl, rfl⟩
    rcases (show b = 4 ∨ b = 5 ∨ b = 6 by omega) with rfl | rfl | rfl
    · exact Or.inl ⟨rfl, (nI_leI (b := 4) ha (by omega)).mp h4⟩
    · exact Or.inr (Or.inl ⟨rfl, (nI_leI (b := 11) ha (by omega)).mp h4⟩)
    · exact Or.inr (Or.inr ⟨rfl, (nI_leI (b := 14) ha (by omega)).mp h4⟩)

set_option maxRecDepth 4000 in
theorem ev_X6_code_ok {σ : r_Sg} {d c : Nat} (hok : r_ok d c) : Ev 3 MX6_code [.ref 19, .int (nI d), .int (nI c)] σ (some (.int (nI (d + c)))) (r_beg (r_mf (r_up (r_up σ 19 0 (nI d)) 19 1 (nI c)) c d c) (d + c)) := by
  have hc := r_ok_c hok
  have hg := r_guard.mp ⟨d, c, hok, rfl, rfl⟩
  refine Ev_w [.ref 19, .int (nI d), .int (nI c), .null, .null] ?_ (by decide) rfl (Nat.le_of_ble_eq_true rfl) rfl
  refine g_iload_n dX6_code_0 rfl ?_
  refine g_iconst (v := 4) dX6_code_1 (by decide) ?_
  refine g_bipush (v := 6) dX6_code_2 (by decide) ?_
  refine g_S3 dX6_code_4 vX6_68 (Nat.le_of_ble_eq_true rfl) (by decide) (ev_X6_within) ?_
  refine g_ifeq (tgt := 22) dX6_code_7 (by decide) (fun c7 => absurd c7 (bI_1.mpr hg.1)) (fun c7 => ?_)
  refine g_iload_n dX6_code_10 rfl ?_
  refine g_iconst (v := 1) dX6_code_11 (by decide) ?_
  refine g_iload_n dX6_code_12 rfl ?_
  refine g_S1 dX6_code_13 vX6_83 (Nat.le_of_ble_eq_true rfl) (by decide) (ev_X6_mostData) ?_
  refine g_S3 dX6_code_16 vX6_68 (Nat.le_of_ble_eq_true rfl) (by decide) (ev_X6_within) ?_
  refine g_ifne (tgt := 25) dX6_code_19 (by decide) (fun c19 => ?_) (fun c19 => absurd c19 (bI_1.mpr hg.2))
  refine g_aload_n dX6_code_25 rfl ?_
  refine g_iload_n dX6_code_26 rfl ?_
  refine g_putI dX6_code_27 pX6_57 rfl rfl ?_
  refine g_aload_n dX6_code_30 rfl ?_
  refine g_iload_n dX6_code_31 rfl ?_
  refine g_putI dX6_code_32 pX6_61 rfl rfl ?_
  refine g_iconst (v := 0) dX6_code_35 (by decide) ?_
  refine g_istore_n dX6_code_36 (by decide) rfl ?_
  refine g_g (r_fill_0 _ 21 0) ?_
  refine r_loop (n := 6) (fun k => [.ref 19, .int (nI d), .int (nI c), .int (nI k), .null]) (fun k => r_fill (r_up (r_up σ 19 0 (nI d)) 19 1 (nI c)) 21 k 0) (fun k hk ih => ?_) ?_
  · refine g_iload_n dX6_code_37 rfl ?_
    refine g_aload_n dX6_code_38 rfl ?_
    refine g_getR dX6_code_39 fX6_13 rfl rfl ?_
    refine g_alen (v := nI 6) dX6_code_42 rfl rfl ?_
    refine g_icge (tgt := 59) dX6_code_43 (by decide) (fun c43 => absurd c43 (nI_ge hk (by omega))) (fun c43 => ?_)
    refine g_aload_n dX6_code_46 rfl ?_
    refine g_getR dX6_code_47 fX6_13 rfl rfl ?_
    refine g_iload_n dX6_code_50 rfl ?_
    refine g_iconst (v := 0) dX6_code_51 (by decide) ?_
    refine g_ias _ dX6_code_52 rfl rfl (by omega) ?_
    refine g_iinc (v := nI (k + 1)) dX6_code_53 rfl (nI_1 k) (by decide) rfl ?_
    refine g_goto (tgt := 37) dX6_code_56 (by decide) ?_
    exact g_g (r_fill_s _ _ _ _) ih
  · refine g_iload_n dX6_code_37 rfl ?_
    refine g_aload_n dX6_code_38 rfl ?_
    refine g_getR dX6_code_39 fX6_13 rfl rfl ?_
    refine g_alen (v := nI 6) dX6_code_42 rfl rfl ?_
    refine g_icge (tgt := 59) dX6_code_43 (by decide) (fun c43 => ?_) (fun c43 => absurd (nI_le (Nat.le_refl _) (by omega)) c43)
    refine g_iconst (v := 0) dX6_code_59 (by decide) ?_
    refine g_istore_n dX6_code_60 (by decide) rfl ?_
    refine g_g (r_F0 _ c) ?_
    refine r_loop (n := d) (fun k => [.ref 19, .int (nI d), .int (nI c), .int (nI k), .null]) (fun k => r_mc (r_up (r_up σ 19 0 (nI d)) 19 1 (nI c)) c k) (fun k hk ih => ?_) ?_
    · refine g_iload_n dX6_code_61 rfl ?_
      refine g_iload_n dX6_code_62 rfl ?_
      refine g_icge (tgt := 119) dX6_code_63 (by decide) (fun c63 => absurd c63 (nI_ge hk (by omega))) (fun c63 => ?_)
      refine g_aload_n dX6_code_66 rfl ?_
      refine g_getR dX6_code_67 fX6_7 rfl rfl ?_
      refine g_iload_n dX6_code_70 rfl ?_
      refine g_aload_n dX6_code_71 rfl ?_
      refine g_iload_n dX6_code_72 rfl ?_
      have hT := r_Tlt hok hk
      refine g_V1 dX6_code_73 vX6_86 rfl (Nat.le_of_ble_eq_true rfl) (by decide) (Ev_r (r' := some (.int (nI (r_T c k)))) (ev_X6_nextColumn (σ := r_mc (r_up (r_up σ 19 0 (nI d)) 19 1 (nI c)) c k) (c := c) (N := 2 ^ c) (by simp [r_mc, r_up, upd]) (by omega) (by simp only [r_mc, r_up, upd]; simp; exact r_shl1 c (by omega)) (by omega) (by omega)) (by rw [r_nsts_congr (ro' := fun i => nI (r_RO c k i)) (cf' := fun i => nI (r_T c i)) (by intro i hi; have h6 : i < 6 := (by omega); simp [r_mc, h6]) (by intro x hx; simp [r_mc, hx]), r_nx hok hk])) ?_
      refine g_ias _ dX6_code_76 rfl rfl (by omega) ?_
      refine g_iconst (v := 0) dX6_code_77 (by decide) ?_
      refine g_istore dX6_code_78 (by decide) rfl ?_
      refine g_g (σ' := r_mr (r_up (r_mc (r_up (r_up σ 19 0 (nI d)) 19 1 (nI c)) c k) 20 k (nI (r_T c k))) (nI (r_T c k)) 0) (by funext q i; by_cases h3 : q = 21 <;> simp [r_mr, h3]) ?_
      refine r_loop (n := c) (fun j => [.ref 19, .int (nI d), .int (nI c), .int (nI k), .int (nI j)]) (fun j => r_mr (r_up (r_mc (r_up (r_up σ 19 0 (nI d)) 19 1 (nI c)) c k) 20 k (nI (r_T c k))) (nI (r_T c k)) j) (fun j hj ih => ?_) ?_
      · refine g_iload dX6_code_80 rfl ?_
        refine g_iload_n dX6_code_82 rfl ?_
        refine g_icge (tgt := 113) dX6_code_83 (by decide) (fun c83 => absurd c83 (nI_ge hj (by omega))) (fun c83 => ?_)
        refine g_aload_n dX6_code_86 rfl ?_
        refine g_getR dX6_code_87 fX6_13 rfl rfl ?_
        refine g_iload dX6_code_90 rfl ?_
        refine g_dup2 dX6_code_92 rfl rfl ?_
        refine g_ial _ dX6_code_93 rfl rfl (by omega) ?_
        refine g_aload_n dX6_code_94 rfl ?_
        refine g_getR dX6_code_95 fX6_7 rfl rfl ?_
        refine g_iload_n dX6_code_98 rfl ?_
        refine g_ial _ dX6_code_99 rfl rfl (by omega) ?_
        refine g_iload dX6_code_100 rfl ?_
        refine g_S2 dX6_code_102 vX6_53 (Nat.le_of_ble_eq_true rfl) (by decide) (ev_X6_isIn) ?_
        refine g_iadd dX6_code_105 ?_
        refine g_ias _ dX6_code_106 rfl rfl (by omega) ?_
        refine g_iinc (v := nI (j + 1)) dX6_code_107 rfl (nI_1 j) (by decide) rfl ?_
        refine g_goto (tgt := 80) dX6_code_110 (by decide) ?_
        exact g_g (by rw [← r_F1a]; congr 1; simp [r_mr, r_up, upd]) ih
      · refine g_iload dX6_code_80 rfl ?_
        refine g_iload_n dX6_code_82 rfl ?_
        refine g_icge (tgt := 113) dX6_code_83 (by decide) (fun c83 => ?_) (fun c83 => absurd (nI_le (Nat.le_refl _) (by omega)) c83)
        refine g_iinc (v := nI (k + 1)) dX6_code_113 rfl (nI_1 k) (by decide) rfl ?_
        refine g_goto (tgt := 61) dX6_code_116 (by decide) ?_
        refine g_w [.ref 19, .int (nI d), .int (nI c), .int (nI (k + 1)), .null] (And.intro (Or.inr rfl) (And.intro (Or.inr rfl) (And.intro (Or.inr rfl) (And.intro (Or.inr rfl) (And.intro (Or.inl rfl) (True.intro)))))) ?_
        exact g_g (r_F1 _ hok hk) ih
    · refine g_iload_n dX6_code_61 rfl ?_
      refine g_iload_n dX6_code_62 rfl ?_
      refine g_icge (tgt := 119) dX6_code_63 (by decide) (fun c63 => ?_) (fun c63 => absurd (nI_le (Nat.le_refl _) (by omega)) c63)
      refine g_iconst (v := 0) dX6_code_119 (by decide) ?_
      refine g_istore_n dX6_code_120 (by decide) rfl ?_
      refine g_g (r_F2 _ c d) ?_
      refine r_loop (n := c) (fun k => [.ref 19, .int (nI d), .int (nI c), .int (nI k), .null]) (fun k => r_mf (r_up (r_up σ 19 0 (nI d)) 19 1 (nI c)) c d k) (fun k hk ih => ?_) ?_
      · refine g_iload_n dX6_code_121 rfl ?_
        refine g_iload_n dX6_code_122 rfl ?_
        refine g_icge (tgt := 143) dX6_code_123 (by decide) (fun c123 => absurd c123 (nI_ge hk (by omega))) (fun c123 => ?_)
        refine g_aload_n dX6_code_126 rfl ?_
        refine g_getR dX6_code_127 fX6_7 rfl rfl ?_
        refine g_iload_n dX6_code_130 rfl ?_
        refine g_iload_n dX6_code_131 rfl ?_
        refine g_iadd dX6_code_132 ?_
        refine g_t (nI_add d k) ?_
        refine g_iconst (v := 1) dX6_code_133 (by decide) ?_
        refine g_iload_n dX6_code_134 rfl ?_
        refine g_ishl dX6_code_135 ?_
        refine g_t (r_shl1 k (by omega)) ?_
        refine g_ias _ dX6_code_136 rfl rfl (by omega) ?_
        refine g_iinc (v := nI (k + 1)) dX6_code_137 rfl (nI_1 k) (by decide) rfl ?_
        refine g_goto (tgt := 121) dX6_code_140 (by decide) ?_
        exact g_g (r_F3 _ c d k) ih
      · refine g_iload_n dX6_code_121 rfl ?_
        refine g_iload_n dX6_code_122 rfl ?_
        refine g_icge (tgt := 143) dX6_code_123 (by decide) (fun c123 => ?_) (fun c123 => absurd (nI_le (Nat.le_refl _) (by omega)) c123)
        refine g_aload_n dX6_code_143 rfl ?_
        refine g_V0v dX6_code_144 vX6_89 rfl (Nat.le_of_ble_eq_true rfl) (by decide) (ev_X6_begins (w := d + c) (by simp [r_mf, r_up, upd, nI_add]) (by omega)) ?_
        refine g_iload_n dX6_code_147 rfl ?_
        refine g_iload_n dX6_code_148 rfl ?_
        refine g_iadd dX6_code_149 ?_
        refine g_t (nI_add d c) ?_
        exact g_iret dX6_code_150 rfl ⟨rfl, rfl⟩

set_option maxRecDepth 4000 in
theorem ev_X6_code_no {σ : r_Sg} {d c : Int32} (hno : ¬ ∃ a b : Nat, r_ok a b ∧ d = nI a ∧ c = nI b) : Ev 3 MX6_code [.ref 19, .int d, .int c] σ (some (.int (-2))) σ := by
  rw [r_guard] at hno
  refine Ev_w [.ref 19, .int d, .int c, .null, .null] ?_ (by decide) rfl (Nat.le_of_ble_eq_true rfl) rfl
  refine g_iload_n dX6_code_0 rfl ?_
  refine g_iconst (v := 4) dX6_code_1 (by decide) ?_
  refine g_bipush (v := 6) dX6_code_2 (by decide) ?_
  refine g_S3 dX6_code_4 vX6_68 (Nat.le_of_ble_eq_true rfl) (by decide) (ev_X6_within) ?_
  refine g_ifeq (tgt := 22) dX6_code_7 (by decide) (fun c7 => ?_) (fun c7 => ?_)
  · refine g_bipush (v := (-2)) dX6_code_22 (by decide) ?_
    exact g_iret dX6_code_24 rfl ⟨rfl, rfl⟩
  · refine g_iload_n dX6_code_10 rfl ?_
    refine g_iconst (v := 1) dX6_code_11 (by decide) ?_
    refine g_iload_n dX6_code_12 rfl ?_
    refine g_S1 dX6_code_13 vX6_83 (Nat.le_of_ble_eq_true rfl) (by decide) (ev_X6_mostData) ?_
    refine g_S3 dX6_code_16 vX6_68 (Nat.le_of_ble_eq_true rfl) (by decide) (ev_X6_within) ?_
    refine g_ifne (tgt := 25) dX6_code_19 (by decide) (fun c19 => absurd ⟨bI_1.mp c7, bI_1.mp c19⟩ hno) (fun c19 => ?_)
    refine g_bipush (v := (-2)) dX6_code_22 (by decide) ?_
    exact g_iret dX6_code_24 rfl ⟨rfl, rfl⟩
end
section
/-! code() of the class; what is asked of a code, on both sides -/
theorem kf_MD : Cond.fieldLink RX2 21 "MendedBank$Code" "MOST_DATA" "[I" ∈ r_tbl := lk 168 (by decide +kernel)
theorem r_mdx {c : Int32} (h1 : ¬ c < 4) (h2 : ¬ 6 < c) : vp_in (c - 4) 3 ∧ r_md (c - 4).toNatClampNeg = .int (if c = 4 then 4 else if c = 5 then 11 else 14) := by
  have h1' := Int32.not_lt.mp h1
  have h2' := Int32.not_lt.mp h2
  have hc0 : ¬ c < 0 := by rw [Int32.lt_iff_toInt_lt]; rw [Int32.le_iff_toInt_le] at h1'; have e : (4 : Int32).toInt = 4 := rfl; have e2 : (0 : Int32).toInt = 0 := rfl; omega
  obtain ⟨b, hb, rfl⟩ := nI_of hc0
  have g1 : 4 ≤ b := (nI_leI (a := 4) (by omega) hb).mp h1'
  have g2 : b ≤ 6 := (nI_leI (b := 6) hb (by omega)).mp h2'
  rcases (show b = 4 ∨ b = 5 ∨ b = 6 by omega) with rfl | rfl | rfl
  · exact ⟨vp_in_nI (n := 0) (by omega) (by omega), rfl⟩
  · exact ⟨vp_in_nI (n := 1) (by omega) (by omega), rfl⟩
  · exact ⟨vp_in_nI (n := 2) (by omega) (by omega), rfl⟩
/-- a number that is not too small and not too large is a place -/
theorem r_nat {b : Int32} {w : Nat} (h : 0 ≤ b ∧ b < nI w) (hw : w < 2 ^ 31) : ∃ j, j < w ∧ b = nI j := by
  obtain ⟨j, hj, rfl⟩ := nI_of (Int32.not_lt.mpr h.1)
  exact ⟨j, (nI_ltI hj hw).mp h.2, rfl⟩
theorem r_le1 {b : Int32} {w : Nat} (hw : w < 2 ^ 30) : (0 ≤ b ∧ b ≤ nI w - 1) ↔ (0 ≤ b ∧ b < nI w) := by
  have h1 : (nI w - 1).toInt = (w : Int) - 1 := pk_sub_toInt (b := 1) (by omega) (by omega)
  have h2 : (nI w).toInt = (w : Int) := nI_toInt (by omega)
  rw [Int32.le_iff_toInt_le, Int32.le_iff_toInt_le, Int32.lt_iff_toInt_lt, h1, h2]
  omega
def r_clr (σ : r_Sg) : r_Sg := r_fill (r_fill (r_fill σ 7 24 0) 8 24 0) 9 504 0
def r_lclr (σ : r_Sg) : r_Sg := r_up (r_up (r_up (r_up (r_up (r_up (r_up (r_fill (r_fill σ 11 3 0) 12 4 0) 10 3 0) 10 4 (-9)) 10 5 (-9)) 10 6 (-9)) 10 7 (-9)) 10 8 (-9)) 10 9 (-9)
def r_ren (σ : r_Sg) (w : Nat) : r_Sg := r_up (r_up (r_up (r_up (r_up (r_fill (r_idn (r_lclr (r_clr σ)) 14 4) 15 16 0) 5 6 0) 5 7 (-9)) 5 8 (nI w)) 5 9 0) 5 10 0
def r_men (bo : Int32 → Int32) (set y : Int32) : Int32 := if y = 0 then set else if bo y = -9 then -5 else set ^^^ (1 <<< (bo y &&& 31))
def r_bit (cf : Nat → Int32) (w : Nat) (y : Int32) : Int32 := if r_fst (fun j => decide (cf j = y)) w < w then nI (r_fst (fun j => decide (cf j = y)) w) else -9
theorem r_mend_men (σ : r_Sg) (set y : Int32) : r_mend σ set y = r_men (fun z => σ 4 z.toNatClampNeg) set y := rfl
theorem r_b01 (x : Int32) (b : Nat) : r_b x b = 0 ∨ r_b x b = 1 := by
  obtain ⟨j, hj, e⟩ := pk_andE (x >>> (nI b &&& 31)) (m := 1) 1 rfl
  unfold r_b
  rw [e]
  rcases (show j = 0 ∨ j = 1 by omega) with rfl | rfl
  · exact Or.inl rfl
  · exact Or.inr rfl

set_option maxRecDepth 4000 in
theorem ev_X2_allows {σ : r_Sg} {d c : Int32}  : Ev 0 MX2_allows [.int d, .int c] σ (some (.int (bI ((4 ≤ c ∧ c ≤ 6) ∧ 1 ≤ d ∧ d ≤ (if c = 4 then 4 else if c = 5 then 11 else 14))))) σ := by
  obtain ⟨z, hz⟩ : ∃ z : Int32, z = (if c = 4 then 4 else if c = 5 then 11 else 14) := ⟨_, rfl⟩
  rw [← hz]
  refine Ev_w [.int d, .int c] ?_ (by decide) rfl (Nat.le_of_ble_eq_true rfl) rfl
  refine g_iload_n dX2_allows_0 rfl ?_
  refine g_iconst (v := 4) dX2_allows_1 (by decide) ?_
  refine g_iclt (tgt := 31) dX2_allows_2 (by decide) (fun c2 => ?_) (fun c2 => ?_)
  · refine g_iconst (v := 0) dX2_allows_31 (by decide) ?_
    exact g_zret dX2_allows_32 rfl (by first | exact Or.inl rfl | exact Or.inr rfl) ⟨by simp only [bI_0, Decidable.not_not, Int32.not_le, Int32.not_lt, Int32.lt_iff_toInt_lt, Int32.le_iff_toInt_le] at *; unfold bI; split <;> first | rfl | (exfalso; omega), rfl⟩
  · refine g_iload_n dX2_allows_5 rfl ?_
    refine g_bipush (v := 6) dX2_allows_6 (by decide) ?_
    refine g_icgt (tgt := 31) dX2_allows_8 (by decide) (fun c8 => ?_) (fun c8 => ?_)
    · refine g_iconst (v := 0) dX2_allows_31 (by decide) ?_
      exact g_zret dX2_allows_32 rfl (by first | exact Or.inl rfl | exact Or.inr rfl) ⟨by simp only [bI_0, Decidable.not_not, Int32.not_le, Int32.not_lt, Int32.lt_iff_toInt_lt, Int32.le_iff_toInt_le] at *; unfold bI; split <;> first | rfl | (exfalso; omega), rfl⟩
    · refine g_iload_n dX2_allows_11 rfl ?_
      refine g_iconst (v := 1) dX2_allows_12 (by decide) ?_
      refine g_iclt (tgt := 31) dX2_allows_13 (by decide) (fun c13 => ?_) (fun c13 => ?_)
      · refine g_iconst (v := 0) dX2_allows_31 (by decide) ?_
        exact g_zret dX2_allows_32 rfl (by first | exact Or.inl rfl | exact Or.inr rfl) ⟨by simp only [bI_0, Decidable.not_not, Int32.not_le, Int32.not_lt, Int32.lt_iff_toInt_lt, Int32.le_iff_toInt_le] at *; unfold bI; split <;> first | rfl | (exfalso; omega), rfl⟩
      · refine g_iload_n dX2_allows_16 rfl ?_
        have hx := r_mdx c2 c8
        rw [← hz] at hx
        refine g_gets dX2_allows_17 kf_MD ?_
        refine g_iload_n dX2_allows_20 rfl ?_
        refine g_iconst (v := 4) dX2_allows_21 (by decide) ?_
        refine g_isub dX2_allows_22 ?_
        refine g_tld dX2_allows_23 hx.1 hx.2 ?_
        refine g_icgt (tgt := 31) dX2_allows_24 (by decide) (fun c24 => ?_) (fun c24 => ?_)
        · refine g_iconst (v := 0) dX2_allows_31 (by decide) ?_
          exact g_zret dX2_allows_32 rfl (by first | exact Or.inl rfl | exact Or.inr rfl) ⟨by simp only [bI_0, Decidable.not_not, Int32.not_le, Int32.not_lt, Int32.lt_iff_toInt_lt, Int32.le_iff_toInt_le] at *; unfold bI; split <;> first | rfl | (exfalso; omega), rfl⟩
        · refine g_iconst (v := 1) dX2_allows_27 (by decide) ?_
          refine g_goto (tgt := 32) dX2_allows_28 (by decide) ?_
          exact g_zret dX2_allows_32 rfl (by first | exact Or.inl rfl | exact Or.inr rfl) ⟨by simp only [bI_0, Decidable.not_not, Int32.not_le, Int32.not_lt, Int32.lt_iff_toInt_lt, Int32.le_iff_toInt_le] at *; unfold bI; split <;> first | rfl | (exfalso; omega), rfl⟩

set_option maxRecDepth 4000 in
theorem ev_X1_clear {σ : r_Sg}  : Ev 1 MX1_clear [.ref 6] σ none (r_clr σ) := by
  refine Ev_w [.ref 6] ?_ (by decide) rfl (Nat.le_of_ble_eq_true rfl) rfl
  refine g_aload_n dX1_clear_0 rfl ?_
  refine g_getR dX1_clear_1 fX1_13 rfl rfl ?_
  refine g_iconst (v := 0) dX1_clear_4 (by decide) ?_
  refine g_S2v dX1_clear_5 vX1_23 (Nat.le_of_ble_eq_true rfl) (by decide) (ev_J7_fill_53178 rfl) ?_
  refine g_aload_n dX1_clear_8 rfl ?_
  refine g_getR dX1_clear_9 fX1_17 rfl rfl ?_
  refine g_iconst (v := 0) dX1_clear_12 (by decide) ?_
  refine g_S2v dX1_clear_13 vX1_23 (Nat.le_of_ble_eq_true rfl) (by decide) (ev_J7_fill_53178 rfl) ?_
  refine g_aload_n dX1_clear_16 rfl ?_
  refine g_getR dX1_clear_17 fX1_20 rfl rfl ?_
  refine g_iconst (v := 0) dX1_clear_20 (by decide) ?_
  refine g_S2v dX1_clear_21 vX1_23 (Nat.le_of_ble_eq_true rfl) (by decide) (ev_J7_fill_53178 rfl) ?_
  exact g_ret dX1_clear_24 rfl ⟨rfl, rfl⟩

set_option maxRecDepth 4000 in
theorem ev_X4_clear {σ : r_Sg}  : Ev 1 MX4_clear [.ref 10] σ none (r_lclr σ) := by
  refine Ev_w [.ref 10] ?_ (by decide) rfl (Nat.le_of_ble_eq_true rfl) rfl
  refine g_aload_n dX4_clear_0 rfl ?_
  refine g_getR dX4_clear_1 fX4_9 rfl rfl ?_
  refine g_iconst (v := 0) dX4_clear_4 (by decide) ?_
  refine g_S2v dX4_clear_5 vX4_40 (Nat.le_of_ble_eq_true rfl) (by decide) (ev_J7_fill_53178 rfl) ?_
  refine g_aload_n dX4_clear_8 rfl ?_
  refine g_getR dX4_clear_9 fX4_15 rfl rfl ?_
  refine g_iconst (v := 0) dX4_clear_12 (by decide) ?_
  refine g_S2v dX4_clear_13 vX4_40 (Nat.le_of_ble_eq_true rfl) (by decide) (ev_J7_fill_53178 rfl) ?_
  refine g_aload_n dX4_clear_16 rfl ?_
  refine g_iconst (v := 0) dX4_clear_17 (by decide) ?_
  refine g_putI dX4_clear_18 pX4_46 rfl rfl ?_
  refine g_aload_n dX4_clear_21 rfl ?_
  refine g_bipush (v := (-9)) dX4_clear_22 (by decide) ?_
  refine g_putI dX4_clear_24 pX4_21 rfl rfl ?_
  refine g_aload_n dX4_clear_27 rfl ?_
  refine g_bipush (v := (-9)) dX4_clear_28 (by decide) ?_
  refine g_putI dX4_clear_30 pX4_25 rfl rfl ?_
  refine g_aload_n dX4_clear_33 rfl ?_
  refine g_bipush (v := (-9)) dX4_clear_34 (by decide) ?_
  refine g_putI dX4_clear_36 pX4_28 rfl rfl ?_
  refine g_aload_n dX4_clear_39 rfl ?_
  refine g_bipush (v := (-9)) dX4_clear_40 (by decide) ?_
  refine g_putI dX4_clear_42 pX4_31 rfl rfl ?_
  refine g_aload_n dX4_clear_45 rfl ?_
  refine g_bipush (v := (-9)) dX4_clear_46 (by decide) ?_
  refine g_putI dX4_clear_48 pX4_34 rfl rfl ?_
  refine g_aload_n dX4_clear_51 rfl ?_
  refine g_bipush (v := (-9)) dX4_clear_52 (by decide) ?_
  refine g_putI dX4_clear_54 pX4_37 rfl rfl ?_
  exact g_ret dX4_clear_57 rfl ⟨rfl, rfl⟩

set_option maxRecDepth 4000 in
theorem ev_X0_renew {σ : r_Sg} {w : Nat} (hw : σ 1 3 + σ 1 4 = nI w) : Ev 2 MX0_renew [.ref 5] σ none (r_ren σ w) := by
  refine Ev_w [.ref 5, .null] ?_ (by decide) rfl (Nat.le_of_ble_eq_true rfl) rfl
  refine g_aload_n dX0_renew_0 rfl ?_
  refine g_getR dX0_renew_1 fX0_12 rfl rfl ?_
  refine g_V0v dX0_renew_4 vX0_43 rfl (Nat.le_of_ble_eq_true rfl) (by decide) (ev_X1_clear) ?_
  refine g_aload_n dX0_renew_7 rfl ?_
  refine g_getR dX0_renew_8 fX0_21 rfl rfl ?_
  refine g_V0v dX0_renew_11 vX0_46 rfl (Nat.le_of_ble_eq_true rfl) (by decide) (ev_X4_clear) ?_
  refine g_iconst (v := 0) dX0_renew_14 (by decide) ?_
  refine g_istore_n dX0_renew_15 (by decide) rfl ?_
  refine g_g (r_idn_0 _ 14) ?_
  refine r_loop (n := 4) (fun k => [.ref 5, .int (nI k)]) (fun k => r_idn (r_lclr (r_clr σ)) 14 k) (fun k hk ih => ?_) ?_
  · refine g_iload_n dX0_renew_16 rfl ?_
    refine g_iconst (v := nI 4) dX0_renew_17 (by decide) ?_
    refine g_icge (tgt := 34) dX0_renew_18 (by decide) (fun c18 => absurd c18 (nI_ge hk (by omega))) (fun c18 => ?_)
    refine g_aload_n dX0_renew_21 rfl ?_
    refine g_getR dX0_renew_22 fX0_25 rfl rfl ?_
    refine g_iload_n dX0_renew_25 rfl ?_
    refine g_iload_n dX0_renew_26 rfl ?_
    refine g_ias _ dX0_renew_27 rfl rfl (by omega) ?_
    refine g_iinc (v := nI (k + 1)) dX0_renew_28 rfl (nI_1 k) (by decide) rfl ?_
    refine g_goto (tgt := 16) dX0_renew_31 (by decide) ?_
    exact g_g (r_idn_s _ _ _) ih
  · refine g_iload_n dX0_renew_16 rfl ?_
    refine g_iconst (v := nI 4) dX0_renew_17 (by decide) ?_
    refine g_icge (tgt := 34) dX0_renew_18 (by decide) (fun c18 => ?_) (fun c18 => absurd (nI_le (Nat.le_refl _) (by omega)) c18)
    refine g_aload_n dX0_renew_34 rfl ?_
    refine g_getR dX0_renew_35 fX0_29 rfl rfl ?_
    refine g_iconst (v := 0) dX0_renew_38 (by decide) ?_
    refine g_S2v dX0_renew_39 vX0_47 (Nat.le_of_ble_eq_true rfl) (by decide) (ev_J7_fill_53178 rfl) ?_
    refine g_aload_n dX0_renew_42 rfl ?_
    refine g_iconst (v := 0) dX0_renew_43 (by decide) ?_
    refine g_putI dX0_renew_44 pX0_53 rfl rfl ?_
    refine g_aload_n dX0_renew_47 rfl ?_
    refine g_bipush (v := (-9)) dX0_renew_48 (by decide) ?_
    refine g_putI dX0_renew_50 pX0_35 rfl rfl ?_
    refine g_aload_n dX0_renew_53 rfl ?_
    refine g_aload_n dX0_renew_54 rfl ?_
    refine g_getR dX0_renew_55 fX0_39 rfl rfl ?_
    refine g_V0 dX0_renew_58 vX0_56 rfl (Nat.le_of_ble_eq_true rfl) (by decide) (Ev_r (r' := some (.int (nI w))) ev_X2_width (by simp [r_up, upd, r_fill, r_idn, r_lclr, r_clr, hw])) ?_
    refine g_putI dX0_renew_61 pX0_62 rfl rfl ?_
    refine g_aload_n dX0_renew_64 rfl ?_
    refine g_iconst (v := 0) dX0_renew_65 (by decide) ?_
    refine g_putI dX0_renew_66 pX0_65 rfl rfl ?_
    refine g_aload_n dX0_renew_69 rfl ?_
    refine g_iconst (v := 0) dX0_renew_70 (by decide) ?_
    refine g_putI dX0_renew_71 pX0_68 rfl rfl ?_
    exact g_ret dX0_renew_74 rfl ⟨rfl, rfl⟩

set_option maxRecDepth 4000 in
theorem ev_X3_forget {σ : r_Sg}  : Ev 0 MX3_forget [.ref 17] σ none (r_up σ 17 2 0) := by
  refine Ev_w [.ref 17] ?_ (by decide) rfl (Nat.le_of_ble_eq_true rfl) rfl
  refine g_aload_n dX3_forget_0 rfl ?_
  refine g_iconst (v := 0) dX3_forget_1 (by decide) ?_
  refine g_putZ dX3_forget_2 pX3_21 rfl rfl (by decide) ?_
  exact g_ret dX3_forget_5 rfl ⟨rfl, rfl⟩

set_option maxRecDepth 4000 in
theorem ev_X5_code_ok {σ : r_Sg} {d c : Nat} (hok : r_ok d c) : Ev 4 MX5_code [.ref 0, .int (nI d), .int (nI c)] σ (some (.int (nI (d + c)))) (r_up (r_ren (r_cf (r_up (r_up σ 1 3 (nI d)) 1 4 (nI c)) c d c) (d + c)) 17 2 0) := by
  have hg := r_guard.mp ⟨d, c, hok, rfl, rfl⟩
  refine Ev_w [.ref 0, .int (nI d), .int (nI c)] ?_ (by decide) rfl (Nat.le_of_ble_eq_true rfl) rfl
  refine g_iload_n dX5_code_0 rfl ?_
  refine g_iload_n dX5_code_1 rfl ?_
  refine g_S2 dX5_code_2 vX5_34 (Nat.le_of_ble_eq_true rfl) (by decide) (ev_X2_allows) ?_
  refine g_ifne (tgt := 11) dX5_code_5 (by decide) (fun c5 => ?_) (fun c5 => absurd c5 (bI_1.mpr hg))
  refine g_aload_n dX5_code_11 rfl ?_
  refine g_getR dX5_code_12 fX5_12 rfl rfl ?_
  refine g_iload_n dX5_code_15 rfl ?_
  refine g_iload_n dX5_code_16 rfl ?_
  refine g_V2v dX5_code_17 vX5_38 rfl (Nat.le_of_ble_eq_true rfl) (by decide) (ev_X2_choose hok) ?_
  refine g_aload_n dX5_code_20 rfl ?_
  refine g_getR dX5_code_21 fX5_23 rfl rfl ?_
  refine g_V0v dX5_code_24 vX5_42 rfl (Nat.le_of_ble_eq_true rfl) (by decide) (ev_X0_renew (w := d + c) (by simp [r_cf, r_up, upd, nI_add])) ?_
  refine g_aload_n dX5_code_27 rfl ?_
  refine g_getR dX5_code_28 fX5_30 rfl rfl ?_
  refine g_V0v dX5_code_31 vX5_45 rfl (Nat.le_of_ble_eq_true rfl) (by decide) (ev_X3_forget) ?_
  refine g_aload_n dX5_code_34 rfl ?_
  refine g_getR dX5_code_35 fX5_12 rfl rfl ?_
  refine g_V0 dX5_code_38 vX5_48 rfl (Nat.le_of_ble_eq_true rfl) (by decide) (Ev_r (r' := some (.int (nI (d + c)))) ev_X2_width (by simp [r_up, upd, r_fill, r_idn, r_ren, r_lclr, r_clr, r_cf, nI_add])) ?_
  exact g_iret dX5_code_41 rfl ⟨rfl, rfl⟩

set_option maxRecDepth 4000 in
theorem ev_X5_code_no {σ : r_Sg} {d c : Int32} (hno : ¬ ∃ a b : Nat, r_ok a b ∧ d = nI a ∧ c = nI b) : Ev 4 MX5_code [.ref 0, .int d, .int c] σ (some (.int (-2))) σ := by
  rw [r_guard] at hno
  refine Ev_w [.ref 0, .int d, .int c] ?_ (by decide) rfl (Nat.le_of_ble_eq_true rfl) rfl
  refine g_iload_n dX5_code_0 rfl ?_
  refine g_iload_n dX5_code_1 rfl ?_
  refine g_S2 dX5_code_2 vX5_34 (Nat.le_of_ble_eq_true rfl) (by decide) (ev_X2_allows) ?_
  refine g_ifne (tgt := 11) dX5_code_5 (by decide) (fun c5 => absurd (bI_0.mpr hno) c5) (fun c5 => ?_)
  refine g_bipush (v := (-2)) dX5_code_8 (by decide) ?_
  exact g_iret dX5_code_10 rfl ⟨rfl, rfl⟩

set_option maxRecDepth 4000 in
theorem ev_X5_column {σ : r_Sg} {w : Nat} {b : Int32} (hw : σ 1 3 + σ 1 4 = nI w) (hw20 : w ≤ 20) : Ev 2 MX5_column [.ref 0, .int b] σ (some (.int (if 0 ≤ b ∧ b < nI w then σ 2 b.toNatClampNeg else -1))) σ := by
  refine Ev_w [.ref 0, .int b] ?_ (by decide) rfl (Nat.le_of_ble_eq_true rfl) rfl
  refine g_aload_n dX5_column_0 rfl ?_
  refine g_getR dX5_column_1 fX5_12 rfl rfl ?_
  refine g_iload_n dX5_column_4 rfl ?_
  refine g_V1 dX5_column_5 vX5_52 rfl (Nat.le_of_ble_eq_true rfl) (by decide) (ev_X2_hasBit) ?_
  refine g_ifeq (tgt := 22) dX5_column_8 (by decide) (fun c8 => ?_) (fun c8 => ?_)
  · have q8 := bI_0.mp c8
    rw [hw] at q8
    refine g_iconst (v := (-1)) dX5_column_22 (by decide) ?_
    exact g_iret dX5_column_23 rfl ⟨by first | rw [if_neg q8] | rw [if_pos q8, nI_clamp (by omega)], rfl⟩
  · have q8 := bI_1.mp c8
    rw [hw] at q8
    obtain ⟨j, hj, rfl⟩ := r_nat q8 (by omega)
    refine g_aload_n dX5_column_11 rfl ?_
    refine g_getR dX5_column_12 fX5_12 rfl rfl ?_
    refine g_iload_n dX5_column_15 rfl ?_
    refine g_V1 dX5_column_16 vX5_56 rfl (Nat.le_of_ble_eq_true rfl) (by decide) (ev_X2_columnOf (by omega)) ?_
    refine g_goto (tgt := 23) dX5_column_19 (by decide) ?_
    exact g_iret dX5_column_23 rfl ⟨by first | rw [if_neg q8] | rw [if_pos q8, nI_clamp (by omega)], rfl⟩

set_option maxRecDepth 4000 in
theorem ev_X5_ones {σ : r_Sg} {c : Nat} {b : Int32} (hc : σ 1 4 = nI c) (hc6 : c ≤ 6) : Ev 1 MX5_ones [.ref 0, .int b] σ (some (.int (if 0 ≤ b ∧ b < nI c then σ 3 b.toNatClampNeg else -1))) σ := by
  refine Ev_w [.ref 0, .int b] ?_ (by decide) rfl (Nat.le_of_ble_eq_true rfl) rfl
  refine g_aload_n dX5_ones_0 rfl ?_
  refine g_getR dX5_ones_1 fX5_12 rfl rfl ?_
  refine g_iload_n dX5_ones_4 rfl ?_
  refine g_V1 dX5_ones_5 vX5_60 rfl (Nat.le_of_ble_eq_true rfl) (by decide) (ev_X2_hasRow) ?_
  refine g_ifeq (tgt := 22) dX5_ones_8 (by decide) (fun c8 => ?_) (fun c8 => ?_)
  · have q8 := bI_0.mp c8
    rw [hc] at q8
    refine g_iconst (v := (-1)) dX5_ones_22 (by decide) ?_
    exact g_iret dX5_ones_23 rfl ⟨by first | rw [if_neg q8] | rw [if_pos q8, nI_clamp (by omega)], rfl⟩
  · have q8 := bI_1.mp c8
    rw [hc] at q8
    obtain ⟨j, hj, rfl⟩ := r_nat q8 (by omega)
    refine g_aload_n dX5_ones_11 rfl ?_
    refine g_getR dX5_ones_12 fX5_12 rfl rfl ?_
    refine g_iload_n dX5_ones_15 rfl ?_
    refine g_V1 dX5_ones_16 vX5_63 rfl (Nat.le_of_ble_eq_true rfl) (by decide) (ev_X2_onesOfRow (by omega)) ?_
    refine g_goto (tgt := 23) dX5_ones_19 (by decide) ?_
    exact g_iret dX5_ones_23 rfl ⟨by first | rw [if_neg q8] | rw [if_pos q8, nI_clamp (by omega)], rfl⟩

set_option maxRecDepth 4000 in
theorem ev_X5_word {σ : r_Sg} {w : Nat} {v : Int32} (hw : σ 1 3 + σ 1 4 = nI w) (hw20 : w ≤ 20) : Ev 3 MX5_word [.ref 0, .int v] σ (some (.int (if 0 < σ 1 4 then (if 0 ≤ v ∧ v < 1 <<< (σ 1 3 &&& 31) then v ||| (r_syn (σ 2) v w <<< (σ 1 3 &&& 31)) else -2) else -3))) σ := by
  refine Ev_w [.ref 0, .int v] ?_ (by decide) rfl (Nat.le_of_ble_eq_true rfl) rfl
  refine g_aload_n dX5_word_0 rfl ?_
  refine g_getR dX5_word_1 fX5_12 rfl rfl ?_
  refine g_V0 dX5_word_4 vX5_66 rfl (Nat.le_of_ble_eq_true rfl) (by decide) (ev_X2_stands) ?_
  refine g_ifne (tgt := 13) dX5_word_7 (by decide) (fun c7 => ?_) (fun c7 => ?_)
  · have q7 := bI_1.mp c7
    refine g_aload_n dX5_word_13 rfl ?_
    refine g_getR dX5_word_14 fX5_12 rfl rfl ?_
    refine g_iload_n dX5_word_17 rfl ?_
    refine g_V1 dX5_word_18 vX5_70 rfl (Nat.le_of_ble_eq_true rfl) (by decide) (ev_X2_hasValue) ?_
    refine g_ifeq (tgt := 35) dX5_word_21 (by decide) (fun c21 => ?_) (fun c21 => ?_)
    · have q21 := bI_0.mp c21
      refine g_bipush (v := (-2)) dX5_word_35 (by decide) ?_
      exact g_iret dX5_word_37 rfl ⟨by first | rw [if_pos q7, if_pos q21] | rw [if_pos q7, if_neg q21], rfl⟩
    · have q21 := bI_1.mp c21
      refine g_aload_n dX5_word_24 rfl ?_
      refine g_getR dX5_word_25 fX5_12 rfl rfl ?_
      refine g_iload_n dX5_word_28 rfl ?_
      refine g_V1 dX5_word_29 vX5_73 rfl (Nat.le_of_ble_eq_true rfl) (by decide) (ev_X2_wordOf (by first | assumption | omega) (by first | assumption | omega)) ?_
      refine g_goto (tgt := 37) dX5_word_32 (by decide) ?_
      exact g_iret dX5_word_37 rfl ⟨by first | rw [if_pos q7, if_pos q21] | rw [if_pos q7, if_neg q21], rfl⟩
  · have q7 := bI_0.mp c7
    refine g_bipush (v := (-3)) dX5_word_10 (by decide) ?_
    exact g_iret dX5_word_12 rfl ⟨by rw [if_neg q7], rfl⟩

set_option maxRecDepth 4000 in
theorem ev_X5_syndrome {σ : r_Sg} {w : Nat} {v : Int32} (hw : σ 1 3 + σ 1 4 = nI w) (hw20 : w ≤ 20) : Ev 3 MX5_syndrome [.ref 0, .int v] σ (some (.int (if 0 < σ 1 4 then (if 0 ≤ v ∧ v ≤ (1 <<< ((σ 1 3 + σ 1 4) &&& 31)) - 1 then r_syn (σ 2) v w else -2) else -3))) σ := by
  refine Ev_w [.ref 0, .int v] ?_ (by decide) rfl (Nat.le_of_ble_eq_true rfl) rfl
  refine g_aload_n dX5_syndrome_0 rfl ?_
  refine g_getR dX5_syndrome_1 fX5_12 rfl rfl ?_
  refine g_V0 dX5_syndrome_4 vX5_66 rfl (Nat.le_of_ble_eq_true rfl) (by decide) (ev_X2_stands) ?_
  refine g_ifne (tgt := 13) dX5_syndrome_7 (by decide) (fun c7 => ?_) (fun c7 => ?_)
  · have q7 := bI_1.mp c7
    refine g_aload_n dX5_syndrome_13 rfl ?_
    refine g_getR dX5_syndrome_14 fX5_12 rfl rfl ?_
    refine g_iload_n dX5_syndrome_17 rfl ?_
    refine g_V1 dX5_syndrome_18 vX5_76 rfl (Nat.le_of_ble_eq_true rfl) (by decide) (ev_X2_hasSet) ?_
    refine g_ifeq (tgt := 35) dX5_syndrome_21 (by decide) (fun c21 => ?_) (fun c21 => ?_)
    · have q21 := bI_0.mp c21
      refine g_bipush (v := (-2)) dX5_syndrome_35 (by decide) ?_
      exact g_iret dX5_syndrome_37 rfl ⟨by first | rw [if_pos q7, if_pos q21] | rw [if_pos q7, if_neg q21], rfl⟩
    · have q21 := bI_1.mp c21
      refine g_aload_n dX5_syndrome_24 rfl ?_
      refine g_getR dX5_syndrome_25 fX5_12 rfl rfl ?_
      refine g_iload_n dX5_syndrome_28 rfl ?_
      refine g_V1 dX5_syndrome_29 vX5_79 rfl (Nat.le_of_ble_eq_true rfl) (by decide) (ev_X2_syndromeOf (by first | assumption | omega) (by first | assumption | omega)) ?_
      refine g_goto (tgt := 37) dX5_syndrome_32 (by decide) ?_
      exact g_iret dX5_syndrome_37 rfl ⟨by first | rw [if_pos q7, if_pos q21] | rw [if_pos q7, if_neg q21], rfl⟩
  · have q7 := bI_0.mp c7
    refine g_bipush (v := (-3)) dX5_syndrome_10 (by decide) ?_
    exact g_iret dX5_syndrome_12 rfl ⟨by rw [if_neg q7], rfl⟩

set_option maxRecDepth 4000 in
theorem ev_X5_mended {σ : r_Sg} {w : Nat} {v : Int32} (hw : σ 1 3 + σ 1 4 = nI w) (hw20 : w ≤ 20) (hs : ∀ v, ∃ y, y < 64 ∧ r_syn (σ 2) v w = nI y) : Ev 3 MX5_mended [.ref 0, .int v] σ (some (.int (if 0 < σ 1 4 then (if 0 ≤ v ∧ v ≤ (1 <<< ((σ 1 3 + σ 1 4) &&& 31)) - 1 then r_men (fun z => σ 4 z.toNatClampNeg) v (r_syn (σ 2) v w) else -2) else -3))) σ := by
  refine Ev_w [.ref 0, .int v] ?_ (by decide) rfl (Nat.le_of_ble_eq_true rfl) rfl
  refine g_aload_n dX5_mended_0 rfl ?_
  refine g_getR dX5_mended_1 fX5_12 rfl rfl ?_
  refine g_V0 dX5_mended_4 vX5_66 rfl (Nat.le_of_ble_eq_true rfl) (by decide) (ev_X2_stands) ?_
  refine g_ifne (tgt := 13) dX5_mended_7 (by decide) (fun c7 => ?_) (fun c7 => ?_)
  · have q7 := bI_1.mp c7
    refine g_aload_n dX5_mended_13 rfl ?_
    refine g_getR dX5_mended_14 fX5_12 rfl rfl ?_
    refine g_iload_n dX5_mended_17 rfl ?_
    refine g_V1 dX5_mended_18 vX5_76 rfl (Nat.le_of_ble_eq_true rfl) (by decide) (ev_X2_hasSet) ?_
    refine g_ifeq (tgt := 35) dX5_mended_21 (by decide) (fun c21 => ?_) (fun c21 => ?_)
    · have q21 := bI_0.mp c21
      refine g_bipush (v := (-2)) dX5_mended_35 (by decide) ?_
      exact g_iret dX5_mended_37 rfl ⟨by first | rw [if_pos q7, if_pos q21] | rw [if_pos q7, if_neg q21], rfl⟩
    · have q21 := bI_1.mp c21
      refine g_aload_n dX5_mended_24 rfl ?_
      refine g_getR dX5_mended_25 fX5_12 rfl rfl ?_
      refine g_iload_n dX5_mended_28 rfl ?_
      obtain ⟨y, hy64, hy⟩ := hs v
      refine g_V1 dX5_mended_29 vX5_82 rfl (Nat.le_of_ble_eq_true rfl) (by decide) (Ev_r (r' := some (.int (r_men (fun z => σ 4 z.toNatClampNeg) v (r_syn (σ 2) v w)))) (ev_X2_mend hw hw20 hy hy64) (by rw [hy, r_mend_men])) ?_
      refine g_goto (tgt := 37) dX5_mended_32 (by decide) ?_
      exact g_iret dX5_mended_37 rfl ⟨by first | rw [if_pos q7, if_pos q21] | rw [if_pos q7, if_neg q21], rfl⟩
  · have q7 := bI_0.mp c7
    refine g_bipush (v := (-3)) dX5_mended_10 (by decide) ?_
    exact g_iret dX5_mended_12 rfl ⟨by rw [if_neg q7], rfl⟩

set_option maxRecDepth 4000 in
theorem ev_X6_column {σ : r_Sg} {w : Nat} {b : Int32} (hw : σ 19 0 + σ 19 1 = nI w) (hw20 : w ≤ 20) : Ev 2 MX6_column [.ref 19, .int b] σ (some (.int (if 0 ≤ b ∧ b < nI w then σ 20 b.toNatClampNeg else -1))) σ := by
  refine Ev_w [.ref 19, .int b] ?_ (by decide) rfl (Nat.le_of_ble_eq_true rfl) rfl
  refine g_aload_n dX6_column_0 rfl ?_
  refine g_iload_n dX6_column_1 rfl ?_
  refine g_V1 dX6_column_2 vX6_92 rfl (Nat.le_of_ble_eq_true rfl) (by decide) (ev_X6_isBit) ?_
  refine g_ifeq (tgt := 17) dX6_column_5 (by decide) (fun c5 => ?_) (fun c5 => ?_)
  · have q8 := bI_0.mp c5
    rw [hw, r_le1 (by omega)] at q8
    refine g_iconst (v := (-1)) dX6_column_17 (by decide) ?_
    exact g_iret dX6_column_18 rfl ⟨by first | rw [if_neg q8] | rw [if_pos q8, nI_clamp (by omega)], rfl⟩
  · have q8 := bI_1.mp c5
    rw [hw, r_le1 (by omega)] at q8
    obtain ⟨j, hj, rfl⟩ := r_nat q8 (by omega)
    refine g_aload_n dX6_column_8 rfl ?_
    refine g_getR dX6_column_9 fX6_7 rfl rfl ?_
    refine g_iload_n dX6_column_12 rfl ?_
    refine g_ial _ dX6_column_13 rfl rfl (by omega) ?_
    refine g_goto (tgt := 18) dX6_column_14 (by decide) ?_
    exact g_iret dX6_column_18 rfl ⟨by first | rw [if_neg q8] | rw [if_pos q8, nI_clamp (by omega)], rfl⟩

set_option maxRecDepth 4000 in
theorem ev_X6_ones {σ : r_Sg} {c : Nat} {b : Int32} (hc : σ 19 1 = nI c) (hc6 : c ≤ 6) : Ev 1 MX6_ones [.ref 19, .int b] σ (some (.int (if 0 ≤ b ∧ b < nI c then σ 21 b.toNatClampNeg else -1))) σ := by
  refine Ev_w [.ref 19, .int b] ?_ (by decide) rfl (Nat.le_of_ble_eq_true rfl) rfl
  refine g_iload_n dX6_ones_0 rfl ?_
  refine g_iconst (v := 0) dX6_ones_1 (by decide) ?_
  refine g_aload_n dX6_ones_2 rfl ?_
  refine g_getI dX6_ones_3 fX6_61 rfl rfl ?_
  refine g_iconst (v := 1) dX6_ones_6 (by decide) ?_
  refine g_isub dX6_ones_7 ?_
  refine g_S3 dX6_ones_8 vX6_68 (Nat.le_of_ble_eq_true rfl) (by decide) (ev_X6_within) ?_
  refine g_ifeq (tgt := 23) dX6_ones_11 (by decide) (fun c11 => ?_) (fun c11 => ?_)
  · have q8 := bI_0.mp c11
    rw [hc, r_le1 (by omega)] at q8
    refine g_iconst (v := (-1)) dX6_ones_23 (by decide) ?_
    exact g_iret dX6_ones_24 rfl ⟨by first | rw [if_neg q8] | rw [if_pos q8, nI_clamp (by omega)], rfl⟩
  · have q8 := bI_1.mp c11
    rw [hc, r_le1 (by omega)] at q8
    obtain ⟨j, hj, rfl⟩ := r_nat q8 (by omega)
    refine g_aload_n dX6_ones_14 rfl ?_
    refine g_getR dX6_ones_15 fX6_13 rfl rfl ?_
    refine g_iload_n dX6_ones_18 rfl ?_
    refine g_ial _ dX6_ones_19 rfl rfl (by omega) ?_
    refine g_goto (tgt := 24) dX6_ones_20 (by decide) ?_
    exact g_iret dX6_ones_24 rfl ⟨by first | rw [if_neg q8] | rw [if_pos q8, nI_clamp (by omega)], rfl⟩

set_option maxRecDepth 4000 in
theorem ev_X6_syndromeOf {σ : r_Sg} {w : Nat} {set : Int32} (hw : σ 19 0 + σ 19 1 = nI w) (hw20 : w ≤ 20) : Ev 1 MX6_syndromeOf [.ref 19, .int set] σ (some (.int (r_syn (σ 20) set w))) σ := by
  refine Ev_w [.ref 19, .int set, .null, .null] ?_ (by decide) rfl (Nat.le_of_ble_eq_true rfl) rfl
  refine g_iconst (v := 0) dX6_syndromeOf_0 (by decide) ?_
  refine g_istore_n dX6_syndromeOf_1 (by decide) rfl ?_
  refine g_iconst (v := 0) dX6_syndromeOf_2 (by decide) ?_
  refine g_istore_n dX6_syndromeOf_3 (by decide) rfl ?_
  refine r_loop (n := w) (fun k => [.ref 19, .int set, .int (r_syn (σ 20) set k), .int (nI k)]) (fun k => σ) (fun k hk ih => ?_) ?_
  · refine g_iload_n dX6_syndromeOf_4 rfl ?_
    refine g_aload_n dX6_syndromeOf_5 rfl ?_
    refine g_V0 dX6_syndromeOf_6 vX6_64 rfl (Nat.le_of_ble_eq_true rfl) (by decide) (Ev_r (r' := some (.int (nI w))) ev_X6_bits (by rw [hw])) ?_
    refine g_icge (tgt := 40) dX6_syndromeOf_9 (by decide) (fun c9 => absurd c9 (nI_ge hk (by omega))) (fun c9 => ?_)
    refine g_iload_n dX6_syndromeOf_12 rfl ?_
    refine g_iload_n dX6_syndromeOf_13 rfl ?_
    refine g_iload_n dX6_syndromeOf_14 rfl ?_
    refine g_S2 dX6_syndromeOf_15 vX6_53 (Nat.le_of_ble_eq_true rfl) (by decide) (ev_X6_isIn) ?_
    refine g_iconst (v := 1) dX6_syndromeOf_18 (by decide) ?_
    refine g_icne (tgt := 31) dX6_syndromeOf_19 (by decide) (fun c19 => ?_) (fun c19 => ?_)
    · have q19 : r_b set k = 0 := (r_b01 set k).resolve_right c19
      refine g_iconst (v := 0) dX6_syndromeOf_31 (by decide) ?_
      refine g_ixor dX6_syndromeOf_32 ?_
      refine g_istore_n dX6_syndromeOf_33 (by decide) rfl ?_
      refine g_iinc (v := nI (k + 1)) dX6_syndromeOf_34 rfl (nI_1 k) (by decide) rfl ?_
      refine g_goto (tgt := 4) dX6_syndromeOf_37 (by decide) ?_
      exact g_l (by simp [r_ls, r_syn, q19]) ih
    · have q19 : ¬ r_b set k = 0 := by rw [c19]; decide
      refine g_aload_n dX6_syndromeOf_22 rfl ?_
      refine g_getR dX6_syndromeOf_23 fX6_7 rfl rfl ?_
      refine g_iload_n dX6_syndromeOf_26 rfl ?_
      refine g_ial _ dX6_syndromeOf_27 rfl rfl (by omega) ?_
      refine g_goto (tgt := 32) dX6_syndromeOf_28 (by decide) ?_
      refine g_ixor dX6_syndromeOf_32 ?_
      refine g_istore_n dX6_syndromeOf_33 (by decide) rfl ?_
      refine g_iinc (v := nI (k + 1)) dX6_syndromeOf_34 rfl (nI_1 k) (by decide) rfl ?_
      refine g_goto (tgt := 4) dX6_syndromeOf_37 (by decide) ?_
      exact g_l (by simp [r_ls, r_syn, q19]) ih
  · refine g_iload_n dX6_syndromeOf_4 rfl ?_
    refine g_aload_n dX6_syndromeOf_5 rfl ?_
    refine g_V0 dX6_syndromeOf_6 vX6_64 rfl (Nat.le_of_ble_eq_true rfl) (by decide) (Ev_r (r' := some (.int (nI w))) ev_X6_bits (by rw [hw])) ?_
    refine g_icge (tgt := 40) dX6_syndromeOf_9 (by decide) (fun c9 => ?_) (fun c9 => absurd (nI_le (Nat.le_refl _) (by omega)) c9)
    refine g_iload_n dX6_syndromeOf_40 rfl ?_
    exact g_iret dX6_syndromeOf_41 rfl ⟨rfl, rfl⟩

set_option maxRecDepth 4000 in
theorem ev_X6_wordOf {σ : r_Sg} {w : Nat} {v : Int32} (hw : σ 19 0 + σ 19 1 = nI w) (hw20 : w ≤ 20) : Ev 2 MX6_wordOf [.ref 19, .int v] σ (some (.int (v ||| (r_syn (σ 20) v w <<< (σ 19 0 &&& 31))))) σ := by
  refine Ev_w [.ref 19, .int v] ?_ (by decide) rfl (Nat.le_of_ble_eq_true rfl) rfl
  refine g_iload_n dX6_wordOf_0 rfl ?_
  refine g_aload_n dX6_wordOf_1 rfl ?_
  refine g_iload_n dX6_wordOf_2 rfl ?_
  refine g_V1 dX6_wordOf_3 vX6_96 rfl (Nat.le_of_ble_eq_true rfl) (by decide) (ev_X6_syndromeOf (by first | assumption | omega) (by first | assumption | omega)) ?_
  refine g_aload_n dX6_wordOf_6 rfl ?_
  refine g_getI dX6_wordOf_7 fX6_57 rfl rfl ?_
  refine g_ishl dX6_wordOf_10 ?_
  refine g_ior dX6_wordOf_11 ?_
  exact g_iret dX6_wordOf_12 rfl ⟨rfl, rfl⟩

set_option maxRecDepth 4000 in
theorem ev_X6_bitOf {σ : r_Sg} {w : Nat} {y : Int32} (hw : σ 19 0 + σ 19 1 = nI w) (hw20 : w ≤ 20) : Ev 1 MX6_bitOf [.ref 19, .int y] σ (some (.int (r_bit (σ 20) w y))) σ := by
  refine Ev_w [.ref 19, .int y, .null] ?_ (by decide) rfl (Nat.le_of_ble_eq_true rfl) rfl
  refine g_iconst (v := 0) dX6_bitOf_0 (by decide) ?_
  refine g_istore_n dX6_bitOf_1 (by decide) rfl ?_
  have hJle := r_fst_le (fun j => decide (σ 20 j = y)) w
  refine r_loop (n := r_fst (fun j => decide (σ 20 j = y)) w) (fun k => [.ref 19, .int y, .int (nI k)]) (fun k => σ) (fun k hk ih => ?_) ?_
  · have hP := r_fst_not hk
    refine g_iload_n dX6_bitOf_2 rfl ?_
    refine g_aload_n dX6_bitOf_3 rfl ?_
    refine g_V0 dX6_bitOf_4 vX6_64 rfl (Nat.le_of_ble_eq_true rfl) (by decide) (Ev_r (r' := some (.int (nI w))) ev_X6_bits (by rw [hw])) ?_
    refine g_icge (tgt := 28) dX6_bitOf_7 (by decide) (fun c7 => absurd c7 (nI_ge (show k < w by omega) (by omega))) (fun c7 => ?_)
    refine g_aload_n dX6_bitOf_10 rfl ?_
    refine g_getR dX6_bitOf_11 fX6_7 rfl rfl ?_
    refine g_iload_n dX6_bitOf_14 rfl ?_
    refine g_ial _ dX6_bitOf_15 rfl rfl (by omega) ?_
    refine g_iload_n dX6_bitOf_16 rfl ?_
    refine g_icne (tgt := 22) dX6_bitOf_17 (by decide) (fun c17 => ?_) (fun c17 => absurd c17 (by simpa using hP))
    refine g_iinc (v := nI (k + 1)) dX6_bitOf_22 rfl (nI_1 k) (by decide) rfl ?_
    refine g_goto (tgt := 2) dX6_bitOf_25 (by decide) ?_
    exact ih
  · by_cases hJ : r_fst (fun j => decide (σ 20 j = y)) w < w
    · have hP := r_fst_at hJ
      refine g_iload_n dX6_bitOf_2 rfl ?_
      refine g_aload_n dX6_bitOf_3 rfl ?_
      refine g_V0 dX6_bitOf_4 vX6_64 rfl (Nat.le_of_ble_eq_true rfl) (by decide) (Ev_r (r' := some (.int (nI w))) ev_X6_bits (by rw [hw])) ?_
      refine g_icge (tgt := 28) dX6_bitOf_7 (by decide) (fun c7 => absurd c7 (nI_ge hJ (by omega))) (fun c7 => ?_)
      refine g_aload_n dX6_bitOf_10 rfl ?_
      refine g_getR dX6_bitOf_11 fX6_7 rfl rfl ?_
      refine g_iload_n dX6_bitOf_14 rfl ?_
      refine g_ial _ dX6_bitOf_15 rfl rfl (by omega) ?_
      refine g_iload_n dX6_bitOf_16 rfl ?_
      refine g_icne (tgt := 22) dX6_bitOf_17 (by decide) (fun c17 => absurd (by simpa using hP) c17) (fun c17 => ?_)
      refine g_iload_n dX6_bitOf_20 rfl ?_
      exact g_iret dX6_bitOf_21 rfl ⟨by rw [r_bit, if_pos hJ], rfl⟩
    · refine g_iload_n dX6_bitOf_2 rfl ?_
      refine g_aload_n dX6_bitOf_3 rfl ?_
      refine g_V0 dX6_bitOf_4 vX6_64 rfl (Nat.le_of_ble_eq_true rfl) (by decide) (Ev_r (r' := some (.int (nI w))) ev_X6_bits (by rw [hw])) ?_
      refine g_icge (tgt := 28) dX6_bitOf_7 (by decide) (fun c7 => ?_) (fun c7 => absurd (nI_le (show w ≤ r_fst (fun j => decide (σ 20 j = y)) w by omega) (by omega)) c7)
      refine g_bipush (v := (-9)) dX6_bitOf_28 (by decide) ?_
      exact g_iret dX6_bitOf_30 rfl ⟨by rw [r_bit, if_neg hJ], rfl⟩

set_option maxRecDepth 4000 in
theorem ev_X6_mendedOf {σ : r_Sg} {w : Nat} {v : Int32} (hw : σ 19 0 + σ 19 1 = nI w) (hw20 : w ≤ 20) : Ev 2 MX6_mendedOf [.ref 19, .int v] σ (some (.int (r_men (r_bit (σ 20) w) v (r_syn (σ 20) v w)))) σ := by
  refine Ev_w [.ref 19, .int v, .null, .null] ?_ (by decide) rfl (Nat.le_of_ble_eq_true rfl) rfl
  refine g_aload_n dX6_mendedOf_0 rfl ?_
  refine g_iload_n dX6_mendedOf_1 rfl ?_
  refine g_V1 dX6_mendedOf_2 vX6_96 rfl (Nat.le_of_ble_eq_true rfl) (by decide) (ev_X6_syndromeOf (by first | assumption | omega) (by first | assumption | omega)) ?_
  refine g_istore_n dX6_mendedOf_5 (by decide) rfl ?_
  refine g_iload_n dX6_mendedOf_6 rfl ?_
  refine g_ifne (tgt := 12) dX6_mendedOf_7 (by decide) (fun c7 => ?_) (fun c7 => ?_)
  · refine g_aload_n dX6_mendedOf_12 rfl ?_
    refine g_iload_n dX6_mendedOf_13 rfl ?_
    refine g_V1 dX6_mendedOf_14 vX6_99 rfl (Nat.le_of_ble_eq_true rfl) (by decide) (ev_X6_bitOf (by first | assumption | omega) (by first | assumption | omega)) ?_
    refine g_istore_n dX6_mendedOf_17 (by decide) rfl ?_
    refine g_iload_n dX6_mendedOf_18 rfl ?_
    refine g_bipush (v := (-9)) dX6_mendedOf_19 (by decide) ?_
    refine g_icne (tgt := 29) dX6_mendedOf_21 (by decide) (fun c21 => ?_) (fun c21 => ?_)
    · refine g_iload_n dX6_mendedOf_29 rfl ?_
      refine g_iconst (v := 1) dX6_mendedOf_30 (by decide) ?_
      refine g_iload_n dX6_mendedOf_31 rfl ?_
      refine g_ishl dX6_mendedOf_32 ?_
      refine g_ixor dX6_mendedOf_33 ?_
      exact g_iret dX6_mendedOf_34 rfl ⟨by simp [r_men, *], rfl⟩
    · refine g_bipush (v := (-5)) dX6_mendedOf_24 (by decide) ?_
      refine g_goto (tgt := 34) dX6_mendedOf_26 (by decide) ?_
      exact g_iret dX6_mendedOf_34 rfl ⟨by simp [r_men, *], rfl⟩
  · refine g_iload_n dX6_mendedOf_10 rfl ?_
    exact g_iret dX6_mendedOf_11 rfl ⟨by simp [r_men, *], rfl⟩

set_option maxRecDepth 4000 in
theorem ev_X6_word {σ : r_Sg} {w : Nat} {v : Int32} (hw : σ 19 0 + σ 19 1 = nI w) (hw20 : w ≤ 20) : Ev 3 MX6_word [.ref 19, .int v] σ (some (.int (if σ 19 0 = 0 then -3 else if 0 ≤ v ∧ v ≤ (1 <<< (σ 19 0 &&& 31)) - 1 then v ||| (r_syn (σ 20) v w <<< (σ 19 0 &&& 31)) else -2))) σ := by
  refine Ev_w [.ref 19, .int v] ?_ (by decide) rfl (Nat.le_of_ble_eq_true rfl) rfl
  refine g_aload_n dX6_word_0 rfl ?_
  refine g_getI dX6_word_1 fX6_57 rfl rfl ?_
  refine g_ifne (tgt := 10) dX6_word_4 (by decide) (fun c4 => ?_) (fun c4 => ?_)
  · refine g_iload_n dX6_word_10 rfl ?_
    refine g_iconst (v := 0) dX6_word_11 (by decide) ?_
    refine g_iconst (v := 1) dX6_word_12 (by decide) ?_
    refine g_aload_n dX6_word_13 rfl ?_
    refine g_getI dX6_word_14 fX6_57 rfl rfl ?_
    refine g_ishl dX6_word_17 ?_
    refine g_iconst (v := 1) dX6_word_18 (by decide) ?_
    refine g_isub dX6_word_19 ?_
    refine g_S3 dX6_word_20 vX6_68 (Nat.le_of_ble_eq_true rfl) (by decide) (ev_X6_within) ?_
    refine g_ifeq (tgt := 34) dX6_word_23 (by decide) (fun c23 => ?_) (fun c23 => ?_)
    · have q21 := bI_0.mp c23
      refine g_bipush (v := (-2)) dX6_word_34 (by decide) ?_
      exact g_iret dX6_word_36 rfl ⟨by first | rw [if_neg c4, if_pos q21] | rw [if_neg c4, if_neg q21], rfl⟩
    · have q21 := bI_1.mp c23
      refine g_aload_n dX6_word_26 rfl ?_
      refine g_iload_n dX6_word_27 rfl ?_
      refine g_V1 dX6_word_28 vX6_102 rfl (Nat.le_of_ble_eq_true rfl) (by decide) (ev_X6_wordOf (by first | assumption | omega) (by first | assumption | omega)) ?_
      refine g_goto (tgt := 36) dX6_word_31 (by decide) ?_
      exact g_iret dX6_word_36 rfl ⟨by first | rw [if_neg c4, if_pos q21] | rw [if_neg c4, if_neg q21], rfl⟩
  · refine g_bipush (v := (-3)) dX6_word_7 (by decide) ?_
    exact g_iret dX6_word_9 rfl ⟨by rw [if_pos c4], rfl⟩

set_option maxRecDepth 4000 in
theorem ev_X6_syndrome {σ : r_Sg} {w : Nat} {v : Int32} (hw : σ 19 0 + σ 19 1 = nI w) (hw20 : w ≤ 20) : Ev 3 MX6_syndrome [.ref 19, .int v] σ (some (.int (if σ 19 0 = 0 then -3 else if 0 ≤ v ∧ v ≤ (1 <<< ((σ 19 0 + σ 19 1) &&& 31)) - 1 then r_syn (σ 20) v w else -2))) σ := by
  refine Ev_w [.ref 19, .int v] ?_ (by decide) rfl (Nat.le_of_ble_eq_true rfl) rfl
  refine g_aload_n dX6_syndrome_0 rfl ?_
  refine g_getI dX6_syndrome_1 fX6_57 rfl rfl ?_
  refine g_ifne (tgt := 10) dX6_syndrome_4 (by decide) (fun c4 => ?_) (fun c4 => ?_)
  · refine g_aload_n dX6_syndrome_10 rfl ?_
    refine g_iload_n dX6_syndrome_11 rfl ?_
    refine g_V1 dX6_syndrome_12 vX6_105 rfl (Nat.le_of_ble_eq_true rfl) (by decide) (ev_X6_isSet) ?_
    refine g_ifeq (tgt := 26) dX6_syndrome_15 (by decide) (fun c15 => ?_) (fun c15 => ?_)
    · have q21 := bI_0.mp c15
      refine g_bipush (v := (-2)) dX6_syndrome_26 (by decide) ?_
      exact g_iret dX6_syndrome_28 rfl ⟨by first | rw [if_neg c4, if_pos q21] | rw [if_neg c4, if_neg q21], rfl⟩
    · have q21 := bI_1.mp c15
      refine g_aload_n dX6_syndrome_18 rfl ?_
      refine g_iload_n dX6_syndrome_19 rfl ?_
      refine g_V1 dX6_syndrome_20 vX6_96 rfl (Nat.le_of_ble_eq_true rfl) (by decide) (ev_X6_syndromeOf (by first | assumption | omega) (by first | assumption | omega)) ?_
      refine g_goto (tgt := 28) dX6_syndrome_23 (by decide) ?_
      exact g_iret dX6_syndrome_28 rfl ⟨by first | rw [if_neg c4, if_pos q21] | rw [if_neg c4, if_neg q21], rfl⟩
  · refine g_bipush (v := (-3)) dX6_syndrome_7 (by decide) ?_
    exact g_iret dX6_syndrome_9 rfl ⟨by rw [if_pos c4], rfl⟩

set_option maxRecDepth 4000 in
theorem ev_X6_mended {σ : r_Sg} {w : Nat} {v : Int32} (hw : σ 19 0 + σ 19 1 = nI w) (hw20 : w ≤ 20) : Ev 3 MX6_mended [.ref 19, .int v] σ (some (.int (if σ 19 0 = 0 then -3 else if 0 ≤ v ∧ v ≤ (1 <<< ((σ 19 0 + σ 19 1) &&& 31)) - 1 then r_men (r_bit (σ 20) w) v (r_syn (σ 20) v w) else -2))) σ := by
  refine Ev_w [.ref 19, .int v] ?_ (by decide) rfl (Nat.le_of_ble_eq_true rfl) rfl
  refine g_aload_n dX6_mended_0 rfl ?_
  refine g_getI dX6_mended_1 fX6_57 rfl rfl ?_
  refine g_ifne (tgt := 10) dX6_mended_4 (by decide) (fun c4 => ?_) (fun c4 => ?_)
  · refine g_aload_n dX6_mended_10 rfl ?_
    refine g_iload_n dX6_mended_11 rfl ?_
    refine g_V1 dX6_mended_12 vX6_105 rfl (Nat.le_of_ble_eq_true rfl) (by decide) (ev_X6_isSet) ?_
    refine g_ifeq (tgt := 26) dX6_mended_15 (by decide) (fun c15 => ?_) (fun c15 => ?_)
    · have q21 := bI_0.mp c15
      refine g_bipush (v := (-2)) dX6_mended_26 (by decide) ?_
      exact g_iret dX6_mended_28 rfl ⟨by first | rw [if_neg c4, if_pos q21] | rw [if_neg c4, if_neg q21], rfl⟩
    · have q21 := bI_1.mp c15
      refine g_aload_n dX6_mended_18 rfl ?_
      refine g_iload_n dX6_mended_19 rfl ?_
      refine g_V1 dX6_mended_20 vX6_108 rfl (Nat.le_of_ble_eq_true rfl) (by decide) (ev_X6_mendedOf (by first | assumption | omega) (by first | assumption | omega)) ?_
      refine g_goto (tgt := 28) dX6_mended_23 (by decide) ?_
      exact g_iret dX6_mended_28 rfl ⟨by first | rw [if_neg c4, if_pos q21] | rw [if_neg c4, if_neg q21], rfl⟩
  · refine g_bipush (v := (-3)) dX6_mended_7 (by decide) ?_
    exact g_iret dX6_mended_9 rfl ⟨by rw [if_pos c4], rfl⟩
end
section
/-! Cells (cell 6: 7 values, 8 stuck, 9 marks) and Log (cell 10), as they are written -/
theorem r_ix (r p : Nat) : nI r * nI 21 + nI p = nI (21 * r + p) := by rw [pk_mul, nI_add, Nat.mul_comm]
theorem r_rx (f w : Nat) : nI f * nI 4 + nI w = nI (4 * f + w) := by rw [pk_mul, nI_add, Nat.mul_comm]
def r_bm (p : Nat) : Int32 := 1 <<< (nI p &&& 31)
def r_pt (x k ones pl : Int32) : Int32 := (x &&& ((pl &&& (k ^^^ -1)) ^^^ -1)) ||| (ones &&& (pl &&& (k ^^^ -1)))
def r_sv (x : Int32) (p : Nat) (v : Int32) : Int32 := (x &&& (r_bm p ^^^ -1)) ||| (v <<< (nI p &&& 31))
def r_lo (x : Int32) (p : Nat) : Int32 := x &&& (r_bm p ^^^ -1)
def r_hi (x : Int32) (p : Nat) : Int32 := x ||| r_bm p
def c_ren (σ : r_Sg) (r p : Nat) (v : Int32) : r_Sg := r_up (r_up (r_up σ 7 r (r_sv (σ 7 r) p v)) 8 r (r_lo (σ 8 r) p)) 9 (21 * r + p) 0
def c_cp (σ : r_Sg) (a b : Nat) : Nat → r_Sg
  | 0 => σ
  | r + 1 => c_ren (c_cp σ a b r) r b (r_b (c_cp σ a b r 7 r) a)
def c_cfi (σ : r_Sg) (sr tr : Nat) : Nat → r_Sg
  | 0 => σ
  | q + 1 => c_ren (c_cfi σ sr tr q) tr q (r_b (c_cfi σ sr tr q 7 sr) q)
def c_cfo (σ : r_Sg) (f g : Nat) : Nat → r_Sg
  | 0 => σ
  | w + 1 => c_cfi (c_cfo σ f g w) (4 * f + w) (4 * g + w) 21
/-- counted up from a -/
def r_cna (P : Nat → Bool) (a : Int32) : Nat → Int32
  | 0 => a
  | n + 1 => if P n then r_cna P a n + 1 else r_cna P a n
def c_bf (σ : r_Sg) (f : Nat) (pl : Int32) : Nat → Int32
  | 0 => 0
  | w + 1 => r_cna (fun q => decide (¬ r_b pl q = 0 ∧ 2 ≤ σ 9 (21 * (4 * f + w) + q))) (c_bf σ f pl w) 21
def c_sf (σ : r_Sg) (f : Nat) (pl : Int32) : Nat → Int32
  | 0 => 0
  | w + 1 => c_sf σ f pl w + r_bc (σ 8 (4 * f + w) &&& pl)
/-- a look is noted -/
def c_nl (σ : r_Sg) (kind : Nat) (bit p w : Int32) : r_Sg := r_up (r_up (r_up (r_up (r_up (r_up (r_up σ 11 kind (σ 11 kind + 1)) 10 4 (nI kind)) 10 5 bit) 10 6 p) 10 7 w) 10 8 0) 10 9 0
/-- a mending is noted -/
def c_nm (σ : r_Sg) (p tc : Nat) (a b : Int32) : r_Sg :=
  let s1 := if σ 12 p = 0 ∧ tc < 4 then r_up (r_up σ 13 tc (nI p)) 10 3 (nI tc + 1) else σ
  r_up (r_up (r_up s1 12 p (s1 12 p + 1)) 10 8 a) 10 9 b

set_option maxRecDepth 4000 in
theorem ev_X1_valuesIn {σ : r_Sg} {r : Nat} (hr : r < 24) : Ev 0 MX1_valuesIn [.ref 6, .int (nI r)] σ (some (.int (σ 7 r))) σ := by
  refine Ev_w [.ref 6, .int (nI r)] ?_ (by decide) rfl (Nat.le_of_ble_eq_true rfl) rfl
  refine g_aload_n dX1_valuesIn_0 rfl ?_
  refine g_getR dX1_valuesIn_1 fX1_13 rfl rfl ?_
  refine g_iload_n dX1_valuesIn_4 rfl ?_
  refine g_ial _ dX1_valuesIn_5 rfl rfl (by omega) ?_
  exact g_iret dX1_valuesIn_6 rfl ⟨rfl, rfl⟩

set_option maxRecDepth 4000 in
theorem ev_X1_put {σ : r_Sg} {r : Nat} {a b : Int32} (hr : r < 24) : Ev 0 MX1_put [.ref 6, .int (nI r), .int a, .int b] σ none (r_up σ 7 r (r_pt (σ 7 r) (σ 8 r) a b)) := by
  refine Ev_w [.ref 6, .int (nI r), .int a, .int b, .null] ?_ (by decide) rfl (Nat.le_of_ble_eq_true rfl) rfl
  refine g_iload_n dX1_put_0 rfl ?_
  refine g_aload_n dX1_put_1 rfl ?_
  refine g_getR dX1_put_2 fX1_17 rfl rfl ?_
  refine g_iload_n dX1_put_5 rfl ?_
  refine g_ial _ dX1_put_6 rfl rfl (by omega) ?_
  refine g_iconst (v := (-1)) dX1_put_7 (by decide) ?_
  refine g_ixor dX1_put_8 ?_
  refine g_iand dX1_put_9 ?_
  refine g_istore dX1_put_10 (by decide) rfl ?_
  refine g_aload_n dX1_put_12 rfl ?_
  refine g_getR dX1_put_13 fX1_13 rfl rfl ?_
  refine g_iload_n dX1_put_16 rfl ?_
  refine g_aload_n dX1_put_17 rfl ?_
  refine g_getR dX1_put_18 fX1_13 rfl rfl ?_
  refine g_iload_n dX1_put_21 rfl ?_
  refine g_ial _ dX1_put_22 rfl rfl (by omega) ?_
  refine g_iload dX1_put_23 rfl ?_
  refine g_iconst (v := (-1)) dX1_put_25 (by decide) ?_
  refine g_ixor dX1_put_26 ?_
  refine g_iand dX1_put_27 ?_
  refine g_iload_n dX1_put_28 rfl ?_
  refine g_iload dX1_put_29 rfl ?_
  refine g_iand dX1_put_31 ?_
  refine g_ior dX1_put_32 ?_
  refine g_ias _ dX1_put_33 rfl rfl (by omega) ?_
  exact g_ret dX1_put_34 rfl ⟨rfl, rfl⟩

set_option maxRecDepth 4000 in
theorem ev_X1_turn {σ : r_Sg} {r : Nat} {b : Int32} (hr : r < 24) : Ev 1 MX1_turn [.ref 6, .int (nI r), .int b] σ (some (.int (r_bc (b &&& (σ 8 r ^^^ -1))))) (r_up σ 7 r (σ 7 r ^^^ (b &&& (σ 8 r ^^^ -1)))) := by
  refine Ev_w [.ref 6, .int (nI r), .int b, .null] ?_ (by decide) rfl (Nat.le_of_ble_eq_true rfl) rfl
  refine g_iload_n dX1_turn_0 rfl ?_
  refine g_aload_n dX1_turn_1 rfl ?_
  refine g_getR dX1_turn_2 fX1_17 rfl rfl ?_
  refine g_iload_n dX1_turn_5 rfl ?_
  refine g_ial _ dX1_turn_6 rfl rfl (by omega) ?_
  refine g_iconst (v := (-1)) dX1_turn_7 (by decide) ?_
  refine g_ixor dX1_turn_8 ?_
  refine g_iand dX1_turn_9 ?_
  refine g_istore_n dX1_turn_10 (by decide) rfl ?_
  refine g_aload_n dX1_turn_11 rfl ?_
  refine g_getR dX1_turn_12 fX1_13 rfl rfl ?_
  refine g_iload_n dX1_turn_15 rfl ?_
  refine g_dup2 dX1_turn_16 rfl rfl ?_
  refine g_ial _ dX1_turn_17 rfl rfl (by omega) ?_
  refine g_iload_n dX1_turn_18 rfl ?_
  refine g_ixor dX1_turn_19 ?_
  refine g_ias _ dX1_turn_20 rfl rfl (by omega) ?_
  refine g_iload_n dX1_turn_21 rfl ?_
  refine g_S1 dX1_turn_22 vX1_29 (Nat.le_of_ble_eq_true rfl) (by decide) (ev_J6_bitCount_0f7a4) ?_
  exact g_iret dX1_turn_25 rfl ⟨rfl, rfl⟩

set_option maxRecDepth 4000 in
theorem ev_X1_valueAt {σ : r_Sg} {r p : Nat} (hr : r < 24) : Ev 0 MX1_valueAt [.ref 6, .int (nI r), .int (nI p)] σ (some (.int (r_b (σ 7 r) p))) σ := by
  refine Ev_w [.ref 6, .int (nI r), .int (nI p)] ?_ (by decide) rfl (Nat.le_of_ble_eq_true rfl) rfl
  refine g_aload_n dX1_valueAt_0 rfl ?_
  refine g_getR dX1_valueAt_1 fX1_13 rfl rfl ?_
  refine g_iload_n dX1_valueAt_4 rfl ?_
  refine g_ial _ dX1_valueAt_5 rfl rfl (by omega) ?_
  refine g_iload_n dX1_valueAt_6 rfl ?_
  refine g_ishr dX1_valueAt_7 ?_
  refine g_iconst (v := 1) dX1_valueAt_8 (by decide) ?_
  refine g_iand dX1_valueAt_9 ?_
  exact g_iret dX1_valueAt_10 rfl ⟨rfl, rfl⟩

set_option maxRecDepth 4000 in
theorem ev_X1_setValue {σ : r_Sg} {r p : Nat} {v : Int32} (hr : r < 24) : Ev 0 MX1_setValue [.ref 6, .int (nI r), .int (nI p), .int v] σ none (r_up σ 7 r (r_sv (σ 7 r) p v)) := by
  refine Ev_w [.ref 6, .int (nI r), .int (nI p), .int v] ?_ (by decide) rfl (Nat.le_of_ble_eq_true rfl) rfl
  refine g_aload_n dX1_setValue_0 rfl ?_
  refine g_getR dX1_setValue_1 fX1_13 rfl rfl ?_
  refine g_iload_n dX1_setValue_4 rfl ?_
  refine g_aload_n dX1_setValue_5 rfl ?_
  refine g_getR dX1_setValue_6 fX1_13 rfl rfl ?_
  refine g_iload_n dX1_setValue_9 rfl ?_
  refine g_ial _ dX1_setValue_10 rfl rfl (by omega) ?_
  refine g_iconst (v := 1) dX1_setValue_11 (by decide) ?_
  refine g_iload_n dX1_setValue_12 rfl ?_
  refine g_ishl dX1_setValue_13 ?_
  refine g_iconst (v := (-1)) dX1_setValue_14 (by decide) ?_
  refine g_ixor dX1_setValue_15 ?_
  refine g_iand dX1_setValue_16 ?_
  refine g_iload_n dX1_setValue_17 rfl ?_
  refine g_iload_n dX1_setValue_18 rfl ?_
  refine g_ishl dX1_setValue_19 ?_
  refine g_ior dX1_setValue_20 ?_
  refine g_ias _ dX1_setValue_21 rfl rfl (by omega) ?_
  exact g_ret dX1_setValue_22 rfl ⟨rfl, rfl⟩

set_option maxRecDepth 4000 in
theorem ev_X1_loosen {σ : r_Sg} {r p : Nat} (hr : r < 24) : Ev 0 MX1_loosen [.ref 6, .int (nI r), .int (nI p)] σ none (r_up σ 8 r (r_lo (σ 8 r) p)) := by
  refine Ev_w [.ref 6, .int (nI r), .int (nI p)] ?_ (by decide) rfl (Nat.le_of_ble_eq_true rfl) rfl
  refine g_aload_n dX1_loosen_0 rfl ?_
  refine g_getR dX1_loosen_1 fX1_17 rfl rfl ?_
  refine g_iload_n dX1_loosen_4 rfl ?_
  refine g_dup2 dX1_loosen_5 rfl rfl ?_
  refine g_ial _ dX1_loosen_6 rfl rfl (by omega) ?_
  refine g_iconst (v := 1) dX1_loosen_7 (by decide) ?_
  refine g_iload_n dX1_loosen_8 rfl ?_
  refine g_ishl dX1_loosen_9 ?_
  refine g_iconst (v := (-1)) dX1_loosen_10 (by decide) ?_
  refine g_ixor dX1_loosen_11 ?_
  refine g_iand dX1_loosen_12 ?_
  refine g_ias _ dX1_loosen_13 rfl rfl (by omega) ?_
  exact g_ret dX1_loosen_14 rfl ⟨rfl, rfl⟩

set_option maxRecDepth 4000 in
theorem ev_X1_hold {σ : r_Sg} {r p : Nat} {v : Int32} (hr : r < 24) : Ev 1 MX1_hold [.ref 6, .int (nI r), .int (nI p), .int v] σ none (r_up (r_up σ 7 r (r_sv (σ 7 r) p v)) 8 r (r_hi (σ 8 r) p)) := by
  refine Ev_w [.ref 6, .int (nI r), .int (nI p), .int v] ?_ (by decide) rfl (Nat.le_of_ble_eq_true rfl) rfl
  refine g_aload_n dX1_hold_0 rfl ?_
  refine g_iload_n dX1_hold_1 rfl ?_
  refine g_iload_n dX1_hold_2 rfl ?_
  refine g_iload_n dX1_hold_3 rfl ?_
  refine g_V3v dX1_hold_4 vX1_35 rfl (Nat.le_of_ble_eq_true rfl) (by decide) (ev_X1_setValue (by first | assumption | omega)) ?_
  refine g_aload_n dX1_hold_7 rfl ?_
  refine g_getR dX1_hold_8 fX1_17 rfl rfl ?_
  refine g_iload_n dX1_hold_11 rfl ?_
  refine g_dup2 dX1_hold_12 rfl rfl ?_
  refine g_ial _ dX1_hold_13 rfl rfl (by omega) ?_
  refine g_iconst (v := 1) dX1_hold_14 (by decide) ?_
  refine g_iload_n dX1_hold_15 rfl ?_
  refine g_ishl dX1_hold_16 ?_
  refine g_ior dX1_hold_17 ?_
  refine g_ias _ dX1_hold_18 rfl rfl (by omega) ?_
  exact g_ret dX1_hold_19 rfl ⟨rfl, rfl⟩

set_option maxRecDepth 4000 in
theorem ev_X1_addMark {σ : r_Sg} {r p : Nat} (hr : r < 24) (hp : p < 21) : Ev 0 MX1_addMark [.ref 6, .int (nI r), .int (nI p)] σ none (r_up σ 9 (21 * r + p) (σ 9 (21 * r + p) + 1)) := by
  refine Ev_w [.ref 6, .int (nI r), .int (nI p)] ?_ (by decide) rfl (Nat.le_of_ble_eq_true rfl) rfl
  refine g_aload_n dX1_addMark_0 rfl ?_
  refine g_getR dX1_addMark_1 fX1_20 rfl rfl ?_
  refine g_iload_n dX1_addMark_4 rfl ?_
  refine g_bipush (v := nI 21) dX1_addMark_5 (by decide) ?_
  refine g_imul dX1_addMark_7 ?_
  refine g_iload_n dX1_addMark_8 rfl ?_
  refine g_iadd dX1_addMark_9 ?_
  refine g_t (r_ix r p) ?_
  refine g_dup2 dX1_addMark_10 rfl rfl ?_
  refine g_ial _ dX1_addMark_11 rfl rfl (by omega) ?_
  refine g_iconst (v := 1) dX1_addMark_12 (by decide) ?_
  refine g_iadd dX1_addMark_13 ?_
  refine g_ias _ dX1_addMark_14 rfl rfl (by omega) ?_
  exact g_ret dX1_addMark_15 rfl ⟨rfl, rfl⟩

set_option maxRecDepth 4000 in
theorem ev_X1_marksAt {σ : r_Sg} {r p : Nat} (hr : r < 24) (hp : p < 21) : Ev 0 MX1_marksAt [.ref 6, .int (nI r), .int (nI p)] σ (some (.int (σ 9 (21 * r + p)))) σ := by
  refine Ev_w [.ref 6, .int (nI r), .int (nI p)] ?_ (by decide) rfl (Nat.le_of_ble_eq_true rfl) rfl
  refine g_aload_n dX1_marksAt_0 rfl ?_
  refine g_getR dX1_marksAt_1 fX1_20 rfl rfl ?_
  refine g_iload_n dX1_marksAt_4 rfl ?_
  refine g_bipush (v := nI 21) dX1_marksAt_5 (by decide) ?_
  refine g_imul dX1_marksAt_7 ?_
  refine g_iload_n dX1_marksAt_8 rfl ?_
  refine g_iadd dX1_marksAt_9 ?_
  refine g_t (r_ix r p) ?_
  refine g_ial _ dX1_marksAt_10 rfl rfl (by omega) ?_
  exact g_iret dX1_marksAt_11 rfl ⟨rfl, rfl⟩

set_option maxRecDepth 4000 in
theorem ev_X1_isBad {σ : r_Sg} {r p : Nat} (hr : r < 24) (hp : p < 21) : Ev 1 MX1_isBad [.ref 6, .int (nI r), .int (nI p)] σ (some (.int (bI (2 ≤ σ 9 (21 * r + p))))) σ := by
  refine Ev_w [.ref 6, .int (nI r), .int (nI p)] ?_ (by decide) rfl (Nat.le_of_ble_eq_true rfl) rfl
  refine g_aload_n dX1_isBad_0 rfl ?_
  refine g_iload_n dX1_isBad_1 rfl ?_
  refine g_iload_n dX1_isBad_2 rfl ?_
  refine g_V2 dX1_isBad_3 vX1_39 rfl (Nat.le_of_ble_eq_true rfl) (by decide) (ev_X1_marksAt (by first | assumption | omega) (by first | assumption | omega)) ?_
  refine g_iconst (v := 2) dX1_isBad_6 (by decide) ?_
  refine g_iclt (tgt := 14) dX1_isBad_7 (by decide) (fun c7 => ?_) (fun c7 => ?_)
  · refine g_iconst (v := 0) dX1_isBad_14 (by decide) ?_
    exact g_zret dX1_isBad_15 rfl (by first | exact Or.inl rfl | exact Or.inr rfl) ⟨by simp only [bI_0, Decidable.not_not, Int32.not_le, Int32.not_lt, Int32.lt_iff_toInt_lt, Int32.le_iff_toInt_le] at *; unfold bI; split <;> first | rfl | (exfalso; omega), rfl⟩
  · refine g_iconst (v := 1) dX1_isBad_10 (by decide) ?_
    refine g_goto (tgt := 15) dX1_isBad_11 (by decide) ?_
    exact g_zret dX1_isBad_15 rfl (by first | exact Or.inl rfl | exact Or.inr rfl) ⟨by simp only [bI_0, Decidable.not_not, Int32.not_le, Int32.not_lt, Int32.lt_iff_toInt_lt, Int32.le_iff_toInt_le] at *; unfold bI; split <;> first | rfl | (exfalso; omega), rfl⟩

set_option maxRecDepth 4000 in
theorem ev_X1_renewCell {σ : r_Sg} {r p : Nat} {v : Int32} (hr : r < 24) (hp : p < 21) : Ev 1 MX1_renewCell [.ref 6, .int (nI r), .int (nI p), .int v] σ none (c_ren σ r p v) := by
  refine Ev_w [.ref 6, .int (nI r), .int (nI p), .int v] ?_ (by decide) rfl (Nat.le_of_ble_eq_true rfl) rfl
  refine g_aload_n dX1_renewCell_0 rfl ?_
  refine g_iload_n dX1_renewCell_1 rfl ?_
  refine g_iload_n dX1_renewCell_2 rfl ?_
  refine g_iload_n dX1_renewCell_3 rfl ?_
  refine g_V3v dX1_renewCell_4 vX1_35 rfl (Nat.le_of_ble_eq_true rfl) (by decide) (ev_X1_setValue (by first | assumption | omega)) ?_
  refine g_aload_n dX1_renewCell_7 rfl ?_
  refine g_iload_n dX1_renewCell_8 rfl ?_
  refine g_iload_n dX1_renewCell_9 rfl ?_
  refine g_V2v dX1_renewCell_10 vX1_43 rfl (Nat.le_of_ble_eq_true rfl) (by decide) (ev_X1_loosen (by first | assumption | omega)) ?_
  refine g_aload_n dX1_renewCell_13 rfl ?_
  refine g_getR dX1_renewCell_14 fX1_20 rfl rfl ?_
  refine g_iload_n dX1_renewCell_17 rfl ?_
  refine g_bipush (v := nI 21) dX1_renewCell_18 (by decide) ?_
  refine g_imul dX1_renewCell_20 ?_
  refine g_iload_n dX1_renewCell_21 rfl ?_
  refine g_iadd dX1_renewCell_22 ?_
  refine g_t (r_ix r p) ?_
  refine g_iconst (v := 0) dX1_renewCell_23 (by decide) ?_
  refine g_ias _ dX1_renewCell_24 rfl rfl (by omega) ?_
  exact g_ret dX1_renewCell_25 rfl ⟨rfl, rfl⟩

set_option maxRecDepth 4000 in
theorem ev_X1_copyPlace {σ : r_Sg} {a b : Nat} (hb : b < 21) : Ev 2 MX1_copyPlace [.ref 6, .int (nI a), .int (nI b)] σ none (c_cp σ a b 24) := by
  refine Ev_w [.ref 6, .int (nI a), .int (nI b), .null] ?_ (by decide) rfl (Nat.le_of_ble_eq_true rfl) rfl
  refine g_iconst (v := 0) dX1_copyPlace_0 (by decide) ?_
  refine g_istore_n dX1_copyPlace_1 (by decide) rfl ?_
  refine r_loop (n := 24) (fun k => [.ref 6, .int (nI a), .int (nI b), .int (nI k)]) (fun k => c_cp σ a b k) (fun k hk ih => ?_) ?_
  · refine g_iload_n dX1_copyPlace_2 rfl ?_
    refine g_bipush (v := nI 24) dX1_copyPlace_3 (by decide) ?_
    refine g_icge (tgt := 26) dX1_copyPlace_5 (by decide) (fun c5 => absurd c5 (nI_ge hk (by omega))) (fun c5 => ?_)
    refine g_aload_n dX1_copyPlace_8 rfl ?_
    refine g_iload_n dX1_copyPlace_9 rfl ?_
    refine g_iload_n dX1_copyPlace_10 rfl ?_
    refine g_aload_n dX1_copyPlace_11 rfl ?_
    refine g_iload_n dX1_copyPlace_12 rfl ?_
    refine g_iload_n dX1_copyPlace_13 rfl ?_
    refine g_V2 dX1_copyPlace_14 vX1_47 rfl (Nat.le_of_ble_eq_true rfl) (by decide) (ev_X1_valueAt (by first | assumption | omega)) ?_
    refine g_V3v dX1_copyPlace_17 vX1_50 rfl (Nat.le_of_ble_eq_true rfl) (by decide) (ev_X1_renewCell (by first | assumption | omega) (by first | assumption | omega)) ?_
    refine g_iinc (v := nI (k + 1)) dX1_copyPlace_20 rfl (nI_1 k) (by decide) rfl ?_
    refine g_goto (tgt := 2) dX1_copyPlace_23 (by decide) ?_
    exact ih
  · refine g_iload_n dX1_copyPlace_2 rfl ?_
    refine g_bipush (v := nI 24) dX1_copyPlace_3 (by decide) ?_
    refine g_icge (tgt := 26) dX1_copyPlace_5 (by decide) (fun c5 => ?_) (fun c5 => absurd (nI_le (Nat.le_refl _) (by omega)) c5)
    exact g_ret dX1_copyPlace_26 rfl ⟨rfl, rfl⟩

set_option maxRecDepth 4000 in
theorem ev_X1_copyFrame {σ : r_Sg} {f g : Nat} (hf : f < 6) (hg : g < 6) : Ev 2 MX1_copyFrame [.ref 6, .int (nI f), .int (nI g)] σ none (c_cfo σ f g 4) := by
  refine Ev_w [.ref 6, .int (nI f), .int (nI g), .null, .null, .null, .null] ?_ (by decide) rfl (Nat.le_of_ble_eq_true rfl) rfl
  refine g_iconst (v := 0) dX1_copyFrame_0 (by decide) ?_
  refine g_istore_n dX1_copyFrame_1 (by decide) rfl ?_
  refine r_loop (n := 4) (fun k => [.ref 6, .int (nI f), .int (nI g), .int (nI k), .null, .null, .null]) (fun k => c_cfo σ f g k) (fun k hk ih => ?_) ?_
  · refine g_iload_n dX1_copyFrame_2 rfl ?_
    refine g_iconst (v := nI 4) dX1_copyFrame_3 (by decide) ?_
    refine g_icge (tgt := 59) dX1_copyFrame_4 (by decide) (fun c4 => absurd c4 (nI_ge hk (by omega))) (fun c4 => ?_)
    refine g_iload_n dX1_copyFrame_7 rfl ?_
    refine g_iconst (v := nI 4) dX1_copyFrame_8 (by decide) ?_
    refine g_imul dX1_copyFrame_9 ?_
    refine g_iload_n dX1_copyFrame_10 rfl ?_
    refine g_iadd dX1_copyFrame_11 ?_
    refine g_t (r_rx f k) ?_
    refine g_istore dX1_copyFrame_12 (by decide) rfl ?_
    refine g_iload_n dX1_copyFrame_14 rfl ?_
    refine g_iconst (v := nI 4) dX1_copyFrame_15 (by decide) ?_
    refine g_imul dX1_copyFrame_16 ?_
    refine g_iload_n dX1_copyFrame_17 rfl ?_
    refine g_iadd dX1_copyFrame_18 ?_
    refine g_t (r_rx g k) ?_
    refine g_istore dX1_copyFrame_19 (by decide) rfl ?_
    refine g_iconst (v := 0) dX1_copyFrame_21 (by decide) ?_
    refine g_istore dX1_copyFrame_22 (by decide) rfl ?_
    refine r_loop (n := 21) (fun q => [.ref 6, .int (nI f), .int (nI g), .int (nI k), .int (nI (4 * f + k)), .int (nI (4 * g + k)), .int (nI q)]) (fun q => c_cfi (c_cfo σ f g k) (4 * f + k) (4 * g + k) q) (fun q hq ih => ?_) ?_
    · refine g_iload dX1_copyFrame_24 rfl ?_
      refine g_bipush (v := nI 21) dX1_copyFrame_26 (by decide) ?_
      refine g_icge (tgt := 53) dX1_copyFrame_28 (by decide) (fun c28 => absurd c28 (nI_ge hq (by omega))) (fun c28 => ?_)
      refine g_aload_n dX1_copyFrame_31 rfl ?_
      refine g_iload dX1_copyFrame_32 rfl ?_
      refine g_iload dX1_copyFrame_34 rfl ?_
      refine g_aload_n dX1_copyFrame_36 rfl ?_
      refine g_iload dX1_copyFrame_37 rfl ?_
      refine g_iload dX1_copyFrame_39 rfl ?_
      refine g_V2 dX1_copyFrame_41 vX1_47 rfl (Nat.le_of_ble_eq_true rfl) (by decide) (ev_X1_valueAt (by first | assumption | omega)) ?_
      refine g_V3v dX1_copyFrame_44 vX1_50 rfl (Nat.le_of_ble_eq_true rfl) (by decide) (ev_X1_renewCell (by first | assumption | omega) (by first | assumption | omega)) ?_
      refine g_iinc (v := nI (q + 1)) dX1_copyFrame_47 rfl (nI_1 q) (by decide) rfl ?_
      refine g_goto (tgt := 24) dX1_copyFrame_50 (by decide) ?_
      exact ih
    · refine g_iload dX1_copyFrame_24 rfl ?_
      refine g_bipush (v := nI 21) dX1_copyFrame_26 (by decide) ?_
      refine g_icge (tgt := 53) dX1_copyFrame_28 (by decide) (fun c28 => ?_) (fun c28 => absurd (nI_le (Nat.le_refl _) (by omega)) c28)
      refine g_iinc (v := nI (k + 1)) dX1_copyFrame_53 rfl (nI_1 k) (by decide) rfl ?_
      refine g_goto (tgt := 2) dX1_copyFrame_56 (by decide) ?_
      refine g_w [.ref 6, .int (nI f), .int (nI g), .int (nI (k + 1)), .null, .null, .null] (And.intro (Or.inr rfl) (And.intro (Or.inr rfl) (And.intro (Or.inr rfl) (And.intro (Or.inr rfl) (And.intro (Or.inl rfl) (And.intro (Or.inl rfl) (And.intro (Or.inl rfl) (True.intro)))))))) ?_
      exact ih
  · refine g_iload_n dX1_copyFrame_2 rfl ?_
    refine g_iconst (v := nI 4) dX1_copyFrame_3 (by decide) ?_
    refine g_icge (tgt := 59) dX1_copyFrame_4 (by decide) (fun c4 => ?_) (fun c4 => absurd (nI_le (Nat.le_refl _) (by omega)) c4)
    exact g_ret dX1_copyFrame_59 rfl ⟨rfl, rfl⟩

set_option maxRecDepth 4000 in
theorem ev_X1_badInPlace {σ : r_Sg} {p : Nat} (hp : p < 21) : Ev 2 MX1_badInPlace [.ref 6, .int (nI p)] σ (some (.int (r_cna (fun r => decide (2 ≤ σ 9 (21 * r + p))) 0 24))) σ := by
  refine Ev_w [.ref 6, .int (nI p), .null, .null] ?_ (by decide) rfl (Nat.le_of_ble_eq_true rfl) rfl
  refine g_iconst (v := 0) dX1_badInPlace_0 (by decide) ?_
  refine g_istore_n dX1_badInPlace_1 (by decide) rfl ?_
  refine g_iconst (v := 0) dX1_badInPlace_2 (by decide) ?_
  refine g_istore_n dX1_badInPlace_3 (by decide) rfl ?_
  refine r_loop (n := 24) (fun k => [.ref 6, .int (nI p), .int (r_cna (fun r => decide (2 ≤ σ 9 (21 * r + p))) 0 k), .int (nI k)]) (fun k => σ) (fun k hk ih => ?_) ?_
  · refine g_iload_n dX1_badInPlace_4 rfl ?_
    refine g_bipush (v := nI 24) dX1_badInPlace_5 (by decide) ?_
    refine g_icge (tgt := 28) dX1_badInPlace_7 (by decide) (fun c7 => absurd c7 (nI_ge hk (by omega))) (fun c7 => ?_)
    refine g_aload_n dX1_badInPlace_10 rfl ?_
    refine g_iload_n dX1_badInPlace_11 rfl ?_
    refine g_iload_n dX1_badInPlace_12 rfl ?_
    refine g_V2 dX1_badInPlace_13 vX1_53 rfl (Nat.le_of_ble_eq_true rfl) (by decide) (ev_X1_isBad (by first | assumption | omega) (by first | assumption | omega)) ?_
    refine g_ifeq (tgt := 22) dX1_badInPlace_16 (by decide) (fun c16 => ?_) (fun c16 => ?_)
    · have q := bI_0.mp c16
      refine g_iinc (v := nI (k + 1)) dX1_badInPlace_22 rfl (nI_1 k) (by decide) rfl ?_
      refine g_goto (tgt := 4) dX1_badInPlace_25 (by decide) ?_
      exact g_l (by simp [r_ls, r_cna, q]) ih
    · have q := bI_1.mp c16
      refine g_iinc (v := _ + 1) dX1_badInPlace_19 rfl rfl (by decide) rfl ?_
      refine g_iinc (v := nI (k + 1)) dX1_badInPlace_22 rfl (nI_1 k) (by decide) rfl ?_
      refine g_goto (tgt := 4) dX1_badInPlace_25 (by decide) ?_
      exact g_l (by simp [r_ls, r_cna, q]) ih
  · refine g_iload_n dX1_badInPlace_4 rfl ?_
    refine g_bipush (v := nI 24) dX1_badInPlace_5 (by decide) ?_
    refine g_icge (tgt := 28) dX1_badInPlace_7 (by decide) (fun c7 => ?_) (fun c7 => absurd (nI_le (Nat.le_refl _) (by omega)) c7)
    refine g_iload_n dX1_badInPlace_28 rfl ?_
    exact g_iret dX1_badInPlace_29 rfl ⟨rfl, rfl⟩

set_option maxRecDepth 4000 in
theorem ev_X1_badInFrame {σ : r_Sg} {f : Nat} {b : Int32} (hf : f < 6) : Ev 2 MX1_badInFrame [.ref 6, .int (nI f), .int b] σ (some (.int (c_bf σ f b 4))) σ := by
  refine Ev_w [.ref 6, .int (nI f), .int b, .null, .null, .null] ?_ (by decide) rfl (Nat.le_of_ble_eq_true rfl) rfl
  refine g_iconst (v := 0) dX1_badInFrame_0 (by decide) ?_
  refine g_istore_n dX1_badInFrame_1 (by decide) rfl ?_
  refine g_iconst (v := 0) dX1_badInFrame_2 (by decide) ?_
  refine g_istore dX1_badInFrame_3 (by decide) rfl ?_
  refine r_loop (n := 4) (fun k => [.ref 6, .int (nI f), .int b, .int (c_bf σ f b k), .int (nI k), .null]) (fun k => σ) (fun k hk ih => ?_) ?_
  · refine g_iload dX1_badInFrame_5 rfl ?_
    refine g_iconst (v := nI 4) dX1_badInFrame_7 (by decide) ?_
    refine g_icge (tgt := 60) dX1_badInFrame_8 (by decide) (fun c8 => absurd c8 (nI_ge hk (by omega))) (fun c8 => ?_)
    refine g_iconst (v := 0) dX1_badInFrame_11 (by decide) ?_
    refine g_istore dX1_badInFrame_12 (by decide) rfl ?_
    refine r_loop (n := 21) (fun q => [.ref 6, .int (nI f), .int b, .int (r_cna (fun q => decide (¬ r_b b q = 0 ∧ 2 ≤ σ 9 (21 * (4 * f + k) + q))) (c_bf σ f b k) q), .int (nI k), .int (nI q)]) (fun q => σ) (fun q hq ih => ?_) ?_
    · refine g_iload dX1_badInFrame_14 rfl ?_
      refine g_bipush (v := nI 21) dX1_badInFrame_16 (by decide) ?_
      refine g_icge (tgt := 54) dX1_badInFrame_18 (by decide) (fun c18 => absurd c18 (nI_ge hq (by omega))) (fun c18 => ?_)
      refine g_iload_n dX1_badInFrame_21 rfl ?_
      refine g_iload dX1_badInFrame_22 rfl ?_
      refine g_ishr dX1_badInFrame_24 ?_
      refine g_iconst (v := 1) dX1_badInFrame_25 (by decide) ?_
      refine g_iand dX1_badInFrame_26 ?_
      refine g_ifeq (tgt := 48) dX1_badInFrame_27 (by decide) (fun c27 => ?_) (fun c27 => ?_)
      · have e1 : r_b b q = 0 := c27
        have e2 : True := trivial
        refine g_iinc (v := nI (q + 1)) dX1_badInFrame_48 rfl (nI_1 q) (by decide) rfl ?_
        refine g_goto (tgt := 14) dX1_badInFrame_51 (by decide) ?_
        exact g_l (by simp [r_ls, r_cna, e1, e2]) ih
      · have e1 : ¬ r_b b q = 0 := c27
        refine g_aload_n dX1_badInFrame_30 rfl ?_
        refine g_iload_n dX1_badInFrame_31 rfl ?_
        refine g_iconst (v := nI 4) dX1_badInFrame_32 (by decide) ?_
        refine g_imul dX1_badInFrame_33 ?_
        refine g_iload dX1_badInFrame_34 rfl ?_
        refine g_iadd dX1_badInFrame_36 ?_
        refine g_t (r_rx f k) ?_
        refine g_iload dX1_badInFrame_37 rfl ?_
        refine g_V2 dX1_badInFrame_39 vX1_53 rfl (Nat.le_of_ble_eq_true rfl) (by decide) (ev_X1_isBad (by first | assumption | omega) (by first | assumption | omega)) ?_
        refine g_ifeq (tgt := 48) dX1_badInFrame_42 (by decide) (fun c42 => ?_) (fun c42 => ?_)
        · have e2 := bI_0.mp c42
          refine g_iinc (v := nI (q + 1)) dX1_badInFrame_48 rfl (nI_1 q) (by decide) rfl ?_
          refine g_goto (tgt := 14) dX1_badInFrame_51 (by decide) ?_
          exact g_l (by simp [r_ls, r_cna, e1, e2]) ih
        · have e2 := bI_1.mp c42
          refine g_iinc (v := _ + 1) dX1_badInFrame_45 rfl rfl (by decide) rfl ?_
          refine g_iinc (v := nI (q + 1)) dX1_badInFrame_48 rfl (nI_1 q) (by decide) rfl ?_
          refine g_goto (tgt := 14) dX1_badInFrame_51 (by decide) ?_
          exact g_l (by simp [r_ls, r_cna, e1, e2]) ih
    · refine g_iload dX1_badInFrame_14 rfl ?_
      refine g_bipush (v := nI 21) dX1_badInFrame_16 (by decide) ?_
      refine g_icge (tgt := 54) dX1_badInFrame_18 (by decide) (fun c18 => ?_) (fun c18 => absurd (nI_le (Nat.le_refl _) (by omega)) c18)
      refine g_iinc (v := nI (k + 1)) dX1_badInFrame_54 rfl (nI_1 k) (by decide) rfl ?_
      refine g_goto (tgt := 5) dX1_badInFrame_57 (by decide) ?_
      refine g_w [.ref 6, .int (nI f), .int b, .int (c_bf σ f b (k + 1)), .int (nI (k + 1)), .null] (And.intro (Or.inr rfl) (And.intro (Or.inr rfl) (And.intro (Or.inr rfl) (And.intro (Or.inr rfl) (And.intro (Or.inr rfl) (And.intro (Or.inl rfl) (True.intro))))))) ?_
      exact ih
  · refine g_iload dX1_badInFrame_5 rfl ?_
    refine g_iconst (v := nI 4) dX1_badInFrame_7 (by decide) ?_
    refine g_icge (tgt := 60) dX1_badInFrame_8 (by decide) (fun c8 => ?_) (fun c8 => absurd (nI_le (Nat.le_refl _) (by omega)) c8)
    refine g_iload_n dX1_badInFrame_60 rfl ?_
    exact g_iret dX1_badInFrame_61 rfl ⟨rfl, rfl⟩

set_option maxRecDepth 4000 in
theorem ev_X1_stuckInFrame {σ : r_Sg} {f : Nat} {b : Int32} (hf : f < 6) : Ev 1 MX1_stuckInFrame [.ref 6, .int (nI f), .int b] σ (some (.int (c_sf σ f b 4))) σ := by
  refine Ev_w [.ref 6, .int (nI f), .int b, .null, .null] ?_ (by decide) rfl (Nat.le_of_ble_eq_true rfl) rfl
  refine g_iconst (v := 0) dX1_stuckInFrame_0 (by decide) ?_
  refine g_istore_n dX1_stuckInFrame_1 (by decide) rfl ?_
  refine g_iconst (v := 0) dX1_stuckInFrame_2 (by decide) ?_
  refine g_istore dX1_stuckInFrame_3 (by decide) rfl ?_
  refine r_loop (n := 4) (fun k => [.ref 6, .int (nI f), .int b, .int (c_sf σ f b k), .int (nI k)]) (fun k => σ) (fun k hk ih => ?_) ?_
  · refine g_iload dX1_stuckInFrame_5 rfl ?_
    refine g_iconst (v := nI 4) dX1_stuckInFrame_7 (by decide) ?_
    refine g_icge (tgt := 36) dX1_stuckInFrame_8 (by decide) (fun c8 => absurd c8 (nI_ge hk (by omega))) (fun c8 => ?_)
    refine g_iload_n dX1_stuckInFrame_11 rfl ?_
    refine g_aload_n dX1_stuckInFrame_12 rfl ?_
    refine g_getR dX1_stuckInFrame_13 fX1_17 rfl rfl ?_
    refine g_iload_n dX1_stuckInFrame_16 rfl ?_
    refine g_iconst (v := nI 4) dX1_stuckInFrame_17 (by decide) ?_
    refine g_imul dX1_stuckInFrame_18 ?_
    refine g_iload dX1_stuckInFrame_19 rfl ?_
    refine g_iadd dX1_stuckInFrame_21 ?_
    refine g_t (r_rx f k) ?_
    refine g_ial _ dX1_stuckInFrame_22 rfl rfl (by omega) ?_
    refine g_iload_n dX1_stuckInFrame_23 rfl ?_
    refine g_iand dX1_stuckInFrame_24 ?_
    refine g_S1 dX1_stuckInFrame_25 vX1_29 (Nat.le_of_ble_eq_true rfl) (by decide) (ev_J6_bitCount_0f7a4) ?_
    refine g_iadd dX1_stuckInFrame_28 ?_
    refine g_istore_n dX1_stuckInFrame_29 (by decide) rfl ?_
    refine g_iinc (v := nI (k + 1)) dX1_stuckInFrame_30 rfl (nI_1 k) (by decide) rfl ?_
    refine g_goto (tgt := 5) dX1_stuckInFrame_33 (by decide) ?_
    exact ih
  · refine g_iload dX1_stuckInFrame_5 rfl ?_
    refine g_iconst (v := nI 4) dX1_stuckInFrame_7 (by decide) ?_
    refine g_icge (tgt := 36) dX1_stuckInFrame_8 (by decide) (fun c8 => ?_) (fun c8 => absurd (nI_le (Nat.le_refl _) (by omega)) c8)
    refine g_iload_n dX1_stuckInFrame_36 rfl ?_
    exact g_iret dX1_stuckInFrame_37 rfl ⟨rfl, rfl⟩

set_option maxRecDepth 4000 in
theorem ev_X4_noteLook {σ : r_Sg} {k : Nat} {a b c : Int32} (hk : k < 3) : Ev 0 MX4_noteLook [.ref 10, .int (nI k), .int a, .int b, .int c] σ none (c_nl σ k a b c) := by
  refine Ev_w [.ref 10, .int (nI k), .int a, .int b, .int c] ?_ (by decide) rfl (Nat.le_of_ble_eq_true rfl) rfl
  refine g_aload_n dX4_noteLook_0 rfl ?_
  refine g_getR dX4_noteLook_1 fX4_9 rfl rfl ?_
  refine g_iload_n dX4_noteLook_4 rfl ?_
  refine g_dup2 dX4_noteLook_5 rfl rfl ?_
  refine g_ial _ dX4_noteLook_6 rfl rfl (by omega) ?_
  refine g_iconst (v := 1) dX4_noteLook_7 (by decide) ?_
  refine g_iadd dX4_noteLook_8 ?_
  refine g_ias _ dX4_noteLook_9 rfl rfl (by omega) ?_
  refine g_aload_n dX4_noteLook_10 rfl ?_
  refine g_iload_n dX4_noteLook_11 rfl ?_
  refine g_putI dX4_noteLook_12 pX4_21 rfl rfl ?_
  refine g_aload_n dX4_noteLook_15 rfl ?_
  refine g_iload_n dX4_noteLook_16 rfl ?_
  refine g_putI dX4_noteLook_17 pX4_25 rfl rfl ?_
  refine g_aload_n dX4_noteLook_20 rfl ?_
  refine g_iload_n dX4_noteLook_21 rfl ?_
  refine g_putI dX4_noteLook_22 pX4_28 rfl rfl ?_
  refine g_aload_n dX4_noteLook_25 rfl ?_
  refine g_iload dX4_noteLook_26 rfl ?_
  refine g_putI dX4_noteLook_28 pX4_31 rfl rfl ?_
  refine g_aload_n dX4_noteLook_31 rfl ?_
  refine g_iconst (v := 0) dX4_noteLook_32 (by decide) ?_
  refine g_putI dX4_noteLook_33 pX4_34 rfl rfl ?_
  refine g_aload_n dX4_noteLook_36 rfl ?_
  refine g_iconst (v := 0) dX4_noteLook_37 (by decide) ?_
  refine g_putI dX4_noteLook_38 pX4_37 rfl rfl ?_
  exact g_ret dX4_noteLook_41 rfl ⟨rfl, rfl⟩

set_option maxRecDepth 4000 in
theorem ev_X4_noteMending {σ : r_Sg} {p tc : Nat} {a b : Int32} (hp : p < 4) (htc : σ 10 3 = nI tc) (htc4 : tc ≤ 4) (ha : a = 0 ∨ a = 1) (hb : b = 0 ∨ b = 1) : Ev 0 MX4_noteMending [.ref 10, .int (nI p), .int a, .int b] σ none (c_nm σ p tc a b) := by
  refine Ev_w [.ref 10, .int (nI p), .int a, .int b] ?_ (by decide) rfl (Nat.le_of_ble_eq_true rfl) rfl
  refine g_aload_n dX4_noteMending_0 rfl ?_
  refine g_getR dX4_noteMending_1 fX4_15 rfl rfl ?_
  refine g_iload_n dX4_noteMending_4 rfl ?_
  refine g_ial _ dX4_noteMending_5 rfl rfl (by omega) ?_
  refine g_ifne (tgt := 37) dX4_noteMending_6 (by decide) (fun c6 => ?_) (fun c6 => ?_)
  · have e : ¬ (σ 12 p = 0 ∧ tc < 4) := fun z => c6 z.1
    refine g_aload_n dX4_noteMending_37 rfl ?_
    refine g_getR dX4_noteMending_38 fX4_15 rfl rfl ?_
    refine g_iload_n dX4_noteMending_41 rfl ?_
    refine g_dup2 dX4_noteMending_42 rfl rfl ?_
    refine g_ial _ dX4_noteMending_43 rfl rfl (by omega) ?_
    refine g_iconst (v := 1) dX4_noteMending_44 (by decide) ?_
    refine g_iadd dX4_noteMending_45 ?_
    refine g_ias _ dX4_noteMending_46 rfl rfl (by omega) ?_
    refine g_aload_n dX4_noteMending_47 rfl ?_
    refine g_iload_n dX4_noteMending_48 rfl ?_
    refine g_ifeq (tgt := 56) dX4_noteMending_49 (by decide) (fun c49 => ?_) (fun c49 => ?_)
    · have qa : a = 0 := c49
      refine g_iconst (v := 0) dX4_noteMending_56 (by decide) ?_
      refine g_putI dX4_noteMending_57 pX4_34 rfl rfl ?_
      refine g_aload_n dX4_noteMending_60 rfl ?_
      refine g_iload_n dX4_noteMending_61 rfl ?_
      refine g_ifeq (tgt := 69) dX4_noteMending_62 (by decide) (fun c62 => ?_) (fun c62 => ?_)
      · have qb : b = 0 := c62
        refine g_iconst (v := 0) dX4_noteMending_69 (by decide) ?_
        refine g_putI dX4_noteMending_70 pX4_37 rfl rfl ?_
        exact g_ret dX4_noteMending_73 rfl ⟨rfl, by simp only [c_nm, qa, qb]; first | rw [if_pos e] | rw [if_neg e]⟩
      · have qb : b = 1 := hb.resolve_left c62
        refine g_iconst (v := 1) dX4_noteMending_65 (by decide) ?_
        refine g_goto (tgt := 70) dX4_noteMending_66 (by decide) ?_
        refine g_putI dX4_noteMending_70 pX4_37 rfl rfl ?_
        exact g_ret dX4_noteMending_73 rfl ⟨rfl, by simp only [c_nm, qa, qb]; first | rw [if_pos e] | rw [if_neg e]⟩
    · have qa : a = 1 := ha.resolve_left c49
      refine g_iconst (v := 1) dX4_noteMending_52 (by decide) ?_
      refine g_goto (tgt := 57) dX4_noteMending_53 (by decide) ?_
      refine g_putI dX4_noteMending_57 pX4_34 rfl rfl ?_
      refine g_aload_n dX4_noteMending_60 rfl ?_
      refine g_iload_n dX4_noteMending_61 rfl ?_
      refine g_ifeq (tgt := 69) dX4_noteMending_62 (by decide) (fun c62 => ?_) (fun c62 => ?_)
      · have qb : b = 0 := c62
        refine g_iconst (v := 0) dX4_noteMending_69 (by decide) ?_
        refine g_putI dX4_noteMending_70 pX4_37 rfl rfl ?_
        exact g_ret dX4_noteMending_73 rfl ⟨rfl, by simp only [c_nm, qa, qb]; first | rw [if_pos e] | rw [if_neg e]⟩
      · have qb : b = 1 := hb.resolve_left c62
        refine g_iconst (v := 1) dX4_noteMending_65 (by decide) ?_
        refine g_goto (tgt := 70) dX4_noteMending_66 (by decide) ?_
        refine g_putI dX4_noteMending_70 pX4_37 rfl rfl ?_
        exact g_ret dX4_noteMending_73 rfl ⟨rfl, by simp only [c_nm, qa, qb]; first | rw [if_pos e] | rw [if_neg e]⟩
  · refine g_aload_n dX4_noteMending_9 rfl ?_
    refine g_getI dX4_noteMending_10 fX4_46 rfl rfl ?_
    refine g_t htc ?_
    refine g_iconst (v := nI 4) dX4_noteMending_13 (by decide) ?_
    refine g_icge (tgt := 37) dX4_noteMending_14 (by decide) (fun c14 => ?_) (fun c14 => ?_)
    · have e : ¬ (σ 12 p = 0 ∧ tc < 4) := fun z => absurd c14 (nI_ge z.2 (by omega))
      refine g_aload_n dX4_noteMending_37 rfl ?_
      refine g_getR dX4_noteMending_38 fX4_15 rfl rfl ?_
      refine g_iload_n dX4_noteMending_41 rfl ?_
      refine g_dup2 dX4_noteMending_42 rfl rfl ?_
      refine g_ial _ dX4_noteMending_43 rfl rfl (by omega) ?_
      refine g_iconst (v := 1) dX4_noteMending_44 (by decide) ?_
      refine g_iadd dX4_noteMending_45 ?_
      refine g_ias _ dX4_noteMending_46 rfl rfl (by omega) ?_
      refine g_aload_n dX4_noteMending_47 rfl ?_
      refine g_iload_n dX4_noteMending_48 rfl ?_
      refine g_ifeq (tgt := 56) dX4_noteMending_49 (by decide) (fun c49 => ?_) (fun c49 => ?_)
      · have qa : a = 0 := c49
        refine g_iconst (v := 0) dX4_noteMending_56 (by decide) ?_
        refine g_putI dX4_noteMending_57 pX4_34 rfl rfl ?_
        refine g_aload_n dX4_noteMending_60 rfl ?_
        refine g_iload_n dX4_noteMending_61 rfl ?_
        refine g_ifeq (tgt := 69) dX4_noteMending_62 (by decide) (fun c62 => ?_) (fun c62 => ?_)
        · have qb : b = 0 := c62
          refine g_iconst (v := 0) dX4_noteMending_69 (by decide) ?_
          refine g_putI dX4_noteMending_70 pX4_37 rfl rfl ?_
          exact g_ret dX4_noteMending_73 rfl ⟨rfl, by simp only [c_nm, qa, qb]; first | rw [if_pos e] | rw [if_neg e]⟩
        · have qb : b = 1 := hb.resolve_left c62
          refine g_iconst (v := 1) dX4_noteMending_65 (by decide) ?_
          refine g_goto (tgt := 70) dX4_noteMending_66 (by decide) ?_
          refine g_putI dX4_noteMending_70 pX4_37 rfl rfl ?_
          exact g_ret dX4_noteMending_73 rfl ⟨rfl, by simp only [c_nm, qa, qb]; first | rw [if_pos e] | rw [if_neg e]⟩
      · have qa : a = 1 := ha.resolve_left c49
        refine g_iconst (v := 1) dX4_noteMending_52 (by decide) ?_
        refine g_goto (tgt := 57) dX4_noteMending_53 (by decide) ?_
        refine g_putI dX4_noteMending_57 pX4_34 rfl rfl ?_
        refine g_aload_n dX4_noteMending_60 rfl ?_
        refine g_iload_n dX4_noteMending_61 rfl ?_
        refine g_ifeq (tgt := 69) dX4_noteMending_62 (by decide) (fun c62 => ?_) (fun c62 => ?_)
        · have qb : b = 0 := c62
          refine g_iconst (v := 0) dX4_noteMending_69 (by decide) ?_
          refine g_putI dX4_noteMending_70 pX4_37 rfl rfl ?_
          exact g_ret dX4_noteMending_73 rfl ⟨rfl, by simp only [c_nm, qa, qb]; first | rw [if_pos e] | rw [if_neg e]⟩
        · have qb : b = 1 := hb.resolve_left c62
          refine g_iconst (v := 1) dX4_noteMending_65 (by decide) ?_
          refine g_goto (tgt := 70) dX4_noteMending_66 (by decide) ?_
          refine g_putI dX4_noteMending_70 pX4_37 rfl rfl ?_
          exact g_ret dX4_noteMending_73 rfl ⟨rfl, by simp only [c_nm, qa, qb]; first | rw [if_pos e] | rw [if_neg e]⟩
    · have q14 : tc < 4 := by rcases Nat.lt_or_ge tc 4 with z | z; exact z; exact absurd (nI_le z (by omega)) c14
      have e : σ 12 p = 0 ∧ tc < 4 := ⟨c6, q14⟩
      refine g_aload_n dX4_noteMending_17 rfl ?_
      refine g_getR dX4_noteMending_18 fX4_18 rfl rfl ?_
      refine g_aload_n dX4_noteMending_21 rfl ?_
      refine g_getI dX4_noteMending_22 fX4_46 rfl rfl ?_
      refine g_t htc ?_
      refine g_iload_n dX4_noteMending_25 rfl ?_
      refine g_ias _ dX4_noteMending_26 rfl rfl (by omega) ?_
      refine g_aload_n dX4_noteMending_27 rfl ?_
      refine g_dup dX4_noteMending_28 rfl ?_
      refine g_getI dX4_noteMending_29 fX4_46 rfl rfl ?_
      refine g_t (show _ = nI tc from htc) ?_
      refine g_iconst (v := 1) dX4_noteMending_32 (by decide) ?_
      refine g_iadd dX4_noteMending_33 ?_
      refine g_putI dX4_noteMending_34 pX4_46 rfl rfl ?_
      refine g_aload_n dX4_noteMending_37 rfl ?_
      refine g_getR dX4_noteMending_38 fX4_15 rfl rfl ?_
      refine g_iload_n dX4_noteMending_41 rfl ?_
      refine g_dup2 dX4_noteMending_42 rfl rfl ?_
      refine g_ial _ dX4_noteMending_43 rfl rfl (by omega) ?_
      refine g_iconst (v := 1) dX4_noteMending_44 (by decide) ?_
      refine g_iadd dX4_noteMending_45 ?_
      refine g_ias _ dX4_noteMending_46 rfl rfl (by omega) ?_
      refine g_aload_n dX4_noteMending_47 rfl ?_
      refine g_iload_n dX4_noteMending_48 rfl ?_
      refine g_ifeq (tgt := 56) dX4_noteMending_49 (by decide) (fun c49 => ?_) (fun c49 => ?_)
      · have qa : a = 0 := c49
        refine g_iconst (v := 0) dX4_noteMending_56 (by decide) ?_
        refine g_putI dX4_noteMending_57 pX4_34 rfl rfl ?_
        refine g_aload_n dX4_noteMending_60 rfl ?_
        refine g_iload_n dX4_noteMending_61 rfl ?_
        refine g_ifeq (tgt := 69) dX4_noteMending_62 (by decide) (fun c62 => ?_) (fun c62 => ?_)
        · have qb : b = 0 := c62
          refine g_iconst (v := 0) dX4_noteMending_69 (by decide) ?_
          refine g_putI dX4_noteMending_70 pX4_37 rfl rfl ?_
          exact g_ret dX4_noteMending_73 rfl ⟨rfl, by simp only [c_nm, qa, qb]; first | rw [if_pos e] | rw [if_neg e]⟩
        · have qb : b = 1 := hb.resolve_left c62
          refine g_iconst (v := 1) dX4_noteMending_65 (by decide) ?_
          refine g_goto (tgt := 70) dX4_noteMending_66 (by decide) ?_
          refine g_putI dX4_noteMending_70 pX4_37 rfl rfl ?_
          exact g_ret dX4_noteMending_73 rfl ⟨rfl, by simp only [c_nm, qa, qb]; first | rw [if_pos e] | rw [if_neg e]⟩
      · have qa : a = 1 := ha.resolve_left c49
        refine g_iconst (v := 1) dX4_noteMending_52 (by decide) ?_
        refine g_goto (tgt := 57) dX4_noteMending_53 (by decide) ?_
        refine g_putI dX4_noteMending_57 pX4_34 rfl rfl ?_
        refine g_aload_n dX4_noteMending_60 rfl ?_
        refine g_iload_n dX4_noteMending_61 rfl ?_
        refine g_ifeq (tgt := 69) dX4_noteMending_62 (by decide) (fun c62 => ?_) (fun c62 => ?_)
        · have qb : b = 0 := c62
          refine g_iconst (v := 0) dX4_noteMending_69 (by decide) ?_
          refine g_putI dX4_noteMending_70 pX4_37 rfl rfl ?_
          exact g_ret dX4_noteMending_73 rfl ⟨rfl, by simp only [c_nm, qa, qb]; first | rw [if_pos e] | rw [if_neg e]⟩
        · have qb : b = 1 := hb.resolve_left c62
          refine g_iconst (v := 1) dX4_noteMending_65 (by decide) ?_
          refine g_goto (tgt := 70) dX4_noteMending_66 (by decide) ?_
          refine g_putI dX4_noteMending_70 pX4_37 rfl rfl ?_
          exact g_ret dX4_noteMending_73 rfl ⟨rfl, by simp only [c_nm, qa, qb]; first | rw [if_pos e] | rw [if_neg e]⟩

set_option maxRecDepth 4000 in
theorem ev_X4_troubledPage {σ : r_Sg} {n : Nat} {b : Int32} (hn : σ 10 3 = nI n) (hn4 : n ≤ 4) : Ev 0 MX4_troubledPage [.ref 10, .int b] σ (some (.int (if 0 ≤ b ∧ b < nI n then σ 13 b.toNatClampNeg else -1))) σ := by
  refine Ev_w [.ref 10, .int b] ?_ (by decide) rfl (Nat.le_of_ble_eq_true rfl) rfl
  refine g_iload_n dX4_troubledPage_0 rfl ?_
  refine g_iflt (tgt := 21) dX4_troubledPage_1 (by decide) (fun c1 => ?_) (fun c1 => ?_)
  · refine g_iconst (v := (-1)) dX4_troubledPage_21 (by decide) ?_
    exact g_iret dX4_troubledPage_22 rfl ⟨by first | rw [if_pos q9, nI_clamp (by omega)] | rw [if_neg (fun z => absurd c1 (Int32.not_lt.mpr z.1))] | rw [if_neg (fun z => absurd z.2 (Int32.not_lt.mpr c9))], rfl⟩
  · refine g_iload_n dX4_troubledPage_4 rfl ?_
    refine g_aload_n dX4_troubledPage_5 rfl ?_
    refine g_getI dX4_troubledPage_6 fX4_46 rfl rfl ?_
    refine g_t hn ?_
    refine g_icge (tgt := 21) dX4_troubledPage_9 (by decide) (fun c9 => ?_) (fun c9 => ?_)
    · refine g_iconst (v := (-1)) dX4_troubledPage_21 (by decide) ?_
      exact g_iret dX4_troubledPage_22 rfl ⟨by first | rw [if_pos q9, nI_clamp (by omega)] | rw [if_neg (fun z => absurd c1 (Int32.not_lt.mpr z.1))] | rw [if_neg (fun z => absurd z.2 (Int32.not_lt.mpr c9))], rfl⟩
    · have q9 : 0 ≤ b ∧ b < nI n := ⟨Int32.not_lt.mp c1, Int32.not_le.mp c9⟩
      obtain ⟨j, hj, rfl⟩ := r_nat q9 (by omega)
      refine g_aload_n dX4_troubledPage_12 rfl ?_
      refine g_getR dX4_troubledPage_13 fX4_18 rfl rfl ?_
      refine g_iload_n dX4_troubledPage_16 rfl ?_
      refine g_ial _ dX4_troubledPage_17 rfl rfl (by omega) ?_
      refine g_goto (tgt := 22) dX4_troubledPage_18 (by decide) ?_
      exact g_iret dX4_troubledPage_22 rfl ⟨by first | rw [if_pos q9, nI_clamp (by omega)] | rw [if_neg (fun z => absurd c1 (Int32.not_lt.mpr z.1))] | rw [if_neg (fun z => absurd z.2 (Int32.not_lt.mpr c9))], rfl⟩

set_option maxRecDepth 4000 in
theorem ev_X4_mendsOf {σ : r_Sg} {p : Nat} (hp : p < 4) : Ev 0 MX4_mendsOf [.ref 10, .int (nI p)] σ (some (.int (σ 12 p))) σ := by
  refine Ev_w [.ref 10, .int (nI p)] ?_ (by decide) rfl (Nat.le_of_ble_eq_true rfl) rfl
  refine g_aload_n dX4_mendsOf_0 rfl ?_
  refine g_getR dX4_mendsOf_1 fX4_15 rfl rfl ?_
  refine g_iload_n dX4_mendsOf_4 rfl ?_
  refine g_ial _ dX4_mendsOf_5 rfl rfl (by omega) ?_
  exact g_iret dX4_mendsOf_6 rfl ⟨rfl, rfl⟩

set_option maxRecDepth 4000 in
theorem ev_X4_looksOf {σ : r_Sg} {p : Nat} (hp : p < 3) : Ev 0 MX4_looksOf [.ref 10, .int (nI p)] σ (some (.int (σ 11 p))) σ := by
  refine Ev_w [.ref 10, .int (nI p)] ?_ (by decide) rfl (Nat.le_of_ble_eq_true rfl) rfl
  refine g_aload_n dX4_looksOf_0 rfl ?_
  refine g_getR dX4_looksOf_1 fX4_9 rfl rfl ?_
  refine g_iload_n dX4_looksOf_4 rfl ?_
  refine g_ial _ dX4_looksOf_5 rfl rfl (by omega) ?_
  exact g_iret dX4_looksOf_6 rfl ⟨rfl, rfl⟩

set_option maxRecDepth 4000 in
theorem ev_X4_allLooks {σ : r_Sg}  : Ev 0 MX4_allLooks [.ref 10] σ (some (.int (σ 11 0 + σ 11 1 + σ 11 2))) σ := by
  refine Ev_w [.ref 10] ?_ (by decide) rfl (Nat.le_of_ble_eq_true rfl) rfl
  refine g_aload_n dX4_allLooks_0 rfl ?_
  refine g_getR dX4_allLooks_1 fX4_9 rfl rfl ?_
  refine g_iconst (v := nI 0) dX4_allLooks_4 (by decide) ?_
  refine g_ial _ dX4_allLooks_5 rfl rfl (by omega) ?_
  refine g_aload_n dX4_allLooks_6 rfl ?_
  refine g_getR dX4_allLooks_7 fX4_9 rfl rfl ?_
  refine g_iconst (v := nI 1) dX4_allLooks_10 (by decide) ?_
  refine g_ial _ dX4_allLooks_11 rfl rfl (by omega) ?_
  refine g_iadd dX4_allLooks_12 ?_
  refine g_aload_n dX4_allLooks_13 rfl ?_
  refine g_getR dX4_allLooks_14 fX4_9 rfl rfl ?_
  refine g_iconst (v := nI 2) dX4_allLooks_17 (by decide) ?_
  refine g_ial _ dX4_allLooks_18 rfl rfl (by omega) ?_
  refine g_iadd dX4_allLooks_19 ?_
  exact g_iret dX4_allLooks_20 rfl ⟨rfl, rfl⟩

set_option maxRecDepth 4000 in
theorem ev_X4_latest_0 {σ : r_Sg}  : Ev 0 MX4_latest [.ref 10, .int 0] σ (some (.int (σ 10 4))) σ := by
  refine Ev_w [.ref 10, .int 0] ?_ (by decide) rfl (Nat.le_of_ble_eq_true rfl) rfl
  refine g_iload_n dX4_latest_0 rfl ?_
  refine g_tabIn (tgt := 36) dX4_latest_1 (by decide) (by decide) (show _ = some 35 from rfl) (by decide) ?_
  refine g_aload_n dX4_latest_36 rfl ?_
  refine g_getI dX4_latest_37 fX4_21 rfl rfl ?_
  exact g_iret dX4_latest_40 rfl ⟨rfl, rfl⟩

set_option maxRecDepth 4000 in
theorem ev_X4_latest_1 {σ : r_Sg}  : Ev 0 MX4_latest [.ref 10, .int 1] σ (some (.int (σ 10 5))) σ := by
  refine Ev_w [.ref 10, .int 1] ?_ (by decide) rfl (Nat.le_of_ble_eq_true rfl) rfl
  refine g_iload_n dX4_latest_0 rfl ?_
  refine g_tabIn (tgt := 41) dX4_latest_1 (by decide) (by decide) (show _ = some 40 from rfl) (by decide) ?_
  refine g_aload_n dX4_latest_41 rfl ?_
  refine g_getI dX4_latest_42 fX4_25 rfl rfl ?_
  exact g_iret dX4_latest_45 rfl ⟨rfl, rfl⟩

set_option maxRecDepth 4000 in
theorem ev_X4_latest_2 {σ : r_Sg}  : Ev 0 MX4_latest [.ref 10, .int 2] σ (some (.int (σ 10 8))) σ := by
  refine Ev_w [.ref 10, .int 2] ?_ (by decide) rfl (Nat.le_of_ble_eq_true rfl) rfl
  refine g_iload_n dX4_latest_0 rfl ?_
  refine g_tabIn (tgt := 46) dX4_latest_1 (by decide) (by decide) (show _ = some 45 from rfl) (by decide) ?_
  refine g_aload_n dX4_latest_46 rfl ?_
  refine g_getI dX4_latest_47 fX4_34 rfl rfl ?_
  exact g_iret dX4_latest_50 rfl ⟨rfl, rfl⟩

set_option maxRecDepth 4000 in
theorem ev_X4_latest_3 {σ : r_Sg}  : Ev 0 MX4_latest [.ref 10, .int 3] σ (some (.int (σ 10 9))) σ := by
  refine Ev_w [.ref 10, .int 3] ?_ (by decide) rfl (Nat.le_of_ble_eq_true rfl) rfl
  refine g_iload_n dX4_latest_0 rfl ?_
  refine g_tabIn (tgt := 51) dX4_latest_1 (by decide) (by decide) (show _ = some 50 from rfl) (by decide) ?_
  refine g_aload_n dX4_latest_51 rfl ?_
  refine g_getI dX4_latest_52 fX4_37 rfl rfl ?_
  exact g_iret dX4_latest_55 rfl ⟨rfl, rfl⟩

set_option maxRecDepth 4000 in
theorem ev_X4_latest_4 {σ : r_Sg}  : Ev 0 MX4_latest [.ref 10, .int 4] σ (some (.int (σ 10 6))) σ := by
  refine Ev_w [.ref 10, .int 4] ?_ (by decide) rfl (Nat.le_of_ble_eq_true rfl) rfl
  refine g_iload_n dX4_latest_0 rfl ?_
  refine g_tabIn (tgt := 56) dX4_latest_1 (by decide) (by decide) (show _ = some 55 from rfl) (by decide) ?_
  refine g_aload_n dX4_latest_56 rfl ?_
  refine g_getI dX4_latest_57 fX4_28 rfl rfl ?_
  exact g_iret dX4_latest_60 rfl ⟨rfl, rfl⟩

set_option maxRecDepth 4000 in
theorem ev_X4_latest_5 {σ : r_Sg}  : Ev 0 MX4_latest [.ref 10, .int 5] σ (some (.int (σ 10 7))) σ := by
  refine Ev_w [.ref 10, .int 5] ?_ (by decide) rfl (Nat.le_of_ble_eq_true rfl) rfl
  refine g_iload_n dX4_latest_0 rfl ?_
  refine g_tabOut (tgt := 61) dX4_latest_1 (by decide) (by decide) ?_
  refine g_aload_n dX4_latest_61 rfl ?_
  refine g_getI dX4_latest_62 fX4_31 rfl rfl ?_
  exact g_iret dX4_latest_65 rfl ⟨rfl, rfl⟩
end
section
/-! Bank (cell 5), as it is written; w places in use, the swapped bit sb, the frames fr, nr of them retired -/
def r_sbI : Option Nat → Int32
  | none => -9
  | some b => nI b
def r_BH (σ : r_Sg) (w : Nat) (sb : Option Nat) (fr : Nat → Nat) (nr : Nat) : Prop := σ 1 3 + σ 1 4 = nI w ∧ w ≤ 20 ∧ σ 5 8 = nI w ∧ σ 5 7 = r_sbI sb ∧ (∀ b, sb = some b → b < w) ∧ (∀ p, p < 4 → σ 14 p = nI (fr p) ∧ fr p < 6) ∧ σ 5 6 = nI nr ∧ nr ≤ 2
theorem r_BH.to {σ σ' : r_Sg} {w : Nat} {sb : Option Nat} {fr : Nat → Nat} {nr : Nat} (h : r_BH σ w sb fr nr) (h1 : σ' 1 = σ 1) (h5 : σ' 5 = σ 5) (h14 : σ' 14 = σ 14) : r_BH σ' w sb fr nr := by
  unfold r_BH
  rw [h1, h5, h14]
  exact h
theorem r_nm9 {n : Nat} (h : n < 2 ^ 31) : ¬ nI n = -9 := by
  intro e
  have h1 := congrArg Int32.toInt e
  rw [nI_toInt h] at h1
  have h2 : (-9 : Int32).toInt = -9 := rfl
  omega
def r_all (w : Nat) : Int32 := (1 <<< (nI w &&& 31)) - 1
def r_po (w : Nat) (sb : Option Nat) (set : Int32) : Int32 := match sb with
  | none => set
  | some s => (set &&& (r_bm s ^^^ -1)) ||| (r_b set s <<< (nI w &&& 31))
def r_bo (w : Nat) (sb : Option Nat) (x : Int32) : Int32 := match sb with
  | none => x &&& r_all w
  | some s => (x &&& r_all w &&& (r_bm s ^^^ -1)) ||| (r_b x w <<< (nI s &&& 31))
/-- the place of a bit -/
def r_pl (w : Nat) (sb : Option Nat) (b : Nat) : Nat := if sb = some b then w else b
theorem r_pl_lt {w b : Nat} (sb : Option Nat) (hb : b < w) (hw : w ≤ 20) : r_pl w sb b < 21 := by unfold r_pl; split <;> omega
def c_du1 (σ : r_Sg) (sb : Option Nat) (b : Nat) : Bool := decide (sb = none ∧ 3 ≤ r_cna (fun r => decide (2 ≤ σ 9 (21 * r + b))) 0 24)
def c_sw (σ : r_Sg) (w : Nat) (sb : Option Nat) (b : Nat) : r_Sg := if c_du1 σ sb b then r_up (c_cp σ b w 24) 5 7 (nI b) else σ
def c_swb (σ : r_Sg) (sb : Option Nat) (b : Nat) : Option Nat := if c_du1 σ sb b then some b else sb
def c_du2 (σ : r_Sg) (w : Nat) (sb : Option Nat) (fr : Nat → Nat) (nr p : Nat) : Bool := decide (¬ nr = 2 ∧ 4 ≤ c_bf σ (fr p) (r_po w sb (r_all w)) 4)
def c_rt (σ : r_Sg) (w : Nat) (sb : Option Nat) (fr : Nat → Nat) (nr p : Nat) : r_Sg := if c_du2 σ w sb fr nr p then r_up (r_up (r_up (c_cfo σ (fr p) (4 + nr) 4) 14 p (nI (4 + nr))) 16 nr (nI (fr p))) 5 6 (nI nr + 1) else σ
def c_pb (σ : r_Sg) (w : Nat) (sb : Option Nat) (R : Nat) (set : Int32) : r_Sg := r_up σ 7 R (r_pt (σ 7 R) (σ 8 R) (r_po w sb set) (r_po w sb (r_all w)))
/-- what the copies leave as it was -/
theorem c_ren_o (σ : r_Sg) (r p : Nat) (v : Int32) {q : Nat} (h7 : q ≠ 7) (h8 : q ≠ 8) (h9 : q ≠ 9) : c_ren σ r p v q = σ q := by simp [c_ren, r_up, h7, h8, h9]
theorem c_cp_o (σ : r_Sg) (a b : Nat) {q : Nat} (h7 : q ≠ 7) (h8 : q ≠ 8) (h9 : q ≠ 9) : ∀ n, c_cp σ a b n q = σ q
  | 0 => rfl
  | n + 1 => by rw [c_cp, c_ren_o _ _ _ _ h7 h8 h9, c_cp_o σ a b h7 h8 h9 n]
theorem c_cfi_o (σ : r_Sg) (a b : Nat) {q : Nat} (h7 : q ≠ 7) (h8 : q ≠ 8) (h9 : q ≠ 9) : ∀ n, c_cfi σ a b n q = σ q
  | 0 => rfl
  | n + 1 => by rw [c_cfi, c_ren_o _ _ _ _ h7 h8 h9, c_cfi_o σ a b h7 h8 h9 n]
theorem c_cfo_o (σ : r_Sg) (a b : Nat) {q : Nat} (h7 : q ≠ 7) (h8 : q ≠ 8) (h9 : q ≠ 9) : ∀ n, c_cfo σ a b n q = σ q
  | 0 => rfl
  | n + 1 => by rw [c_cfo, c_cfi_o _ _ _ h7 h8 h9, c_cfo_o σ a b h7 h8 h9 n]
theorem c_swBH {σ : r_Sg} {w : Nat} {sb : Option Nat} {fr : Nat → Nat} {nr b : Nat} (h : r_BH σ w sb fr nr) (hb : b < w) : r_BH (c_sw σ w sb b) w (c_swb σ sb b) fr nr := by
  unfold c_sw c_swb
  split
  · obtain ⟨h1, h2, h3, h4, h5, h6, h7, h8⟩ := h
    have e1 : c_cp σ b w 24 1 = σ 1 := c_cp_o σ b w (by decide) (by decide) (by decide) 24
    have e5 : c_cp σ b w 24 5 = σ 5 := c_cp_o σ b w (by decide) (by decide) (by decide) 24
    have e14 : c_cp σ b w 24 14 = σ 14 := c_cp_o σ b w (by decide) (by decide) (by decide) 24
    refine ⟨?_, h2, ?_, ?_, ?_, ?_, ?_, h8⟩
    · simpa [r_up, e1] using h1
    · simpa [r_up, upd, e5] using h3
    · simp [r_up, upd, r_sbI]
    · intro z hz; cases hz; exact hb
    · simpa [r_up, e14] using h6
    · simpa [r_up, upd, e5] using h7
  · exact h

set_option maxRecDepth 4000 in
theorem ev_X0_frameOf {σ : r_Sg} {p : Nat} (hp : p < 4) : Ev 0 MX0_frameOf [.ref 5, .int (nI p)] σ (some (.int (σ 14 p))) σ := by
  refine Ev_w [.ref 5, .int (nI p)] ?_ (by decide) rfl (Nat.le_of_ble_eq_true rfl) rfl
  refine g_aload_n dX0_frameOf_0 rfl ?_
  refine g_getR dX0_frameOf_1 fX0_25 rfl rfl ?_
  refine g_iload_n dX0_frameOf_4 rfl ?_
  refine g_ial _ dX0_frameOf_5 rfl rfl (by omega) ?_
  exact g_iret dX0_frameOf_6 rfl ⟨rfl, rfl⟩

set_option maxRecDepth 4000 in
theorem ev_X0_rowOf {σ : r_Sg} {w : Nat} {sb : Option Nat} {fr : Nat → Nat} {nr : Nat} {p v : Nat} (h : r_BH σ w sb fr nr) (hp : p < 4) : Ev 0 MX0_rowOf [.ref 5, .int (nI p), .int (nI v)] σ (some (.int (nI (4 * fr p + v)))) σ := by
  refine Ev_w [.ref 5, .int (nI p), .int (nI v)] ?_ (by decide) rfl (Nat.le_of_ble_eq_true rfl) rfl
  refine g_aload_n dX0_rowOf_0 rfl ?_
  refine g_getR dX0_rowOf_1 fX0_25 rfl rfl ?_
  refine g_iload_n dX0_rowOf_4 rfl ?_
  refine g_ial _ dX0_rowOf_5 rfl rfl (by omega) ?_
  refine g_t (h.2.2.2.2.2.1 p hp).1 ?_
  refine g_iconst (v := nI 4) dX0_rowOf_6 (by decide) ?_
  refine g_imul dX0_rowOf_7 ?_
  refine g_iload_n dX0_rowOf_8 rfl ?_
  refine g_iadd dX0_rowOf_9 ?_
  refine g_t (r_rx (fr p) v) ?_
  exact g_iret dX0_rowOf_10 rfl ⟨rfl, rfl⟩

set_option maxRecDepth 4000 in
theorem ev_X0_placesOf_n {σ : r_Sg} {w : Nat} {fr : Nat → Nat} {nr : Nat} {a : Int32} (h : r_BH σ w none fr nr) : Ev 0 MX0_placesOf [.ref 5, .int a] σ (some (.int (r_po w none a))) σ := by
  refine Ev_w [.ref 5, .int a] ?_ (by decide) rfl (Nat.le_of_ble_eq_true rfl) rfl
  refine g_aload_n dX0_placesOf_0 rfl ?_
  refine g_getI dX0_placesOf_1 fX0_35 rfl rfl ?_
  refine g_t h.2.2.2.1 ?_
  refine g_bipush (v := (-9)) dX0_placesOf_4 (by decide) ?_
  refine g_icne (tgt := 11) dX0_placesOf_6 (by decide) (fun c6 => absurd rfl c6) (fun c6 => ?_)
  refine g_iload_n dX0_placesOf_9 rfl ?_
  exact g_iret dX0_placesOf_10 rfl ⟨rfl, rfl⟩

set_option maxRecDepth 4000 in
theorem ev_X0_placesOf_s {σ : r_Sg} {w s : Nat} {fr : Nat → Nat} {nr : Nat} {a : Int32} (h : r_BH σ w (some s) fr nr) : Ev 0 MX0_placesOf [.ref 5, .int a] σ (some (.int (r_po w (some s) a))) σ := by
  have hsw := h.2.2.2.2.1 s rfl
  have hw20 := h.2.1
  refine Ev_w [.ref 5, .int a] ?_ (by decide) rfl (Nat.le_of_ble_eq_true rfl) rfl
  refine g_aload_n dX0_placesOf_0 rfl ?_
  refine g_getI dX0_placesOf_1 fX0_35 rfl rfl ?_
  refine g_t h.2.2.2.1 ?_
  refine g_bipush (v := (-9)) dX0_placesOf_4 (by decide) ?_
  refine g_icne (tgt := 11) dX0_placesOf_6 (by decide) (fun c6 => ?_) (fun c6 => absurd c6 (r_nm9 (show s < 2 ^ 31 by omega)))
  refine g_iload_n dX0_placesOf_11 rfl ?_
  refine g_iconst (v := 1) dX0_placesOf_12 (by decide) ?_
  refine g_aload_n dX0_placesOf_13 rfl ?_
  refine g_getI dX0_placesOf_14 fX0_35 rfl rfl ?_
  refine g_t h.2.2.2.1 ?_
  refine g_ishl dX0_placesOf_17 ?_
  refine g_iconst (v := (-1)) dX0_placesOf_18 (by decide) ?_
  refine g_ixor dX0_placesOf_19 ?_
  refine g_iand dX0_placesOf_20 ?_
  refine g_iload_n dX0_placesOf_21 rfl ?_
  refine g_aload_n dX0_placesOf_22 rfl ?_
  refine g_getI dX0_placesOf_23 fX0_35 rfl rfl ?_
  refine g_t h.2.2.2.1 ?_
  refine g_ishr dX0_placesOf_26 ?_
  refine g_iconst (v := 1) dX0_placesOf_27 (by decide) ?_
  refine g_iand dX0_placesOf_28 ?_
  refine g_aload_n dX0_placesOf_29 rfl ?_
  refine g_getI dX0_placesOf_30 fX0_62 rfl rfl ?_
  refine g_t h.2.2.1 ?_
  refine g_ishl dX0_placesOf_33 ?_
  refine g_ior dX0_placesOf_34 ?_
  exact g_iret dX0_placesOf_35 rfl ⟨rfl, rfl⟩

theorem ev_X0_placesOf {σ : r_Sg} {w : Nat} {sb : Option Nat} {fr : Nat → Nat} {nr : Nat} {a : Int32} (h : r_BH σ w sb fr nr) : Ev 0 MX0_placesOf [.ref 5, .int a] σ (some (.int (r_po w sb a))) σ := by
  cases sb with
  | none => exact ev_X0_placesOf_n h 
  | some s => exact ev_X0_placesOf_s h 

set_option maxRecDepth 4000 in
theorem ev_X0_placesInUse {σ : r_Sg} {w : Nat} {sb : Option Nat} {fr : Nat → Nat} {nr : Nat} (h : r_BH σ w sb fr nr) : Ev 2 MX0_placesInUse [.ref 5] σ (some (.int (r_po w sb (r_all w)))) σ := by
  refine Ev_w [.ref 5] ?_ (by decide) rfl (Nat.le_of_ble_eq_true rfl) rfl
  refine g_aload_n dX0_placesInUse_0 rfl ?_
  refine g_aload_n dX0_placesInUse_1 rfl ?_
  refine g_getR dX0_placesInUse_2 fX0_39 rfl rfl ?_
  refine g_V0 dX0_placesInUse_5 vX0_89 rfl (Nat.le_of_ble_eq_true rfl) (by decide) (Ev_r (r' := some (.int (r_all w))) ev_X2_allBits (by rw [h.1]; rfl)) ?_
  refine g_V1 dX0_placesInUse_8 vX0_92 rfl (Nat.le_of_ble_eq_true rfl) (by decide) (ev_X0_placesOf h) ?_
  exact g_iret dX0_placesInUse_11 rfl ⟨rfl, rfl⟩

set_option maxRecDepth 4000 in
theorem ev_X0_placeOf {σ : r_Sg} {w : Nat} {sb : Option Nat} {fr : Nat → Nat} {nr : Nat} {b : Nat} (h : r_BH σ w sb fr nr) (hb : b < w) : Ev 0 MX0_placeOf [.ref 5, .int (nI b)] σ (some (.int (nI (r_pl w sb b)))) σ := by
  have hw20 := h.2.1
  have hx : nI b = r_sbI sb ↔ sb = some b := by
    cases sb with
    | none => exact ⟨fun e => absurd e (r_nm9 (by omega)), fun e => by cases e⟩
    | some s => have := h.2.2.2.2.1 s rfl; exact ⟨fun e => by rw [(nI_eq (by omega) (by omega)).mp e], fun e => by cases e; rfl⟩
  refine Ev_w [.ref 5, .int (nI b)] ?_ (by decide) rfl (Nat.le_of_ble_eq_true rfl) rfl
  refine g_iload_n dX0_placeOf_0 rfl ?_
  refine g_aload_n dX0_placeOf_1 rfl ?_
  refine g_getI dX0_placeOf_2 fX0_35 rfl rfl ?_
  refine g_t h.2.2.2.1 ?_
  refine g_icne (tgt := 15) dX0_placeOf_5 (by decide) (fun c5 => ?_) (fun c5 => ?_)
  · have q5 := fun z => c5 (hx.mpr z)
    refine g_iload_n dX0_placeOf_15 rfl ?_
    exact g_iret dX0_placeOf_16 rfl ⟨by first | rw [r_pl, if_pos q5] | rw [r_pl, if_neg q5], rfl⟩
  · have q5 := hx.mp c5
    refine g_aload_n dX0_placeOf_8 rfl ?_
    refine g_getI dX0_placeOf_9 fX0_62 rfl rfl ?_
    refine g_t h.2.2.1 ?_
    refine g_goto (tgt := 16) dX0_placeOf_12 (by decide) ?_
    exact g_iret dX0_placeOf_16 rfl ⟨by first | rw [r_pl, if_pos q5] | rw [r_pl, if_neg q5], rfl⟩

set_option maxRecDepth 4000 in
theorem ev_X0_bitsOf_n {σ : r_Sg} {w : Nat} {fr : Nat → Nat} {nr : Nat} {p v : Nat} (h : r_BH σ w none fr nr) (hp : p < 4) (hv : v < 4) : Ev 2 MX0_bitsOf [.ref 5, .int (nI p), .int (nI v)] σ (some (.int (r_bo w none (σ 7 (4 * fr p + v))))) σ := by
  refine Ev_w [.ref 5, .int (nI p), .int (nI v), .null, .null] ?_ (by decide) rfl (Nat.le_of_ble_eq_true rfl) rfl
  have hfr := (h.2.2.2.2.2.1 p hp).2
  refine g_aload_n dX0_bitsOf_0 rfl ?_
  refine g_getR dX0_bitsOf_1 fX0_12 rfl rfl ?_
  refine g_aload_n dX0_bitsOf_4 rfl ?_
  refine g_iload_n dX0_bitsOf_5 rfl ?_
  refine g_iload_n dX0_bitsOf_6 rfl ?_
  refine g_V2 dX0_bitsOf_7 vX0_83 rfl (Nat.le_of_ble_eq_true rfl) (by decide) (ev_X0_rowOf h hp) ?_
  refine g_V1 dX0_bitsOf_10 vX0_86 rfl (Nat.le_of_ble_eq_true rfl) (by decide) (ev_X1_valuesIn (by omega)) ?_
  refine g_istore_n dX0_bitsOf_13 (by decide) rfl ?_
  refine g_aload_n dX0_bitsOf_14 rfl ?_
  refine g_getI dX0_bitsOf_15 fX0_35 rfl rfl ?_
  refine g_t h.2.2.2.1 ?_
  refine g_bipush (v := (-9)) dX0_bitsOf_18 (by decide) ?_
  refine g_icne (tgt := 33) dX0_bitsOf_20 (by decide) (fun c20 => absurd rfl c20) (fun c20 => ?_)
  refine g_iload_n dX0_bitsOf_23 rfl ?_
  refine g_aload_n dX0_bitsOf_24 rfl ?_
  refine g_getR dX0_bitsOf_25 fX0_39 rfl rfl ?_
  refine g_V0 dX0_bitsOf_28 vX0_89 rfl (Nat.le_of_ble_eq_true rfl) (by decide) (Ev_r (r' := some (.int (r_all w))) ev_X2_allBits (by rw [h.1]; rfl)) ?_
  refine g_iand dX0_bitsOf_31 ?_
  exact g_iret dX0_bitsOf_32 rfl ⟨rfl, rfl⟩

set_option maxRecDepth 4000 in
theorem ev_X0_bitsOf_s {σ : r_Sg} {w s : Nat} {fr : Nat → Nat} {nr : Nat} {p v : Nat} (h : r_BH σ w (some s) fr nr) (hp : p < 4) (hv : v < 4) : Ev 2 MX0_bitsOf [.ref 5, .int (nI p), .int (nI v)] σ (some (.int (r_bo w (some s) (σ 7 (4 * fr p + v))))) σ := by
  have hsw := h.2.2.2.2.1 s rfl
  have hw20 := h.2.1
  refine Ev_w [.ref 5, .int (nI p), .int (nI v), .null, .null] ?_ (by decide) rfl (Nat.le_of_ble_eq_true rfl) rfl
  have hfr := (h.2.2.2.2.2.1 p hp).2
  refine g_aload_n dX0_bitsOf_0 rfl ?_
  refine g_getR dX0_bitsOf_1 fX0_12 rfl rfl ?_
  refine g_aload_n dX0_bitsOf_4 rfl ?_
  refine g_iload_n dX0_bitsOf_5 rfl ?_
  refine g_iload_n dX0_bitsOf_6 rfl ?_
  refine g_V2 dX0_bitsOf_7 vX0_83 rfl (Nat.le_of_ble_eq_true rfl) (by decide) (ev_X0_rowOf h hp) ?_
  refine g_V1 dX0_bitsOf_10 vX0_86 rfl (Nat.le_of_ble_eq_true rfl) (by decide) (ev_X1_valuesIn (by omega)) ?_
  refine g_istore_n dX0_bitsOf_13 (by decide) rfl ?_
  refine g_aload_n dX0_bitsOf_14 rfl ?_
  refine g_getI dX0_bitsOf_15 fX0_35 rfl rfl ?_
  refine g_t h.2.2.2.1 ?_
  refine g_bipush (v := (-9)) dX0_bitsOf_18 (by decide) ?_
  refine g_icne (tgt := 33) dX0_bitsOf_20 (by decide) (fun c20 => ?_) (fun c20 => absurd c20 (r_nm9 (show s < 2 ^ 31 by omega)))
  refine g_iload_n dX0_bitsOf_33 rfl ?_
  refine g_aload_n dX0_bitsOf_34 rfl ?_
  refine g_getR dX0_bitsOf_35 fX0_39 rfl rfl ?_
  refine g_V0 dX0_bitsOf_38 vX0_89 rfl (Nat.le_of_ble_eq_true rfl) (by decide) (Ev_r (r' := some (.int (r_all w))) ev_X2_allBits (by rw [h.1]; rfl)) ?_
  refine g_iand dX0_bitsOf_41 ?_
  refine g_iconst (v := 1) dX0_bitsOf_42 (by decide) ?_
  refine g_aload_n dX0_bitsOf_43 rfl ?_
  refine g_getI dX0_bitsOf_44 fX0_35 rfl rfl ?_
  refine g_t h.2.2.2.1 ?_
  refine g_ishl dX0_bitsOf_47 ?_
  refine g_iconst (v := (-1)) dX0_bitsOf_48 (by decide) ?_
  refine g_ixor dX0_bitsOf_49 ?_
  refine g_iand dX0_bitsOf_50 ?_
  refine g_istore dX0_bitsOf_51 (by decide) rfl ?_
  refine g_iload dX0_bitsOf_53 rfl ?_
  refine g_iload_n dX0_bitsOf_55 rfl ?_
  refine g_aload_n dX0_bitsOf_56 rfl ?_
  refine g_getI dX0_bitsOf_57 fX0_62 rfl rfl ?_
  refine g_t h.2.2.1 ?_
  refine g_ishr dX0_bitsOf_60 ?_
  refine g_iconst (v := 1) dX0_bitsOf_61 (by decide) ?_
  refine g_iand dX0_bitsOf_62 ?_
  refine g_aload_n dX0_bitsOf_63 rfl ?_
  refine g_getI dX0_bitsOf_64 fX0_35 rfl rfl ?_
  refine g_t h.2.2.2.1 ?_
  refine g_ishl dX0_bitsOf_67 ?_
  refine g_ior dX0_bitsOf_68 ?_
  exact g_iret dX0_bitsOf_69 rfl ⟨rfl, rfl⟩

theorem ev_X0_bitsOf {σ : r_Sg} {w : Nat} {sb : Option Nat} {fr : Nat → Nat} {nr : Nat} {p v : Nat} (h : r_BH σ w sb fr nr) (hp : p < 4) (hv : v < 4) : Ev 2 MX0_bitsOf [.ref 5, .int (nI p), .int (nI v)] σ (some (.int (r_bo w sb (σ 7 (4 * fr p + v))))) σ := by
  cases sb with
  | none => exact ev_X0_bitsOf_n h hp hv
  | some s => exact ev_X0_bitsOf_s h hp hv

set_option maxRecDepth 4000 in
theorem ev_X0_putBits {σ : r_Sg} {w : Nat} {sb : Option Nat} {fr : Nat → Nat} {nr : Nat} {p v : Nat} {a : Int32} (h : r_BH σ w sb fr nr) (hp : p < 4) (hv : v < 4) : Ev 3 MX0_putBits [.ref 5, .int (nI p), .int (nI v), .int a] σ none (c_pb σ w sb (4 * fr p + v) a) := by
  have hfr := (h.2.2.2.2.2.1 p hp).2
  refine Ev_w [.ref 5, .int (nI p), .int (nI v), .int a] ?_ (by decide) rfl (Nat.le_of_ble_eq_true rfl) rfl
  refine g_aload_n dX0_putBits_0 rfl ?_
  refine g_getR dX0_putBits_1 fX0_12 rfl rfl ?_
  refine g_aload_n dX0_putBits_4 rfl ?_
  refine g_iload_n dX0_putBits_5 rfl ?_
  refine g_iload_n dX0_putBits_6 rfl ?_
  refine g_V2 dX0_putBits_7 vX0_83 rfl (Nat.le_of_ble_eq_true rfl) (by decide) (ev_X0_rowOf h hp) ?_
  refine g_aload_n dX0_putBits_10 rfl ?_
  refine g_iload_n dX0_putBits_11 rfl ?_
  refine g_V1 dX0_putBits_12 vX0_92 rfl (Nat.le_of_ble_eq_true rfl) (by decide) (ev_X0_placesOf h) ?_
  refine g_aload_n dX0_putBits_15 rfl ?_
  refine g_V0 dX0_putBits_16 vX0_162 rfl (Nat.le_of_ble_eq_true rfl) (by decide) (ev_X0_placesInUse h) ?_
  refine g_V3v dX0_putBits_19 vX0_165 rfl (Nat.le_of_ble_eq_true rfl) (by decide) (ev_X1_put (by omega)) ?_
  exact g_ret dX0_putBits_22 rfl ⟨rfl, rfl⟩

set_option maxRecDepth 4000 in
theorem ev_X0_turn {σ : r_Sg} {w : Nat} {sb : Option Nat} {fr : Nat → Nat} {nr : Nat} {p v : Nat} {a : Int32} (h : r_BH σ w sb fr nr) (hp : p < 4) (hv : v < 4) : Ev 2 MX0_turn [.ref 5, .int (nI p), .int (nI v), .int a] σ (some (.int (r_bc (r_po w sb a &&& (σ 8 (4 * fr p + v) ^^^ -1))))) (r_up σ 7 (4 * fr p + v) (σ 7 (4 * fr p + v) ^^^ (r_po w sb a &&& (σ 8 (4 * fr p + v) ^^^ -1)))) := by
  have hfr := (h.2.2.2.2.2.1 p hp).2
  refine Ev_w [.ref 5, .int (nI p), .int (nI v), .int a] ?_ (by decide) rfl (Nat.le_of_ble_eq_true rfl) rfl
  refine g_aload_n dX0_turn_0 rfl ?_
  refine g_getR dX0_turn_1 fX0_12 rfl rfl ?_
  refine g_aload_n dX0_turn_4 rfl ?_
  refine g_iload_n dX0_turn_5 rfl ?_
  refine g_iload_n dX0_turn_6 rfl ?_
  refine g_V2 dX0_turn_7 vX0_83 rfl (Nat.le_of_ble_eq_true rfl) (by decide) (ev_X0_rowOf h hp) ?_
  refine g_aload_n dX0_turn_10 rfl ?_
  refine g_iload_n dX0_turn_11 rfl ?_
  refine g_V1 dX0_turn_12 vX0_92 rfl (Nat.le_of_ble_eq_true rfl) (by decide) (ev_X0_placesOf h) ?_
  refine g_V2 dX0_turn_15 vX0_95 rfl (Nat.le_of_ble_eq_true rfl) (by decide) (ev_X1_turn (by omega)) ?_
  exact g_iret dX0_turn_18 rfl ⟨rfl, rfl⟩

set_option maxRecDepth 4000 in
theorem ev_X0_hold {σ : r_Sg} {w : Nat} {sb : Option Nat} {fr : Nat → Nat} {nr : Nat} {p v b : Nat} {a : Int32} (h : r_BH σ w sb fr nr) (hp : p < 4) (hv : v < 4) (hb : b < w) : Ev 2 MX0_hold [.ref 5, .int (nI p), .int (nI v), .int (nI b), .int a] σ (some (.int (r_b (σ 7 (4 * fr p + v)) (r_pl w sb b)))) (r_up (r_up σ 7 (4 * fr p + v) (r_sv (σ 7 (4 * fr p + v)) (r_pl w sb b) a)) 8 (4 * fr p + v) (r_hi (σ 8 (4 * fr p + v)) (r_pl w sb b))) := by
  have hfr := (h.2.2.2.2.2.1 p hp).2
  refine Ev_w [.ref 5, .int (nI p), .int (nI v), .int (nI b), .int a, .null, .null] ?_ (by decide) rfl (Nat.le_of_ble_eq_true rfl) rfl
  refine g_aload_n dX0_hold_0 rfl ?_
  refine g_iload_n dX0_hold_1 rfl ?_
  refine g_iload_n dX0_hold_2 rfl ?_
  refine g_V2 dX0_hold_3 vX0_83 rfl (Nat.le_of_ble_eq_true rfl) (by decide) (ev_X0_rowOf h hp) ?_
  refine g_istore dX0_hold_6 (by decide) rfl ?_
  refine g_aload_n dX0_hold_8 rfl ?_
  refine g_getR dX0_hold_9 fX0_12 rfl rfl ?_
  refine g_iload dX0_hold_12 rfl ?_
  refine g_aload_n dX0_hold_14 rfl ?_
  refine g_iload_n dX0_hold_15 rfl ?_
  refine g_V1 dX0_hold_16 vX0_98 rfl (Nat.le_of_ble_eq_true rfl) (by decide) (ev_X0_placeOf h hb) ?_
  refine g_V2 dX0_hold_19 vX0_101 rfl (Nat.le_of_ble_eq_true rfl) (by decide) (ev_X1_valueAt (by omega)) ?_
  refine g_istore dX0_hold_22 (by decide) rfl ?_
  refine g_aload_n dX0_hold_24 rfl ?_
  refine g_getR dX0_hold_25 fX0_12 rfl rfl ?_
  refine g_iload dX0_hold_28 rfl ?_
  refine g_aload_n dX0_hold_30 rfl ?_
  refine g_iload_n dX0_hold_31 rfl ?_
  refine g_V1 dX0_hold_32 vX0_98 rfl (Nat.le_of_ble_eq_true rfl) (by decide) (ev_X0_placeOf h hb) ?_
  refine g_iload dX0_hold_35 rfl ?_
  refine g_V3v dX0_hold_37 vX0_104 rfl (Nat.le_of_ble_eq_true rfl) (by decide) (ev_X1_hold (by omega)) ?_
  refine g_iload dX0_hold_40 rfl ?_
  exact g_iret dX0_hold_42 rfl ⟨rfl, rfl⟩

set_option maxRecDepth 4000 in
theorem ev_X0_loosen {σ : r_Sg} {w : Nat} {sb : Option Nat} {fr : Nat → Nat} {nr : Nat} {p v b : Nat} (h : r_BH σ w sb fr nr) (hp : p < 4) (hv : v < 4) (hb : b < w) : Ev 1 MX0_loosen [.ref 5, .int (nI p), .int (nI v), .int (nI b)] σ (some (.int (r_b (σ 7 (4 * fr p + v)) (r_pl w sb b)))) (r_up σ 8 (4 * fr p + v) (r_lo (σ 8 (4 * fr p + v)) (r_pl w sb b))) := by
  have hfr := (h.2.2.2.2.2.1 p hp).2
  refine Ev_w [.ref 5, .int (nI p), .int (nI v), .int (nI b), .null] ?_ (by decide) rfl (Nat.le_of_ble_eq_true rfl) rfl
  refine g_aload_n dX0_loosen_0 rfl ?_
  refine g_iload_n dX0_loosen_1 rfl ?_
  refine g_iload_n dX0_loosen_2 rfl ?_
  refine g_V2 dX0_loosen_3 vX0_83 rfl (Nat.le_of_ble_eq_true rfl) (by decide) (ev_X0_rowOf h hp) ?_
  refine g_istore dX0_loosen_6 (by decide) rfl ?_
  refine g_aload_n dX0_loosen_8 rfl ?_
  refine g_getR dX0_loosen_9 fX0_12 rfl rfl ?_
  refine g_iload dX0_loosen_12 rfl ?_
  refine g_aload_n dX0_loosen_14 rfl ?_
  refine g_iload_n dX0_loosen_15 rfl ?_
  refine g_V1 dX0_loosen_16 vX0_98 rfl (Nat.le_of_ble_eq_true rfl) (by decide) (ev_X0_placeOf h hb) ?_
  refine g_V2v dX0_loosen_19 vX0_107 rfl (Nat.le_of_ble_eq_true rfl) (by decide) (ev_X1_loosen (by omega)) ?_
  refine g_aload_n dX0_loosen_22 rfl ?_
  refine g_getR dX0_loosen_23 fX0_12 rfl rfl ?_
  refine g_iload dX0_loosen_26 rfl ?_
  refine g_aload_n dX0_loosen_28 rfl ?_
  refine g_iload_n dX0_loosen_29 rfl ?_
  refine g_V1 dX0_loosen_30 vX0_98 rfl (Nat.le_of_ble_eq_true rfl) (by decide) (ev_X0_placeOf (h.to rfl rfl rfl) hb) ?_
  refine g_V2 dX0_loosen_33 vX0_101 rfl (Nat.le_of_ble_eq_true rfl) (by decide) (ev_X1_valueAt (by omega)) ?_
  exact g_iret dX0_loosen_36 rfl ⟨rfl, rfl⟩

set_option maxRecDepth 4000 in
theorem ev_X0_keep {σ : r_Sg} {w : Nat} {sb : Option Nat} {fr : Nat → Nat} {nr : Nat} {p v : Nat} {a : Int32} (h : r_BH σ w sb fr nr) (hp : p < 4) (hv : v < 4) : Ev 4 MX0_keep [.ref 5, .int (nI p), .int (nI v), .int a] σ none (c_pb (r_up σ 15 (4 * p + v) a) w sb (4 * fr p + v) (a ||| (r_syn (σ 2) a w <<< (σ 1 3 &&& 31)))) := by
  refine Ev_w [.ref 5, .int (nI p), .int (nI v), .int a] ?_ (by decide) rfl (Nat.le_of_ble_eq_true rfl) rfl
  refine g_aload_n dX0_keep_0 rfl ?_
  refine g_getR dX0_keep_1 fX0_29 rfl rfl ?_
  refine g_iload_n dX0_keep_4 rfl ?_
  refine g_iconst (v := nI 4) dX0_keep_5 (by decide) ?_
  refine g_imul dX0_keep_6 ?_
  refine g_iload_n dX0_keep_7 rfl ?_
  refine g_iadd dX0_keep_8 ?_
  refine g_t (r_rx p v) ?_
  refine g_iload_n dX0_keep_9 rfl ?_
  refine g_ias _ dX0_keep_10 rfl rfl (by omega) ?_
  refine g_aload_n dX0_keep_11 rfl ?_
  refine g_iload_n dX0_keep_12 rfl ?_
  refine g_iload_n dX0_keep_13 rfl ?_
  refine g_aload_n dX0_keep_14 rfl ?_
  refine g_getR dX0_keep_15 fX0_39 rfl rfl ?_
  refine g_iload_n dX0_keep_18 rfl ?_
  refine g_V1 dX0_keep_19 vX0_75 rfl (Nat.le_of_ble_eq_true rfl) (by decide) (ev_X2_wordOf (σ := r_up σ 15 (4 * p + v) a) h.1 h.2.1) ?_
  refine g_V3v dX0_keep_22 vX0_79 rfl (Nat.le_of_ble_eq_true rfl) (by decide) (ev_X0_putBits (h.to rfl rfl rfl) hp hv) ?_
  exact g_ret dX0_keep_25 rfl ⟨rfl, rfl⟩

set_option maxRecDepth 4000 in
theorem ev_X0_keptValue {σ : r_Sg} {p v : Nat} (hp : p < 4) (hv : v < 4) : Ev 0 MX0_keptValue [.ref 5, .int (nI p), .int (nI v)] σ (some (.int (σ 15 (4 * p + v)))) σ := by
  refine Ev_w [.ref 5, .int (nI p), .int (nI v)] ?_ (by decide) rfl (Nat.le_of_ble_eq_true rfl) rfl
  refine g_aload_n dX0_keptValue_0 rfl ?_
  refine g_getR dX0_keptValue_1 fX0_29 rfl rfl ?_
  refine g_iload_n dX0_keptValue_4 rfl ?_
  refine g_iconst (v := nI 4) dX0_keptValue_5 (by decide) ?_
  refine g_imul dX0_keptValue_6 ?_
  refine g_iload_n dX0_keptValue_7 rfl ?_
  refine g_iadd dX0_keptValue_8 ?_
  refine g_t (r_rx p v) ?_
  refine g_ial _ dX0_keptValue_9 rfl rfl (by omega) ?_
  exact g_iret dX0_keptValue_10 rfl ⟨rfl, rfl⟩

set_option maxRecDepth 4000 in
theorem ev_X0_marksOf {σ : r_Sg} {f v q : Nat} (hf : f < 6) (hv : v < 4) (hq : q < 21) : Ev 1 MX0_marksOf [.ref 5, .int (nI f), .int (nI v), .int (nI q)] σ (some (.int (σ 9 (21 * (4 * f + v) + q)))) σ := by
  refine Ev_w [.ref 5, .int (nI f), .int (nI v), .int (nI q)] ?_ (by decide) rfl (Nat.le_of_ble_eq_true rfl) rfl
  refine g_aload_n dX0_marksOf_0 rfl ?_
  refine g_getR dX0_marksOf_1 fX0_12 rfl rfl ?_
  refine g_iload_n dX0_marksOf_4 rfl ?_
  refine g_iconst (v := nI 4) dX0_marksOf_5 (by decide) ?_
  refine g_imul dX0_marksOf_6 ?_
  refine g_iload_n dX0_marksOf_7 rfl ?_
  refine g_iadd dX0_marksOf_8 ?_
  refine g_t (r_rx f v) ?_
  refine g_iload_n dX0_marksOf_9 rfl ?_
  refine g_V2 dX0_marksOf_10 vX0_71 rfl (Nat.le_of_ble_eq_true rfl) (by decide) (ev_X1_marksAt (by omega) hq) ?_
  exact g_iret dX0_marksOf_13 rfl ⟨rfl, rfl⟩

set_option maxRecDepth 4000 in
theorem ev_X0_log {σ : r_Sg}  : Ev 0 MX0_log [.ref 5] σ (some (.ref 10)) σ := by
  refine Ev_w [.ref 5] ?_ (by decide) rfl (Nat.le_of_ble_eq_true rfl) rfl
  refine g_aload_n dX0_log_0 rfl ?_
  refine g_getR dX0_log_1 fX0_21 rfl rfl ?_
  exact g_aret dX0_log_4 rfl ⟨rfl, rfl⟩

set_option maxRecDepth 4000 in
theorem ev_X0_spareFramesLeft {σ : r_Sg} {nr : Nat} (hn : σ 5 6 = nI nr) : Ev 0 MX0_spareFramesLeft [.ref 5] σ (some (.int (2 - nI nr))) σ := by
  refine Ev_w [.ref 5] ?_ (by decide) rfl (Nat.le_of_ble_eq_true rfl) rfl
  refine g_iconst (v := 2) dX0_spareFramesLeft_0 (by decide) ?_
  refine g_aload_n dX0_spareFramesLeft_1 rfl ?_
  refine g_getI dX0_spareFramesLeft_2 fX0_53 rfl rfl ?_
  refine g_t hn ?_
  refine g_isub dX0_spareFramesLeft_5 ?_
  exact g_iret dX0_spareFramesLeft_6 rfl ⟨rfl, rfl⟩

set_option maxRecDepth 4000 in
theorem ev_X0_retiredFrame {σ : r_Sg} {n : Nat} {b : Int32} (hn : σ 5 6 = nI n) (hn2 : n ≤ 2) : Ev 0 MX0_retiredFrame [.ref 5, .int b] σ (some (.int (if 0 ≤ b ∧ b < nI n then σ 16 b.toNatClampNeg else -1))) σ := by
  refine Ev_w [.ref 5, .int b] ?_ (by decide) rfl (Nat.le_of_ble_eq_true rfl) rfl
  refine g_iload_n dX0_retiredFrame_0 rfl ?_
  refine g_iflt (tgt := 21) dX0_retiredFrame_1 (by decide) (fun c1 => ?_) (fun c1 => ?_)
  · have q9 : ¬ (0 ≤ b ∧ b < nI n) := fun z => absurd c1 (Int32.not_lt.mpr z.1)
    refine g_iconst (v := (-1)) dX0_retiredFrame_21 (by decide) ?_
    exact g_iret dX0_retiredFrame_22 rfl ⟨by first | rw [if_pos q9, nI_clamp (by omega)] | rw [if_neg q9], rfl⟩
  · refine g_iload_n dX0_retiredFrame_4 rfl ?_
    refine g_aload_n dX0_retiredFrame_5 rfl ?_
    refine g_getI dX0_retiredFrame_6 fX0_53 rfl rfl ?_
    refine g_t hn ?_
    refine g_icge (tgt := 21) dX0_retiredFrame_9 (by decide) (fun c9 => ?_) (fun c9 => ?_)
    · have q9 : ¬ (0 ≤ b ∧ b < nI n) := fun z => absurd z.2 (Int32.not_lt.mpr c9)
      refine g_iconst (v := (-1)) dX0_retiredFrame_21 (by decide) ?_
      exact g_iret dX0_retiredFrame_22 rfl ⟨by first | rw [if_pos q9, nI_clamp (by omega)] | rw [if_neg q9], rfl⟩
    · have q9 : 0 ≤ b ∧ b < nI n := ⟨Int32.not_lt.mp c1, Int32.not_le.mp c9⟩
      obtain ⟨j, hj, rfl⟩ := r_nat q9 (by omega)
      refine g_aload_n dX0_retiredFrame_12 rfl ?_
      refine g_getR dX0_retiredFrame_13 fX0_32 rfl rfl ?_
      refine g_iload_n dX0_retiredFrame_16 rfl ?_
      refine g_ial _ dX0_retiredFrame_17 rfl rfl (by omega) ?_
      refine g_goto (tgt := 22) dX0_retiredFrame_18 (by decide) ?_
      exact g_iret dX0_retiredFrame_22 rfl ⟨by first | rw [if_pos q9, nI_clamp (by omega)] | rw [if_neg q9], rfl⟩

set_option maxRecDepth 4000 in
theorem ev_X0_swapIfDue_n {σ : r_Sg} {w : Nat} {fr : Nat → Nat} {nr : Nat} {b : Nat} (h : r_BH σ w none fr nr) (hb : b < w) : Ev 3 MX0_swapIfDue [.ref 5, .int (nI b)] σ (some (.int (bI (c_du1 σ none b = true)))) (c_sw σ w none b) := by
  have hw := h.2.1
  refine Ev_w [.ref 5, .int (nI b)] ?_ (by decide) rfl (Nat.le_of_ble_eq_true rfl) rfl
  refine g_aload_n dX0_swapIfDue_0 rfl ?_
  refine g_getI dX0_swapIfDue_1 fX0_35 rfl rfl ?_
  refine g_t h.2.2.2.1 ?_
  refine g_bipush (v := (-9)) dX0_swapIfDue_4 (by decide) ?_
  refine g_icne (tgt := 21) dX0_swapIfDue_6 (by decide) (fun c6 => absurd rfl c6) (fun c6 => ?_)
  refine g_aload_n dX0_swapIfDue_9 rfl ?_
  refine g_getR dX0_swapIfDue_10 fX0_12 rfl rfl ?_
  refine g_iload_n dX0_swapIfDue_13 rfl ?_
  refine g_V1 dX0_swapIfDue_14 vX0_168 rfl (Nat.le_of_ble_eq_true rfl) (by decide) (ev_X1_badInPlace (by omega)) ?_
  refine g_iconst (v := 3) dX0_swapIfDue_17 (by decide) ?_
  refine g_icge (tgt := 23) dX0_swapIfDue_18 (by decide) (fun c18 => ?_) (fun c18 => ?_)
  · have q18 : c_du1 σ none b = true := decide_eq_true ⟨rfl, c18⟩
    refine g_aload_n dX0_swapIfDue_23 rfl ?_
    refine g_getR dX0_swapIfDue_24 fX0_12 rfl rfl ?_
    refine g_iload_n dX0_swapIfDue_27 rfl ?_
    refine g_aload_n dX0_swapIfDue_28 rfl ?_
    refine g_getI dX0_swapIfDue_29 fX0_62 rfl rfl ?_
    refine g_t h.2.2.1 ?_
    refine g_V2v dX0_swapIfDue_32 vX0_171 rfl (Nat.le_of_ble_eq_true rfl) (by decide) (ev_X1_copyPlace (by omega)) ?_
    refine g_aload_n dX0_swapIfDue_35 rfl ?_
    refine g_iload_n dX0_swapIfDue_36 rfl ?_
    refine g_putI dX0_swapIfDue_37 pX0_35 rfl rfl ?_
    refine g_iconst (v := 1) dX0_swapIfDue_40 (by decide) ?_
    exact g_zret dX0_swapIfDue_41 rfl (by first | exact Or.inl rfl | exact Or.inr rfl) ⟨by first | rw [bI_t q18] | rw [bI_f q18], by first | rw [c_sw, if_pos q18] | rw [c_sw, if_neg q18]⟩
  · have q18 : ¬ c_du1 σ none b = true := fun z => c18 (of_decide_eq_true z).2
    refine g_iconst (v := 0) dX0_swapIfDue_21 (by decide) ?_
    exact g_zret dX0_swapIfDue_22 rfl (by first | exact Or.inl rfl | exact Or.inr rfl) ⟨by first | rw [bI_t q18] | rw [bI_f q18], by first | rw [c_sw, if_pos q18] | rw [c_sw, if_neg q18]⟩

set_option maxRecDepth 4000 in
theorem ev_X0_swapIfDue_s {σ : r_Sg} {w s : Nat} {fr : Nat → Nat} {nr : Nat} {b : Nat} (h : r_BH σ w (some s) fr nr) (hb : b < w) : Ev 3 MX0_swapIfDue [.ref 5, .int (nI b)] σ (some (.int (bI (c_du1 σ (some s) b = true)))) (c_sw σ w (some s) b) := by
  have hsw := h.2.2.2.2.1 s rfl
  have hw20 := h.2.1
  have hw := h.2.1
  refine Ev_w [.ref 5, .int (nI b)] ?_ (by decide) rfl (Nat.le_of_ble_eq_true rfl) rfl
  refine g_aload_n dX0_swapIfDue_0 rfl ?_
  refine g_getI dX0_swapIfDue_1 fX0_35 rfl rfl ?_
  refine g_t h.2.2.2.1 ?_
  refine g_bipush (v := (-9)) dX0_swapIfDue_4 (by decide) ?_
  refine g_icne (tgt := 21) dX0_swapIfDue_6 (by decide) (fun c6 => ?_) (fun c6 => absurd c6 (r_nm9 (show s < 2 ^ 31 by omega)))
  refine g_iconst (v := 0) dX0_swapIfDue_21 (by decide) ?_
  exact g_zret dX0_swapIfDue_22 rfl (by first | exact Or.inl rfl | exact Or.inr rfl) ⟨by rw [bI_f (by simp [c_du1])], by rw [c_sw, if_neg (by simp [c_du1])]⟩

theorem ev_X0_swapIfDue {σ : r_Sg} {w : Nat} {sb : Option Nat} {fr : Nat → Nat} {nr : Nat} {b : Nat} (h : r_BH σ w sb fr nr) (hb : b < w) : Ev 3 MX0_swapIfDue [.ref 5, .int (nI b)] σ (some (.int (bI (c_du1 σ sb b = true)))) (c_sw σ w sb b) := by
  cases sb with
  | none => exact ev_X0_swapIfDue_n h hb
  | some s => exact ev_X0_swapIfDue_s h hb

set_option maxRecDepth 4000 in
theorem ev_X0_retireIfDue {σ : r_Sg} {w : Nat} {sb : Option Nat} {fr : Nat → Nat} {nr : Nat} {p : Nat} (h : r_BH σ w sb fr nr) (hp : p < 4) : Ev 3 MX0_retireIfDue [.ref 5, .int (nI p)] σ (some (.int (bI (c_du2 σ w sb fr nr p = true)))) (c_rt σ w sb fr nr p) := by
  have hfr := (h.2.2.2.2.2.1 p hp).2
  have hnr := h.2.2.2.2.2.2.2
  refine Ev_w [.ref 5, .int (nI p), .null, .null] ?_ (by decide) rfl (Nat.le_of_ble_eq_true rfl) rfl
  refine g_aload_n dX0_retireIfDue_0 rfl ?_
  refine g_getR dX0_retireIfDue_1 fX0_25 rfl rfl ?_
  refine g_iload_n dX0_retireIfDue_4 rfl ?_
  refine g_ial _ dX0_retireIfDue_5 rfl rfl (by omega) ?_
  refine g_t (h.2.2.2.2.2.1 p hp).1 ?_
  refine g_istore_n dX0_retireIfDue_6 (by decide) rfl ?_
  refine g_aload_n dX0_retireIfDue_7 rfl ?_
  refine g_V0 dX0_retireIfDue_8 vX0_159 rfl (Nat.le_of_ble_eq_true rfl) (by decide) (ev_X0_spareFramesLeft h.2.2.2.2.2.2.1) ?_
  refine g_ifeq (tgt := 30) dX0_retireIfDue_11 (by decide) (fun c11 => ?_) (fun c11 => ?_)
  · have q2 : nr = 2 := by rcases (show nr = 0 ∨ nr = 1 ∨ nr = 2 by omega) with z | z | z <;> subst z <;> first | rfl | exact absurd c11 (by decide)
    have q27 : ¬ c_du2 σ w sb fr nr p = true := by simp only [c_du2, decide_eq_true_eq]; exact fun z => z.1 q2
    refine g_iconst (v := 0) dX0_retireIfDue_30 (by decide) ?_
    exact g_zret dX0_retireIfDue_31 rfl (by first | exact Or.inl rfl | exact Or.inr rfl) ⟨by first | rw [bI_t q27] | rw [bI_f q27], by first | rw [c_rt, if_pos q27] | rw [c_rt, if_neg q27]⟩
  · have q2 : ¬ nr = 2 := by intro z; subst z; exact c11 (by decide)
    refine g_aload_n dX0_retireIfDue_14 rfl ?_
    refine g_getR dX0_retireIfDue_15 fX0_12 rfl rfl ?_
    refine g_iload_n dX0_retireIfDue_18 rfl ?_
    refine g_aload_n dX0_retireIfDue_19 rfl ?_
    refine g_V0 dX0_retireIfDue_20 vX0_162 rfl (Nat.le_of_ble_eq_true rfl) (by decide) (ev_X0_placesInUse h) ?_
    refine g_V2 dX0_retireIfDue_23 vX0_174 rfl (Nat.le_of_ble_eq_true rfl) (by decide) (ev_X1_badInFrame hfr) ?_
    refine g_iconst (v := 4) dX0_retireIfDue_26 (by decide) ?_
    refine g_icge (tgt := 32) dX0_retireIfDue_27 (by decide) (fun c27 => ?_) (fun c27 => ?_)
    · have q27 : c_du2 σ w sb fr nr p = true := by simp only [c_du2, decide_eq_true_eq]; exact ⟨q2, c27⟩
      refine g_iconst (v := nI 4) dX0_retireIfDue_32 (by decide) ?_
      refine g_aload_n dX0_retireIfDue_33 rfl ?_
      refine g_getI dX0_retireIfDue_34 fX0_53 rfl rfl ?_
      refine g_t h.2.2.2.2.2.2.1 ?_
      refine g_iadd dX0_retireIfDue_37 ?_
      refine g_t (nI_add 4 nr) ?_
      refine g_istore_n dX0_retireIfDue_38 (by decide) rfl ?_
      refine g_aload_n dX0_retireIfDue_39 rfl ?_
      refine g_getR dX0_retireIfDue_40 fX0_12 rfl rfl ?_
      refine g_iload_n dX0_retireIfDue_43 rfl ?_
      refine g_iload_n dX0_retireIfDue_44 rfl ?_
      refine g_V2v dX0_retireIfDue_45 vX0_177 rfl (Nat.le_of_ble_eq_true rfl) (by decide) (ev_X1_copyFrame hfr (by omega)) ?_
      refine g_aload_n dX0_retireIfDue_48 rfl ?_
      refine g_getR dX0_retireIfDue_49 fX0_25 rfl rfl ?_
      refine g_iload_n dX0_retireIfDue_52 rfl ?_
      refine g_iload_n dX0_retireIfDue_53 rfl ?_
      refine g_ias _ dX0_retireIfDue_54 rfl rfl (by omega) ?_
      refine g_aload_n dX0_retireIfDue_55 rfl ?_
      refine g_getR dX0_retireIfDue_56 fX0_32 rfl rfl ?_
      refine g_aload_n dX0_retireIfDue_59 rfl ?_
      refine g_getI dX0_retireIfDue_60 fX0_53 rfl rfl ?_
      refine g_t (show _ = nI nr from by simp only [r_up]; simp [c_cfo_o, h.2.2.2.2.2.2.1]) ?_
      refine g_iload_n dX0_retireIfDue_63 rfl ?_
      refine g_ias _ dX0_retireIfDue_64 rfl rfl (by omega) ?_
      refine g_aload_n dX0_retireIfDue_65 rfl ?_
      refine g_dup dX0_retireIfDue_66 rfl ?_
      refine g_getI dX0_retireIfDue_67 fX0_53 rfl rfl ?_
      refine g_t (show _ = nI nr from by simp only [r_up]; simp [c_cfo_o, h.2.2.2.2.2.2.1]) ?_
      refine g_iconst (v := 1) dX0_retireIfDue_70 (by decide) ?_
      refine g_iadd dX0_retireIfDue_71 ?_
      refine g_putI dX0_retireIfDue_72 pX0_53 rfl rfl ?_
      refine g_iconst (v := 1) dX0_retireIfDue_75 (by decide) ?_
      exact g_zret dX0_retireIfDue_76 rfl (by first | exact Or.inl rfl | exact Or.inr rfl) ⟨by first | rw [bI_t q27] | rw [bI_f q27], by first | rw [c_rt, if_pos q27] | rw [c_rt, if_neg q27]⟩
    · have q27 : ¬ c_du2 σ w sb fr nr p = true := by simp only [c_du2, decide_eq_true_eq]; exact fun z => c27 z.2
      refine g_iconst (v := 0) dX0_retireIfDue_30 (by decide) ?_
      exact g_zret dX0_retireIfDue_31 rfl (by first | exact Or.inl rfl | exact Or.inr rfl) ⟨by first | rw [bI_t q27] | rw [bI_f q27], by first | rw [c_rt, if_pos q27] | rw [c_rt, if_neg q27]⟩
end
section
/-! Bank: a look at a word, the scrubber, how many -/
theorem c_sw_o (σ : r_Sg) (w : Nat) (sb : Option Nat) (b : Nat) {q : Nat} (h5 : q ≠ 5) (h7 : q ≠ 7) (h8 : q ≠ 8) (h9 : q ≠ 9) : c_sw σ w sb b q = σ q := by
  unfold c_sw
  split
  · simp [r_up, h5, c_cp_o σ b w h7 h8 h9]
  · rfl
theorem c_rt_o (σ : r_Sg) (w : Nat) (sb : Option Nat) (fr : Nat → Nat) (nr p : Nat) {q : Nat} (h5 : q ≠ 5) (h7 : q ≠ 7) (h8 : q ≠ 8) (h9 : q ≠ 9) (h14 : q ≠ 14) (h16 : q ≠ 16) : c_rt σ w sb fr nr p q = σ q := by
  unfold c_rt
  split
  · simp [r_up, h5, h14, h16, c_cfo_o σ _ _ h7 h8 h9]
  · rfl
def c_fr (σ : r_Sg) (w : Nat) (sb : Option Nat) (fr : Nat → Nat) (nr p : Nat) : Nat → Nat := if c_du2 σ w sb fr nr p then fun x => if x = p then 4 + nr else fr x else fr
def c_nr (σ : r_Sg) (w : Nat) (sb : Option Nat) (fr : Nat → Nat) (nr p : Nat) : Nat := if c_du2 σ w sb fr nr p then nr + 1 else nr
theorem c_rtBH {σ : r_Sg} {w : Nat} {sb : Option Nat} {fr : Nat → Nat} {nr p : Nat} (h : r_BH σ w sb fr nr) (hp : p < 4) : r_BH (c_rt σ w sb fr nr p) w sb (c_fr σ w sb fr nr p) (c_nr σ w sb fr nr p) := by
  unfold c_rt c_fr c_nr
  by_cases hd : c_du2 σ w sb fr nr p = true
  · obtain ⟨h1, h2, h3, h4, h5, h6, h7, h8⟩ := h
    have hd2 : ¬ nr = 2 := (of_decide_eq_true hd).1
    have e : ∀ q, q ≠ 7 → q ≠ 8 → q ≠ 9 → c_cfo σ (fr p) (4 + nr) 4 q = σ q := fun q a b c => c_cfo_o σ _ _ a b c 4
    simp only [hd, if_true]
    refine ⟨?_, h2, ?_, ?_, h5, ?_, ?_, by omega⟩
    · simpa [r_up, e 1] using h1
    · simpa [r_up, upd, e 5] using h3
    · simpa [r_up, upd, e 5] using h4
    · intro x hx
      by_cases hxp : x = p
      · subst hxp
        simp [r_up, upd]
        omega
      · simpa [r_up, upd, e 14, hxp] using h6 x hx
    · simp [r_up, upd, nI_1]
  · simp only [hd, if_false]
    exact h
/-- the bit's cell gets a mark more -/
def c_mk (σ : r_Sg) (w : Nat) (sb : Option Nat) (fr : Nat → Nat) (p v b : Nat) : r_Sg := r_up (c_nl σ 1 (nI b) (nI p) (nI v)) 9 (21 * (4 * fr p + v) + r_pl w sb b) (σ 9 (21 * (4 * fr p + v) + r_pl w sb b) + 1)
def c_lk (σ : r_Sg) (w : Nat) (sb : Option Nat) (fr : Nat → Nat) (nr p v b tc : Nat) : r_Sg :=
  c_nm (c_rt (c_sw (c_mk σ w sb fr p v b) w sb b) w (c_swb (c_mk σ w sb fr p v b) sb b) fr nr p) p tc (bI (c_du1 (c_mk σ w sb fr p v b) sb b = true)) (bI (c_du2 (c_sw (c_mk σ w sb fr p v b) w sb b) w (c_swb (c_mk σ w sb fr p v b) sb b) fr nr p = true))
theorem c_nm_o (σ : r_Sg) (p tc : Nat) (a b : Int32) {q : Nat} (h10 : q ≠ 10) (h12 : q ≠ 12) (h13 : q ≠ 13) : c_nm σ p tc a b q = σ q := by
  simp only [c_nm]
  split <;> simp [r_up, h10, h12, h13]
theorem c_mkBH {σ : r_Sg} {w : Nat} {sb : Option Nat} {fr : Nat → Nat} {nr : Nat} (p v b : Nat) (h : r_BH σ w sb fr nr) : r_BH (c_mk σ w sb fr p v b) w sb fr nr := h.to rfl rfl rfl
def c_lkb (σ : r_Sg) (w : Nat) (sb : Option Nat) (fr : Nat → Nat) (p v b : Nat) : Option Nat := c_swb (c_mk σ w sb fr p v b) sb b
def c_lkf (σ : r_Sg) (w : Nat) (sb : Option Nat) (fr : Nat → Nat) (nr p v b : Nat) : Nat → Nat := c_fr (c_sw (c_mk σ w sb fr p v b) w sb b) w (c_lkb σ w sb fr p v b) fr nr p
def c_lkn (σ : r_Sg) (w : Nat) (sb : Option Nat) (fr : Nat → Nat) (nr p v b : Nat) : Nat := c_nr (c_sw (c_mk σ w sb fr p v b) w sb b) w (c_lkb σ w sb fr p v b) fr nr p
theorem c_lkBH {σ : r_Sg} {w : Nat} {sb : Option Nat} {fr : Nat → Nat} {nr p v b : Nat} (tc : Nat) (h : r_BH σ w sb fr nr) (hp : p < 4) (hb : b < w) : r_BH (c_lk σ w sb fr nr p v b tc) w (c_lkb σ w sb fr p v b) (c_lkf σ w sb fr nr p v b) (c_lkn σ w sb fr nr p v b) :=
  (c_rtBH (c_swBH (c_mkBH p v b h) hb) hp).to (c_nm_o _ _ _ _ _ (by decide) (by decide) (by decide)) (c_nm_o _ _ _ _ _ (by decide) (by decide) (by decide)) (c_nm_o _ _ _ _ _ (by decide) (by decide) (by decide))
def c_st (σ : r_Sg) (a b : Nat) : r_Sg := if b = 3 then r_up (r_up (r_up σ 5 10 (nI (b + 1))) 5 10 0) 5 9 (if a + 1 < 4 then nI (a + 1) else 0) else r_up σ 5 10 (nI (b + 1))
def c_bu (σ : r_Sg) (w : Nat) (sb : Option Nat) (fr : Nat → Nat) : Nat → Int32
  | 0 => 0
  | p + 1 => c_bu σ w sb fr p + c_bf σ (fr p) (r_po w sb (r_all w)) 4
def c_su (σ : r_Sg) (w : Nat) (sb : Option Nat) (fr : Nat → Nat) : Nat → Int32
  | 0 => 0
  | p + 1 => c_su σ w sb fr p + c_sf σ (fr p) (r_po w sb (r_all w)) 4
theorem c_stBH {σ : r_Sg} {w : Nat} {sb : Option Nat} {fr : Nat → Nat} {nr a b : Nat} (h : r_BH σ w sb fr nr) : r_BH (c_st σ a b) w sb fr nr := by
  obtain ⟨h1, h2, h3, h4, h5, h6, h7, h8⟩ := h
  unfold c_st
  split <;> exact ⟨h1, h2, h3, h4, h5, h6, h7, h8⟩
theorem c_st_o (σ : r_Sg) (a b : Nat) {q : Nat} (h : q ≠ 5) : c_st σ a b q = σ q := by
  unfold c_st
  split <;> simp [r_up, h]

set_option maxRecDepth 4000 in
theorem ev_X0_lookAt_c {σ : r_Sg} {w : Nat} {sb : Option Nat} {fr : Nat → Nat} {nr : Nat} {p v : Nat} (h : r_BH σ w sb fr nr) (hp : p < 4) (hv : v < 4) (hy : r_syn (σ 2) (r_bo w sb (σ 7 (4 * fr p + v))) w = nI 0) : Ev 3 MX0_lookAt [.ref 5, .int (nI p), .int (nI v)] σ (some (.int (r_bo w sb (σ 7 (4 * fr p + v))))) (c_nl σ 0 (-9) (nI p) (nI v)) := by
  refine Ev_w [.ref 5, .int (nI p), .int (nI v), .null, .null, .null, .null, .null] ?_ (by decide) rfl (Nat.le_of_ble_eq_true rfl) rfl
  refine g_aload_n dX0_lookAt_0 rfl ?_
  refine g_iload_n dX0_lookAt_1 rfl ?_
  refine g_iload_n dX0_lookAt_2 rfl ?_
  refine g_V2 dX0_lookAt_3 vX0_111 rfl (Nat.le_of_ble_eq_true rfl) (by decide) (ev_X0_bitsOf h hp hv) ?_
  refine g_istore_n dX0_lookAt_6 (by decide) rfl ?_
  refine g_aload_n dX0_lookAt_7 rfl ?_
  refine g_getR dX0_lookAt_8 fX0_39 rfl rfl ?_
  refine g_iload_n dX0_lookAt_11 rfl ?_
  refine g_V1 dX0_lookAt_12 vX0_114 rfl (Nat.le_of_ble_eq_true rfl) (by decide) (Ev_r (r' := some (.int (nI 0))) (ev_X2_syndromeOf h.1 h.2.1) (by rw [hy])) ?_
  refine g_istore dX0_lookAt_15 (by decide) rfl ?_
  refine g_iload dX0_lookAt_17 rfl ?_
  refine g_ifne (tgt := 36) dX0_lookAt_19 (by decide) (fun c19 => absurd rfl c19) (fun c19 => ?_)
  refine g_aload_n dX0_lookAt_22 rfl ?_
  refine g_getR dX0_lookAt_23 fX0_21 rfl rfl ?_
  refine g_iconst (v := 0) dX0_lookAt_26 (by decide) ?_
  refine g_bipush (v := (-9)) dX0_lookAt_27 (by decide) ?_
  refine g_iload_n dX0_lookAt_29 rfl ?_
  refine g_iload_n dX0_lookAt_30 rfl ?_
  refine g_V4v dX0_lookAt_31 vX0_117 rfl (Nat.le_of_ble_eq_true rfl) (by decide) (ev_X4_noteLook (k := 0) (by omega)) ?_
  refine g_iload_n dX0_lookAt_34 rfl ?_
  exact g_iret dX0_lookAt_35 rfl ⟨rfl, rfl⟩

set_option maxRecDepth 4000 in
theorem ev_X0_lookAt_f {σ : r_Sg} {w : Nat} {sb : Option Nat} {fr : Nat → Nat} {nr : Nat} {p v y : Nat} (h : r_BH σ w sb fr nr) (hp : p < 4) (hv : v < 4) (hy : r_syn (σ 2) (r_bo w sb (σ 7 (4 * fr p + v))) w = nI y) (hy64 : y < 64) (hy0 : 0 < y) (hb : σ 4 y = -9) : Ev 3 MX0_lookAt [.ref 5, .int (nI p), .int (nI v)] σ (some (.int (-5))) (c_nl σ 2 (-9) (nI p) (nI v)) := by
  refine Ev_w [.ref 5, .int (nI p), .int (nI v), .null, .null, .null, .null, .null] ?_ (by decide) rfl (Nat.le_of_ble_eq_true rfl) rfl
  refine g_aload_n dX0_lookAt_0 rfl ?_
  refine g_iload_n dX0_lookAt_1 rfl ?_
  refine g_iload_n dX0_lookAt_2 rfl ?_
  refine g_V2 dX0_lookAt_3 vX0_111 rfl (Nat.le_of_ble_eq_true rfl) (by decide) (ev_X0_bitsOf h hp hv) ?_
  refine g_istore_n dX0_lookAt_6 (by decide) rfl ?_
  refine g_aload_n dX0_lookAt_7 rfl ?_
  refine g_getR dX0_lookAt_8 fX0_39 rfl rfl ?_
  refine g_iload_n dX0_lookAt_11 rfl ?_
  refine g_V1 dX0_lookAt_12 vX0_114 rfl (Nat.le_of_ble_eq_true rfl) (by decide) (Ev_r (r' := some (.int (nI y))) (ev_X2_syndromeOf h.1 h.2.1) (by rw [hy])) ?_
  refine g_istore dX0_lookAt_15 (by decide) rfl ?_
  refine g_iload dX0_lookAt_17 rfl ?_
  refine g_ifne (tgt := 36) dX0_lookAt_19 (by decide) (fun c19 => ?_) (fun c19 => absurd c19 (nI_ne0 hy0 (by omega)))
  refine g_aload_n dX0_lookAt_36 rfl ?_
  refine g_getR dX0_lookAt_37 fX0_39 rfl rfl ?_
  refine g_iload dX0_lookAt_40 rfl ?_
  refine g_V1 dX0_lookAt_42 vX0_121 rfl (Nat.le_of_ble_eq_true rfl) (by decide) (Ev_r (r' := some (.int (-9))) (ev_X2_bitWithColumn hy64) (by rw [hb])) ?_
  refine g_istore dX0_lookAt_45 (by decide) rfl ?_
  refine g_iload dX0_lookAt_47 rfl ?_
  refine g_bipush (v := (-9)) dX0_lookAt_49 (by decide) ?_
  refine g_icne (tgt := 69) dX0_lookAt_51 (by decide) (fun c51 => absurd rfl c51) (fun c51 => ?_)
  refine g_aload_n dX0_lookAt_54 rfl ?_
  refine g_getR dX0_lookAt_55 fX0_21 rfl rfl ?_
  refine g_iconst (v := 2) dX0_lookAt_58 (by decide) ?_
  refine g_bipush (v := (-9)) dX0_lookAt_59 (by decide) ?_
  refine g_iload_n dX0_lookAt_61 rfl ?_
  refine g_iload_n dX0_lookAt_62 rfl ?_
  refine g_V4v dX0_lookAt_63 vX0_117 rfl (Nat.le_of_ble_eq_true rfl) (by decide) (ev_X4_noteLook (k := 2) (by omega)) ?_
  refine g_bipush (v := (-5)) dX0_lookAt_66 (by decide) ?_
  exact g_iret dX0_lookAt_68 rfl ⟨rfl, rfl⟩

set_option maxRecDepth 4000 in
theorem ev_X0_lookAt_m {σ : r_Sg} {w : Nat} {sb : Option Nat} {fr : Nat → Nat} {nr : Nat} {p v y b tc : Nat} (h : r_BH σ w sb fr nr) (hp : p < 4) (hv : v < 4) (hy : r_syn (σ 2) (r_bo w sb (σ 7 (4 * fr p + v))) w = nI y) (hy64 : y < 64) (hy0 : 0 < y) (hb : σ 4 y = nI b) (hbw : b < w) (htc : σ 10 3 = nI tc) (htc4 : tc ≤ 4) : Ev 4 MX0_lookAt [.ref 5, .int (nI p), .int (nI v)] σ (some (.int ((r_bo w sb (σ 7 (4 * fr p + v))) ^^^ r_bm b))) (c_lk σ w sb fr nr p v b tc) := by
  have hw20 := h.2.1
  have hfr := (h.2.2.2.2.2.1 p hp).2
  refine Ev_w [.ref 5, .int (nI p), .int (nI v), .null, .null, .null, .null, .null] ?_ (by decide) rfl (Nat.le_of_ble_eq_true rfl) rfl
  refine g_aload_n dX0_lookAt_0 rfl ?_
  refine g_iload_n dX0_lookAt_1 rfl ?_
  refine g_iload_n dX0_lookAt_2 rfl ?_
  refine g_V2 dX0_lookAt_3 vX0_111 rfl (Nat.le_of_ble_eq_true rfl) (by decide) (ev_X0_bitsOf h hp hv) ?_
  refine g_istore_n dX0_lookAt_6 (by decide) rfl ?_
  refine g_aload_n dX0_lookAt_7 rfl ?_
  refine g_getR dX0_lookAt_8 fX0_39 rfl rfl ?_
  refine g_iload_n dX0_lookAt_11 rfl ?_
  refine g_V1 dX0_lookAt_12 vX0_114 rfl (Nat.le_of_ble_eq_true rfl) (by decide) (Ev_r (r' := some (.int (nI y))) (ev_X2_syndromeOf h.1 h.2.1) (by rw [hy])) ?_
  refine g_istore dX0_lookAt_15 (by decide) rfl ?_
  refine g_iload dX0_lookAt_17 rfl ?_
  refine g_ifne (tgt := 36) dX0_lookAt_19 (by decide) (fun c19 => ?_) (fun c19 => absurd c19 (nI_ne0 hy0 (by omega)))
  refine g_aload_n dX0_lookAt_36 rfl ?_
  refine g_getR dX0_lookAt_37 fX0_39 rfl rfl ?_
  refine g_iload dX0_lookAt_40 rfl ?_
  refine g_V1 dX0_lookAt_42 vX0_121 rfl (Nat.le_of_ble_eq_true rfl) (by decide) (Ev_r (r' := some (.int (nI b))) (ev_X2_bitWithColumn hy64) (by rw [hb])) ?_
  refine g_istore dX0_lookAt_45 (by decide) rfl ?_
  refine g_iload dX0_lookAt_47 rfl ?_
  refine g_bipush (v := (-9)) dX0_lookAt_49 (by decide) ?_
  refine g_icne (tgt := 69) dX0_lookAt_51 (by decide) (fun c51 => ?_) (fun c51 => absurd c51 (r_nm9 (by omega)))
  refine g_aload_n dX0_lookAt_69 rfl ?_
  refine g_getR dX0_lookAt_70 fX0_21 rfl rfl ?_
  refine g_iconst (v := 1) dX0_lookAt_73 (by decide) ?_
  refine g_iload dX0_lookAt_74 rfl ?_
  refine g_iload_n dX0_lookAt_76 rfl ?_
  refine g_iload_n dX0_lookAt_77 rfl ?_
  refine g_V4v dX0_lookAt_78 vX0_117 rfl (Nat.le_of_ble_eq_true rfl) (by decide) (ev_X4_noteLook (k := 1) (by omega)) ?_
  refine g_aload_n dX0_lookAt_81 rfl ?_
  refine g_getR dX0_lookAt_82 fX0_12 rfl rfl ?_
  refine g_aload_n dX0_lookAt_85 rfl ?_
  refine g_iload_n dX0_lookAt_86 rfl ?_
  refine g_iload_n dX0_lookAt_87 rfl ?_
  refine g_V2 dX0_lookAt_88 vX0_83 rfl (Nat.le_of_ble_eq_true rfl) (by decide) (ev_X0_rowOf (h.to rfl rfl rfl) hp) ?_
  refine g_aload_n dX0_lookAt_91 rfl ?_
  refine g_iload dX0_lookAt_92 rfl ?_
  refine g_V1 dX0_lookAt_94 vX0_98 rfl (Nat.le_of_ble_eq_true rfl) (by decide) (ev_X0_placeOf (h.to rfl rfl rfl) hbw) ?_
  refine g_V2v dX0_lookAt_97 vX0_124 rfl (Nat.le_of_ble_eq_true rfl) (by decide) (ev_X1_addMark (by omega) (r_pl_lt sb hbw hw20)) ?_
  refine g_g (show _ = c_mk σ w sb fr p v b from rfl) ?_
  refine g_aload_n dX0_lookAt_100 rfl ?_
  refine g_iload dX0_lookAt_101 rfl ?_
  refine g_V1 dX0_lookAt_103 vX0_127 rfl (Nat.le_of_ble_eq_true rfl) (by decide) (ev_X0_swapIfDue (c_mkBH p v b h) hbw) ?_
  refine g_istore dX0_lookAt_106 (by decide) rfl ?_
  refine g_aload_n dX0_lookAt_108 rfl ?_
  refine g_iload_n dX0_lookAt_109 rfl ?_
  refine g_V1 dX0_lookAt_110 vX0_131 rfl (Nat.le_of_ble_eq_true rfl) (by decide) (ev_X0_retireIfDue (c_swBH (c_mkBH p v b h) hbw) hp) ?_
  refine g_istore dX0_lookAt_113 (by decide) rfl ?_
  refine g_aload_n dX0_lookAt_115 rfl ?_
  refine g_getR dX0_lookAt_116 fX0_21 rfl rfl ?_
  refine g_iload_n dX0_lookAt_119 rfl ?_
  refine g_iload dX0_lookAt_120 rfl ?_
  refine g_iload dX0_lookAt_122 rfl ?_
  refine g_V3v dX0_lookAt_124 vX0_134 rfl (Nat.le_of_ble_eq_true rfl) (by decide) (ev_X4_noteMending hp (tc := tc) (by rw [c_rt_o _ _ _ _ _ _ (by decide) (by decide) (by decide) (by decide) (by decide) (by decide), c_sw_o _ _ _ _ (by decide) (by decide) (by decide) (by decide)]; exact htc) htc4 (by unfold bI; split <;> simp) (by unfold bI; split <;> simp)) ?_
  refine g_iload_n dX0_lookAt_127 rfl ?_
  refine g_iconst (v := 1) dX0_lookAt_128 (by decide) ?_
  refine g_iload dX0_lookAt_129 rfl ?_
  refine g_ishl dX0_lookAt_131 ?_
  refine g_ixor dX0_lookAt_132 ?_
  exact g_iret dX0_lookAt_133 rfl ⟨rfl, rfl⟩

set_option maxRecDepth 4000 in
theorem ev_X0_stepScrubber {σ : r_Sg} {a b : Nat} (ha : σ 5 9 = nI a) (ha4 : a < 4) (hb : σ 5 10 = nI b) (hb4 : b < 4) : Ev 0 MX0_stepScrubber [.ref 5] σ none (c_st σ a b) := by
  refine Ev_w [.ref 5] ?_ (by decide) rfl (Nat.le_of_ble_eq_true rfl) rfl
  refine g_aload_n dX0_stepScrubber_0 rfl ?_
  refine g_dup dX0_stepScrubber_1 rfl ?_
  refine g_getI dX0_stepScrubber_2 fX0_68 rfl rfl ?_
  refine g_t hb ?_
  refine g_iconst (v := 1) dX0_stepScrubber_5 (by decide) ?_
  refine g_iadd dX0_stepScrubber_6 ?_
  refine g_t (nI_1 b) ?_
  refine g_putI dX0_stepScrubber_7 pX0_68 rfl rfl ?_
  refine g_aload_n dX0_stepScrubber_10 rfl ?_
  refine g_getI dX0_stepScrubber_11 fX0_68 rfl rfl ?_
  refine g_t (show _ = nI (b + 1) from by simp [r_up, upd]) ?_
  refine g_iconst (v := nI 4) dX0_stepScrubber_14 (by decide) ?_
  refine g_icne (tgt := 47) dX0_stepScrubber_15 (by decide) (fun c15 => ?_) (fun c15 => ?_)
  · have q : ¬ b = 3 := by intro z; subst z; exact c15 rfl
    exact g_ret dX0_stepScrubber_47 rfl ⟨rfl, by first | rw [c_st, if_neg q] | rw [c_st, if_pos q, if_pos q2] | rw [c_st, if_pos q, if_neg q2]⟩
  · have q : b = 3 := by have := (nI_eq (by omega) (by omega)).mp c15; omega
    refine g_aload_n dX0_stepScrubber_18 rfl ?_
    refine g_iconst (v := 0) dX0_stepScrubber_19 (by decide) ?_
    refine g_putI dX0_stepScrubber_20 pX0_68 rfl rfl ?_
    refine g_aload_n dX0_stepScrubber_23 rfl ?_
    refine g_aload_n dX0_stepScrubber_24 rfl ?_
    refine g_getI dX0_stepScrubber_25 fX0_65 rfl rfl ?_
    refine g_t (show _ = nI a from ha) ?_
    refine g_iconst (v := 1) dX0_stepScrubber_28 (by decide) ?_
    refine g_iadd dX0_stepScrubber_29 ?_
    refine g_t (nI_1 a) ?_
    refine g_iconst (v := nI 4) dX0_stepScrubber_30 (by decide) ?_
    refine g_icge (tgt := 43) dX0_stepScrubber_31 (by decide) (fun c31 => ?_) (fun c31 => ?_)
    · have q2 : ¬ a + 1 < 4 := fun z => absurd c31 (nI_ge z (by omega))
      refine g_iconst (v := 0) dX0_stepScrubber_43 (by decide) ?_
      refine g_putI dX0_stepScrubber_44 pX0_65 rfl rfl ?_
      exact g_ret dX0_stepScrubber_47 rfl ⟨rfl, by first | rw [c_st, if_neg q] | rw [c_st, if_pos q, if_pos q2] | rw [c_st, if_pos q, if_neg q2]⟩
    · have q2 : a + 1 < 4 := by rcases Nat.lt_or_ge (a + 1) 4 with z | z; exact z; exact absurd (nI_le z (by omega)) c31
      refine g_aload_n dX0_stepScrubber_34 rfl ?_
      refine g_getI dX0_stepScrubber_35 fX0_65 rfl rfl ?_
      refine g_t (show _ = nI a from ha) ?_
      refine g_iconst (v := 1) dX0_stepScrubber_38 (by decide) ?_
      refine g_iadd dX0_stepScrubber_39 ?_
      refine g_t (nI_1 a) ?_
      refine g_goto (tgt := 44) dX0_stepScrubber_40 (by decide) ?_
      refine g_putI dX0_stepScrubber_44 pX0_65 rfl rfl ?_
      exact g_ret dX0_stepScrubber_47 rfl ⟨rfl, by first | rw [c_st, if_neg q] | rw [c_st, if_pos q, if_pos q2] | rw [c_st, if_pos q, if_neg q2]⟩

set_option maxRecDepth 4000 in
theorem ev_X0_scrubNext_c {σ : r_Sg} {w : Nat} {sb : Option Nat} {fr : Nat → Nat} {nr : Nat} {p v : Nat} (h : r_BH σ w sb fr nr) (ha : σ 5 9 = nI p) (hp : p < 4) (hb5 : σ 5 10 = nI v) (hv : v < 4) (hy : r_syn (σ 2) (r_bo w sb (σ 7 (4 * fr p + v))) w = nI 0) : Ev 4 MX0_scrubNext [.ref 5] σ (some (.int 0)) (c_nl (c_st σ p v) 0 (-9) (nI p) (nI v)) := by
  have e7 : c_st σ p v 7 = σ 7 := c_st_o σ p v (by decide)
  have e2 : c_st σ p v 2 = σ 2 := c_st_o σ p v (by decide)
  have e4 : c_st σ p v 4 = σ 4 := c_st_o σ p v (by decide)
  have e10 : c_st σ p v 10 = σ 10 := c_st_o σ p v (by decide)
  refine Ev_w [.ref 5, .null, .null, .null] ?_ (by decide) rfl (Nat.le_of_ble_eq_true rfl) rfl
  refine g_aload_n dX0_scrubNext_0 rfl ?_
  refine g_getI dX0_scrubNext_1 fX0_65 rfl rfl ?_
  refine g_t ha ?_
  refine g_istore_n dX0_scrubNext_4 (by decide) rfl ?_
  refine g_aload_n dX0_scrubNext_5 rfl ?_
  refine g_getI dX0_scrubNext_6 fX0_68 rfl rfl ?_
  refine g_t hb5 ?_
  refine g_istore_n dX0_scrubNext_9 (by decide) rfl ?_
  refine g_aload_n dX0_scrubNext_10 rfl ?_
  refine g_V0v dX0_scrubNext_11 vX0_138 rfl (Nat.le_of_ble_eq_true rfl) (by decide) (ev_X0_stepScrubber ha hp hb5 hv) ?_
  refine g_aload_n dX0_scrubNext_14 rfl ?_
  refine g_iload_n dX0_scrubNext_15 rfl ?_
  refine g_iload_n dX0_scrubNext_16 rfl ?_
  refine g_V2 dX0_scrubNext_17 vX0_141 rfl (Nat.le_of_ble_eq_true rfl) (by decide) (ev_X0_lookAt_c (c_stBH h) hp hv (by rw [e2, e7]; exact hy)) ?_
  refine g_istore_n dX0_scrubNext_20 (by decide) rfl ?_
  refine g_aload_n dX0_scrubNext_21 rfl ?_
  refine g_getR dX0_scrubNext_22 fX0_21 rfl rfl ?_
  refine g_iconst (v := 0) dX0_scrubNext_25 (by decide) ?_
  refine g_V1 dX0_scrubNext_26 vX0_144 rfl (Nat.le_of_ble_eq_true rfl) (by decide) (ev_X4_latest_0) ?_
  refine g_iconst (v := 1) dX0_scrubNext_29 (by decide) ?_
  refine g_iceq (tgt := 35) dX0_scrubNext_30 (by decide) (fun c30 => absurd c30 (by simp [c_nl, r_up, upd]; decide)) (fun c30 => ?_)
  refine g_iconst (v := 0) dX0_scrubNext_33 (by decide) ?_
  exact g_zret dX0_scrubNext_34 rfl (by first | exact Or.inl rfl | exact Or.inr rfl) ⟨rfl, rfl⟩

set_option maxRecDepth 4000 in
theorem ev_X0_scrubNext_f {σ : r_Sg} {w : Nat} {sb : Option Nat} {fr : Nat → Nat} {nr : Nat} {p v y : Nat} (h : r_BH σ w sb fr nr) (ha : σ 5 9 = nI p) (hp : p < 4) (hb5 : σ 5 10 = nI v) (hv : v < 4) (hy : r_syn (σ 2) (r_bo w sb (σ 7 (4 * fr p + v))) w = nI y) (hy64 : y < 64) (hy0 : 0 < y) (hb : σ 4 y = -9) : Ev 4 MX0_scrubNext [.ref 5] σ (some (.int 0)) (c_nl (c_st σ p v) 2 (-9) (nI p) (nI v)) := by
  have e7 : c_st σ p v 7 = σ 7 := c_st_o σ p v (by decide)
  have e2 : c_st σ p v 2 = σ 2 := c_st_o σ p v (by decide)
  have e4 : c_st σ p v 4 = σ 4 := c_st_o σ p v (by decide)
  have e10 : c_st σ p v 10 = σ 10 := c_st_o σ p v (by decide)
  refine Ev_w [.ref 5, .null, .null, .null] ?_ (by decide) rfl (Nat.le_of_ble_eq_true rfl) rfl
  refine g_aload_n dX0_scrubNext_0 rfl ?_
  refine g_getI dX0_scrubNext_1 fX0_65 rfl rfl ?_
  refine g_t ha ?_
  refine g_istore_n dX0_scrubNext_4 (by decide) rfl ?_
  refine g_aload_n dX0_scrubNext_5 rfl ?_
  refine g_getI dX0_scrubNext_6 fX0_68 rfl rfl ?_
  refine g_t hb5 ?_
  refine g_istore_n dX0_scrubNext_9 (by decide) rfl ?_
  refine g_aload_n dX0_scrubNext_10 rfl ?_
  refine g_V0v dX0_scrubNext_11 vX0_138 rfl (Nat.le_of_ble_eq_true rfl) (by decide) (ev_X0_stepScrubber ha hp hb5 hv) ?_
  refine g_aload_n dX0_scrubNext_14 rfl ?_
  refine g_iload_n dX0_scrubNext_15 rfl ?_
  refine g_iload_n dX0_scrubNext_16 rfl ?_
  refine g_V2 dX0_scrubNext_17 vX0_141 rfl (Nat.le_of_ble_eq_true rfl) (by decide) (ev_X0_lookAt_f (c_stBH h) hp hv (by rw [e2, e7]; exact hy) hy64 hy0 (by rw [e4]; exact hb)) ?_
  refine g_istore_n dX0_scrubNext_20 (by decide) rfl ?_
  refine g_aload_n dX0_scrubNext_21 rfl ?_
  refine g_getR dX0_scrubNext_22 fX0_21 rfl rfl ?_
  refine g_iconst (v := 0) dX0_scrubNext_25 (by decide) ?_
  refine g_V1 dX0_scrubNext_26 vX0_144 rfl (Nat.le_of_ble_eq_true rfl) (by decide) (ev_X4_latest_0) ?_
  refine g_iconst (v := 1) dX0_scrubNext_29 (by decide) ?_
  refine g_iceq (tgt := 35) dX0_scrubNext_30 (by decide) (fun c30 => absurd c30 (by simp [c_nl, r_up, upd]; decide)) (fun c30 => ?_)
  refine g_iconst (v := 0) dX0_scrubNext_33 (by decide) ?_
  exact g_zret dX0_scrubNext_34 rfl (by first | exact Or.inl rfl | exact Or.inr rfl) ⟨rfl, rfl⟩

theorem c_lk_10 (σ : r_Sg) (w : Nat) (sb : Option Nat) (fr : Nat → Nat) (nr p v b tc : Nat) : c_lk σ w sb fr nr p v b tc 10 4 = 1 := by
  have e : ∀ (s : r_Sg) (a b : Int32), c_nm s p tc a b 10 4 = s 10 4 := by
    intro s a b
    simp only [c_nm]
    split <;> simp [r_up, upd]
  unfold c_lk
  rw [e, c_rt_o _ _ _ _ _ _ (by decide) (by decide) (by decide) (by decide) (by decide) (by decide), c_sw_o _ _ _ _ (by decide) (by decide) (by decide) (by decide)]
  rfl

set_option maxRecDepth 4000 in
theorem ev_X0_scrubNext_m {σ : r_Sg} {w : Nat} {sb : Option Nat} {fr : Nat → Nat} {nr : Nat} {p v y b tc : Nat} (h : r_BH σ w sb fr nr) (ha : σ 5 9 = nI p) (hp : p < 4) (hb5 : σ 5 10 = nI v) (hv : v < 4) (hy : r_syn (σ 2) (r_bo w sb (σ 7 (4 * fr p + v))) w = nI y) (hy64 : y < 64) (hy0 : 0 < y) (hb : σ 4 y = nI b) (hbw : b < w) (htc : σ 10 3 = nI tc) (htc4 : tc ≤ 4) : Ev 5 MX0_scrubNext [.ref 5] σ (some (.int 1)) (c_pb (c_lk (c_st σ p v) w sb fr nr p v b tc) w (c_lkb (c_st σ p v) w sb fr p v b) (4 * c_lkf (c_st σ p v) w sb fr nr p v b p + v) ((r_bo w sb (σ 7 (4 * fr p + v))) ^^^ r_bm b)) := by
  have e7 : c_st σ p v 7 = σ 7 := c_st_o σ p v (by decide)
  have e2 : c_st σ p v 2 = σ 2 := c_st_o σ p v (by decide)
  have e4 : c_st σ p v 4 = σ 4 := c_st_o σ p v (by decide)
  have e10 : c_st σ p v 10 = σ 10 := c_st_o σ p v (by decide)
  refine Ev_w [.ref 5, .null, .null, .null] ?_ (by decide) rfl (Nat.le_of_ble_eq_true rfl) rfl
  refine g_aload_n dX0_scrubNext_0 rfl ?_
  refine g_getI dX0_scrubNext_1 fX0_65 rfl rfl ?_
  refine g_t ha ?_
  refine g_istore_n dX0_scrubNext_4 (by decide) rfl ?_
  refine g_aload_n dX0_scrubNext_5 rfl ?_
  refine g_getI dX0_scrubNext_6 fX0_68 rfl rfl ?_
  refine g_t hb5 ?_
  refine g_istore_n dX0_scrubNext_9 (by decide) rfl ?_
  refine g_aload_n dX0_scrubNext_10 rfl ?_
  refine g_V0v dX0_scrubNext_11 vX0_138 rfl (Nat.le_of_ble_eq_true rfl) (by decide) (ev_X0_stepScrubber ha hp hb5 hv) ?_
  refine g_aload_n dX0_scrubNext_14 rfl ?_
  refine g_iload_n dX0_scrubNext_15 rfl ?_
  refine g_iload_n dX0_scrubNext_16 rfl ?_
  refine g_V2 dX0_scrubNext_17 vX0_141 rfl (Nat.le_of_ble_eq_true rfl) (by decide) (ev_X0_lookAt_m (c_stBH h) hp hv (by rw [e2, e7]; exact hy) hy64 hy0 (by rw [e4]; exact hb) hbw (by rw [e10]; exact htc) htc4) ?_
  refine g_istore_n dX0_scrubNext_20 (by decide) rfl ?_
  refine g_aload_n dX0_scrubNext_21 rfl ?_
  refine g_getR dX0_scrubNext_22 fX0_21 rfl rfl ?_
  refine g_iconst (v := 0) dX0_scrubNext_25 (by decide) ?_
  refine g_V1 dX0_scrubNext_26 vX0_144 rfl (Nat.le_of_ble_eq_true rfl) (by decide) (ev_X4_latest_0) ?_
  refine g_iconst (v := 1) dX0_scrubNext_29 (by decide) ?_
  refine g_iceq (tgt := 35) dX0_scrubNext_30 (by decide) (fun c30 => ?_) (fun c30 => absurd (c_lk_10 (c_st σ p v) w sb fr nr p v b tc) c30)
  refine g_aload_n dX0_scrubNext_35 rfl ?_
  refine g_iload_n dX0_scrubNext_36 rfl ?_
  refine g_iload_n dX0_scrubNext_37 rfl ?_
  refine g_iload_n dX0_scrubNext_38 rfl ?_
  refine g_V3v dX0_scrubNext_39 vX0_79 rfl (Nat.le_of_ble_eq_true rfl) (by decide) (ev_X0_putBits (c_lkBH tc (c_stBH h) hp hbw) hp hv) ?_
  refine g_iconst (v := 1) dX0_scrubNext_42 (by decide) ?_
  exact g_zret dX0_scrubNext_43 rfl (by first | exact Or.inl rfl | exact Or.inr rfl) ⟨rfl, by rw [e7]⟩

set_option maxRecDepth 4000 in
theorem ev_X0_badInUse {σ : r_Sg} {w : Nat} {sb : Option Nat} {fr : Nat → Nat} {nr : Nat} (h : r_BH σ w sb fr nr) : Ev 3 MX0_badInUse [.ref 5] σ (some (.int (c_bu σ w sb fr 4))) σ := by
  refine Ev_w [.ref 5, .null, .null] ?_ (by decide) rfl (Nat.le_of_ble_eq_true rfl) rfl
  refine g_iconst (v := 0) dX0_badInUse_0 (by decide) ?_
  refine g_istore_n dX0_badInUse_1 (by decide) rfl ?_
  refine g_iconst (v := 0) dX0_badInUse_2 (by decide) ?_
  refine g_istore_n dX0_badInUse_3 (by decide) rfl ?_
  refine r_loop (n := 4) (fun k => [.ref 5, .int (c_bu σ w sb fr k), .int (nI k)]) (fun k => σ) (fun k hk ih => ?_) ?_
  · refine g_iload_n dX0_badInUse_4 rfl ?_
    refine g_iconst (v := nI 4) dX0_badInUse_5 (by decide) ?_
    refine g_icge (tgt := 35) dX0_badInUse_6 (by decide) (fun c6 => absurd c6 (nI_ge hk (by omega))) (fun c6 => ?_)
    have hfr := (h.2.2.2.2.2.1 k hk).2
    refine g_iload_n dX0_badInUse_9 rfl ?_
    refine g_aload_n dX0_badInUse_10 rfl ?_
    refine g_getR dX0_badInUse_11 fX0_12 rfl rfl ?_
    refine g_aload_n dX0_badInUse_14 rfl ?_
    refine g_getR dX0_badInUse_15 fX0_25 rfl rfl ?_
    refine g_iload_n dX0_badInUse_18 rfl ?_
    refine g_ial _ dX0_badInUse_19 rfl rfl (by omega) ?_
    refine g_t (h.2.2.2.2.2.1 k hk).1 ?_
    refine g_aload_n dX0_badInUse_20 rfl ?_
    refine g_V0 dX0_badInUse_21 vX0_162 rfl (Nat.le_of_ble_eq_true rfl) (by decide) (ev_X0_placesInUse h) ?_
    refine g_V2 dX0_badInUse_24 vX0_174 rfl (Nat.le_of_ble_eq_true rfl) (by decide) (ev_X1_badInFrame hfr) ?_
    refine g_iadd dX0_badInUse_27 ?_
    refine g_istore_n dX0_badInUse_28 (by decide) rfl ?_
    refine g_iinc (v := nI (k + 1)) dX0_badInUse_29 rfl (nI_1 k) (by decide) rfl ?_
    refine g_goto (tgt := 4) dX0_badInUse_32 (by decide) ?_
    exact ih
  · refine g_iload_n dX0_badInUse_4 rfl ?_
    refine g_iconst (v := nI 4) dX0_badInUse_5 (by decide) ?_
    refine g_icge (tgt := 35) dX0_badInUse_6 (by decide) (fun c6 => ?_) (fun c6 => absurd (nI_le (Nat.le_refl _) (by omega)) c6)
    refine g_iload_n dX0_badInUse_35 rfl ?_
    exact g_iret dX0_badInUse_36 rfl ⟨rfl, rfl⟩

set_option maxRecDepth 4000 in
theorem ev_X0_stuckInUse {σ : r_Sg} {w : Nat} {sb : Option Nat} {fr : Nat → Nat} {nr : Nat} (h : r_BH σ w sb fr nr) : Ev 3 MX0_stuckInUse [.ref 5] σ (some (.int (c_su σ w sb fr 4))) σ := by
  refine Ev_w [.ref 5, .null, .null] ?_ (by decide) rfl (Nat.le_of_ble_eq_true rfl) rfl
  refine g_iconst (v := 0) dX0_stuckInUse_0 (by decide) ?_
  refine g_istore_n dX0_stuckInUse_1 (by decide) rfl ?_
  refine g_iconst (v := 0) dX0_stuckInUse_2 (by decide) ?_
  refine g_istore_n dX0_stuckInUse_3 (by decide) rfl ?_
  refine r_loop (n := 4) (fun k => [.ref 5, .int (c_su σ w sb fr k), .int (nI k)]) (fun k => σ) (fun k hk ih => ?_) ?_
  · refine g_iload_n dX0_stuckInUse_4 rfl ?_
    refine g_iconst (v := nI 4) dX0_stuckInUse_5 (by decide) ?_
    refine g_icge (tgt := 35) dX0_stuckInUse_6 (by decide) (fun c6 => absurd c6 (nI_ge hk (by omega))) (fun c6 => ?_)
    have hfr := (h.2.2.2.2.2.1 k hk).2
    refine g_iload_n dX0_stuckInUse_9 rfl ?_
    refine g_aload_n dX0_stuckInUse_10 rfl ?_
    refine g_getR dX0_stuckInUse_11 fX0_12 rfl rfl ?_
    refine g_aload_n dX0_stuckInUse_14 rfl ?_
    refine g_getR dX0_stuckInUse_15 fX0_25 rfl rfl ?_
    refine g_iload_n dX0_stuckInUse_18 rfl ?_
    refine g_ial _ dX0_stuckInUse_19 rfl rfl (by omega) ?_
    refine g_t (h.2.2.2.2.2.1 k hk).1 ?_
    refine g_aload_n dX0_stuckInUse_20 rfl ?_
    refine g_V0 dX0_stuckInUse_21 vX0_162 rfl (Nat.le_of_ble_eq_true rfl) (by decide) (ev_X0_placesInUse h) ?_
    refine g_V2 dX0_stuckInUse_24 vX0_180 rfl (Nat.le_of_ble_eq_true rfl) (by decide) (ev_X1_stuckInFrame hfr) ?_
    refine g_iadd dX0_stuckInUse_27 ?_
    refine g_istore_n dX0_stuckInUse_28 (by decide) rfl ?_
    refine g_iinc (v := nI (k + 1)) dX0_stuckInUse_29 rfl (nI_1 k) (by decide) rfl ?_
    refine g_goto (tgt := 4) dX0_stuckInUse_32 (by decide) ?_
    exact ih
  · refine g_iload_n dX0_stuckInUse_4 rfl ?_
    refine g_iconst (v := nI 4) dX0_stuckInUse_5 (by decide) ?_
    refine g_icge (tgt := 35) dX0_stuckInUse_6 (by decide) (fun c6 => ?_) (fun c6 => absurd (nI_le (Nat.le_refl _) (by omega)) c6)
    refine g_iload_n dX0_stuckInUse_35 rfl ?_
    exact g_iret dX0_stuckInUse_36 rfl ⟨rfl, rfl⟩

set_option maxRecDepth 4000 in
theorem ev_X0_tally_0 {σ : r_Sg} {w : Nat} {sb : Option Nat} {fr : Nat → Nat} {nr : Nat} (h : r_BH σ w sb fr nr) : Ev 4 MX0_tally [.ref 5, .int 0] σ (some (.int (σ 11 0 + σ 11 1 + σ 11 2))) σ := by
  refine Ev_w [.ref 5, .int 0] ?_ (by decide) rfl (Nat.le_of_ble_eq_true rfl) rfl
  refine g_iload_n dX0_tally_0 rfl ?_
  refine g_tabIn (tgt := 52) dX0_tally_1 (by decide) (by decide) (show _ = some 51 from rfl) (by decide) ?_
  refine g_aload_n dX0_tally_52 rfl ?_
  refine g_getR dX0_tally_53 fX0_21 rfl rfl ?_
  refine g_V0 dX0_tally_56 vX0_147 rfl (Nat.le_of_ble_eq_true rfl) (by decide) (ev_X4_allLooks) ?_
  exact g_iret dX0_tally_59 rfl ⟨rfl, rfl⟩

set_option maxRecDepth 4000 in
theorem ev_X0_tally_1 {σ : r_Sg} {w : Nat} {sb : Option Nat} {fr : Nat → Nat} {nr : Nat} (h : r_BH σ w sb fr nr) : Ev 4 MX0_tally [.ref 5, .int 1] σ (some (.int (σ 11 0))) σ := by
  refine Ev_w [.ref 5, .int 1] ?_ (by decide) rfl (Nat.le_of_ble_eq_true rfl) rfl
  refine g_iload_n dX0_tally_0 rfl ?_
  refine g_tabIn (tgt := 60) dX0_tally_1 (by decide) (by decide) (show _ = some 59 from rfl) (by decide) ?_
  refine g_aload_n dX0_tally_60 rfl ?_
  refine g_getR dX0_tally_61 fX0_21 rfl rfl ?_
  refine g_iconst (v := nI 0) dX0_tally_64 (by decide) ?_
  refine g_V1 dX0_tally_65 vX0_150 rfl (Nat.le_of_ble_eq_true rfl) (by decide) (ev_X4_looksOf (by omega)) ?_
  exact g_iret dX0_tally_68 rfl ⟨rfl, rfl⟩

set_option maxRecDepth 4000 in
theorem ev_X0_tally_2 {σ : r_Sg} {w : Nat} {sb : Option Nat} {fr : Nat → Nat} {nr : Nat} (h : r_BH σ w sb fr nr) : Ev 4 MX0_tally [.ref 5, .int 2] σ (some (.int (σ 11 1))) σ := by
  refine Ev_w [.ref 5, .int 2] ?_ (by decide) rfl (Nat.le_of_ble_eq_true rfl) rfl
  refine g_iload_n dX0_tally_0 rfl ?_
  refine g_tabIn (tgt := 69) dX0_tally_1 (by decide) (by decide) (show _ = some 68 from rfl) (by decide) ?_
  refine g_aload_n dX0_tally_69 rfl ?_
  refine g_getR dX0_tally_70 fX0_21 rfl rfl ?_
  refine g_iconst (v := nI 1) dX0_tally_73 (by decide) ?_
  refine g_V1 dX0_tally_74 vX0_150 rfl (Nat.le_of_ble_eq_true rfl) (by decide) (ev_X4_looksOf (by omega)) ?_
  exact g_iret dX0_tally_77 rfl ⟨rfl, rfl⟩

set_option maxRecDepth 4000 in
theorem ev_X0_tally_3 {σ : r_Sg} {w : Nat} {sb : Option Nat} {fr : Nat → Nat} {nr : Nat} (h : r_BH σ w sb fr nr) : Ev 4 MX0_tally [.ref 5, .int 3] σ (some (.int (σ 11 2))) σ := by
  refine Ev_w [.ref 5, .int 3] ?_ (by decide) rfl (Nat.le_of_ble_eq_true rfl) rfl
  refine g_iload_n dX0_tally_0 rfl ?_
  refine g_tabIn (tgt := 78) dX0_tally_1 (by decide) (by decide) (show _ = some 77 from rfl) (by decide) ?_
  refine g_aload_n dX0_tally_78 rfl ?_
  refine g_getR dX0_tally_79 fX0_21 rfl rfl ?_
  refine g_iconst (v := nI 2) dX0_tally_82 (by decide) ?_
  refine g_V1 dX0_tally_83 vX0_150 rfl (Nat.le_of_ble_eq_true rfl) (by decide) (ev_X4_looksOf (by omega)) ?_
  exact g_iret dX0_tally_86 rfl ⟨rfl, rfl⟩

set_option maxRecDepth 4000 in
theorem ev_X0_tally_4 {σ : r_Sg} {w : Nat} {sb : Option Nat} {fr : Nat → Nat} {nr : Nat} (h : r_BH σ w sb fr nr) : Ev 4 MX0_tally [.ref 5, .int 4] σ (some (.int (c_bu σ w sb fr 4))) σ := by
  refine Ev_w [.ref 5, .int 4] ?_ (by decide) rfl (Nat.le_of_ble_eq_true rfl) rfl
  refine g_iload_n dX0_tally_0 rfl ?_
  refine g_tabIn (tgt := 87) dX0_tally_1 (by decide) (by decide) (show _ = some 86 from rfl) (by decide) ?_
  refine g_aload_n dX0_tally_87 rfl ?_
  refine g_V0 dX0_tally_88 vX0_153 rfl (Nat.le_of_ble_eq_true rfl) (by decide) (ev_X0_badInUse h) ?_
  exact g_iret dX0_tally_91 rfl ⟨rfl, rfl⟩

set_option maxRecDepth 4000 in
theorem ev_X0_tally_5 {σ : r_Sg} {w : Nat} {sb : Option Nat} {fr : Nat → Nat} {nr : Nat} (h : r_BH σ w sb fr nr) : Ev 4 MX0_tally [.ref 5, .int 5] σ (some (.int (c_su σ w sb fr 4))) σ := by
  refine Ev_w [.ref 5, .int 5] ?_ (by decide) rfl (Nat.le_of_ble_eq_true rfl) rfl
  refine g_iload_n dX0_tally_0 rfl ?_
  refine g_tabIn (tgt := 92) dX0_tally_1 (by decide) (by decide) (show _ = some 91 from rfl) (by decide) ?_
  refine g_aload_n dX0_tally_92 rfl ?_
  refine g_V0 dX0_tally_93 vX0_156 rfl (Nat.le_of_ble_eq_true rfl) (by decide) (ev_X0_stuckInUse h) ?_
  exact g_iret dX0_tally_96 rfl ⟨rfl, rfl⟩

set_option maxRecDepth 4000 in
theorem ev_X0_tally_6 {σ : r_Sg} {w : Nat} {sb : Option Nat} {fr : Nat → Nat} {nr : Nat} (h : r_BH σ w sb fr nr) : Ev 4 MX0_tally [.ref 5, .int 6] σ (some (.int (bI (¬ sb = none)))) σ := by
  refine Ev_w [.ref 5, .int 6] ?_ (by decide) rfl (Nat.le_of_ble_eq_true rfl) rfl
  refine g_iload_n dX0_tally_0 rfl ?_
  refine g_tabIn (tgt := 97) dX0_tally_1 (by decide) (by decide) (show _ = some 96 from rfl) (by decide) ?_
  refine g_aload_n dX0_tally_97 rfl ?_
  refine g_getI dX0_tally_98 fX0_35 rfl rfl ?_
  refine g_t h.2.2.2.1 ?_
  refine g_bipush (v := (-9)) dX0_tally_101 (by decide) ?_
  refine g_icne (tgt := 110) dX0_tally_103 (by decide) (fun c103 => ?_) (fun c103 => ?_)
  · have q : ¬ sb = none := fun z => c103 (by rw [z]; rfl)
    refine g_iconst (v := 1) dX0_tally_110 (by decide) ?_
    exact g_iret dX0_tally_111 rfl ⟨by first | rw [bI_t q] | rw [bI_f q], rfl⟩
  · have q : ¬ ¬ sb = none := by intro z; cases sb with
      | none => exact z rfl
      | some s => have := h.2.2.2.2.1 s rfl; have := h.2.1; exact r_nm9 (show s < 2 ^ 31 by omega) c103
    refine g_iconst (v := 0) dX0_tally_106 (by decide) ?_
    refine g_goto (tgt := 111) dX0_tally_107 (by decide) ?_
    exact g_iret dX0_tally_111 rfl ⟨by first | rw [bI_t q] | rw [bI_f q], rfl⟩

set_option maxRecDepth 4000 in
theorem ev_X0_tally_7 {σ : r_Sg} {w : Nat} {sb : Option Nat} {fr : Nat → Nat} {nr : Nat} (h : r_BH σ w sb fr nr) : Ev 4 MX0_tally [.ref 5, .int 7] σ (some (.int (2 - nI nr))) σ := by
  refine Ev_w [.ref 5, .int 7] ?_ (by decide) rfl (Nat.le_of_ble_eq_true rfl) rfl
  refine g_iload_n dX0_tally_0 rfl ?_
  refine g_tabIn (tgt := 112) dX0_tally_1 (by decide) (by decide) (show _ = some 111 from rfl) (by decide) ?_
  refine g_aload_n dX0_tally_112 rfl ?_
  refine g_V0 dX0_tally_113 vX0_159 rfl (Nat.le_of_ble_eq_true rfl) (by decide) (ev_X0_spareFramesLeft h.2.2.2.2.2.2.1) ?_
  exact g_iret dX0_tally_116 rfl ⟨rfl, rfl⟩

set_option maxRecDepth 4000 in
theorem ev_X0_tally_8 {σ : r_Sg} {w : Nat} {sb : Option Nat} {fr : Nat → Nat} {nr : Nat} (h : r_BH σ w sb fr nr) : Ev 4 MX0_tally [.ref 5, .int 8] σ (some (.int (σ 5 9))) σ := by
  refine Ev_w [.ref 5, .int 8] ?_ (by decide) rfl (Nat.le_of_ble_eq_true rfl) rfl
  refine g_iload_n dX0_tally_0 rfl ?_
  refine g_tabIn (tgt := 117) dX0_tally_1 (by decide) (by decide) (show _ = some 116 from rfl) (by decide) ?_
  refine g_aload_n dX0_tally_117 rfl ?_
  refine g_getI dX0_tally_118 fX0_65 rfl rfl ?_
  exact g_iret dX0_tally_121 rfl ⟨rfl, rfl⟩

set_option maxRecDepth 4000 in
theorem ev_X0_tally_9 {σ : r_Sg} {w : Nat} {sb : Option Nat} {fr : Nat → Nat} {nr : Nat} (h : r_BH σ w sb fr nr) : Ev 4 MX0_tally [.ref 5, .int 9] σ (some (.int (σ 5 10))) σ := by
  refine Ev_w [.ref 5, .int 9] ?_ (by decide) rfl (Nat.le_of_ble_eq_true rfl) rfl
  refine g_iload_n dX0_tally_0 rfl ?_
  refine g_tabOut (tgt := 122) dX0_tally_1 (by decide) (by decide) ?_
  refine g_aload_n dX0_tally_122 rfl ?_
  refine g_getI dX0_tally_123 fX0_68 rfl rfl ?_
  exact g_iret dX0_tally_126 rfl ⟨rfl, rfl⟩
end
section
/-! the reference's bank, as it is written -/
def r_MH (σ : r_Sg) (w : Nat) (sb : Option Nat) (fr : Nat → Nat) (nr : Nat) : Prop := σ 19 0 + σ 19 1 = nI w ∧ w ≤ 20 ∧ (∀ b, b < w → σ 26 b = nI (r_pl w sb b)) ∧ (∀ b, sb = some b → b < w) ∧ (∀ p, p < 4 → σ 25 p = nI (fr p) ∧ fr p < 6) ∧ σ 19 14 = nI nr ∧ nr ≤ 2 ∧ σ 19 15 = bI (¬ sb = none)
theorem r_MH.to {σ σ' : r_Sg} {w : Nat} {sb : Option Nat} {fr : Nat → Nat} {nr : Nat} (h : r_MH σ w sb fr nr) (h1 : σ' 19 0 = σ 19 0) (h2 : σ' 19 1 = σ 19 1) (h3 : σ' 19 14 = σ 19 14) (h4 : σ' 19 15 = σ 19 15) (h25 : σ' 25 = σ 25) (h26 : σ' 26 = σ 26) : r_MH σ' w sb fr nr := by
  unfold r_MH
  rw [h1, h2, h3, h4, h25, h26]
  exact h
theorem r_at21 (f v q : Nat) : nI 21 * (nI 4 * nI f + nI v) + nI q = nI (21 * (4 * f + v) + q) := by rw [pk_mul, nI_add, pk_mul, nI_add]
def m_pu (σ : r_Sg) (R : Nat) (pl : Nat → Nat) (set : Int32) : Nat → r_Sg
  | 0 => σ
  | b + 1 => r_up (m_pu σ R pl set b) 22 (21 * R + pl b) (if m_pu σ R pl set b 23 (21 * R + pl b) = 0 then r_b set b else m_pu σ R pl set b 22 (21 * R + pl b))
def r_rawF (f : Nat → Int32) : Nat → Int32
  | 0 => 0
  | b + 1 => r_rawF f b ||| (f b <<< (nI b &&& 31))
def m_to (σ : r_Sg) (k a : Nat) : r_Sg := r_up (r_up (r_up σ 22 k (σ 22 a)) 24 k 0) 23 k 0
def m_cp (σ : r_Sg) (b w : Nat) : Nat → r_Sg
  | 0 => σ
  | r + 1 => m_to (m_cp σ b w r) (21 * r + w) (21 * r + b)
def m_sw (σ : r_Sg) (w b : Nat) : r_Sg := r_up (r_up (m_cp σ b w 24) 26 b (nI w)) 19 15 1
def m_rfi (σ : r_Sg) (sr tr : Nat) : Nat → r_Sg
  | 0 => σ
  | q + 1 => m_to (m_rfi σ sr tr q) (21 * tr + q) (21 * sr + q)
def m_rfo (σ : r_Sg) (f g : Nat) : Nat → r_Sg
  | 0 => σ
  | v + 1 => m_rfi (m_rfo σ f g v) (4 * f + v) (4 * g + v) 21
def m_rt (σ : r_Sg) (fr : Nat → Nat) (nr p : Nat) : r_Sg := r_up (r_up (r_up (m_rfo σ (fr p) (4 + nr) 4) 30 nr (nI (fr p))) 19 14 (nI nr + 1)) 25 p (nI (4 + nr))
/-- whether a place is in use -/
def m_us (w : Nat) (sb : Option Nat) (q : Nat) : Bool := decide (r_fst (fun b => decide (r_pl w sb b = q)) w < w)
def m_wb (σ : r_Sg) (w : Nat) (sb : Option Nat) (f : Nat) : Nat → Int32
  | 0 => 0
  | v + 1 => r_cna (fun q => decide (2 ≤ σ 24 (21 * (4 * f + v) + q) ∧ m_us w sb q = true)) (m_wb σ w sb f v) (w + 1)
def m_ws (σ : r_Sg) (w : Nat) (sb : Option Nat) (f : Nat) : Nat → Int32
  | 0 => 0
  | v + 1 => r_cna (fun q => decide (¬ σ 23 (21 * (4 * f + v) + q) = 0 ∧ m_us w sb q = true)) (m_ws σ w sb f v) (w + 1)
theorem m_to_o (σ : r_Sg) (k a : Nat) {q : Nat} (h2 : q ≠ 22) (h3 : q ≠ 23) (h4 : q ≠ 24) : m_to σ k a q = σ q := by simp [m_to, r_up, h2, h3, h4]
theorem m_cp_o (σ : r_Sg) (a b : Nat) {q : Nat} (h2 : q ≠ 22) (h3 : q ≠ 23) (h4 : q ≠ 24) : ∀ n, m_cp σ a b n q = σ q
  | 0 => rfl
  | n + 1 => by rw [m_cp, m_to_o _ _ _ h2 h3 h4, m_cp_o σ a b h2 h3 h4 n]
theorem m_rfi_o (σ : r_Sg) (a b : Nat) {q : Nat} (h2 : q ≠ 22) (h3 : q ≠ 23) (h4 : q ≠ 24) : ∀ n, m_rfi σ a b n q = σ q
  | 0 => rfl
  | n + 1 => by rw [m_rfi, m_to_o _ _ _ h2 h3 h4, m_rfi_o σ a b h2 h3 h4 n]
theorem m_rfo_o (σ : r_Sg) (a b : Nat) {q : Nat} (h2 : q ≠ 22) (h3 : q ≠ 23) (h4 : q ≠ 24) : ∀ n, m_rfo σ a b n q = σ q
  | 0 => rfl
  | n + 1 => by rw [m_rfo, m_rfi_o _ _ _ h2 h3 h4, m_rfo_o σ a b h2 h3 h4 n]
theorem m_pu_o (σ : r_Sg) (R : Nat) (pl : Nat → Nat) (set : Int32) {q : Nat} (h2 : q ≠ 22) : ∀ n, m_pu σ R pl set n q = σ q
  | 0 => rfl
  | n + 1 => by rw [m_pu, r_up_ne _ _ _ h2, m_pu_o σ R pl set h2 n]
theorem m_puMH {σ : r_Sg} {w : Nat} {sb : Option Nat} {fr : Nat → Nat} {nr : Nat} (h : r_MH σ w sb fr nr) (R : Nat) (pl : Nat → Nat) (set : Int32) (n : Nat) : r_MH (m_pu σ R pl set n) w sb fr nr := by
  have e : ∀ q, q ≠ 22 → m_pu σ R pl set n q = σ q := fun q hq => m_pu_o σ R pl set hq n
  exact h.to (by rw [e 19 (by decide)]) (by rw [e 19 (by decide)]) (by rw [e 19 (by decide)]) (by rw [e 19 (by decide)]) (e 25 (by decide)) (e 26 (by decide))
theorem m_cpMH {σ : r_Sg} {w : Nat} {sb : Option Nat} {fr : Nat → Nat} {nr : Nat} (h : r_MH σ w sb fr nr) (a b n : Nat) : r_MH (m_cp σ a b n) w sb fr nr := by
  have e : ∀ q, q ≠ 22 → q ≠ 23 → q ≠ 24 → m_cp σ a b n q = σ q := fun q h1 h2 h3 => m_cp_o σ a b h1 h2 h3 n
  exact h.to (by rw [e 19 (by decide) (by decide) (by decide)]) (by rw [e 19 (by decide) (by decide) (by decide)]) (by rw [e 19 (by decide) (by decide) (by decide)]) (by rw [e 19 (by decide) (by decide) (by decide)]) (e 25 (by decide) (by decide) (by decide)) (e 26 (by decide) (by decide) (by decide))
theorem m_rfiMH {σ : r_Sg} {w : Nat} {sb : Option Nat} {fr : Nat → Nat} {nr : Nat} (h : r_MH σ w sb fr nr) (a b n : Nat) : r_MH (m_rfi σ a b n) w sb fr nr := by
  have e : ∀ q, q ≠ 22 → q ≠ 23 → q ≠ 24 → m_rfi σ a b n q = σ q := fun q h1 h2 h3 => m_rfi_o σ a b h1 h2 h3 n
  exact h.to (by rw [e 19 (by decide) (by decide) (by decide)]) (by rw [e 19 (by decide) (by decide) (by decide)]) (by rw [e 19 (by decide) (by decide) (by decide)]) (by rw [e 19 (by decide) (by decide) (by decide)]) (e 25 (by decide) (by decide) (by decide)) (e 26 (by decide) (by decide) (by decide))
theorem m_rfoMH {σ : r_Sg} {w : Nat} {sb : Option Nat} {fr : Nat → Nat} {nr : Nat} (h : r_MH σ w sb fr nr) (a b n : Nat) : r_MH (m_rfo σ a b n) w sb fr nr := by
  have e : ∀ q, q ≠ 22 → q ≠ 23 → q ≠ 24 → m_rfo σ a b n q = σ q := fun q h1 h2 h3 => m_rfo_o σ a b h1 h2 h3 n
  exact h.to (by rw [e 19 (by decide) (by decide) (by decide)]) (by rw [e 19 (by decide) (by decide) (by decide)]) (by rw [e 19 (by decide) (by decide) (by decide)]) (by rw [e 19 (by decide) (by decide) (by decide)]) (e 25 (by decide) (by decide) (by decide)) (e 26 (by decide) (by decide) (by decide))
def m_nl (σ : r_Sg) (kind : Nat) (bit p v : Int32) : r_Sg := r_up (r_up (r_up (r_up (r_up (r_up (r_up σ 31 kind (σ 31 kind + 1)) 32 0 (nI kind)) 32 1 bit) 32 2 0) 32 3 0) 32 4 p) 32 5 v

set_option maxRecDepth 4000 in
theorem ev_X6_at {σ : r_Sg} {f v q : Nat}  : Ev 0 MX6_at [.int (nI f), .int (nI v), .int (nI q)] σ (some (.int (nI (21 * (4 * f + v) + q)))) σ := by
  refine Ev_w [.int (nI f), .int (nI v), .int (nI q)] ?_ (by decide) rfl (Nat.le_of_ble_eq_true rfl) rfl
  refine g_bipush (v := nI 21) dX6_at_0 (by decide) ?_
  refine g_iconst (v := nI 4) dX6_at_2 (by decide) ?_
  refine g_iload_n dX6_at_3 rfl ?_
  refine g_imul dX6_at_4 ?_
  refine g_iload_n dX6_at_5 rfl ?_
  refine g_iadd dX6_at_6 ?_
  refine g_imul dX6_at_7 ?_
  refine g_iload_n dX6_at_8 rfl ?_
  refine g_iadd dX6_at_9 ?_
  refine g_t (r_at21 f v q) ?_
  exact g_iret dX6_at_10 rfl ⟨rfl, rfl⟩

set_option maxRecDepth 4000 in
theorem ev_X6_cellOf {σ : r_Sg} {w : Nat} {sb : Option Nat} {fr : Nat → Nat} {nr : Nat} {p v b : Nat} (h : r_MH σ w sb fr nr) (hp : p < 4) (hb : b < w) : Ev 1 MX6_cellOf [.ref 19, .int (nI p), .int (nI v), .int (nI b)] σ (some (.int (nI (21 * (4 * fr p + v) + r_pl w sb b)))) σ := by
  have hw20 := h.2.1
  refine Ev_w [.ref 19, .int (nI p), .int (nI v), .int (nI b)] ?_ (by decide) rfl (Nat.le_of_ble_eq_true rfl) rfl
  refine g_aload_n dX6_cellOf_0 rfl ?_
  refine g_getR dX6_cellOf_1 fX6_26 rfl rfl ?_
  refine g_iload_n dX6_cellOf_4 rfl ?_
  refine g_ial _ dX6_cellOf_5 rfl rfl (by omega) ?_
  refine g_t (h.2.2.2.2.1 p hp).1 ?_
  refine g_iload_n dX6_cellOf_6 rfl ?_
  refine g_aload_n dX6_cellOf_7 rfl ?_
  refine g_getR dX6_cellOf_8 fX6_29 rfl rfl ?_
  refine g_iload_n dX6_cellOf_11 rfl ?_
  refine g_ial _ dX6_cellOf_12 rfl rfl (by omega) ?_
  refine g_t (h.2.2.1 b hb) ?_
  refine g_S3 dX6_cellOf_13 vX6_124 (Nat.le_of_ble_eq_true rfl) (by decide) (ev_X6_at) ?_
  exact g_iret dX6_cellOf_16 rfl ⟨rfl, rfl⟩

set_option maxRecDepth 4000 in
theorem ev_X6_isWord {σ : r_Sg} {p v : Int32}  : Ev 1 MX6_isWord [.ref 19, .int p, .int v] σ (some (.int (bI (0 < σ 19 0 ∧ (0 ≤ p ∧ p ≤ 3) ∧ 0 ≤ v ∧ v ≤ 3)))) σ := by
  refine Ev_w [.ref 19, .int p, .int v] ?_ (by decide) rfl (Nat.le_of_ble_eq_true rfl) rfl
  refine g_aload_n dX6_isWord_0 rfl ?_
  refine g_getI dX6_isWord_1 fX6_57 rfl rfl ?_
  refine g_ifle (tgt := 29) dX6_isWord_4 (by decide) (fun c4 => ?_) (fun c4 => ?_)
  · refine g_iconst (v := 0) dX6_isWord_29 (by decide) ?_
    exact g_zret dX6_isWord_30 rfl (by first | exact Or.inl rfl | exact Or.inr rfl) ⟨by simp only [bI_0, Decidable.not_not, Int32.not_le, Int32.not_lt, Int32.lt_iff_toInt_lt, Int32.le_iff_toInt_le] at *; unfold bI; split <;> first | rfl | (exfalso; omega), rfl⟩
  · refine g_iload_n dX6_isWord_7 rfl ?_
    refine g_iconst (v := 0) dX6_isWord_8 (by decide) ?_
    refine g_iconst (v := 3) dX6_isWord_9 (by decide) ?_
    refine g_S3 dX6_isWord_10 vX6_68 (Nat.le_of_ble_eq_true rfl) (by decide) (ev_X6_within) ?_
    refine g_ifeq (tgt := 29) dX6_isWord_13 (by decide) (fun c13 => ?_) (fun c13 => ?_)
    · refine g_iconst (v := 0) dX6_isWord_29 (by decide) ?_
      exact g_zret dX6_isWord_30 rfl (by first | exact Or.inl rfl | exact Or.inr rfl) ⟨by simp only [bI_0, Decidable.not_not, Int32.not_le, Int32.not_lt, Int32.lt_iff_toInt_lt, Int32.le_iff_toInt_le] at *; unfold bI; split <;> first | rfl | (exfalso; omega), rfl⟩
    · refine g_iload_n dX6_isWord_16 rfl ?_
      refine g_iconst (v := 0) dX6_isWord_17 (by decide) ?_
      refine g_iconst (v := 3) dX6_isWord_18 (by decide) ?_
      refine g_S3 dX6_isWord_19 vX6_68 (Nat.le_of_ble_eq_true rfl) (by decide) (ev_X6_within) ?_
      refine g_ifeq (tgt := 29) dX6_isWord_22 (by decide) (fun c22 => ?_) (fun c22 => ?_)
      · refine g_iconst (v := 0) dX6_isWord_29 (by decide) ?_
        exact g_zret dX6_isWord_30 rfl (by first | exact Or.inl rfl | exact Or.inr rfl) ⟨by simp only [bI_0, Decidable.not_not, Int32.not_le, Int32.not_lt, Int32.lt_iff_toInt_lt, Int32.le_iff_toInt_le] at *; unfold bI; split <;> first | rfl | (exfalso; omega), rfl⟩
      · refine g_iconst (v := 1) dX6_isWord_25 (by decide) ?_
        refine g_goto (tgt := 30) dX6_isWord_26 (by decide) ?_
        exact g_zret dX6_isWord_30 rfl (by first | exact Or.inl rfl | exact Or.inr rfl) ⟨by simp only [bI_0, Decidable.not_not, Int32.not_le, Int32.not_lt, Int32.lt_iff_toInt_lt, Int32.le_iff_toInt_le] at *; unfold bI; split <;> first | rfl | (exfalso; omega), rfl⟩

set_option maxRecDepth 4000 in
theorem ev_X6_puts {σ : r_Sg} {w : Nat} {sb : Option Nat} {fr : Nat → Nat} {nr : Nat} {p v : Nat} {a : Int32} (h : r_MH σ w sb fr nr) (hp : p < 4) (hv : v < 4) : Ev 2 MX6_puts [.ref 19, .int (nI p), .int (nI v), .int a] σ none (m_pu σ (4 * fr p + v) (r_pl w sb) a w) := by
  have hw20 := h.2.1
  have hfr := (h.2.2.2.2.1 p hp).2
  refine Ev_w [.ref 19, .int (nI p), .int (nI v), .int a, .null, .null] ?_ (by decide) rfl (Nat.le_of_ble_eq_true rfl) rfl
  refine g_iconst (v := 0) dX6_puts_0 (by decide) ?_
  refine g_istore dX6_puts_1 (by decide) rfl ?_
  refine r_loop (n := w) (fun k => [.ref 19, .int (nI p), .int (nI v), .int a, .int (nI k), .null]) (fun k => m_pu σ (4 * fr p + v) (r_pl w sb) a k) (fun k hk ih => ?_) ?_
  · refine g_iload dX6_puts_3 rfl ?_
    refine g_aload_n dX6_puts_5 rfl ?_
    refine g_V0 dX6_puts_6 vX6_64 rfl (Nat.le_of_ble_eq_true rfl) (by decide) (Ev_r (r' := some (.int (nI w))) ev_X6_bits (by rw [(m_puMH h _ _ _ _).1])) ?_
    refine g_icge (tgt := 61) dX6_puts_9 (by decide) (fun c9 => absurd c9 (nI_ge hk (by omega))) (fun c9 => ?_)
    have hkp := r_pl_lt sb hk hw20
    refine g_aload_n dX6_puts_12 rfl ?_
    refine g_iload_n dX6_puts_13 rfl ?_
    refine g_iload_n dX6_puts_14 rfl ?_
    refine g_iload dX6_puts_15 rfl ?_
    refine g_V3 dX6_puts_17 vX6_128 rfl (Nat.le_of_ble_eq_true rfl) (by decide) (ev_X6_cellOf (m_puMH h _ _ _ _) hp hk) ?_
    refine g_istore dX6_puts_20 (by decide) rfl ?_
    refine g_aload_n dX6_puts_22 rfl ?_
    refine g_getR dX6_puts_23 fX6_16 rfl rfl ?_
    refine g_iload dX6_puts_26 rfl ?_
    refine g_aload_n dX6_puts_28 rfl ?_
    refine g_getR dX6_puts_29 fX6_19 rfl rfl ?_
    refine g_iload dX6_puts_32 rfl ?_
    refine g_zal _ dX6_puts_34 rfl rfl (by omega) ?_
    refine g_ifeq (tgt := 48) dX6_puts_35 (by decide) (fun c35 => ?_) (fun c35 => ?_)
    · refine g_iload_n dX6_puts_48 rfl ?_
      refine g_iload dX6_puts_49 rfl ?_
      refine g_S2 dX6_puts_51 vX6_53 (Nat.le_of_ble_eq_true rfl) (by decide) (ev_X6_isIn) ?_
      refine g_ias _ dX6_puts_54 rfl rfl (by omega) ?_
      refine g_iinc (v := nI (k + 1)) dX6_puts_55 rfl (nI_1 k) (by decide) rfl ?_
      refine g_goto (tgt := 3) dX6_puts_58 (by decide) ?_
      refine g_w [.ref 19, .int (nI p), .int (nI v), .int a, .int (nI (k + 1)), .null] (And.intro (Or.inr rfl) (And.intro (Or.inr rfl) (And.intro (Or.inr rfl) (And.intro (Or.inr rfl) (And.intro (Or.inr rfl) (And.intro (Or.inl rfl) (True.intro))))))) ?_
      exact g_g (by simp [m_pu, c35]) ih
    · refine g_aload_n dX6_puts_38 rfl ?_
      refine g_getR dX6_puts_39 fX6_16 rfl rfl ?_
      refine g_iload dX6_puts_42 rfl ?_
      refine g_ial _ dX6_puts_44 rfl rfl (by omega) ?_
      refine g_goto (tgt := 54) dX6_puts_45 (by decide) ?_
      refine g_ias _ dX6_puts_54 rfl rfl (by omega) ?_
      refine g_iinc (v := nI (k + 1)) dX6_puts_55 rfl (nI_1 k) (by decide) rfl ?_
      refine g_goto (tgt := 3) dX6_puts_58 (by decide) ?_
      refine g_w [.ref 19, .int (nI p), .int (nI v), .int a, .int (nI (k + 1)), .null] (And.intro (Or.inr rfl) (And.intro (Or.inr rfl) (And.intro (Or.inr rfl) (And.intro (Or.inr rfl) (And.intro (Or.inr rfl) (And.intro (Or.inl rfl) (True.intro))))))) ?_
      exact g_g (by simp [m_pu, c35]) ih
  · refine g_iload dX6_puts_3 rfl ?_
    refine g_aload_n dX6_puts_5 rfl ?_
    refine g_V0 dX6_puts_6 vX6_64 rfl (Nat.le_of_ble_eq_true rfl) (by decide) (Ev_r (r' := some (.int (nI w))) ev_X6_bits (by rw [(m_puMH h _ _ _ _).1])) ?_
    refine g_icge (tgt := 61) dX6_puts_9 (by decide) (fun c9 => ?_) (fun c9 => absurd (nI_le (Nat.le_refl _) (by omega)) c9)
    exact g_ret dX6_puts_61 rfl ⟨rfl, rfl⟩

set_option maxRecDepth 4000 in
theorem ev_X6_rawOf {σ : r_Sg} {w : Nat} {sb : Option Nat} {fr : Nat → Nat} {nr : Nat} {p v : Nat} (h : r_MH σ w sb fr nr) (hp : p < 4) (hv : v < 4) : Ev 2 MX6_rawOf [.ref 19, .int (nI p), .int (nI v)] σ (some (.int (r_rawF (fun b => σ 22 (21 * (4 * fr p + v) + r_pl w sb b)) w))) σ := by
  have hw20 := h.2.1
  have hfr := (h.2.2.2.2.1 p hp).2
  refine Ev_w [.ref 19, .int (nI p), .int (nI v), .null, .null] ?_ (by decide) rfl (Nat.le_of_ble_eq_true rfl) rfl
  refine g_iconst (v := 0) dX6_rawOf_0 (by decide) ?_
  refine g_istore_n dX6_rawOf_1 (by decide) rfl ?_
  refine g_iconst (v := 0) dX6_rawOf_2 (by decide) ?_
  refine g_istore dX6_rawOf_3 (by decide) rfl ?_
  refine r_loop (n := w) (fun k => [.ref 19, .int (nI p), .int (nI v), .int (r_rawF (fun b => σ 22 (21 * (4 * fr p + v) + r_pl w sb b)) k), .int (nI k)]) (fun k => σ) (fun k hk ih => ?_) ?_
  · refine g_iload dX6_rawOf_5 rfl ?_
    refine g_aload_n dX6_rawOf_7 rfl ?_
    refine g_V0 dX6_rawOf_8 vX6_64 rfl (Nat.le_of_ble_eq_true rfl) (by decide) (Ev_r (r' := some (.int (nI w))) ev_X6_bits (by rw [h.1])) ?_
    refine g_icge (tgt := 39) dX6_rawOf_11 (by decide) (fun c11 => absurd c11 (nI_ge hk (by omega))) (fun c11 => ?_)
    have hkp := r_pl_lt sb hk hw20
    refine g_iload_n dX6_rawOf_14 rfl ?_
    refine g_aload_n dX6_rawOf_15 rfl ?_
    refine g_getR dX6_rawOf_16 fX6_16 rfl rfl ?_
    refine g_aload_n dX6_rawOf_19 rfl ?_
    refine g_iload_n dX6_rawOf_20 rfl ?_
    refine g_iload_n dX6_rawOf_21 rfl ?_
    refine g_iload dX6_rawOf_22 rfl ?_
    refine g_V3 dX6_rawOf_24 vX6_128 rfl (Nat.le_of_ble_eq_true rfl) (by decide) (ev_X6_cellOf h hp hk) ?_
    refine g_ial _ dX6_rawOf_27 rfl rfl (by omega) ?_
    refine g_iload dX6_rawOf_28 rfl ?_
    refine g_ishl dX6_rawOf_30 ?_
    refine g_ior dX6_rawOf_31 ?_
    refine g_istore_n dX6_rawOf_32 (by decide) rfl ?_
    refine g_iinc (v := nI (k + 1)) dX6_rawOf_33 rfl (nI_1 k) (by decide) rfl ?_
    refine g_goto (tgt := 5) dX6_rawOf_36 (by decide) ?_
    exact ih
  · refine g_iload dX6_rawOf_5 rfl ?_
    refine g_aload_n dX6_rawOf_7 rfl ?_
    refine g_V0 dX6_rawOf_8 vX6_64 rfl (Nat.le_of_ble_eq_true rfl) (by decide) (Ev_r (r' := some (.int (nI w))) ev_X6_bits (by rw [h.1])) ?_
    refine g_icge (tgt := 39) dX6_rawOf_11 (by decide) (fun c11 => ?_) (fun c11 => absurd (nI_le (Nat.le_refl _) (by omega)) c11)
    refine g_iload_n dX6_rawOf_39 rfl ?_
    exact g_iret dX6_rawOf_40 rfl ⟨rfl, rfl⟩

set_option maxRecDepth 4000 in
theorem ev_X6_badIn {σ : r_Sg} {q : Nat} (hq : q < 21) : Ev 0 MX6_badIn [.ref 19, .int (nI q)] σ (some (.int (r_cna (fun r => decide (2 ≤ σ 24 (21 * r + q))) 0 24))) σ := by
  refine Ev_w [.ref 19, .int (nI q), .null, .null] ?_ (by decide) rfl (Nat.le_of_ble_eq_true rfl) rfl
  refine g_iconst (v := 0) dX6_badIn_0 (by decide) ?_
  refine g_istore_n dX6_badIn_1 (by decide) rfl ?_
  refine g_iconst (v := 0) dX6_badIn_2 (by decide) ?_
  refine g_istore_n dX6_badIn_3 (by decide) rfl ?_
  refine r_loop (n := 24) (fun k => [.ref 19, .int (nI q), .int (r_cna (fun r => decide (2 ≤ σ 24 (21 * r + q))) 0 k), .int (nI k)]) (fun k => σ) (fun k hk ih => ?_) ?_
  · refine g_iload_n dX6_badIn_4 rfl ?_
    refine g_bipush (v := nI 24) dX6_badIn_5 (by decide) ?_
    refine g_icge (tgt := 39) dX6_badIn_7 (by decide) (fun c7 => absurd c7 (nI_ge hk (by omega))) (fun c7 => ?_)
    refine g_iload_n dX6_badIn_10 rfl ?_
    refine g_aload_n dX6_badIn_11 rfl ?_
    refine g_getR dX6_badIn_12 fX6_23 rfl rfl ?_
    refine g_bipush (v := nI 21) dX6_badIn_15 (by decide) ?_
    refine g_iload_n dX6_badIn_17 rfl ?_
    refine g_imul dX6_badIn_18 ?_
    refine g_iload_n dX6_badIn_19 rfl ?_
    refine g_iadd dX6_badIn_20 ?_
    refine g_t (show _ = nI (21 * k + q) from by rw [pk_mul, nI_add]) ?_
    refine g_ial _ dX6_badIn_21 rfl rfl (by omega) ?_
    refine g_iconst (v := 2) dX6_badIn_22 (by decide) ?_
    refine g_iclt (tgt := 30) dX6_badIn_23 (by decide) (fun c23 => ?_) (fun c23 => ?_)
    · have e := Int32.not_le.mpr c23
      refine g_iconst (v := 0) dX6_badIn_30 (by decide) ?_
      refine g_iadd dX6_badIn_31 ?_
      refine g_istore_n dX6_badIn_32 (by decide) rfl ?_
      refine g_iinc (v := nI (k + 1)) dX6_badIn_33 rfl (nI_1 k) (by decide) rfl ?_
      refine g_goto (tgt := 4) dX6_badIn_36 (by decide) ?_
      exact g_l (by simp [r_ls, r_cna, e]) ih
    · have e := Int32.not_lt.mp c23
      refine g_iconst (v := 1) dX6_badIn_26 (by decide) ?_
      refine g_goto (tgt := 31) dX6_badIn_27 (by decide) ?_
      refine g_iadd dX6_badIn_31 ?_
      refine g_istore_n dX6_badIn_32 (by decide) rfl ?_
      refine g_iinc (v := nI (k + 1)) dX6_badIn_33 rfl (nI_1 k) (by decide) rfl ?_
      refine g_goto (tgt := 4) dX6_badIn_36 (by decide) ?_
      exact g_l (by simp [r_ls, r_cna, e]) ih
  · refine g_iload_n dX6_badIn_4 rfl ?_
    refine g_bipush (v := nI 24) dX6_badIn_5 (by decide) ?_
    refine g_icge (tgt := 39) dX6_badIn_7 (by decide) (fun c7 => ?_) (fun c7 => absurd (nI_le (Nat.le_refl _) (by omega)) c7)
    refine g_iload_n dX6_badIn_39 rfl ?_
    exact g_iret dX6_badIn_40 rfl ⟨rfl, rfl⟩

set_option maxRecDepth 4000 in
theorem ev_X6_isUsed {σ : r_Sg} {w : Nat} {sb : Option Nat} {fr : Nat → Nat} {nr : Nat} {q : Nat} (h : r_MH σ w sb fr nr) (hq : q < 21) : Ev 1 MX6_isUsed [.ref 19, .int (nI q)] σ (some (.int (bI (m_us w sb q = true)))) σ := by
  have hw20 := h.2.1
  refine Ev_w [.ref 19, .int (nI q), .null] ?_ (by decide) rfl (Nat.le_of_ble_eq_true rfl) rfl
  refine g_iconst (v := 0) dX6_isUsed_0 (by decide) ?_
  refine g_istore_n dX6_isUsed_1 (by decide) rfl ?_
  have hJle := r_fst_le (fun b => decide (r_pl w sb b = q)) w
  refine r_loop (n := r_fst (fun b => decide (r_pl w sb b = q)) w) (fun k => [.ref 19, .int (nI q), .int (nI k)]) (fun k => σ) (fun k hk ih => ?_) ?_
  · have hP := r_fst_not hk
    refine g_iload_n dX6_isUsed_2 rfl ?_
    refine g_aload_n dX6_isUsed_3 rfl ?_
    refine g_V0 dX6_isUsed_4 vX6_64 rfl (Nat.le_of_ble_eq_true rfl) (by decide) (Ev_r (r' := some (.int (nI w))) ev_X6_bits (by rw [h.1])) ?_
    refine g_icge (tgt := 28) dX6_isUsed_7 (by decide) (fun c7 => absurd c7 (nI_ge (show k < w by omega) (by omega))) (fun c7 => ?_)
    have hkp := r_pl_lt sb (show k < w by omega) hw20
    refine g_aload_n dX6_isUsed_10 rfl ?_
    refine g_getR dX6_isUsed_11 fX6_29 rfl rfl ?_
    refine g_iload_n dX6_isUsed_14 rfl ?_
    refine g_ial _ dX6_isUsed_15 rfl rfl (by omega) ?_
    refine g_t (h.2.2.1 k (by omega)) ?_
    refine g_iload_n dX6_isUsed_16 rfl ?_
    refine g_icne (tgt := 22) dX6_isUsed_17 (by decide) (fun c17 => ?_) (fun c17 => absurd c17 (fun z => by have z2 := (nI_eq (by omega) (by omega)).mp z; simp [z2] at hP))
    refine g_iinc (v := nI (k + 1)) dX6_isUsed_22 rfl (nI_1 k) (by decide) rfl ?_
    refine g_goto (tgt := 2) dX6_isUsed_25 (by decide) ?_
    exact ih
  · by_cases hJ : r_fst (fun b => decide (r_pl w sb b = q)) w < w
    · have hP := r_fst_at hJ
      refine g_iload_n dX6_isUsed_2 rfl ?_
      refine g_aload_n dX6_isUsed_3 rfl ?_
      refine g_V0 dX6_isUsed_4 vX6_64 rfl (Nat.le_of_ble_eq_true rfl) (by decide) (Ev_r (r' := some (.int (nI w))) ev_X6_bits (by rw [h.1])) ?_
      refine g_icge (tgt := 28) dX6_isUsed_7 (by decide) (fun c7 => absurd c7 (nI_ge hJ (by omega))) (fun c7 => ?_)
      refine g_aload_n dX6_isUsed_10 rfl ?_
      refine g_getR dX6_isUsed_11 fX6_29 rfl rfl ?_
      refine g_iload_n dX6_isUsed_14 rfl ?_
      refine g_ial _ dX6_isUsed_15 rfl rfl (by omega) ?_
      refine g_t (h.2.2.1 _ hJ) ?_
      refine g_iload_n dX6_isUsed_16 rfl ?_
      refine g_icne (tgt := 22) dX6_isUsed_17 (by decide) (fun c17 => absurd (by rw [of_decide_eq_true hP]) c17) (fun c17 => ?_)
      refine g_iconst (v := 1) dX6_isUsed_20 (by decide) ?_
      exact g_zret dX6_isUsed_21 rfl (by first | exact Or.inl rfl | exact Or.inr rfl) ⟨by rw [bI_t (P := m_us w sb q = true) (decide_eq_true hJ)], rfl⟩
    · refine g_iload_n dX6_isUsed_2 rfl ?_
      refine g_aload_n dX6_isUsed_3 rfl ?_
      refine g_V0 dX6_isUsed_4 vX6_64 rfl (Nat.le_of_ble_eq_true rfl) (by decide) (Ev_r (r' := some (.int (nI w))) ev_X6_bits (by rw [h.1])) ?_
      refine g_icge (tgt := 28) dX6_isUsed_7 (by decide) (fun c7 => ?_) (fun c7 => absurd (nI_le (show w ≤ r_fst (fun b => decide (r_pl w sb b = q)) w by omega) (by omega)) c7)
      refine g_iconst (v := 0) dX6_isUsed_28 (by decide) ?_
      exact g_zret dX6_isUsed_29 rfl (by first | exact Or.inl rfl | exact Or.inr rfl) ⟨by rw [bI_f (P := m_us w sb q = true) (fun z => hJ (of_decide_eq_true z))], rfl⟩

set_option maxRecDepth 4000 in
theorem ev_X6_wrongIn_1 {σ : r_Sg} {w : Nat} {sb : Option Nat} {fr : Nat → Nat} {nr : Nat} {f : Nat} (h : r_MH σ w sb fr nr) (hf : f < 6) : Ev 2 MX6_wrongIn [.ref 19, .int (nI f), .int 1] σ (some (.int (m_wb σ w sb f 4))) σ := by
  have hw20 := h.2.1
  refine Ev_w [.ref 19, .int (nI f), .int 1, .null, .null, .null, .null, .null] ?_ (by decide) rfl (Nat.le_of_ble_eq_true rfl) rfl
  refine g_iconst (v := 0) dX6_wrongIn_0 (by decide) ?_
  refine g_istore_n dX6_wrongIn_1 (by decide) rfl ?_
  refine g_iconst (v := 0) dX6_wrongIn_2 (by decide) ?_
  refine g_istore dX6_wrongIn_3 (by decide) rfl ?_
  refine r_loop (n := 4) (fun k => [.ref 19, .int (nI f), .int 1, .int (m_wb σ w sb f k), .int (nI k), .null, .null, .null]) (fun k => σ) (fun k hk ih => ?_) ?_
  · refine g_iload dX6_wrongIn_5 rfl ?_
    refine g_iconst (v := nI 4) dX6_wrongIn_7 (by decide) ?_
    refine g_icge (tgt := 99) dX6_wrongIn_8 (by decide) (fun c8 => absurd c8 (nI_ge hk (by omega))) (fun c8 => ?_)
    refine g_iconst (v := 0) dX6_wrongIn_11 (by decide) ?_
    refine g_istore dX6_wrongIn_12 (by decide) rfl ?_
    refine g_w [.ref 19, .int (nI f), .int 1, .int (m_wb σ w sb f k), .int (nI k), .int (nI 0), .null, .null] (And.intro (Or.inr rfl) (And.intro (Or.inr rfl) (And.intro (Or.inr rfl) (And.intro (Or.inr rfl) (And.intro (Or.inr rfl) (And.intro (Or.inr rfl) (And.intro (Or.inl rfl) (And.intro (Or.inl rfl) (True.intro))))))))) ?_
    refine r_loop (n := w + 1) (fun q => [.ref 19, .int (nI f), .int 1, .int (r_cna (fun q => decide (2 ≤ σ 24 (21 * (4 * f + k) + q) ∧ m_us w sb q = true)) (m_wb σ w sb f k) q), .int (nI k), .int (nI q), .null, .null]) (fun q => σ) (fun q hq ih => ?_) ?_
    · refine g_iload dX6_wrongIn_14 rfl ?_
      refine g_aload_n dX6_wrongIn_16 rfl ?_
      refine g_V0 dX6_wrongIn_17 vX6_64 rfl (Nat.le_of_ble_eq_true rfl) (by decide) (Ev_r (r' := some (.int (nI w))) ev_X6_bits (by rw [h.1])) ?_
      refine g_icgt (tgt := 93) dX6_wrongIn_20 (by decide) (fun c20 => absurd c20 (fun z => absurd (nI_leI (by omega) (by omega) |>.mpr (show q ≤ w by omega)) (Int32.not_le.mpr z))) (fun c20 => ?_)
      refine g_iload_n dX6_wrongIn_23 rfl ?_
      refine g_iload dX6_wrongIn_24 rfl ?_
      refine g_iload dX6_wrongIn_26 rfl ?_
      refine g_S3 dX6_wrongIn_28 vX6_124 (Nat.le_of_ble_eq_true rfl) (by decide) (ev_X6_at) ?_
      refine g_istore dX6_wrongIn_31 (by decide) rfl ?_
      refine g_iload_n dX6_wrongIn_33 rfl ?_
      refine g_ifeq (tgt := 56) dX6_wrongIn_34 (by decide) (fun c34 => absurd c34 (by decide)) (fun c34 => ?_)
      refine g_aload_n dX6_wrongIn_37 rfl ?_
      refine g_getR dX6_wrongIn_38 fX6_23 rfl rfl ?_
      refine g_iload dX6_wrongIn_41 rfl ?_
      refine g_ial _ dX6_wrongIn_43 rfl rfl (by omega) ?_
      refine g_iconst (v := 2) dX6_wrongIn_44 (by decide) ?_
      refine g_iclt (tgt := 52) dX6_wrongIn_45 (by decide) (fun c45 => ?_) (fun c45 => ?_)
      · have e1 := Int32.not_le.mpr c45
        have e2 : True := trivial
        refine g_iconst (v := 0) dX6_wrongIn_52 (by decide) ?_
        refine g_goto (tgt := 63) dX6_wrongIn_53 (by decide) ?_
        refine g_istore dX6_wrongIn_63 (by decide) rfl ?_
        refine g_iload_n dX6_wrongIn_65 rfl ?_
        refine g_iload dX6_wrongIn_66 rfl ?_
        refine g_ifeq (tgt := 84) dX6_wrongIn_68 (by decide) (fun c68 => ?_) (fun c68 => absurd (by decide) c68)
        refine g_iconst (v := 0) dX6_wrongIn_84 (by decide) ?_
        refine g_iadd dX6_wrongIn_85 ?_
        refine g_istore_n dX6_wrongIn_86 (by decide) rfl ?_
        refine g_iinc (v := nI (q + 1)) dX6_wrongIn_87 rfl (nI_1 q) (by decide) rfl ?_
        refine g_goto (tgt := 14) dX6_wrongIn_90 (by decide) ?_
        refine g_w [.ref 19, .int (nI f), .int 1, .int (r_cna (fun q => decide (2 ≤ σ 24 (21 * (4 * f + k) + q) ∧ m_us w sb q = true)) (m_wb σ w sb f k) (q + 1)), .int (nI k), .int (nI (q + 1)), .null, .null] (And.intro (Or.inr rfl) (And.intro (Or.inr rfl) (And.intro (Or.inr rfl) (And.intro (Or.inr (by simp [r_cna, e1, e2])) (And.intro (Or.inr rfl) (And.intro (Or.inr rfl) (And.intro (Or.inl rfl) (And.intro (Or.inl rfl) True.intro)))))))) ?_
        exact ih
      · have e1 := Int32.not_lt.mp c45
        refine g_iconst (v := 1) dX6_wrongIn_48 (by decide) ?_
        refine g_goto (tgt := 63) dX6_wrongIn_49 (by decide) ?_
        refine g_istore dX6_wrongIn_63 (by decide) rfl ?_
        refine g_iload_n dX6_wrongIn_65 rfl ?_
        refine g_iload dX6_wrongIn_66 rfl ?_
        refine g_ifeq (tgt := 84) dX6_wrongIn_68 (by decide) (fun c68 => absurd c68 (by decide)) (fun c68 => ?_)
        refine g_aload_n dX6_wrongIn_71 rfl ?_
        refine g_iload dX6_wrongIn_72 rfl ?_
        refine g_V1 dX6_wrongIn_74 vX6_138 rfl (Nat.le_of_ble_eq_true rfl) (by decide) (ev_X6_isUsed h (by omega)) ?_
        refine g_ifeq (tgt := 84) dX6_wrongIn_77 (by decide) (fun c77 => ?_) (fun c77 => ?_)
        · have e2 := bI_0.mp c77
          refine g_iconst (v := 0) dX6_wrongIn_84 (by decide) ?_
          refine g_iadd dX6_wrongIn_85 ?_
          refine g_istore_n dX6_wrongIn_86 (by decide) rfl ?_
          refine g_iinc (v := nI (q + 1)) dX6_wrongIn_87 rfl (nI_1 q) (by decide) rfl ?_
          refine g_goto (tgt := 14) dX6_wrongIn_90 (by decide) ?_
          refine g_w [.ref 19, .int (nI f), .int 1, .int (r_cna (fun q => decide (2 ≤ σ 24 (21 * (4 * f + k) + q) ∧ m_us w sb q = true)) (m_wb σ w sb f k) (q + 1)), .int (nI k), .int (nI (q + 1)), .null, .null] (And.intro (Or.inr rfl) (And.intro (Or.inr rfl) (And.intro (Or.inr rfl) (And.intro (Or.inr (by simp [r_cna, e1, e2])) (And.intro (Or.inr rfl) (And.intro (Or.inr rfl) (And.intro (Or.inl rfl) (And.intro (Or.inl rfl) True.intro)))))))) ?_
          exact ih
        · have e2 := bI_1.mp c77
          refine g_iconst (v := 1) dX6_wrongIn_80 (by decide) ?_
          refine g_goto (tgt := 85) dX6_wrongIn_81 (by decide) ?_
          refine g_iadd dX6_wrongIn_85 ?_
          refine g_istore_n dX6_wrongIn_86 (by decide) rfl ?_
          refine g_iinc (v := nI (q + 1)) dX6_wrongIn_87 rfl (nI_1 q) (by decide) rfl ?_
          refine g_goto (tgt := 14) dX6_wrongIn_90 (by decide) ?_
          refine g_w [.ref 19, .int (nI f), .int 1, .int (r_cna (fun q => decide (2 ≤ σ 24 (21 * (4 * f + k) + q) ∧ m_us w sb q = true)) (m_wb σ w sb f k) (q + 1)), .int (nI k), .int (nI (q + 1)), .null, .null] (And.intro (Or.inr rfl) (And.intro (Or.inr rfl) (And.intro (Or.inr rfl) (And.intro (Or.inr (by simp [r_cna, e1, e2])) (And.intro (Or.inr rfl) (And.intro (Or.inr rfl) (And.intro (Or.inl rfl) (And.intro (Or.inl rfl) True.intro)))))))) ?_
          exact ih
    · refine g_iload dX6_wrongIn_14 rfl ?_
      refine g_aload_n dX6_wrongIn_16 rfl ?_
      refine g_V0 dX6_wrongIn_17 vX6_64 rfl (Nat.le_of_ble_eq_true rfl) (by decide) (Ev_r (r' := some (.int (nI w))) ev_X6_bits (by rw [h.1])) ?_
      refine g_icgt (tgt := 93) dX6_wrongIn_20 (by decide) (fun c20 => ?_) (fun c20 => absurd (nI_lt (show w < w + 1 by omega) (by omega)) c20)
      refine g_iinc (v := nI (k + 1)) dX6_wrongIn_93 rfl (nI_1 k) (by decide) rfl ?_
      refine g_goto (tgt := 5) dX6_wrongIn_96 (by decide) ?_
      refine g_w [.ref 19, .int (nI f), .int 1, .int (m_wb σ w sb f (k + 1)), .int (nI (k + 1)), .null, .null, .null] (And.intro (Or.inr rfl) (And.intro (Or.inr rfl) (And.intro (Or.inr rfl) (And.intro (Or.inr rfl) (And.intro (Or.inr rfl) (And.intro (Or.inl rfl) (And.intro (Or.inl rfl) (And.intro (Or.inl rfl) (True.intro))))))))) ?_
      exact ih
  · refine g_iload dX6_wrongIn_5 rfl ?_
    refine g_iconst (v := nI 4) dX6_wrongIn_7 (by decide) ?_
    refine g_icge (tgt := 99) dX6_wrongIn_8 (by decide) (fun c8 => ?_) (fun c8 => absurd (nI_le (Nat.le_refl _) (by omega)) c8)
    refine g_iload_n dX6_wrongIn_99 rfl ?_
    exact g_iret dX6_wrongIn_100 rfl ⟨rfl, rfl⟩

set_option maxRecDepth 4000 in
theorem ev_X6_wrongIn_0 {σ : r_Sg} {w : Nat} {sb : Option Nat} {fr : Nat → Nat} {nr : Nat} {f : Nat} (h : r_MH σ w sb fr nr) (hf : f < 6) : Ev 2 MX6_wrongIn [.ref 19, .int (nI f), .int 0] σ (some (.int (m_ws σ w sb f 4))) σ := by
  have hw20 := h.2.1
  refine Ev_w [.ref 19, .int (nI f), .int 0, .null, .null, .null, .null, .null] ?_ (by decide) rfl (Nat.le_of_ble_eq_true rfl) rfl
  refine g_iconst (v := 0) dX6_wrongIn_0 (by decide) ?_
  refine g_istore_n dX6_wrongIn_1 (by decide) rfl ?_
  refine g_iconst (v := 0) dX6_wrongIn_2 (by decide) ?_
  refine g_istore dX6_wrongIn_3 (by decide) rfl ?_
  refine r_loop (n := 4) (fun k => [.ref 19, .int (nI f), .int 0, .int (m_ws σ w sb f k), .int (nI k), .null, .null, .null]) (fun k => σ) (fun k hk ih => ?_) ?_
  · refine g_iload dX6_wrongIn_5 rfl ?_
    refine g_iconst (v := nI 4) dX6_wrongIn_7 (by decide) ?_
    refine g_icge (tgt := 99) dX6_wrongIn_8 (by decide) (fun c8 => absurd c8 (nI_ge hk (by omega))) (fun c8 => ?_)
    refine g_iconst (v := 0) dX6_wrongIn_11 (by decide) ?_
    refine g_istore dX6_wrongIn_12 (by decide) rfl ?_
    refine g_w [.ref 19, .int (nI f), .int 0, .int (m_ws σ w sb f k), .int (nI k), .int (nI 0), .null, .null] (And.intro (Or.inr rfl) (And.intro (Or.inr rfl) (And.intro (Or.inr rfl) (And.intro (Or.inr rfl) (And.intro (Or.inr rfl) (And.intro (Or.inr rfl) (And.intro (Or.inl rfl) (And.intro (Or.inl rfl) (True.intro))))))))) ?_
    refine r_loop (n := w + 1) (fun q => [.ref 19, .int (nI f), .int 0, .int (r_cna (fun q => decide (¬ σ 23 (21 * (4 * f + k) + q) = 0 ∧ m_us w sb q = true)) (m_ws σ w sb f k) q), .int (nI k), .int (nI q), .null, .null]) (fun q => σ) (fun q hq ih => ?_) ?_
    · refine g_iload dX6_wrongIn_14 rfl ?_
      refine g_aload_n dX6_wrongIn_16 rfl ?_
      refine g_V0 dX6_wrongIn_17 vX6_64 rfl (Nat.le_of_ble_eq_true rfl) (by decide) (Ev_r (r' := some (.int (nI w))) ev_X6_bits (by rw [h.1])) ?_
      refine g_icgt (tgt := 93) dX6_wrongIn_20 (by decide) (fun c20 => absurd c20 (fun z => absurd (nI_leI (by omega) (by omega) |>.mpr (show q ≤ w by omega)) (Int32.not_le.mpr z))) (fun c20 => ?_)
      refine g_iload_n dX6_wrongIn_23 rfl ?_
      refine g_iload dX6_wrongIn_24 rfl ?_
      refine g_iload dX6_wrongIn_26 rfl ?_
      refine g_S3 dX6_wrongIn_28 vX6_124 (Nat.le_of_ble_eq_true rfl) (by decide) (ev_X6_at) ?_
      refine g_istore dX6_wrongIn_31 (by decide) rfl ?_
      refine g_iload_n dX6_wrongIn_33 rfl ?_
      refine g_ifeq (tgt := 56) dX6_wrongIn_34 (by decide) (fun c34 => ?_) (fun c34 => absurd rfl c34)
      refine g_aload_n dX6_wrongIn_56 rfl ?_
      refine g_getR dX6_wrongIn_57 fX6_19 rfl rfl ?_
      refine g_iload dX6_wrongIn_60 rfl ?_
      refine g_zal _ dX6_wrongIn_62 rfl rfl (by omega) ?_
      refine g_istore dX6_wrongIn_63 (by decide) rfl ?_
      refine g_iload_n dX6_wrongIn_65 rfl ?_
      refine g_iload dX6_wrongIn_66 rfl ?_
      refine g_ifeq (tgt := 84) dX6_wrongIn_68 (by decide) (fun c68 => ?_) (fun c68 => ?_)
      · have e1 : ¬ ¬ σ 23 (21 * (4 * f + k) + q) = 0 := fun z => z c68
        have e2 : True := trivial
        refine g_iconst (v := 0) dX6_wrongIn_84 (by decide) ?_
        refine g_iadd dX6_wrongIn_85 ?_
        refine g_istore_n dX6_wrongIn_86 (by decide) rfl ?_
        refine g_iinc (v := nI (q + 1)) dX6_wrongIn_87 rfl (nI_1 q) (by decide) rfl ?_
        refine g_goto (tgt := 14) dX6_wrongIn_90 (by decide) ?_
        refine g_w [.ref 19, .int (nI f), .int 0, .int (r_cna (fun q => decide (¬ σ 23 (21 * (4 * f + k) + q) = 0 ∧ m_us w sb q = true)) (m_ws σ w sb f k) (q + 1)), .int (nI k), .int (nI (q + 1)), .null, .null] (And.intro (Or.inr rfl) (And.intro (Or.inr rfl) (And.intro (Or.inr rfl) (And.intro (Or.inr (by simp [r_cna, e1, e2])) (And.intro (Or.inr rfl) (And.intro (Or.inr rfl) (And.intro (Or.inl rfl) (And.intro (Or.inl rfl) True.intro)))))))) ?_
        exact ih
      · have e1 : ¬ σ 23 (21 * (4 * f + k) + q) = 0 := c68
        refine g_aload_n dX6_wrongIn_71 rfl ?_
        refine g_iload dX6_wrongIn_72 rfl ?_
        refine g_V1 dX6_wrongIn_74 vX6_138 rfl (Nat.le_of_ble_eq_true rfl) (by decide) (ev_X6_isUsed h (by omega)) ?_
        refine g_ifeq (tgt := 84) dX6_wrongIn_77 (by decide) (fun c77 => ?_) (fun c77 => ?_)
        · have e2 := bI_0.mp c77
          refine g_iconst (v := 0) dX6_wrongIn_84 (by decide) ?_
          refine g_iadd dX6_wrongIn_85 ?_
          refine g_istore_n dX6_wrongIn_86 (by decide) rfl ?_
          refine g_iinc (v := nI (q + 1)) dX6_wrongIn_87 rfl (nI_1 q) (by decide) rfl ?_
          refine g_goto (tgt := 14) dX6_wrongIn_90 (by decide) ?_
          refine g_w [.ref 19, .int (nI f), .int 0, .int (r_cna (fun q => decide (¬ σ 23 (21 * (4 * f + k) + q) = 0 ∧ m_us w sb q = true)) (m_ws σ w sb f k) (q + 1)), .int (nI k), .int (nI (q + 1)), .null, .null] (And.intro (Or.inr rfl) (And.intro (Or.inr rfl) (And.intro (Or.inr rfl) (And.intro (Or.inr (by simp [r_cna, e1, e2])) (And.intro (Or.inr rfl) (And.intro (Or.inr rfl) (And.intro (Or.inl rfl) (And.intro (Or.inl rfl) True.intro)))))))) ?_
          exact ih
        · have e2 := bI_1.mp c77
          refine g_iconst (v := 1) dX6_wrongIn_80 (by decide) ?_
          refine g_goto (tgt := 85) dX6_wrongIn_81 (by decide) ?_
          refine g_iadd dX6_wrongIn_85 ?_
          refine g_istore_n dX6_wrongIn_86 (by decide) rfl ?_
          refine g_iinc (v := nI (q + 1)) dX6_wrongIn_87 rfl (nI_1 q) (by decide) rfl ?_
          refine g_goto (tgt := 14) dX6_wrongIn_90 (by decide) ?_
          refine g_w [.ref 19, .int (nI f), .int 0, .int (r_cna (fun q => decide (¬ σ 23 (21 * (4 * f + k) + q) = 0 ∧ m_us w sb q = true)) (m_ws σ w sb f k) (q + 1)), .int (nI k), .int (nI (q + 1)), .null, .null] (And.intro (Or.inr rfl) (And.intro (Or.inr rfl) (And.intro (Or.inr rfl) (And.intro (Or.inr (by simp [r_cna, e1, e2])) (And.intro (Or.inr rfl) (And.intro (Or.inr rfl) (And.intro (Or.inl rfl) (And.intro (Or.inl rfl) True.intro)))))))) ?_
          exact ih
    · refine g_iload dX6_wrongIn_14 rfl ?_
      refine g_aload_n dX6_wrongIn_16 rfl ?_
      refine g_V0 dX6_wrongIn_17 vX6_64 rfl (Nat.le_of_ble_eq_true rfl) (by decide) (Ev_r (r' := some (.int (nI w))) ev_X6_bits (by rw [h.1])) ?_
      refine g_icgt (tgt := 93) dX6_wrongIn_20 (by decide) (fun c20 => ?_) (fun c20 => absurd (nI_lt (show w < w + 1 by omega) (by omega)) c20)
      refine g_iinc (v := nI (k + 1)) dX6_wrongIn_93 rfl (nI_1 k) (by decide) rfl ?_
      refine g_goto (tgt := 5) dX6_wrongIn_96 (by decide) ?_
      refine g_w [.ref 19, .int (nI f), .int 0, .int (m_ws σ w sb f (k + 1)), .int (nI (k + 1)), .null, .null, .null] (And.intro (Or.inr rfl) (And.intro (Or.inr rfl) (And.intro (Or.inr rfl) (And.intro (Or.inr rfl) (And.intro (Or.inr rfl) (And.intro (Or.inl rfl) (And.intro (Or.inl rfl) (And.intro (Or.inl rfl) (True.intro))))))))) ?_
      exact ih
  · refine g_iload dX6_wrongIn_5 rfl ?_
    refine g_iconst (v := nI 4) dX6_wrongIn_7 (by decide) ?_
    refine g_icge (tgt := 99) dX6_wrongIn_8 (by decide) (fun c8 => ?_) (fun c8 => absurd (nI_le (Nat.le_refl _) (by omega)) c8)
    refine g_iload_n dX6_wrongIn_99 rfl ?_
    exact g_iret dX6_wrongIn_100 rfl ⟨rfl, rfl⟩

set_option maxRecDepth 4000 in
theorem ev_X6_takesOver {σ : r_Sg} {k a : Nat} (hk : k < 504) (ha : a < 504) : Ev 0 MX6_takesOver [.ref 19, .int (nI k), .int (nI a)] σ none (m_to σ k a) := by
  refine Ev_w [.ref 19, .int (nI k), .int (nI a)] ?_ (by decide) rfl (Nat.le_of_ble_eq_true rfl) rfl
  refine g_aload_n dX6_takesOver_0 rfl ?_
  refine g_getR dX6_takesOver_1 fX6_16 rfl rfl ?_
  refine g_iload_n dX6_takesOver_4 rfl ?_
  refine g_aload_n dX6_takesOver_5 rfl ?_
  refine g_getR dX6_takesOver_6 fX6_16 rfl rfl ?_
  refine g_iload_n dX6_takesOver_9 rfl ?_
  refine g_ial _ dX6_takesOver_10 rfl rfl (by omega) ?_
  refine g_ias _ dX6_takesOver_11 rfl rfl (by omega) ?_
  refine g_aload_n dX6_takesOver_12 rfl ?_
  refine g_getR dX6_takesOver_13 fX6_23 rfl rfl ?_
  refine g_iload_n dX6_takesOver_16 rfl ?_
  refine g_iconst (v := 0) dX6_takesOver_17 (by decide) ?_
  refine g_ias _ dX6_takesOver_18 rfl rfl (by omega) ?_
  refine g_aload_n dX6_takesOver_19 rfl ?_
  refine g_getR dX6_takesOver_20 fX6_19 rfl rfl ?_
  refine g_iload_n dX6_takesOver_23 rfl ?_
  refine g_iconst (v := 0) dX6_takesOver_24 (by decide) ?_
  refine g_zas _ dX6_takesOver_25 rfl rfl (by omega) (by decide) ?_
  exact g_ret dX6_takesOver_26 rfl ⟨rfl, rfl⟩

set_option maxRecDepth 4000 in
theorem ev_X6_swaps {σ : r_Sg} {w : Nat} {fr : Nat → Nat} {nr b : Nat} (h : r_MH σ w none fr nr) (hb : b < w) : Ev 1 MX6_swaps [.ref 19, .int (nI b)] σ none (m_sw σ w b) := by
  have hw20 := h.2.1
  refine Ev_w [.ref 19, .int (nI b), .null, .null] ?_ (by decide) rfl (Nat.le_of_ble_eq_true rfl) rfl
  refine g_aload_n dX6_swaps_0 rfl ?_
  refine g_getR dX6_swaps_1 fX6_29 rfl rfl ?_
  refine g_iload_n dX6_swaps_4 rfl ?_
  refine g_ial _ dX6_swaps_5 rfl rfl (by omega) ?_
  refine g_t (h.2.2.1 b hb) ?_
  refine g_t (show _ = nI b from rfl) ?_
  refine g_istore_n dX6_swaps_6 (by decide) rfl ?_
  refine g_iconst (v := 0) dX6_swaps_7 (by decide) ?_
  refine g_istore_n dX6_swaps_8 (by decide) rfl ?_
  refine r_loop (n := 24) (fun k => [.ref 19, .int (nI b), .int (nI b), .int (nI k)]) (fun k => m_cp σ b w k) (fun k hk ih => ?_) ?_
  · refine g_iload_n dX6_swaps_9 rfl ?_
    refine g_bipush (v := nI 24) dX6_swaps_10 (by decide) ?_
    refine g_icge (tgt := 40) dX6_swaps_12 (by decide) (fun c12 => absurd c12 (nI_ge hk (by omega))) (fun c12 => ?_)
    refine g_aload_n dX6_swaps_15 rfl ?_
    refine g_bipush (v := nI 21) dX6_swaps_16 (by decide) ?_
    refine g_iload_n dX6_swaps_18 rfl ?_
    refine g_imul dX6_swaps_19 ?_
    refine g_aload_n dX6_swaps_20 rfl ?_
    refine g_V0 dX6_swaps_21 vX6_64 rfl (Nat.le_of_ble_eq_true rfl) (by decide) (Ev_r (r' := some (.int (nI w))) ev_X6_bits (by rw [(m_cpMH h _ _ _).1])) ?_
    refine g_iadd dX6_swaps_24 ?_
    refine g_t (show _ = nI (21 * k + w) from by rw [pk_mul, nI_add]) ?_
    refine g_bipush (v := nI 21) dX6_swaps_25 (by decide) ?_
    refine g_iload_n dX6_swaps_27 rfl ?_
    refine g_imul dX6_swaps_28 ?_
    refine g_iload_n dX6_swaps_29 rfl ?_
    refine g_iadd dX6_swaps_30 ?_
    refine g_t (show _ = nI (21 * k + b) from by rw [pk_mul, nI_add]) ?_
    refine g_V2v dX6_swaps_31 vX6_141 rfl (Nat.le_of_ble_eq_true rfl) (by decide) (ev_X6_takesOver (by omega) (by omega)) ?_
    refine g_iinc (v := nI (k + 1)) dX6_swaps_34 rfl (nI_1 k) (by decide) rfl ?_
    refine g_goto (tgt := 9) dX6_swaps_37 (by decide) ?_
    exact ih
  · refine g_iload_n dX6_swaps_9 rfl ?_
    refine g_bipush (v := nI 24) dX6_swaps_10 (by decide) ?_
    refine g_icge (tgt := 40) dX6_swaps_12 (by decide) (fun c12 => ?_) (fun c12 => absurd (nI_le (Nat.le_refl _) (by omega)) c12)
    refine g_aload_n dX6_swaps_40 rfl ?_
    refine g_getR dX6_swaps_41 fX6_29 rfl rfl ?_
    refine g_iload_n dX6_swaps_44 rfl ?_
    refine g_aload_n dX6_swaps_45 rfl ?_
    refine g_V0 dX6_swaps_46 vX6_64 rfl (Nat.le_of_ble_eq_true rfl) (by decide) (Ev_r (r' := some (.int (nI w))) ev_X6_bits (by rw [(m_cpMH h _ _ _).1])) ?_
    refine g_ias _ dX6_swaps_49 rfl rfl (by omega) ?_
    refine g_aload_n dX6_swaps_50 rfl ?_
    refine g_iconst (v := 1) dX6_swaps_51 (by decide) ?_
    refine g_putZ dX6_swaps_52 pX6_117 rfl rfl (by decide) ?_
    exact g_ret dX6_swaps_55 rfl ⟨rfl, rfl⟩

set_option maxRecDepth 4000 in
theorem ev_X6_retires {σ : r_Sg} {w : Nat} {sb : Option Nat} {fr : Nat → Nat} {nr : Nat} {p : Nat} (h : r_MH σ w sb fr nr) (hp : p < 4) (hnr : nr < 2) : Ev 1 MX6_retires [.ref 19, .int (nI p)] σ none (m_rt σ fr nr p) := by
  have hw20 := h.2.1
  have hfr := (h.2.2.2.2.1 p hp).2
  refine Ev_w [.ref 19, .int (nI p), .null, .null, .null] ?_ (by decide) rfl (Nat.le_of_ble_eq_true rfl) rfl
  refine g_iconst (v := nI 4) dX6_retires_0 (by decide) ?_
  refine g_aload_n dX6_retires_1 rfl ?_
  refine g_getI dX6_retires_2 fX6_114 rfl rfl ?_
  refine g_t h.2.2.2.2.2.1 ?_
  refine g_iadd dX6_retires_5 ?_
  refine g_t (nI_add 4 nr) ?_
  refine g_istore_n dX6_retires_6 (by decide) rfl ?_
  refine g_iconst (v := 0) dX6_retires_7 (by decide) ?_
  refine g_istore_n dX6_retires_8 (by decide) rfl ?_
  refine r_loop (n := 4) (fun k => [.ref 19, .int (nI p), .int (nI (4 + nr)), .int (nI k), .null]) (fun k => m_rfo σ (fr p) (4 + nr) k) (fun k hk ih => ?_) ?_
  · refine g_iload_n dX6_retires_9 rfl ?_
    refine g_iconst (v := nI 4) dX6_retires_10 (by decide) ?_
    refine g_icge (tgt := 59) dX6_retires_11 (by decide) (fun c11 => absurd c11 (nI_ge hk (by omega))) (fun c11 => ?_)
    refine g_iconst (v := 0) dX6_retires_14 (by decide) ?_
    refine g_istore dX6_retires_15 (by decide) rfl ?_
    refine g_w [.ref 19, .int (nI p), .int (nI (4 + nr)), .int (nI k), .int (nI 0)] (And.intro (Or.inr rfl) (And.intro (Or.inr rfl) (And.intro (Or.inr rfl) (And.intro (Or.inr rfl) (And.intro (Or.inr rfl) (True.intro)))))) ?_
    refine r_loop (n := 21) (fun q => [.ref 19, .int (nI p), .int (nI (4 + nr)), .int (nI k), .int (nI q)]) (fun q => m_rfi (m_rfo σ (fr p) (4 + nr) k) (4 * fr p + k) (4 * (4 + nr) + k) q) (fun q hq ih => ?_) ?_
    · refine g_iload dX6_retires_17 rfl ?_
      refine g_bipush (v := nI 21) dX6_retires_19 (by decide) ?_
      refine g_icge (tgt := 53) dX6_retires_21 (by decide) (fun c21 => absurd c21 (nI_ge hq (by omega))) (fun c21 => ?_)
      refine g_aload_n dX6_retires_24 rfl ?_
      refine g_iload_n dX6_retires_25 rfl ?_
      refine g_iload_n dX6_retires_26 rfl ?_
      refine g_iload dX6_retires_27 rfl ?_
      refine g_S3 dX6_retires_29 vX6_124 (Nat.le_of_ble_eq_true rfl) (by decide) (ev_X6_at) ?_
      refine g_aload_n dX6_retires_32 rfl ?_
      refine g_getR dX6_retires_33 fX6_26 rfl rfl ?_
      refine g_iload_n dX6_retires_36 rfl ?_
      refine g_ial _ dX6_retires_37 rfl rfl (by omega) ?_
      refine g_t ((m_rfiMH (m_rfoMH h _ _ _) _ _ _).2.2.2.2.1 p hp).1 ?_
      refine g_iload_n dX6_retires_38 rfl ?_
      refine g_iload dX6_retires_39 rfl ?_
      refine g_S3 dX6_retires_41 vX6_124 (Nat.le_of_ble_eq_true rfl) (by decide) (ev_X6_at) ?_
      refine g_V2v dX6_retires_44 vX6_141 rfl (Nat.le_of_ble_eq_true rfl) (by decide) (ev_X6_takesOver (by omega) (by omega)) ?_
      refine g_iinc (v := nI (q + 1)) dX6_retires_47 rfl (nI_1 q) (by decide) rfl ?_
      refine g_goto (tgt := 17) dX6_retires_50 (by decide) ?_
      exact ih
    · refine g_iload dX6_retires_17 rfl ?_
      refine g_bipush (v := nI 21) dX6_retires_19 (by decide) ?_
      refine g_icge (tgt := 53) dX6_retires_21 (by decide) (fun c21 => ?_) (fun c21 => absurd (nI_le (Nat.le_refl _) (by omega)) c21)
      refine g_iinc (v := nI (k + 1)) dX6_retires_53 rfl (nI_1 k) (by decide) rfl ?_
      refine g_goto (tgt := 9) dX6_retires_56 (by decide) ?_
      refine g_w [.ref 19, .int (nI p), .int (nI (4 + nr)), .int (nI (k + 1)), .null] (And.intro (Or.inr rfl) (And.intro (Or.inr rfl) (And.intro (Or.inr rfl) (And.intro (Or.inr rfl) (And.intro (Or.inl rfl) (True.intro)))))) ?_
      exact ih
  · refine g_iload_n dX6_retires_9 rfl ?_
    refine g_iconst (v := nI 4) dX6_retires_10 (by decide) ?_
    refine g_icge (tgt := 59) dX6_retires_11 (by decide) (fun c11 => ?_) (fun c11 => absurd (nI_le (Nat.le_refl _) (by omega)) c11)
    refine g_aload_n dX6_retires_59 rfl ?_
    refine g_getR dX6_retires_60 fX6_41 rfl rfl ?_
    refine g_aload_n dX6_retires_63 rfl ?_
    refine g_getI dX6_retires_64 fX6_114 rfl rfl ?_
    refine g_t (m_rfoMH h (fr p) (4 + nr) 4).2.2.2.2.2.1 ?_
    refine g_aload_n dX6_retires_67 rfl ?_
    refine g_getR dX6_retires_68 fX6_26 rfl rfl ?_
    refine g_iload_n dX6_retires_71 rfl ?_
    refine g_ial _ dX6_retires_72 rfl rfl (by omega) ?_
    refine g_t ((m_rfoMH h (fr p) (4 + nr) 4).2.2.2.2.1 p hp).1 ?_
    refine g_ias _ dX6_retires_73 rfl rfl (by omega) ?_
    refine g_aload_n dX6_retires_74 rfl ?_
    refine g_dup dX6_retires_75 rfl ?_
    refine g_getI dX6_retires_76 fX6_114 rfl rfl ?_
    refine g_t (show _ = nI nr from by rw [r_up_ne _ _ _ (by decide)]; exact (m_rfoMH h (fr p) (4 + nr) 4).2.2.2.2.2.1) ?_
    refine g_iconst (v := 1) dX6_retires_79 (by decide) ?_
    refine g_iadd dX6_retires_80 ?_
    refine g_putI dX6_retires_81 pX6_114 rfl rfl ?_
    refine g_aload_n dX6_retires_84 rfl ?_
    refine g_getR dX6_retires_85 fX6_26 rfl rfl ?_
    refine g_iload_n dX6_retires_88 rfl ?_
    refine g_iload_n dX6_retires_89 rfl ?_
    refine g_ias _ dX6_retires_90 rfl rfl (by omega) ?_
    exact g_ret dX6_retires_91 rfl ⟨rfl, rfl⟩
end
section
/-! the reference: a look at a word -/
def m_mk (σ : r_Sg) (w : Nat) (sb : Option Nat) (fr : Nat → Nat) (p v b : Nat) : r_Sg := r_up σ 24 (21 * (4 * fr p + v) + r_pl w sb b) (σ 24 (21 * (4 * fr p + v) + r_pl w sb b) + 1)
def m_t0 (σ : r_Sg) (p mt : Nat) : r_Sg := if σ 28 p = 0 then r_up (r_up σ 29 mt (nI p)) 19 12 (nI mt + 1) else σ
def m_tr (σ : r_Sg) (p mt : Nat) : r_Sg := r_up (m_t0 σ p mt) 28 p (m_t0 σ p mt 28 p + 1)
def m_d1 (σ : r_Sg) (sb : Option Nat) (b : Nat) : Bool := decide (sb = none ∧ 3 ≤ r_cna (fun r => decide (2 ≤ σ 24 (21 * r + b))) 0 24)
def m_s1 (σ : r_Sg) (w : Nat) (sb : Option Nat) (b : Nat) : r_Sg := if m_d1 σ sb b then r_up (m_sw σ w b) 32 2 1 else σ
def m_sb (σ : r_Sg) (sb : Option Nat) (b : Nat) : Option Nat := if m_d1 σ sb b then some b else sb
def m_d2 (σ : r_Sg) (w : Nat) (sb : Option Nat) (fr : Nat → Nat) (nr p : Nat) : Bool := decide (¬ nr = 2 ∧ 4 ≤ m_wb σ w sb (fr p) 4)
def m_r1 (σ : r_Sg) (w : Nat) (sb : Option Nat) (fr : Nat → Nat) (nr p : Nat) : r_Sg := if m_d2 σ w sb fr nr p then r_up (m_rt σ fr nr p) 32 3 1 else σ
def m_fr (σ : r_Sg) (w : Nat) (sb : Option Nat) (fr : Nat → Nat) (nr p : Nat) : Nat → Nat := if m_d2 σ w sb fr nr p then fun x => if x = p then 4 + nr else fr x else fr
def m_nr (σ : r_Sg) (w : Nat) (sb : Option Nat) (fr : Nat → Nat) (nr p : Nat) : Nat := if m_d2 σ w sb fr nr p then nr + 1 else nr
theorem m_t0_o (σ : r_Sg) (p mt : Nat) {q : Nat} (h1 : q ≠ 19) (h2 : q ≠ 29) : m_t0 σ p mt q = σ q := by unfold m_t0; split <;> simp [r_up, h1, h2]
theorem m_t0_19 (σ : r_Sg) (p mt : Nat) {i : Nat} (h : i ≠ 12) : m_t0 σ p mt 19 i = σ 19 i := by unfold m_t0; split <;> simp [r_up, upd, h]
theorem m_trMH {σ : r_Sg} {w : Nat} {sb : Option Nat} {fr : Nat → Nat} {nr : Nat} (h : r_MH σ w sb fr nr) (p mt : Nat) : r_MH (m_tr σ p mt) w sb fr nr := by
  have e : ∀ q, q ≠ 28 → m_tr σ p mt q = m_t0 σ p mt q := fun q hq => by simp [m_tr, r_up, hq]
  refine h.to ?_ ?_ ?_ ?_ ?_ ?_
  · rw [e 19 (by decide), m_t0_19 σ p mt (by decide)]
  · rw [e 19 (by decide), m_t0_19 σ p mt (by decide)]
  · rw [e 19 (by decide), m_t0_19 σ p mt (by decide)]
  · rw [e 19 (by decide), m_t0_19 σ p mt (by decide)]
  · rw [e 25 (by decide), m_t0_o σ p mt (by decide) (by decide)]
  · rw [e 26 (by decide), m_t0_o σ p mt (by decide) (by decide)]
theorem m_mkMH {σ : r_Sg} {w : Nat} {sb : Option Nat} {fr : Nat → Nat} {nr : Nat} (h : r_MH σ w sb fr nr) (p v b : Nat) : r_MH (m_mk σ w sb fr p v b) w sb fr nr := h.to rfl rfl rfl rfl rfl rfl
theorem m_s1MH {σ : r_Sg} {w : Nat} {sb : Option Nat} {fr : Nat → Nat} {nr b : Nat} (h : r_MH σ w sb fr nr) (hb : b < w) : r_MH (m_s1 σ w sb b) w (m_sb σ sb b) fr nr := by
  unfold m_s1 m_sb
  by_cases hd : m_d1 σ sb b = true
  · have hsb : sb = none := (of_decide_eq_true hd).1
    subst hsb
    obtain ⟨h1, h2, h3, h4, h5, h6, h7, h8⟩ := h
    have e : ∀ q, q ≠ 22 → q ≠ 23 → q ≠ 24 → m_cp σ b w 24 q = σ q := fun q a b c => m_cp_o σ _ _ a b c 24
    simp only [hd, if_true]
    refine ⟨?_, h2, ?_, ?_, ?_, ?_, h7, ?_⟩
    · simpa [r_up, upd, m_sw, e 19] using h1
    · intro x hx
      by_cases hxb : x = b
      · subst hxb; simp [r_up, upd, m_sw, r_pl]
      · have h9 := h3 x hx
        have h10 : ¬ b = x := fun z => hxb z.symm
        simp [r_up, upd, m_sw, hxb, e 26, r_pl, h10]
        simpa [r_pl] using h9
    · intro x hx; cases hx; exact hb
    · intro x hx; simpa [r_up, m_sw, e 25] using h5 x hx
    · simpa [r_up, upd, m_sw, e 19] using h6
    · simp [r_up, upd, m_sw, bI]
  · simp only [hd, if_false]
    exact h
theorem m_r1MH {σ : r_Sg} {w : Nat} {sb : Option Nat} {fr : Nat → Nat} {nr p : Nat} (h : r_MH σ w sb fr nr) (hp : p < 4) : r_MH (m_r1 σ w sb fr nr p) w sb (m_fr σ w sb fr nr p) (m_nr σ w sb fr nr p) := by
  unfold m_r1 m_fr m_nr
  by_cases hd : m_d2 σ w sb fr nr p = true
  · obtain ⟨h1, h2, h3, h4, h5, h6, h7, h8⟩ := h
    have hd2 : ¬ nr = 2 := (of_decide_eq_true hd).1
    have e : ∀ q, q ≠ 22 → q ≠ 23 → q ≠ 24 → m_rfo σ (fr p) (4 + nr) 4 q = σ q := fun q a b c => m_rfo_o σ _ _ a b c 4
    simp only [hd, if_true]
    refine ⟨?_, h2, ?_, h4, ?_, ?_, by omega, ?_⟩
    · simpa [r_up, upd, m_rt, e 19] using h1
    · intro x hx; simpa [r_up, m_rt, e 26] using h3 x hx
    · intro x hx
      by_cases hxp : x = p
      · subst hxp
        simp [r_up, upd, m_rt]
        omega
      · simpa [r_up, upd, m_rt, e 25, hxp] using h5 x hx
    · simp [r_up, upd, m_rt, nI_1]
    · simpa [r_up, upd, m_rt, e 19] using h8
  · simp only [hd, if_false]
    exact h
def m_mb (σ : r_Sg) (w : Nat) (sb : Option Nat) (fr : Nat → Nat) (nr p v b mt : Nat) : r_Sg :=
  m_r1 (m_s1 (m_tr (m_mk σ w sb fr p v b) p mt) w sb b) w (m_sb (m_tr (m_mk σ w sb fr p v b) p mt) sb b) fr nr p
def m_lkb (σ : r_Sg) (w : Nat) (sb : Option Nat) (fr : Nat → Nat) (p v b mt : Nat) : Option Nat := m_sb (m_tr (m_mk σ w sb fr p v b) p mt) sb b
def m_lkf (σ : r_Sg) (w : Nat) (sb : Option Nat) (fr : Nat → Nat) (nr p v b mt : Nat) : Nat → Nat := m_fr (m_s1 (m_tr (m_mk σ w sb fr p v b) p mt) w sb b) w (m_lkb σ w sb fr p v b mt) fr nr p
def m_lkn (σ : r_Sg) (w : Nat) (sb : Option Nat) (fr : Nat → Nat) (nr p v b mt : Nat) : Nat := m_nr (m_s1 (m_tr (m_mk σ w sb fr p v b) p mt) w sb b) w (m_lkb σ w sb fr p v b mt) fr nr p
theorem m_mbMH {σ : r_Sg} {w : Nat} {sb : Option Nat} {fr : Nat → Nat} {nr p v b : Nat} (mt : Nat) (h : r_MH σ w sb fr nr) (hp : p < 4) (hb : b < w) : r_MH (m_mb σ w sb fr nr p v b mt) w (m_lkb σ w sb fr p v b mt) (m_lkf σ w sb fr nr p v b mt) (m_lkn σ w sb fr nr p v b mt) :=
  m_r1MH (m_s1MH (m_trMH (m_mkMH h p v b) p mt) hb) hp

set_option maxRecDepth 4000 in
theorem ev_X6_marksBit {σ : r_Sg} {w : Nat} {sb : Option Nat} {fr : Nat → Nat} {nr : Nat} {p v b mt : Nat} (h : r_MH σ w sb fr nr) (hp : p < 4) (hv : v < 4) (hb : b < w) (hmt : σ 19 12 = nI mt) (hmt4 : σ 28 p = 0 → mt < 4) : Ev 3 MX6_marksBit [.ref 19, .int (nI p), .int (nI v), .int (nI b)] σ none (m_mb σ w sb fr nr p v b mt) := by
  have hw20 := h.2.1
  have hfr := (h.2.2.2.2.1 p hp).2
  have hnr := h.2.2.2.2.2.2.1
  have hbp := r_pl_lt sb hb hw20
  refine Ev_w [.ref 19, .int (nI p), .int (nI v), .int (nI b)] ?_ (by decide) rfl (Nat.le_of_ble_eq_true rfl) rfl
  refine g_aload_n dX6_marksBit_0 rfl ?_
  refine g_getR dX6_marksBit_1 fX6_23 rfl rfl ?_
  refine g_aload_n dX6_marksBit_4 rfl ?_
  refine g_iload_n dX6_marksBit_5 rfl ?_
  refine g_iload_n dX6_marksBit_6 rfl ?_
  refine g_iload_n dX6_marksBit_7 rfl ?_
  refine g_V3 dX6_marksBit_8 vX6_128 rfl (Nat.le_of_ble_eq_true rfl) (by decide) (ev_X6_cellOf h hp hb) ?_
  refine g_dup2 dX6_marksBit_11 rfl rfl ?_
  refine g_ial _ dX6_marksBit_12 rfl rfl (by omega) ?_
  refine g_iconst (v := 1) dX6_marksBit_13 (by decide) ?_
  refine g_iadd dX6_marksBit_14 ?_
  refine g_ias _ dX6_marksBit_15 rfl rfl (by omega) ?_
  refine g_g (show _ = (m_mk σ w sb fr p v b) from rfl) ?_
  refine g_aload_n dX6_marksBit_16 rfl ?_
  refine g_getR dX6_marksBit_17 fX6_35 rfl rfl ?_
  refine g_iload_n dX6_marksBit_20 rfl ?_
  refine g_ial _ dX6_marksBit_21 rfl rfl (by omega) ?_
  refine g_ifne (tgt := 45) dX6_marksBit_22 (by decide) (fun c22 => ?_) (fun c22 => ?_)
  · have e : ¬ (m_mk σ w sb fr p v b) 28 p = 0 := c22
    have et : m_t0 (m_mk σ w sb fr p v b) p mt = (m_mk σ w sb fr p v b) := by unfold m_t0; rw [if_neg e]
    rw [← et]
    refine g_aload_n dX6_marksBit_45 rfl ?_
    refine g_getR dX6_marksBit_46 fX6_35 rfl rfl ?_
    refine g_iload_n dX6_marksBit_49 rfl ?_
    refine g_dup2 dX6_marksBit_50 rfl rfl ?_
    refine g_ial _ dX6_marksBit_51 rfl rfl (by omega) ?_
    refine g_iconst (v := 1) dX6_marksBit_52 (by decide) ?_
    refine g_iadd dX6_marksBit_53 ?_
    refine g_ias _ dX6_marksBit_54 rfl rfl (by omega) ?_
    refine g_g (show _ = (m_tr (m_mk σ w sb fr p v b) p mt) from rfl) ?_
    have hT : r_MH (m_tr (m_mk σ w sb fr p v b) p mt) w sb fr nr := m_trMH (m_mkMH h p v b) p mt
    refine g_aload_n dX6_marksBit_55 rfl ?_
    refine g_getI dX6_marksBit_56 fX6_117 rfl rfl ?_
    refine g_t hT.2.2.2.2.2.2.2 ?_
    refine g_ifne (tgt := 88) dX6_marksBit_59 (by decide) (fun c59 => ?_) (fun c59 => ?_)
    · have e2 : ¬ m_d1 (m_tr (m_mk σ w sb fr p v b) p mt) sb b = true := fun z => (bI_1.mp c59) (of_decide_eq_true z).1
      have es : m_s1 (m_tr (m_mk σ w sb fr p v b) p mt) w sb b = (m_tr (m_mk σ w sb fr p v b) p mt) := by unfold m_s1; rw [if_neg e2]
      rw [← es]
      have hS : r_MH (m_s1 (m_tr (m_mk σ w sb fr p v b) p mt) w sb b) w (m_sb (m_tr (m_mk σ w sb fr p v b) p mt) sb b) fr nr := m_s1MH hT hb
      refine g_aload_n dX6_marksBit_88 rfl ?_
      refine g_getI dX6_marksBit_89 fX6_114 rfl rfl ?_
      refine g_t hS.2.2.2.2.2.1 ?_
      refine g_iconst (v := nI 2) dX6_marksBit_92 (by decide) ?_
      refine g_icge (tgt := 123) dX6_marksBit_93 (by decide) (fun c93 => ?_) (fun c93 => ?_)
      · have e3 : ¬ m_d2 (m_s1 (m_tr (m_mk σ w sb fr p v b) p mt) w sb b) w (m_sb (m_tr (m_mk σ w sb fr p v b) p mt) sb b) fr nr p = true := fun z => by have := (nI_leI (by omega) (by omega)).mp c93; have := (of_decide_eq_true z).1; omega
        exact g_ret dX6_marksBit_123 rfl ⟨rfl, by unfold m_mb m_r1; first | rw [if_pos e3] | rw [if_neg e3]⟩
      · have q93 : nr < 2 := by rcases Nat.lt_or_ge nr 2 with z | z; exact z; exact absurd (nI_le z (by omega)) c93
        refine g_aload_n dX6_marksBit_96 rfl ?_
        refine g_aload_n dX6_marksBit_97 rfl ?_
        refine g_getR dX6_marksBit_98 fX6_26 rfl rfl ?_
        refine g_iload_n dX6_marksBit_101 rfl ?_
        refine g_ial _ dX6_marksBit_102 rfl rfl (by omega) ?_
        refine g_t (hS.2.2.2.2.1 p hp).1 ?_
        refine g_iconst (v := 1) dX6_marksBit_103 (by decide) ?_
        refine g_V2 dX6_marksBit_104 vX6_152 rfl (Nat.le_of_ble_eq_true rfl) (by decide) (ev_X6_wrongIn_1 hS hfr) ?_
        refine g_iconst (v := 4) dX6_marksBit_107 (by decide) ?_
        refine g_iclt (tgt := 123) dX6_marksBit_108 (by decide) (fun c108 => ?_) (fun c108 => ?_)
        · have e3 : ¬ m_d2 (m_s1 (m_tr (m_mk σ w sb fr p v b) p mt) w sb b) w (m_sb (m_tr (m_mk σ w sb fr p v b) p mt) sb b) fr nr p = true := fun z => absurd c108 (Int32.not_lt.mpr (of_decide_eq_true z).2)
          exact g_ret dX6_marksBit_123 rfl ⟨rfl, by unfold m_mb m_r1; first | rw [if_pos e3] | rw [if_neg e3]⟩
        · have e3 : m_d2 (m_s1 (m_tr (m_mk σ w sb fr p v b) p mt) w sb b) w (m_sb (m_tr (m_mk σ w sb fr p v b) p mt) sb b) fr nr p = true := decide_eq_true ⟨by omega, Int32.not_lt.mp c108⟩
          refine g_aload_n dX6_marksBit_111 rfl ?_
          refine g_iload_n dX6_marksBit_112 rfl ?_
          refine g_V1v dX6_marksBit_113 vX6_156 rfl (Nat.le_of_ble_eq_true rfl) (by decide) (ev_X6_retires hS hp q93) ?_
          refine g_aload_n dX6_marksBit_116 rfl ?_
          refine g_getR dX6_marksBit_117 fX6_47 rfl rfl ?_
          refine g_iconst (v := nI 3) dX6_marksBit_120 (by decide) ?_
          refine g_iconst (v := 1) dX6_marksBit_121 (by decide) ?_
          refine g_ias _ dX6_marksBit_122 rfl rfl (by omega) ?_
          exact g_ret dX6_marksBit_123 rfl ⟨rfl, by unfold m_mb m_r1; first | rw [if_pos e3] | rw [if_neg e3]⟩
    · have hsb : sb = none := Decidable.of_not_not (bI_0.mp c59)
      have hN : r_MH (m_tr (m_mk σ w sb fr p v b) p mt) w none fr nr := by rw [← hsb]; exact hT
      refine g_aload_n dX6_marksBit_62 rfl ?_
      refine g_aload_n dX6_marksBit_63 rfl ?_
      refine g_getR dX6_marksBit_64 fX6_29 rfl rfl ?_
      refine g_iload_n dX6_marksBit_67 rfl ?_
      refine g_ial _ dX6_marksBit_68 rfl rfl (by omega) ?_
      refine g_t (hN.2.2.1 b hb) ?_
      refine g_t (show _ = nI b from rfl) ?_
      refine g_V1 dX6_marksBit_69 vX6_145 rfl (Nat.le_of_ble_eq_true rfl) (by decide) (ev_X6_badIn (by omega)) ?_
      refine g_iconst (v := 3) dX6_marksBit_72 (by decide) ?_
      refine g_iclt (tgt := 88) dX6_marksBit_73 (by decide) (fun c73 => ?_) (fun c73 => ?_)
      · have e2 : ¬ m_d1 (m_tr (m_mk σ w sb fr p v b) p mt) sb b = true := fun z => absurd c73 (Int32.not_lt.mpr (of_decide_eq_true z).2)
        have es : m_s1 (m_tr (m_mk σ w sb fr p v b) p mt) w sb b = (m_tr (m_mk σ w sb fr p v b) p mt) := by unfold m_s1; rw [if_neg e2]
        rw [← es]
        have hS : r_MH (m_s1 (m_tr (m_mk σ w sb fr p v b) p mt) w sb b) w (m_sb (m_tr (m_mk σ w sb fr p v b) p mt) sb b) fr nr := m_s1MH hT hb
        refine g_aload_n dX6_marksBit_88 rfl ?_
        refine g_getI dX6_marksBit_89 fX6_114 rfl rfl ?_
        refine g_t hS.2.2.2.2.2.1 ?_
        refine g_iconst (v := nI 2) dX6_marksBit_92 (by decide) ?_
        refine g_icge (tgt := 123) dX6_marksBit_93 (by decide) (fun c93 => ?_) (fun c93 => ?_)
        · have e3 : ¬ m_d2 (m_s1 (m_tr (m_mk σ w sb fr p v b) p mt) w sb b) w (m_sb (m_tr (m_mk σ w sb fr p v b) p mt) sb b) fr nr p = true := fun z => by have := (nI_leI (by omega) (by omega)).mp c93; have := (of_decide_eq_true z).1; omega
          exact g_ret dX6_marksBit_123 rfl ⟨rfl, by unfold m_mb m_r1; first | rw [if_pos e3] | rw [if_neg e3]⟩
        · have q93 : nr < 2 := by rcases Nat.lt_or_ge nr 2 with z | z; exact z; exact absurd (nI_le z (by omega)) c93
          refine g_aload_n dX6_marksBit_96 rfl ?_
          refine g_aload_n dX6_marksBit_97 rfl ?_
          refine g_getR dX6_marksBit_98 fX6_26 rfl rfl ?_
          refine g_iload_n dX6_marksBit_101 rfl ?_
          refine g_ial _ dX6_marksBit_102 rfl rfl (by omega) ?_
          refine g_t (hS.2.2.2.2.1 p hp).1 ?_
          refine g_iconst (v := 1) dX6_marksBit_103 (by decide) ?_
          refine g_V2 dX6_marksBit_104 vX6_152 rfl (Nat.le_of_ble_eq_true rfl) (by decide) (ev_X6_wrongIn_1 hS hfr) ?_
          refine g_iconst (v := 4) dX6_marksBit_107 (by decide) ?_
          refine g_iclt (tgt := 123) dX6_marksBit_108 (by decide) (fun c108 => ?_) (fun c108 => ?_)
          · have e3 : ¬ m_d2 (m_s1 (m_tr (m_mk σ w sb fr p v b) p mt) w sb b) w (m_sb (m_tr (m_mk σ w sb fr p v b) p mt) sb b) fr nr p = true := fun z => absurd c108 (Int32.not_lt.mpr (of_decide_eq_true z).2)
            exact g_ret dX6_marksBit_123 rfl ⟨rfl, by unfold m_mb m_r1; first | rw [if_pos e3] | rw [if_neg e3]⟩
          · have e3 : m_d2 (m_s1 (m_tr (m_mk σ w sb fr p v b) p mt) w sb b) w (m_sb (m_tr (m_mk σ w sb fr p v b) p mt) sb b) fr nr p = true := decide_eq_true ⟨by omega, Int32.not_lt.mp c108⟩
            refine g_aload_n dX6_marksBit_111 rfl ?_
            refine g_iload_n dX6_marksBit_112 rfl ?_
            refine g_V1v dX6_marksBit_113 vX6_156 rfl (Nat.le_of_ble_eq_true rfl) (by decide) (ev_X6_retires hS hp q93) ?_
            refine g_aload_n dX6_marksBit_116 rfl ?_
            refine g_getR dX6_marksBit_117 fX6_47 rfl rfl ?_
            refine g_iconst (v := nI 3) dX6_marksBit_120 (by decide) ?_
            refine g_iconst (v := 1) dX6_marksBit_121 (by decide) ?_
            refine g_ias _ dX6_marksBit_122 rfl rfl (by omega) ?_
            exact g_ret dX6_marksBit_123 rfl ⟨rfl, by unfold m_mb m_r1; first | rw [if_pos e3] | rw [if_neg e3]⟩
      · have e2 : m_d1 (m_tr (m_mk σ w sb fr p v b) p mt) sb b = true := decide_eq_true ⟨hsb, Int32.not_lt.mp c73⟩
        have es : m_s1 (m_tr (m_mk σ w sb fr p v b) p mt) w sb b = r_up (m_sw (m_tr (m_mk σ w sb fr p v b) p mt) w b) 32 2 1 := by unfold m_s1; rw [if_pos e2]
        refine g_aload_n dX6_marksBit_76 rfl ?_
        refine g_iload_n dX6_marksBit_77 rfl ?_
        refine g_V1v dX6_marksBit_78 vX6_148 rfl (Nat.le_of_ble_eq_true rfl) (by decide) (ev_X6_swaps hN hb) ?_
        refine g_aload_n dX6_marksBit_81 rfl ?_
        refine g_getR dX6_marksBit_82 fX6_47 rfl rfl ?_
        refine g_iconst (v := nI 2) dX6_marksBit_85 (by decide) ?_
        refine g_iconst (v := 1) dX6_marksBit_86 (by decide) ?_
        refine g_ias _ dX6_marksBit_87 rfl rfl (by omega) ?_
        rw [← es]
        have hS : r_MH (m_s1 (m_tr (m_mk σ w sb fr p v b) p mt) w sb b) w (m_sb (m_tr (m_mk σ w sb fr p v b) p mt) sb b) fr nr := m_s1MH hT hb
        refine g_aload_n dX6_marksBit_88 rfl ?_
        refine g_getI dX6_marksBit_89 fX6_114 rfl rfl ?_
        refine g_t hS.2.2.2.2.2.1 ?_
        refine g_iconst (v := nI 2) dX6_marksBit_92 (by decide) ?_
        refine g_icge (tgt := 123) dX6_marksBit_93 (by decide) (fun c93 => ?_) (fun c93 => ?_)
        · have e3 : ¬ m_d2 (m_s1 (m_tr (m_mk σ w sb fr p v b) p mt) w sb b) w (m_sb (m_tr (m_mk σ w sb fr p v b) p mt) sb b) fr nr p = true := fun z => by have := (nI_leI (by omega) (by omega)).mp c93; have := (of_decide_eq_true z).1; omega
          exact g_ret dX6_marksBit_123 rfl ⟨rfl, by unfold m_mb m_r1; first | rw [if_pos e3] | rw [if_neg e3]⟩
        · have q93 : nr < 2 := by rcases Nat.lt_or_ge nr 2 with z | z; exact z; exact absurd (nI_le z (by omega)) c93
          refine g_aload_n dX6_marksBit_96 rfl ?_
          refine g_aload_n dX6_marksBit_97 rfl ?_
          refine g_getR dX6_marksBit_98 fX6_26 rfl rfl ?_
          refine g_iload_n dX6_marksBit_101 rfl ?_
          refine g_ial _ dX6_marksBit_102 rfl rfl (by omega) ?_
          refine g_t (hS.2.2.2.2.1 p hp).1 ?_
          refine g_iconst (v := 1) dX6_marksBit_103 (by decide) ?_
          refine g_V2 dX6_marksBit_104 vX6_152 rfl (Nat.le_of_ble_eq_true rfl) (by decide) (ev_X6_wrongIn_1 hS hfr) ?_
          refine g_iconst (v := 4) dX6_marksBit_107 (by decide) ?_
          refine g_iclt (tgt := 123) dX6_marksBit_108 (by decide) (fun c108 => ?_) (fun c108 => ?_)
          · have e3 : ¬ m_d2 (m_s1 (m_tr (m_mk σ w sb fr p v b) p mt) w sb b) w (m_sb (m_tr (m_mk σ w sb fr p v b) p mt) sb b) fr nr p = true := fun z => absurd c108 (Int32.not_lt.mpr (of_decide_eq_true z).2)
            exact g_ret dX6_marksBit_123 rfl ⟨rfl, by unfold m_mb m_r1; first | rw [if_pos e3] | rw [if_neg e3]⟩
          · have e3 : m_d2 (m_s1 (m_tr (m_mk σ w sb fr p v b) p mt) w sb b) w (m_sb (m_tr (m_mk σ w sb fr p v b) p mt) sb b) fr nr p = true := decide_eq_true ⟨by omega, Int32.not_lt.mp c108⟩
            refine g_aload_n dX6_marksBit_111 rfl ?_
            refine g_iload_n dX6_marksBit_112 rfl ?_
            refine g_V1v dX6_marksBit_113 vX6_156 rfl (Nat.le_of_ble_eq_true rfl) (by decide) (ev_X6_retires hS hp q93) ?_
            refine g_aload_n dX6_marksBit_116 rfl ?_
            refine g_getR dX6_marksBit_117 fX6_47 rfl rfl ?_
            refine g_iconst (v := nI 3) dX6_marksBit_120 (by decide) ?_
            refine g_iconst (v := 1) dX6_marksBit_121 (by decide) ?_
            refine g_ias _ dX6_marksBit_122 rfl rfl (by omega) ?_
            exact g_ret dX6_marksBit_123 rfl ⟨rfl, by unfold m_mb m_r1; first | rw [if_pos e3] | rw [if_neg e3]⟩
  · have e : (m_mk σ w sb fr p v b) 28 p = 0 := c22
    have et : m_t0 (m_mk σ w sb fr p v b) p mt = r_up (r_up (m_mk σ w sb fr p v b) 29 mt (nI p)) 19 12 (nI mt + 1) := by unfold m_t0; rw [if_pos e]
    refine g_aload_n dX6_marksBit_25 rfl ?_
    refine g_getR dX6_marksBit_26 fX6_38 rfl rfl ?_
    refine g_aload_n dX6_marksBit_29 rfl ?_
    refine g_getI dX6_marksBit_30 fX6_111 rfl rfl ?_
    refine g_t (show _ = nI mt from hmt) ?_
    refine g_iload_n dX6_marksBit_33 rfl ?_
    refine g_ias _ dX6_marksBit_34 rfl rfl (hmt4 c22) ?_
    refine g_aload_n dX6_marksBit_35 rfl ?_
    refine g_dup dX6_marksBit_36 rfl ?_
    refine g_getI dX6_marksBit_37 fX6_111 rfl rfl ?_
    refine g_t (show _ = nI mt from hmt) ?_
    refine g_iconst (v := 1) dX6_marksBit_40 (by decide) ?_
    refine g_iadd dX6_marksBit_41 ?_
    refine g_putI dX6_marksBit_42 pX6_111 rfl rfl ?_
    rw [← et]
    refine g_aload_n dX6_marksBit_45 rfl ?_
    refine g_getR dX6_marksBit_46 fX6_35 rfl rfl ?_
    refine g_iload_n dX6_marksBit_49 rfl ?_
    refine g_dup2 dX6_marksBit_50 rfl rfl ?_
    refine g_ial _ dX6_marksBit_51 rfl rfl (by omega) ?_
    refine g_iconst (v := 1) dX6_marksBit_52 (by decide) ?_
    refine g_iadd dX6_marksBit_53 ?_
    refine g_ias _ dX6_marksBit_54 rfl rfl (by omega) ?_
    refine g_g (show _ = (m_tr (m_mk σ w sb fr p v b) p mt) from rfl) ?_
    have hT : r_MH (m_tr (m_mk σ w sb fr p v b) p mt) w sb fr nr := m_trMH (m_mkMH h p v b) p mt
    refine g_aload_n dX6_marksBit_55 rfl ?_
    refine g_getI dX6_marksBit_56 fX6_117 rfl rfl ?_
    refine g_t hT.2.2.2.2.2.2.2 ?_
    refine g_ifne (tgt := 88) dX6_marksBit_59 (by decide) (fun c59 => ?_) (fun c59 => ?_)
    · have e2 : ¬ m_d1 (m_tr (m_mk σ w sb fr p v b) p mt) sb b = true := fun z => (bI_1.mp c59) (of_decide_eq_true z).1
      have es : m_s1 (m_tr (m_mk σ w sb fr p v b) p mt) w sb b = (m_tr (m_mk σ w sb fr p v b) p mt) := by unfold m_s1; rw [if_neg e2]
      rw [← es]
      have hS : r_MH (m_s1 (m_tr (m_mk σ w sb fr p v b) p mt) w sb b) w (m_sb (m_tr (m_mk σ w sb fr p v b) p mt) sb b) fr nr := m_s1MH hT hb
      refine g_aload_n dX6_marksBit_88 rfl ?_
      refine g_getI dX6_marksBit_89 fX6_114 rfl rfl ?_
      refine g_t hS.2.2.2.2.2.1 ?_
      refine g_iconst (v := nI 2) dX6_marksBit_92 (by decide) ?_
      refine g_icge (tgt := 123) dX6_marksBit_93 (by decide) (fun c93 => ?_) (fun c93 => ?_)
      · have e3 : ¬ m_d2 (m_s1 (m_tr (m_mk σ w sb fr p v b) p mt) w sb b) w (m_sb (m_tr (m_mk σ w sb fr p v b) p mt) sb b) fr nr p = true := fun z => by have := (nI_leI (by omega) (by omega)).mp c93; have := (of_decide_eq_true z).1; omega
        exact g_ret dX6_marksBit_123 rfl ⟨rfl, by unfold m_mb m_r1; first | rw [if_pos e3] | rw [if_neg e3]⟩
      · have q93 : nr < 2 := by rcases Nat.lt_or_ge nr 2 with z | z; exact z; exact absurd (nI_le z (by omega)) c93
        refine g_aload_n dX6_marksBit_96 rfl ?_
        refine g_aload_n dX6_marksBit_97 rfl ?_
        refine g_getR dX6_marksBit_98 fX6_26 rfl rfl ?_
        refine g_iload_n dX6_marksBit_101 rfl ?_
        refine g_ial _ dX6_marksBit_102 rfl rfl (by omega) ?_
        refine g_t (hS.2.2.2.2.1 p hp).1 ?_
        refine g_iconst (v := 1) dX6_marksBit_103 (by decide) ?_
        refine g_V2 dX6_marksBit_104 vX6_152 rfl (Nat.le_of_ble_eq_true rfl) (by decide) (ev_X6_wrongIn_1 hS hfr) ?_
        refine g_iconst (v := 4) dX6_marksBit_107 (by decide) ?_
        refine g_iclt (tgt := 123) dX6_marksBit_108 (by decide) (fun c108 => ?_) (fun c108 => ?_)
        · have e3 : ¬ m_d2 (m_s1 (m_tr (m_mk σ w sb fr p v b) p mt) w sb b) w (m_sb (m_tr (m_mk σ w sb fr p v b) p mt) sb b) fr nr p = true := fun z => absurd c108 (Int32.not_lt.mpr (of_decide_eq_true z).2)
          exact g_ret dX6_marksBit_123 rfl ⟨rfl, by unfold m_mb m_r1; first | rw [if_pos e3] | rw [if_neg e3]⟩
        · have e3 : m_d2 (m_s1 (m_tr (m_mk σ w sb fr p v b) p mt) w sb b) w (m_sb (m_tr (m_mk σ w sb fr p v b) p mt) sb b) fr nr p = true := decide_eq_true ⟨by omega, Int32.not_lt.mp c108⟩
          refine g_aload_n dX6_marksBit_111 rfl ?_
          refine g_iload_n dX6_marksBit_112 rfl ?_
          refine g_V1v dX6_marksBit_113 vX6_156 rfl (Nat.le_of_ble_eq_true rfl) (by decide) (ev_X6_retires hS hp q93) ?_
          refine g_aload_n dX6_marksBit_116 rfl ?_
          refine g_getR dX6_marksBit_117 fX6_47 rfl rfl ?_
          refine g_iconst (v := nI 3) dX6_marksBit_120 (by decide) ?_
          refine g_iconst (v := 1) dX6_marksBit_121 (by decide) ?_
          refine g_ias _ dX6_marksBit_122 rfl rfl (by omega) ?_
          exact g_ret dX6_marksBit_123 rfl ⟨rfl, by unfold m_mb m_r1; first | rw [if_pos e3] | rw [if_neg e3]⟩
    · have hsb : sb = none := Decidable.of_not_not (bI_0.mp c59)
      have hN : r_MH (m_tr (m_mk σ w sb fr p v b) p mt) w none fr nr := by rw [← hsb]; exact hT
      refine g_aload_n dX6_marksBit_62 rfl ?_
      refine g_aload_n dX6_marksBit_63 rfl ?_
      refine g_getR dX6_marksBit_64 fX6_29 rfl rfl ?_
      refine g_iload_n dX6_marksBit_67 rfl ?_
      refine g_ial _ dX6_marksBit_68 rfl rfl (by omega) ?_
      refine g_t (hN.2.2.1 b hb) ?_
      refine g_t (show _ = nI b from rfl) ?_
      refine g_V1 dX6_marksBit_69 vX6_145 rfl (Nat.le_of_ble_eq_true rfl) (by decide) (ev_X6_badIn (by omega)) ?_
      refine g_iconst (v := 3) dX6_marksBit_72 (by decide) ?_
      refine g_iclt (tgt := 88) dX6_marksBit_73 (by decide) (fun c73 => ?_) (fun c73 => ?_)
      · have e2 : ¬ m_d1 (m_tr (m_mk σ w sb fr p v b) p mt) sb b = true := fun z => absurd c73 (Int32.not_lt.mpr (of_decide_eq_true z).2)
        have es : m_s1 (m_tr (m_mk σ w sb fr p v b) p mt) w sb b = (m_tr (m_mk σ w sb fr p v b) p mt) := by unfold m_s1; rw [if_neg e2]
        rw [← es]
        have hS : r_MH (m_s1 (m_tr (m_mk σ w sb fr p v b) p mt) w sb b) w (m_sb (m_tr (m_mk σ w sb fr p v b) p mt) sb b) fr nr := m_s1MH hT hb
        refine g_aload_n dX6_marksBit_88 rfl ?_
        refine g_getI dX6_marksBit_89 fX6_114 rfl rfl ?_
        refine g_t hS.2.2.2.2.2.1 ?_
        refine g_iconst (v := nI 2) dX6_marksBit_92 (by decide) ?_
        refine g_icge (tgt := 123) dX6_marksBit_93 (by decide) (fun c93 => ?_) (fun c93 => ?_)
        · have e3 : ¬ m_d2 (m_s1 (m_tr (m_mk σ w sb fr p v b) p mt) w sb b) w (m_sb (m_tr (m_mk σ w sb fr p v b) p mt) sb b) fr nr p = true := fun z => by have := (nI_leI (by omega) (by omega)).mp c93; have := (of_decide_eq_true z).1; omega
          exact g_ret dX6_marksBit_123 rfl ⟨rfl, by unfold m_mb m_r1; first | rw [if_pos e3] | rw [if_neg e3]⟩
        · have q93 : nr < 2 := by rcases Nat.lt_or_ge nr 2 with z | z; exact z; exact absurd (nI_le z (by omega)) c93
          refine g_aload_n dX6_marksBit_96 rfl ?_
          refine g_aload_n dX6_marksBit_97 rfl ?_
          refine g_getR dX6_marksBit_98 fX6_26 rfl rfl ?_
          refine g_iload_n dX6_marksBit_101 rfl ?_
          refine g_ial _ dX6_marksBit_102 rfl rfl (by omega) ?_
          refine g_t (hS.2.2.2.2.1 p hp).1 ?_
          refine g_iconst (v := 1) dX6_marksBit_103 (by decide) ?_
          refine g_V2 dX6_marksBit_104 vX6_152 rfl (Nat.le_of_ble_eq_true rfl) (by decide) (ev_X6_wrongIn_1 hS hfr) ?_
          refine g_iconst (v := 4) dX6_marksBit_107 (by decide) ?_
          refine g_iclt (tgt := 123) dX6_marksBit_108 (by decide) (fun c108 => ?_) (fun c108 => ?_)
          · have e3 : ¬ m_d2 (m_s1 (m_tr (m_mk σ w sb fr p v b) p mt) w sb b) w (m_sb (m_tr (m_mk σ w sb fr p v b) p mt) sb b) fr nr p = true := fun z => absurd c108 (Int32.not_lt.mpr (of_decide_eq_true z).2)
            exact g_ret dX6_marksBit_123 rfl ⟨rfl, by unfold m_mb m_r1; first | rw [if_pos e3] | rw [if_neg e3]⟩
          · have e3 : m_d2 (m_s1 (m_tr (m_mk σ w sb fr p v b) p mt) w sb b) w (m_sb (m_tr (m_mk σ w sb fr p v b) p mt) sb b) fr nr p = true := decide_eq_true ⟨by omega, Int32.not_lt.mp c108⟩
            refine g_aload_n dX6_marksBit_111 rfl ?_
            refine g_iload_n dX6_marksBit_112 rfl ?_
            refine g_V1v dX6_marksBit_113 vX6_156 rfl (Nat.le_of_ble_eq_true rfl) (by decide) (ev_X6_retires hS hp q93) ?_
            refine g_aload_n dX6_marksBit_116 rfl ?_
            refine g_getR dX6_marksBit_117 fX6_47 rfl rfl ?_
            refine g_iconst (v := nI 3) dX6_marksBit_120 (by decide) ?_
            refine g_iconst (v := 1) dX6_marksBit_121 (by decide) ?_
            refine g_ias _ dX6_marksBit_122 rfl rfl (by omega) ?_
            exact g_ret dX6_marksBit_123 rfl ⟨rfl, by unfold m_mb m_r1; first | rw [if_pos e3] | rw [if_neg e3]⟩
      · have e2 : m_d1 (m_tr (m_mk σ w sb fr p v b) p mt) sb b = true := decide_eq_true ⟨hsb, Int32.not_lt.mp c73⟩
        have es : m_s1 (m_tr (m_mk σ w sb fr p v b) p mt) w sb b = r_up (m_sw (m_tr (m_mk σ w sb fr p v b) p mt) w b) 32 2 1 := by unfold m_s1; rw [if_pos e2]
        refine g_aload_n dX6_marksBit_76 rfl ?_
        refine g_iload_n dX6_marksBit_77 rfl ?_
        refine g_V1v dX6_marksBit_78 vX6_148 rfl (Nat.le_of_ble_eq_true rfl) (by decide) (ev_X6_swaps hN hb) ?_
        refine g_aload_n dX6_marksBit_81 rfl ?_
        refine g_getR dX6_marksBit_82 fX6_47 rfl rfl ?_
        refine g_iconst (v := nI 2) dX6_marksBit_85 (by decide) ?_
        refine g_iconst (v := 1) dX6_marksBit_86 (by decide) ?_
        refine g_ias _ dX6_marksBit_87 rfl rfl (by omega) ?_
        rw [← es]
        have hS : r_MH (m_s1 (m_tr (m_mk σ w sb fr p v b) p mt) w sb b) w (m_sb (m_tr (m_mk σ w sb fr p v b) p mt) sb b) fr nr := m_s1MH hT hb
        refine g_aload_n dX6_marksBit_88 rfl ?_
        refine g_getI dX6_marksBit_89 fX6_114 rfl rfl ?_
        refine g_t hS.2.2.2.2.2.1 ?_
        refine g_iconst (v := nI 2) dX6_marksBit_92 (by decide) ?_
        refine g_icge (tgt := 123) dX6_marksBit_93 (by decide) (fun c93 => ?_) (fun c93 => ?_)
        · have e3 : ¬ m_d2 (m_s1 (m_tr (m_mk σ w sb fr p v b) p mt) w sb b) w (m_sb (m_tr (m_mk σ w sb fr p v b) p mt) sb b) fr nr p = true := fun z => by have := (nI_leI (by omega) (by omega)).mp c93; have := (of_decide_eq_true z).1; omega
          exact g_ret dX6_marksBit_123 rfl ⟨rfl, by unfold m_mb m_r1; first | rw [if_pos e3] | rw [if_neg e3]⟩
        · have q93 : nr < 2 := by rcases Nat.lt_or_ge nr 2 with z | z; exact z; exact absurd (nI_le z (by omega)) c93
          refine g_aload_n dX6_marksBit_96 rfl ?_
          refine g_aload_n dX6_marksBit_97 rfl ?_
          refine g_getR dX6_marksBit_98 fX6_26 rfl rfl ?_
          refine g_iload_n dX6_marksBit_101 rfl ?_
          refine g_ial _ dX6_marksBit_102 rfl rfl (by omega) ?_
          refine g_t (hS.2.2.2.2.1 p hp).1 ?_
          refine g_iconst (v := 1) dX6_marksBit_103 (by decide) ?_
          refine g_V2 dX6_marksBit_104 vX6_152 rfl (Nat.le_of_ble_eq_true rfl) (by decide) (ev_X6_wrongIn_1 hS hfr) ?_
          refine g_iconst (v := 4) dX6_marksBit_107 (by decide) ?_
          refine g_iclt (tgt := 123) dX6_marksBit_108 (by decide) (fun c108 => ?_) (fun c108 => ?_)
          · have e3 : ¬ m_d2 (m_s1 (m_tr (m_mk σ w sb fr p v b) p mt) w sb b) w (m_sb (m_tr (m_mk σ w sb fr p v b) p mt) sb b) fr nr p = true := fun z => absurd c108 (Int32.not_lt.mpr (of_decide_eq_true z).2)
            exact g_ret dX6_marksBit_123 rfl ⟨rfl, by unfold m_mb m_r1; first | rw [if_pos e3] | rw [if_neg e3]⟩
          · have e3 : m_d2 (m_s1 (m_tr (m_mk σ w sb fr p v b) p mt) w sb b) w (m_sb (m_tr (m_mk σ w sb fr p v b) p mt) sb b) fr nr p = true := decide_eq_true ⟨by omega, Int32.not_lt.mp c108⟩
            refine g_aload_n dX6_marksBit_111 rfl ?_
            refine g_iload_n dX6_marksBit_112 rfl ?_
            refine g_V1v dX6_marksBit_113 vX6_156 rfl (Nat.le_of_ble_eq_true rfl) (by decide) (ev_X6_retires hS hp q93) ?_
            refine g_aload_n dX6_marksBit_116 rfl ?_
            refine g_getR dX6_marksBit_117 fX6_47 rfl rfl ?_
            refine g_iconst (v := nI 3) dX6_marksBit_120 (by decide) ?_
            refine g_iconst (v := 1) dX6_marksBit_121 (by decide) ?_
            refine g_ias _ dX6_marksBit_122 rfl rfl (by omega) ?_
            exact g_ret dX6_marksBit_123 rfl ⟨rfl, by unfold m_mb m_r1; first | rw [if_pos e3] | rw [if_neg e3]⟩

set_option maxRecDepth 4000 in
theorem ev_X6_looksAt_c {σ : r_Sg} {w : Nat} {sb : Option Nat} {fr : Nat → Nat} {nr : Nat} {p v : Nat} (h : r_MH σ w sb fr nr) (hp : p < 4) (hv : v < 4) (hm : r_men (r_bit (σ 20) w) (r_rawF (fun b => σ 22 (21 * (4 * fr p + v) + r_pl w sb b)) w) (r_syn (σ 20) (r_rawF (fun b => σ 22 (21 * (4 * fr p + v) + r_pl w sb b)) w) w) = (r_rawF (fun b => σ 22 (21 * (4 * fr p + v) + r_pl w sb b)) w)) (hs : ¬ (r_rawF (fun b => σ 22 (21 * (4 * fr p + v) + r_pl w sb b)) w) = -5) : Ev 3 MX6_looksAt [.ref 19, .int (nI p), .int (nI v)] σ (some (.int (r_rawF (fun b => σ 22 (21 * (4 * fr p + v) + r_pl w sb b)) w))) (m_nl σ 0 (-9) (nI p) (nI v)) := by
  refine Ev_w [.ref 19, .int (nI p), .int (nI v), .null, .null, .null, .null] ?_ (by decide) rfl (Nat.le_of_ble_eq_true rfl) rfl
  refine g_aload_n dX6_looksAt_0 rfl ?_
  refine g_iload_n dX6_looksAt_1 rfl ?_
  refine g_iload_n dX6_looksAt_2 rfl ?_
  refine g_V2 dX6_looksAt_3 vX6_159 rfl (Nat.le_of_ble_eq_true rfl) (by decide) (ev_X6_rawOf h hp hv) ?_
  refine g_istore_n dX6_looksAt_6 (by decide) rfl ?_
  refine g_aload_n dX6_looksAt_7 rfl ?_
  refine g_iload_n dX6_looksAt_8 rfl ?_
  refine g_V1 dX6_looksAt_9 vX6_108 rfl (Nat.le_of_ble_eq_true rfl) (by decide) (Ev_r (r' := some (.int (r_rawF (fun b => σ 22 (21 * (4 * fr p + v) + r_pl w sb b)) w))) (ev_X6_mendedOf h.1 h.2.1) (by rw [hm])) ?_
  refine g_istore dX6_looksAt_12 (by decide) rfl ?_
  refine g_iload dX6_looksAt_14 rfl ?_
  refine g_bipush (v := (-5)) dX6_looksAt_16 (by decide) ?_
  refine g_icne (tgt := 25) dX6_looksAt_18 (by decide) (fun c18 => ?_) (fun c18 => absurd c18 hs)
  refine g_iload dX6_looksAt_25 rfl ?_
  refine g_iload_n dX6_looksAt_27 rfl ?_
  refine g_icne (tgt := 35) dX6_looksAt_28 (by decide) (fun c28 => absurd rfl c28) (fun c28 => ?_)
  refine g_iconst (v := nI 0) dX6_looksAt_31 (by decide) ?_
  refine g_goto (tgt := 36) dX6_looksAt_32 (by decide) ?_
  refine g_istore dX6_looksAt_36 (by decide) rfl ?_
  refine g_iload dX6_looksAt_38 rfl ?_
  refine g_iconst (v := 1) dX6_looksAt_40 (by decide) ?_
  refine g_icne (tgt := 56) dX6_looksAt_41 (by decide) (fun c41 => ?_) (fun c41 => absurd c41 (by decide))
  refine g_bipush (v := (-9)) dX6_looksAt_56 (by decide) ?_
  refine g_istore dX6_looksAt_58 (by decide) rfl ?_
  refine g_aload_n dX6_looksAt_60 rfl ?_
  refine g_getR dX6_looksAt_61 fX6_44 rfl rfl ?_
  refine g_iload dX6_looksAt_64 rfl ?_
  refine g_dup2 dX6_looksAt_66 rfl rfl ?_
  refine g_ial _ dX6_looksAt_67 rfl rfl (by omega) ?_
  refine g_iconst (v := 1) dX6_looksAt_68 (by decide) ?_
  refine g_iadd dX6_looksAt_69 ?_
  refine g_ias _ dX6_looksAt_70 rfl rfl (by omega) ?_
  refine g_aload_n dX6_looksAt_71 rfl ?_
  refine g_getR dX6_looksAt_72 fX6_47 rfl rfl ?_
  refine g_iconst (v := nI 0) dX6_looksAt_75 (by decide) ?_
  refine g_iload dX6_looksAt_76 rfl ?_
  refine g_ias _ dX6_looksAt_78 rfl rfl (by omega) ?_
  refine g_aload_n dX6_looksAt_79 rfl ?_
  refine g_getR dX6_looksAt_80 fX6_47 rfl rfl ?_
  refine g_iconst (v := nI 1) dX6_looksAt_83 (by decide) ?_
  refine g_iload dX6_looksAt_84 rfl ?_
  refine g_ias _ dX6_looksAt_86 rfl rfl (by omega) ?_
  refine g_aload_n dX6_looksAt_87 rfl ?_
  refine g_getR dX6_looksAt_88 fX6_47 rfl rfl ?_
  refine g_iconst (v := nI 2) dX6_looksAt_91 (by decide) ?_
  refine g_iconst (v := 0) dX6_looksAt_92 (by decide) ?_
  refine g_ias _ dX6_looksAt_93 rfl rfl (by omega) ?_
  refine g_aload_n dX6_looksAt_94 rfl ?_
  refine g_getR dX6_looksAt_95 fX6_47 rfl rfl ?_
  refine g_iconst (v := nI 3) dX6_looksAt_98 (by decide) ?_
  refine g_iconst (v := 0) dX6_looksAt_99 (by decide) ?_
  refine g_ias _ dX6_looksAt_100 rfl rfl (by omega) ?_
  refine g_aload_n dX6_looksAt_101 rfl ?_
  refine g_getR dX6_looksAt_102 fX6_47 rfl rfl ?_
  refine g_iconst (v := nI 4) dX6_looksAt_105 (by decide) ?_
  refine g_iload_n dX6_looksAt_106 rfl ?_
  refine g_ias _ dX6_looksAt_107 rfl rfl (by omega) ?_
  refine g_aload_n dX6_looksAt_108 rfl ?_
  refine g_getR dX6_looksAt_109 fX6_47 rfl rfl ?_
  refine g_iconst (v := nI 5) dX6_looksAt_112 (by decide) ?_
  refine g_iload_n dX6_looksAt_113 rfl ?_
  refine g_ias _ dX6_looksAt_114 rfl rfl (by omega) ?_
  refine g_iload dX6_looksAt_115 rfl ?_
  refine g_iconst (v := 1) dX6_looksAt_117 (by decide) ?_
  refine g_icne (tgt := 129) dX6_looksAt_118 (by decide) (fun c118 => ?_) (fun c118 => absurd c118 (by decide))
  refine g_iload dX6_looksAt_129 rfl ?_
  exact g_iret dX6_looksAt_131 rfl ⟨rfl, rfl⟩

set_option maxRecDepth 4000 in
theorem ev_X6_looksAt_f {σ : r_Sg} {w : Nat} {sb : Option Nat} {fr : Nat → Nat} {nr : Nat} {p v : Nat} (h : r_MH σ w sb fr nr) (hp : p < 4) (hv : v < 4) (hm : r_men (r_bit (σ 20) w) (r_rawF (fun b => σ 22 (21 * (4 * fr p + v) + r_pl w sb b)) w) (r_syn (σ 20) (r_rawF (fun b => σ 22 (21 * (4 * fr p + v) + r_pl w sb b)) w) w) = -5) : Ev 3 MX6_looksAt [.ref 19, .int (nI p), .int (nI v)] σ (some (.int (-5))) (m_nl σ 2 (-9) (nI p) (nI v)) := by
  refine Ev_w [.ref 19, .int (nI p), .int (nI v), .null, .null, .null, .null] ?_ (by decide) rfl (Nat.le_of_ble_eq_true rfl) rfl
  refine g_aload_n dX6_looksAt_0 rfl ?_
  refine g_iload_n dX6_looksAt_1 rfl ?_
  refine g_iload_n dX6_looksAt_2 rfl ?_
  refine g_V2 dX6_looksAt_3 vX6_159 rfl (Nat.le_of_ble_eq_true rfl) (by decide) (ev_X6_rawOf h hp hv) ?_
  refine g_istore_n dX6_looksAt_6 (by decide) rfl ?_
  refine g_aload_n dX6_looksAt_7 rfl ?_
  refine g_iload_n dX6_looksAt_8 rfl ?_
  refine g_V1 dX6_looksAt_9 vX6_108 rfl (Nat.le_of_ble_eq_true rfl) (by decide) (Ev_r (r' := some (.int (-5))) (ev_X6_mendedOf h.1 h.2.1) (by rw [hm])) ?_
  refine g_istore dX6_looksAt_12 (by decide) rfl ?_
  refine g_iload dX6_looksAt_14 rfl ?_
  refine g_bipush (v := (-5)) dX6_looksAt_16 (by decide) ?_
  refine g_icne (tgt := 25) dX6_looksAt_18 (by decide) (fun c18 => absurd rfl c18) (fun c18 => ?_)
  refine g_iconst (v := nI 2) dX6_looksAt_21 (by decide) ?_
  refine g_goto (tgt := 36) dX6_looksAt_22 (by decide) ?_
  refine g_istore dX6_looksAt_36 (by decide) rfl ?_
  refine g_iload dX6_looksAt_38 rfl ?_
  refine g_iconst (v := 1) dX6_looksAt_40 (by decide) ?_
  refine g_icne (tgt := 56) dX6_looksAt_41 (by decide) (fun c41 => ?_) (fun c41 => absurd c41 (by decide))
  refine g_bipush (v := (-9)) dX6_looksAt_56 (by decide) ?_
  refine g_istore dX6_looksAt_58 (by decide) rfl ?_
  refine g_aload_n dX6_looksAt_60 rfl ?_
  refine g_getR dX6_looksAt_61 fX6_44 rfl rfl ?_
  refine g_iload dX6_looksAt_64 rfl ?_
  refine g_dup2 dX6_looksAt_66 rfl rfl ?_
  refine g_ial _ dX6_looksAt_67 rfl rfl (by omega) ?_
  refine g_iconst (v := 1) dX6_looksAt_68 (by decide) ?_
  refine g_iadd dX6_looksAt_69 ?_
  refine g_ias _ dX6_looksAt_70 rfl rfl (by omega) ?_
  refine g_aload_n dX6_looksAt_71 rfl ?_
  refine g_getR dX6_looksAt_72 fX6_47 rfl rfl ?_
  refine g_iconst (v := nI 0) dX6_looksAt_75 (by decide) ?_
  refine g_iload dX6_looksAt_76 rfl ?_
  refine g_ias _ dX6_looksAt_78 rfl rfl (by omega) ?_
  refine g_aload_n dX6_looksAt_79 rfl ?_
  refine g_getR dX6_looksAt_80 fX6_47 rfl rfl ?_
  refine g_iconst (v := nI 1) dX6_looksAt_83 (by decide) ?_
  refine g_iload dX6_looksAt_84 rfl ?_
  refine g_ias _ dX6_looksAt_86 rfl rfl (by omega) ?_
  refine g_aload_n dX6_looksAt_87 rfl ?_
  refine g_getR dX6_looksAt_88 fX6_47 rfl rfl ?_
  refine g_iconst (v := nI 2) dX6_looksAt_91 (by decide) ?_
  refine g_iconst (v := 0) dX6_looksAt_92 (by decide) ?_
  refine g_ias _ dX6_looksAt_93 rfl rfl (by omega) ?_
  refine g_aload_n dX6_looksAt_94 rfl ?_
  refine g_getR dX6_looksAt_95 fX6_47 rfl rfl ?_
  refine g_iconst (v := nI 3) dX6_looksAt_98 (by decide) ?_
  refine g_iconst (v := 0) dX6_looksAt_99 (by decide) ?_
  refine g_ias _ dX6_looksAt_100 rfl rfl (by omega) ?_
  refine g_aload_n dX6_looksAt_101 rfl ?_
  refine g_getR dX6_looksAt_102 fX6_47 rfl rfl ?_
  refine g_iconst (v := nI 4) dX6_looksAt_105 (by decide) ?_
  refine g_iload_n dX6_looksAt_106 rfl ?_
  refine g_ias _ dX6_looksAt_107 rfl rfl (by omega) ?_
  refine g_aload_n dX6_looksAt_108 rfl ?_
  refine g_getR dX6_looksAt_109 fX6_47 rfl rfl ?_
  refine g_iconst (v := nI 5) dX6_looksAt_112 (by decide) ?_
  refine g_iload_n dX6_looksAt_113 rfl ?_
  refine g_ias _ dX6_looksAt_114 rfl rfl (by omega) ?_
  refine g_iload dX6_looksAt_115 rfl ?_
  refine g_iconst (v := 1) dX6_looksAt_117 (by decide) ?_
  refine g_icne (tgt := 129) dX6_looksAt_118 (by decide) (fun c118 => ?_) (fun c118 => absurd c118 (by decide))
  refine g_iload dX6_looksAt_129 rfl ?_
  exact g_iret dX6_looksAt_131 rfl ⟨rfl, rfl⟩

set_option maxRecDepth 4000 in
theorem ev_X6_looksAt_m {σ : r_Sg} {w : Nat} {sb : Option Nat} {fr : Nat → Nat} {nr : Nat} {p v b mt : Nat} (h : r_MH σ w sb fr nr) (hp : p < 4) (hv : v < 4) (hm : r_men (r_bit (σ 20) w) (r_rawF (fun b => σ 22 (21 * (4 * fr p + v) + r_pl w sb b)) w) (r_syn (σ 20) (r_rawF (fun b => σ 22 (21 * (4 * fr p + v) + r_pl w sb b)) w) w) = (r_rawF (fun b => σ 22 (21 * (4 * fr p + v) + r_pl w sb b)) w) ^^^ r_bm b) (hs : ¬ (r_rawF (fun b => σ 22 (21 * (4 * fr p + v) + r_pl w sb b)) w) ^^^ r_bm b = -5) (hs2 : ¬ (r_rawF (fun b => σ 22 (21 * (4 * fr p + v) + r_pl w sb b)) w) ^^^ r_bm b = (r_rawF (fun b => σ 22 (21 * (4 * fr p + v) + r_pl w sb b)) w)) (hbit : r_bit (σ 20) w (r_syn (σ 20) (r_rawF (fun b => σ 22 (21 * (4 * fr p + v) + r_pl w sb b)) w) w) = nI b) (hb : b < w) (hmt : σ 19 12 = nI mt) (hmt4 : σ 28 p = 0 → mt < 4) : Ev 4 MX6_looksAt [.ref 19, .int (nI p), .int (nI v)] σ (some (.int ((r_rawF (fun b => σ 22 (21 * (4 * fr p + v) + r_pl w sb b)) w) ^^^ r_bm b))) (m_mb (m_nl σ 1 (nI b) (nI p) (nI v)) w sb fr nr p v b mt) := by
  refine Ev_w [.ref 19, .int (nI p), .int (nI v), .null, .null, .null, .null] ?_ (by decide) rfl (Nat.le_of_ble_eq_true rfl) rfl
  refine g_aload_n dX6_looksAt_0 rfl ?_
  refine g_iload_n dX6_looksAt_1 rfl ?_
  refine g_iload_n dX6_looksAt_2 rfl ?_
  refine g_V2 dX6_looksAt_3 vX6_159 rfl (Nat.le_of_ble_eq_true rfl) (by decide) (ev_X6_rawOf h hp hv) ?_
  refine g_istore_n dX6_looksAt_6 (by decide) rfl ?_
  refine g_aload_n dX6_looksAt_7 rfl ?_
  refine g_iload_n dX6_looksAt_8 rfl ?_
  refine g_V1 dX6_looksAt_9 vX6_108 rfl (Nat.le_of_ble_eq_true rfl) (by decide) (Ev_r (r' := some (.int ((r_rawF (fun b => σ 22 (21 * (4 * fr p + v) + r_pl w sb b)) w) ^^^ r_bm b))) (ev_X6_mendedOf h.1 h.2.1) (by rw [hm])) ?_
  refine g_istore dX6_looksAt_12 (by decide) rfl ?_
  refine g_iload dX6_looksAt_14 rfl ?_
  refine g_bipush (v := (-5)) dX6_looksAt_16 (by decide) ?_
  refine g_icne (tgt := 25) dX6_looksAt_18 (by decide) (fun c18 => ?_) (fun c18 => absurd c18 hs)
  refine g_iload dX6_looksAt_25 rfl ?_
  refine g_iload_n dX6_looksAt_27 rfl ?_
  refine g_icne (tgt := 35) dX6_looksAt_28 (by decide) (fun c28 => ?_) (fun c28 => absurd c28 hs2)
  refine g_iconst (v := nI 1) dX6_looksAt_35 (by decide) ?_
  refine g_istore dX6_looksAt_36 (by decide) rfl ?_
  refine g_iload dX6_looksAt_38 rfl ?_
  refine g_iconst (v := 1) dX6_looksAt_40 (by decide) ?_
  refine g_icne (tgt := 56) dX6_looksAt_41 (by decide) (fun c41 => absurd rfl c41) (fun c41 => ?_)
  refine g_aload_n dX6_looksAt_44 rfl ?_
  refine g_aload_n dX6_looksAt_45 rfl ?_
  refine g_iload_n dX6_looksAt_46 rfl ?_
  refine g_V1 dX6_looksAt_47 vX6_96 rfl (Nat.le_of_ble_eq_true rfl) (by decide) (ev_X6_syndromeOf (by exact h.1) h.2.1) ?_
  refine g_V1 dX6_looksAt_50 vX6_99 rfl (Nat.le_of_ble_eq_true rfl) (by decide) (Ev_r (r' := some (.int (nI b))) (ev_X6_bitOf h.1 h.2.1) (by rw [hbit])) ?_
  refine g_goto (tgt := 58) dX6_looksAt_53 (by decide) ?_
  refine g_istore dX6_looksAt_58 (by decide) rfl ?_
  refine g_aload_n dX6_looksAt_60 rfl ?_
  refine g_getR dX6_looksAt_61 fX6_44 rfl rfl ?_
  refine g_iload dX6_looksAt_64 rfl ?_
  refine g_dup2 dX6_looksAt_66 rfl rfl ?_
  refine g_ial _ dX6_looksAt_67 rfl rfl (by omega) ?_
  refine g_iconst (v := 1) dX6_looksAt_68 (by decide) ?_
  refine g_iadd dX6_looksAt_69 ?_
  refine g_ias _ dX6_looksAt_70 rfl rfl (by omega) ?_
  refine g_aload_n dX6_looksAt_71 rfl ?_
  refine g_getR dX6_looksAt_72 fX6_47 rfl rfl ?_
  refine g_iconst (v := nI 0) dX6_looksAt_75 (by decide) ?_
  refine g_iload dX6_looksAt_76 rfl ?_
  refine g_ias _ dX6_looksAt_78 rfl rfl (by omega) ?_
  refine g_aload_n dX6_looksAt_79 rfl ?_
  refine g_getR dX6_looksAt_80 fX6_47 rfl rfl ?_
  refine g_iconst (v := nI 1) dX6_looksAt_83 (by decide) ?_
  refine g_iload dX6_looksAt_84 rfl ?_
  refine g_ias _ dX6_looksAt_86 rfl rfl (by omega) ?_
  refine g_aload_n dX6_looksAt_87 rfl ?_
  refine g_getR dX6_looksAt_88 fX6_47 rfl rfl ?_
  refine g_iconst (v := nI 2) dX6_looksAt_91 (by decide) ?_
  refine g_iconst (v := 0) dX6_looksAt_92 (by decide) ?_
  refine g_ias _ dX6_looksAt_93 rfl rfl (by omega) ?_
  refine g_aload_n dX6_looksAt_94 rfl ?_
  refine g_getR dX6_looksAt_95 fX6_47 rfl rfl ?_
  refine g_iconst (v := nI 3) dX6_looksAt_98 (by decide) ?_
  refine g_iconst (v := 0) dX6_looksAt_99 (by decide) ?_
  refine g_ias _ dX6_looksAt_100 rfl rfl (by omega) ?_
  refine g_aload_n dX6_looksAt_101 rfl ?_
  refine g_getR dX6_looksAt_102 fX6_47 rfl rfl ?_
  refine g_iconst (v := nI 4) dX6_looksAt_105 (by decide) ?_
  refine g_iload_n dX6_looksAt_106 rfl ?_
  refine g_ias _ dX6_looksAt_107 rfl rfl (by omega) ?_
  refine g_aload_n dX6_looksAt_108 rfl ?_
  refine g_getR dX6_looksAt_109 fX6_47 rfl rfl ?_
  refine g_iconst (v := nI 5) dX6_looksAt_112 (by decide) ?_
  refine g_iload_n dX6_looksAt_113 rfl ?_
  refine g_ias _ dX6_looksAt_114 rfl rfl (by omega) ?_
  refine g_iload dX6_looksAt_115 rfl ?_
  refine g_iconst (v := 1) dX6_looksAt_117 (by decide) ?_
  refine g_icne (tgt := 129) dX6_looksAt_118 (by decide) (fun c118 => absurd rfl c118) (fun c118 => ?_)
  refine g_aload_n dX6_looksAt_121 rfl ?_
  refine g_iload_n dX6_looksAt_122 rfl ?_
  refine g_iload_n dX6_looksAt_123 rfl ?_
  refine g_iload dX6_looksAt_124 rfl ?_
  have hM : r_MH (m_nl σ 1 (nI b) (nI p) (nI v)) w sb fr nr := h.to rfl rfl rfl rfl rfl rfl
  refine g_V3v dX6_looksAt_126 vX6_162 rfl (Nat.le_of_ble_eq_true rfl) (by decide) (ev_X6_marksBit (σ := m_nl σ 1 (nI b) (nI p) (nI v)) hM hp hv hb hmt hmt4) ?_
  refine g_iload dX6_looksAt_129 rfl ?_
  exact g_iret dX6_looksAt_131 rfl ⟨rfl, rfl⟩
end
