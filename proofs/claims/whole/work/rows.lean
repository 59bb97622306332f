section
-- ===== PART A: goes FIRST, ahead of the names: the tables' words, and 'selects' of the private methods out of them =====
/-- a private method of a class that the tables say can be made, by its rows of tables_1 -/
def lw_okq (q : MethodName × Nat) : Prop := (q.1.cls ≠ "java/lang/invoke/MethodHandle" ∧ q.1.cls ≠ "java/lang/invoke/VarHandle") ∧ Cond.instantiable q.1.cls q.2 ∈ tables_1 ∧ Cond.privateMethod q.1 ∈ tables_1 ∧ Cond.instanceMethod q.1 ∈ tables_1
theorem lw_p0 : lw_okq (⟨"MendedBank$Code", "bestFreeColumn", "()I"⟩, 5) := ⟨⟨by decide +kernel, by decide +kernel⟩, List.mem_of_getElem? (i := 20) (by decide +kernel), List.mem_of_getElem? (i := 178) (by decide +kernel), List.mem_of_getElem? (i := 179) (by decide +kernel)⟩
theorem lw_p1 : lw_okq (⟨"MendedBank$Code", "fullestRowWith", "(I)I"⟩, 5) := ⟨⟨by decide +kernel, by decide +kernel⟩, List.mem_of_getElem? (i := 20) (by decide +kernel), List.mem_of_getElem? (i := 188) (by decide +kernel), List.mem_of_getElem? (i := 189) (by decide +kernel)⟩
theorem lw_p2 : lw_okq (⟨"MendedBank$Code", "give", "(II)V"⟩, 5) := ⟨⟨by decide +kernel, by decide +kernel⟩, List.mem_of_getElem? (i := 20) (by decide +kernel), List.mem_of_getElem? (i := 195) (by decide +kernel), List.mem_of_getElem? (i := 196) (by decide +kernel)⟩
theorem lw_p3 : lw_okq (⟨"MendedBank", "hasWord", "(II)Z"⟩, 3) := ⟨⟨by decide +kernel, by decide +kernel⟩, List.mem_of_getElem? (i := 12) (by decide +kernel), List.mem_of_getElem? (i := 293) (by decide +kernel), List.mem_of_getElem? (i := 294) (by decide +kernel)⟩
theorem lw_p4 : lw_okq (⟨"MendedBank", "hasPage", "(I)Z"⟩, 3) := ⟨⟨by decide +kernel, by decide +kernel⟩, List.mem_of_getElem? (i := 12) (by decide +kernel), List.mem_of_getElem? (i := 297) (by decide +kernel), List.mem_of_getElem? (i := 298) (by decide +kernel)⟩
theorem lw_p5 : lw_okq (⟨"MendedBank$Bank", "putBits", "(III)V"⟩, 11) := ⟨⟨by decide +kernel, by decide +kernel⟩, List.mem_of_getElem? (i := 43) (by decide +kernel), List.mem_of_getElem? (i := 309) (by decide +kernel), List.mem_of_getElem? (i := 310) (by decide +kernel)⟩
theorem lw_p6 : lw_okq (⟨"MendedBank$Bank", "rowOf", "(II)I"⟩, 11) := ⟨⟨by decide +kernel, by decide +kernel⟩, List.mem_of_getElem? (i := 43) (by decide +kernel), List.mem_of_getElem? (i := 313) (by decide +kernel), List.mem_of_getElem? (i := 314) (by decide +kernel)⟩
theorem lw_p7 : lw_okq (⟨"MendedBank$Bank", "placesOf", "(I)I"⟩, 11) := ⟨⟨by decide +kernel, by decide +kernel⟩, List.mem_of_getElem? (i := 43) (by decide +kernel), List.mem_of_getElem? (i := 317) (by decide +kernel), List.mem_of_getElem? (i := 318) (by decide +kernel)⟩
theorem lw_p8 : lw_okq (⟨"MendedBank$Bank", "placesInUse", "()I"⟩, 11) := ⟨⟨by decide +kernel, by decide +kernel⟩, List.mem_of_getElem? (i := 43) (by decide +kernel), List.mem_of_getElem? (i := 321) (by decide +kernel), List.mem_of_getElem? (i := 322) (by decide +kernel)⟩
theorem lw_p9 : lw_okq (⟨"MendedBank$Bank", "swapIfDue", "(I)Z"⟩, 11) := ⟨⟨by decide +kernel, by decide +kernel⟩, List.mem_of_getElem? (i := 43) (by decide +kernel), List.mem_of_getElem? (i := 363) (by decide +kernel), List.mem_of_getElem? (i := 364) (by decide +kernel)⟩
theorem lw_p10 : lw_okq (⟨"MendedBank$Cells", "isBad", "(II)Z"⟩, 3) := ⟨⟨by decide +kernel, by decide +kernel⟩, List.mem_of_getElem? (i := 49) (by decide +kernel), List.mem_of_getElem? (i := 371) (by decide +kernel), List.mem_of_getElem? (i := 372) (by decide +kernel)⟩
theorem lw_p11 : lw_okq (⟨"MendedBank$Cells", "renewCell", "(III)V"⟩, 3) := ⟨⟨by decide +kernel, by decide +kernel⟩, List.mem_of_getElem? (i := 49) (by decide +kernel), List.mem_of_getElem? (i := 387) (by decide +kernel), List.mem_of_getElem? (i := 388) (by decide +kernel)⟩
theorem lw_p12 : lw_okq (⟨"MendedBank$Bank", "retireIfDue", "(I)Z"⟩, 11) := ⟨⟨by decide +kernel, by decide +kernel⟩, List.mem_of_getElem? (i := 43) (by decide +kernel), List.mem_of_getElem? (i := 399) (by decide +kernel), List.mem_of_getElem? (i := 400) (by decide +kernel)⟩
theorem lw_p13 : lw_okq (⟨"MendedBank$Bank", "spareFramesLeft", "()I"⟩, 11) := ⟨⟨by decide +kernel, by decide +kernel⟩, List.mem_of_getElem? (i := 43) (by decide +kernel), List.mem_of_getElem? (i := 403) (by decide +kernel), List.mem_of_getElem? (i := 404) (by decide +kernel)⟩
theorem lw_p14 : lw_okq (⟨"MendedBank$Bank", "stepScrubber", "()V"⟩, 11) := ⟨⟨by decide +kernel, by decide +kernel⟩, List.mem_of_getElem? (i := 43) (by decide +kernel), List.mem_of_getElem? (i := 467) (by decide +kernel), List.mem_of_getElem? (i := 468) (by decide +kernel)⟩
theorem lw_p15 : lw_okq (⟨"MendedBank$FlipTable", "countAll", "()V"⟩, 3) := ⟨⟨by decide +kernel, by decide +kernel⟩, List.mem_of_getElem? (i := 136) (by decide +kernel), List.mem_of_getElem? (i := 552) (by decide +kernel), List.mem_of_getElem? (i := 553) (by decide +kernel)⟩
def lw_privs_1 : List (MethodName × Nat) := [(⟨"MendedBank$Code", "bestFreeColumn", "()I"⟩, 5), (⟨"MendedBank$Code", "fullestRowWith", "(I)I"⟩, 5), (⟨"MendedBank$Code", "give", "(II)V"⟩, 5), (⟨"MendedBank", "hasWord", "(II)Z"⟩, 3), (⟨"MendedBank", "hasPage", "(I)Z"⟩, 3), (⟨"MendedBank$Bank", "putBits", "(III)V"⟩, 11), (⟨"MendedBank$Bank", "rowOf", "(II)I"⟩, 11), (⟨"MendedBank$Bank", "placesOf", "(I)I"⟩, 11), (⟨"MendedBank$Bank", "placesInUse", "()I"⟩, 11), (⟨"MendedBank$Bank", "swapIfDue", "(I)Z"⟩, 11), (⟨"MendedBank$Cells", "isBad", "(II)Z"⟩, 3), (⟨"MendedBank$Cells", "renewCell", "(III)V"⟩, 3), (⟨"MendedBank$Bank", "retireIfDue", "(I)Z"⟩, 11), (⟨"MendedBank$Bank", "spareFramesLeft", "()I"⟩, 11), (⟨"MendedBank$Bank", "stepScrubber", "()V"⟩, 11), (⟨"MendedBank$FlipTable", "countAll", "()V"⟩, 3)]
theorem lw_r1 : ∀ q ∈ lw_privs_1, lw_okq q := List.forall_mem_cons.mpr ⟨lw_p0, List.forall_mem_cons.mpr ⟨lw_p1, List.forall_mem_cons.mpr ⟨lw_p2, List.forall_mem_cons.mpr ⟨lw_p3, List.forall_mem_cons.mpr ⟨lw_p4, List.forall_mem_cons.mpr ⟨lw_p5, List.forall_mem_cons.mpr ⟨lw_p6, List.forall_mem_cons.mpr ⟨lw_p7, List.forall_mem_cons.mpr ⟨lw_p8, List.forall_mem_cons.mpr ⟨lw_p9, List.forall_mem_cons.mpr ⟨lw_p10, List.forall_mem_cons.mpr ⟨lw_p11, List.forall_mem_cons.mpr ⟨lw_p12, List.forall_mem_cons.mpr ⟨lw_p13, List.forall_mem_cons.mpr ⟨lw_p14, List.forall_mem_cons.mpr ⟨lw_p15, fun _ h => absurd h List.not_mem_nil⟩⟩⟩⟩⟩⟩⟩⟩⟩⟩⟩⟩⟩⟩⟩⟩
theorem lw_p16 : lw_okq (⟨"MendedBank$FlipTable", "allOf", "(I)I"⟩, 3) := ⟨⟨by decide +kernel, by decide +kernel⟩, List.mem_of_getElem? (i := 136) (by decide +kernel), List.mem_of_getElem? (i := 559) (by decide +kernel), List.mem_of_getElem? (i := 560) (by decide +kernel)⟩
theorem lw_p17 : lw_okq (⟨"MendedBank$FlipTable", "missedOf", "(I)I"⟩, 3) := ⟨⟨by decide +kernel, by decide +kernel⟩, List.mem_of_getElem? (i := 136) (by decide +kernel), List.mem_of_getElem? (i := 563) (by decide +kernel), List.mem_of_getElem? (i := 564) (by decide +kernel)⟩
theorem lw_p18 : lw_okq (⟨"MendedBank$FlipTable", "rightlyMendedOf", "(I)I"⟩, 3) := ⟨⟨by decide +kernel, by decide +kernel⟩, List.mem_of_getElem? (i := 136) (by decide +kernel), List.mem_of_getElem? (i := 567) (by decide +kernel), List.mem_of_getElem? (i := 568) (by decide +kernel)⟩
theorem lw_p19 : lw_okq (⟨"MendedBank$FlipTable", "mendedOf", "(I)I"⟩, 3) := ⟨⟨by decide +kernel, by decide +kernel⟩, List.mem_of_getElem? (i := 136) (by decide +kernel), List.mem_of_getElem? (i := 571) (by decide +kernel), List.mem_of_getElem? (i := 572) (by decide +kernel)⟩
theorem lw_p20 : lw_okq (⟨"MendedBank$Bank", "badInUse", "()I"⟩, 11) := ⟨⟨by decide +kernel, by decide +kernel⟩, List.mem_of_getElem? (i := 43) (by decide +kernel), List.mem_of_getElem? (i := 607) (by decide +kernel), List.mem_of_getElem? (i := 608) (by decide +kernel)⟩
theorem lw_p21 : lw_okq (⟨"MendedBank$Bank", "stuckInUse", "()I"⟩, 11) := ⟨⟨by decide +kernel, by decide +kernel⟩, List.mem_of_getElem? (i := 43) (by decide +kernel), List.mem_of_getElem? (i := 611) (by decide +kernel), List.mem_of_getElem? (i := 612) (by decide +kernel)⟩
theorem lw_p22 : lw_okq (⟨"MendedBankModel", "nextColumn", "(I)I"⟩, 20) := ⟨⟨by decide +kernel, by decide +kernel⟩, List.mem_of_getElem? (i := 619) (by decide +kernel), List.mem_of_getElem? (i := 697) (by decide +kernel), List.mem_of_getElem? (i := 698) (by decide +kernel)⟩
theorem lw_p23 : lw_okq (⟨"MendedBankModel", "isChosen", "(II)Z"⟩, 20) := ⟨⟨by decide +kernel, by decide +kernel⟩, List.mem_of_getElem? (i := 619) (by decide +kernel), List.mem_of_getElem? (i := 707) (by decide +kernel), List.mem_of_getElem? (i := 708) (by decide +kernel)⟩
theorem lw_p24 : lw_okq (⟨"MendedBankModel", "fullestWith", "(I)I"⟩, 20) := ⟨⟨by decide +kernel, by decide +kernel⟩, List.mem_of_getElem? (i := 619) (by decide +kernel), List.mem_of_getElem? (i := 711) (by decide +kernel), List.mem_of_getElem? (i := 712) (by decide +kernel)⟩
theorem lw_p25 : lw_okq (⟨"MendedBankModel", "begins", "()V"⟩, 20) := ⟨⟨by decide +kernel, by decide +kernel⟩, List.mem_of_getElem? (i := 619) (by decide +kernel), List.mem_of_getElem? (i := 715) (by decide +kernel), List.mem_of_getElem? (i := 716) (by decide +kernel)⟩
theorem lw_p26 : lw_okq (⟨"MendedBankModel", "bits", "()I"⟩, 20) := ⟨⟨by decide +kernel, by decide +kernel⟩, List.mem_of_getElem? (i := 619) (by decide +kernel), List.mem_of_getElem? (i := 719) (by decide +kernel), List.mem_of_getElem? (i := 720) (by decide +kernel)⟩
theorem lw_p27 : lw_okq (⟨"MendedBankModel", "isBit", "(I)Z"⟩, 20) := ⟨⟨by decide +kernel, by decide +kernel⟩, List.mem_of_getElem? (i := 619) (by decide +kernel), List.mem_of_getElem? (i := 727) (by decide +kernel), List.mem_of_getElem? (i := 728) (by decide +kernel)⟩
theorem lw_p28 : lw_okq (⟨"MendedBankModel", "wordOf", "(I)I"⟩, 20) := ⟨⟨by decide +kernel, by decide +kernel⟩, List.mem_of_getElem? (i := 619) (by decide +kernel), List.mem_of_getElem? (i := 739) (by decide +kernel), List.mem_of_getElem? (i := 740) (by decide +kernel)⟩
theorem lw_p29 : lw_okq (⟨"MendedBankModel", "syndromeOf", "(I)I"⟩, 20) := ⟨⟨by decide +kernel, by decide +kernel⟩, List.mem_of_getElem? (i := 619) (by decide +kernel), List.mem_of_getElem? (i := 743) (by decide +kernel), List.mem_of_getElem? (i := 744) (by decide +kernel)⟩
theorem lw_p30 : lw_okq (⟨"MendedBankModel", "isSet", "(I)Z"⟩, 20) := ⟨⟨by decide +kernel, by decide +kernel⟩, List.mem_of_getElem? (i := 619) (by decide +kernel), List.mem_of_getElem? (i := 751) (by decide +kernel), List.mem_of_getElem? (i := 752) (by decide +kernel)⟩
theorem lw_p31 : lw_okq (⟨"MendedBankModel", "mendedOf", "(I)I"⟩, 20) := ⟨⟨by decide +kernel, by decide +kernel⟩, List.mem_of_getElem? (i := 619) (by decide +kernel), List.mem_of_getElem? (i := 759) (by decide +kernel), List.mem_of_getElem? (i := 760) (by decide +kernel)⟩
def lw_privs_2 : List (MethodName × Nat) := [(⟨"MendedBank$FlipTable", "allOf", "(I)I"⟩, 3), (⟨"MendedBank$FlipTable", "missedOf", "(I)I"⟩, 3), (⟨"MendedBank$FlipTable", "rightlyMendedOf", "(I)I"⟩, 3), (⟨"MendedBank$FlipTable", "mendedOf", "(I)I"⟩, 3), (⟨"MendedBank$Bank", "badInUse", "()I"⟩, 11), (⟨"MendedBank$Bank", "stuckInUse", "()I"⟩, 11), (⟨"MendedBankModel", "nextColumn", "(I)I"⟩, 20), (⟨"MendedBankModel", "isChosen", "(II)Z"⟩, 20), (⟨"MendedBankModel", "fullestWith", "(I)I"⟩, 20), (⟨"MendedBankModel", "begins", "()V"⟩, 20), (⟨"MendedBankModel", "bits", "()I"⟩, 20), (⟨"MendedBankModel", "isBit", "(I)Z"⟩, 20), (⟨"MendedBankModel", "wordOf", "(I)I"⟩, 20), (⟨"MendedBankModel", "syndromeOf", "(I)I"⟩, 20), (⟨"MendedBankModel", "isSet", "(I)Z"⟩, 20), (⟨"MendedBankModel", "mendedOf", "(I)I"⟩, 20)]
theorem lw_r2 : ∀ q ∈ lw_privs_2, lw_okq q := List.forall_mem_cons.mpr ⟨lw_p16, List.forall_mem_cons.mpr ⟨lw_p17, List.forall_mem_cons.mpr ⟨lw_p18, List.forall_mem_cons.mpr ⟨lw_p19, List.forall_mem_cons.mpr ⟨lw_p20, List.forall_mem_cons.mpr ⟨lw_p21, List.forall_mem_cons.mpr ⟨lw_p22, List.forall_mem_cons.mpr ⟨lw_p23, List.forall_mem_cons.mpr ⟨lw_p24, List.forall_mem_cons.mpr ⟨lw_p25, List.forall_mem_cons.mpr ⟨lw_p26, List.forall_mem_cons.mpr ⟨lw_p27, List.forall_mem_cons.mpr ⟨lw_p28, List.forall_mem_cons.mpr ⟨lw_p29, List.forall_mem_cons.mpr ⟨lw_p30, List.forall_mem_cons.mpr ⟨lw_p31, fun _ h => absurd h List.not_mem_nil⟩⟩⟩⟩⟩⟩⟩⟩⟩⟩⟩⟩⟩⟩⟩⟩
theorem lw_p32 : lw_okq (⟨"MendedBankModel", "bitOf", "(I)I"⟩, 20) := ⟨⟨by decide +kernel, by decide +kernel⟩, List.mem_of_getElem? (i := 619) (by decide +kernel), List.mem_of_getElem? (i := 763) (by decide +kernel), List.mem_of_getElem? (i := 764) (by decide +kernel)⟩
theorem lw_p33 : lw_okq (⟨"MendedBankModel", "isWord", "(II)Z"⟩, 20) := ⟨⟨by decide +kernel, by decide +kernel⟩, List.mem_of_getElem? (i := 619) (by decide +kernel), List.mem_of_getElem? (i := 771) (by decide +kernel), List.mem_of_getElem? (i := 772) (by decide +kernel)⟩
theorem lw_p34 : lw_okq (⟨"MendedBankModel", "puts", "(III)V"⟩, 20) := ⟨⟨by decide +kernel, by decide +kernel⟩, List.mem_of_getElem? (i := 619) (by decide +kernel), List.mem_of_getElem? (i := 775) (by decide +kernel), List.mem_of_getElem? (i := 776) (by decide +kernel)⟩
theorem lw_p35 : lw_okq (⟨"MendedBankModel", "cellOf", "(III)I"⟩, 20) := ⟨⟨by decide +kernel, by decide +kernel⟩, List.mem_of_getElem? (i := 619) (by decide +kernel), List.mem_of_getElem? (i := 779) (by decide +kernel), List.mem_of_getElem? (i := 780) (by decide +kernel)⟩
theorem lw_p36 : lw_okq (⟨"MendedBankModel", "looksAt", "(II)I"⟩, 20) := ⟨⟨by decide +kernel, by decide +kernel⟩, List.mem_of_getElem? (i := 619) (by decide +kernel), List.mem_of_getElem? (i := 790) (by decide +kernel), List.mem_of_getElem? (i := 791) (by decide +kernel)⟩
theorem lw_p37 : lw_okq (⟨"MendedBankModel", "rawOf", "(II)I"⟩, 20) := ⟨⟨by decide +kernel, by decide +kernel⟩, List.mem_of_getElem? (i := 619) (by decide +kernel), List.mem_of_getElem? (i := 794) (by decide +kernel), List.mem_of_getElem? (i := 795) (by decide +kernel)⟩
theorem lw_p38 : lw_okq (⟨"MendedBankModel", "marksBit", "(III)V"⟩, 20) := ⟨⟨by decide +kernel, by decide +kernel⟩, List.mem_of_getElem? (i := 619) (by decide +kernel), List.mem_of_getElem? (i := 798) (by decide +kernel), List.mem_of_getElem? (i := 799) (by decide +kernel)⟩
theorem lw_p39 : lw_okq (⟨"MendedBankModel", "badIn", "(I)I"⟩, 20) := ⟨⟨by decide +kernel, by decide +kernel⟩, List.mem_of_getElem? (i := 619) (by decide +kernel), List.mem_of_getElem? (i := 802) (by decide +kernel), List.mem_of_getElem? (i := 803) (by decide +kernel)⟩
theorem lw_p40 : lw_okq (⟨"MendedBankModel", "swaps", "(I)V"⟩, 20) := ⟨⟨by decide +kernel, by decide +kernel⟩, List.mem_of_getElem? (i := 619) (by decide +kernel), List.mem_of_getElem? (i := 806) (by decide +kernel), List.mem_of_getElem? (i := 807) (by decide +kernel)⟩
theorem lw_p41 : lw_okq (⟨"MendedBankModel", "takesOver", "(II)V"⟩, 20) := ⟨⟨by decide +kernel, by decide +kernel⟩, List.mem_of_getElem? (i := 619) (by decide +kernel), List.mem_of_getElem? (i := 810) (by decide +kernel), List.mem_of_getElem? (i := 811) (by decide +kernel)⟩
theorem lw_p42 : lw_okq (⟨"MendedBankModel", "wrongIn", "(IZ)I"⟩, 20) := ⟨⟨by decide +kernel, by decide +kernel⟩, List.mem_of_getElem? (i := 619) (by decide +kernel), List.mem_of_getElem? (i := 814) (by decide +kernel), List.mem_of_getElem? (i := 815) (by decide +kernel)⟩
theorem lw_p43 : lw_okq (⟨"MendedBankModel", "isUsed", "(I)Z"⟩, 20) := ⟨⟨by decide +kernel, by decide +kernel⟩, List.mem_of_getElem? (i := 619) (by decide +kernel), List.mem_of_getElem? (i := 818) (by decide +kernel), List.mem_of_getElem? (i := 819) (by decide +kernel)⟩
theorem lw_p44 : lw_okq (⟨"MendedBankModel", "retires", "(I)V"⟩, 20) := ⟨⟨by decide +kernel, by decide +kernel⟩, List.mem_of_getElem? (i := 619) (by decide +kernel), List.mem_of_getElem? (i := 822) (by decide +kernel), List.mem_of_getElem? (i := 823) (by decide +kernel)⟩
theorem lw_p45 : lw_okq (⟨"MendedBankModel", "tells", "(I)V"⟩, 20) := ⟨⟨by decide +kernel, by decide +kernel⟩, List.mem_of_getElem? (i := 619) (by decide +kernel), List.mem_of_getElem? (i := 878) (by decide +kernel), List.mem_of_getElem? (i := 879) (by decide +kernel)⟩
theorem lw_p46 : lw_okq (⟨"MendedBankModel", "wrongInUse", "(Z)I"⟩, 20) := ⟨⟨by decide +kernel, by decide +kernel⟩, List.mem_of_getElem? (i := 619) (by decide +kernel), List.mem_of_getElem? (i := 900) (by decide +kernel), List.mem_of_getElem? (i := 901) (by decide +kernel)⟩
def lw_privs_3 : List (MethodName × Nat) := [(⟨"MendedBankModel", "bitOf", "(I)I"⟩, 20), (⟨"MendedBankModel", "isWord", "(II)Z"⟩, 20), (⟨"MendedBankModel", "puts", "(III)V"⟩, 20), (⟨"MendedBankModel", "cellOf", "(III)I"⟩, 20), (⟨"MendedBankModel", "looksAt", "(II)I"⟩, 20), (⟨"MendedBankModel", "rawOf", "(II)I"⟩, 20), (⟨"MendedBankModel", "marksBit", "(III)V"⟩, 20), (⟨"MendedBankModel", "badIn", "(I)I"⟩, 20), (⟨"MendedBankModel", "swaps", "(I)V"⟩, 20), (⟨"MendedBankModel", "takesOver", "(II)V"⟩, 20), (⟨"MendedBankModel", "wrongIn", "(IZ)I"⟩, 20), (⟨"MendedBankModel", "isUsed", "(I)Z"⟩, 20), (⟨"MendedBankModel", "retires", "(I)V"⟩, 20), (⟨"MendedBankModel", "tells", "(I)V"⟩, 20), (⟨"MendedBankModel", "wrongInUse", "(Z)I"⟩, 20)]
theorem lw_r3 : ∀ q ∈ lw_privs_3, lw_okq q := List.forall_mem_cons.mpr ⟨lw_p32, List.forall_mem_cons.mpr ⟨lw_p33, List.forall_mem_cons.mpr ⟨lw_p34, List.forall_mem_cons.mpr ⟨lw_p35, List.forall_mem_cons.mpr ⟨lw_p36, List.forall_mem_cons.mpr ⟨lw_p37, List.forall_mem_cons.mpr ⟨lw_p38, List.forall_mem_cons.mpr ⟨lw_p39, List.forall_mem_cons.mpr ⟨lw_p40, List.forall_mem_cons.mpr ⟨lw_p41, List.forall_mem_cons.mpr ⟨lw_p42, List.forall_mem_cons.mpr ⟨lw_p43, List.forall_mem_cons.mpr ⟨lw_p44, List.forall_mem_cons.mpr ⟨lw_p45, List.forall_mem_cons.mpr ⟨lw_p46, fun _ h => absurd h List.not_mem_nil⟩⟩⟩⟩⟩⟩⟩⟩⟩⟩⟩⟩⟩⟩⟩
def lw_privs : List (MethodName × Nat) := lw_privs_1 ++ (lw_privs_2 ++ (lw_privs_3))
def lw_tbl : List Cond := k2_sels lw_privs ++ tables_1
theorem lw_privs_ok : ∀ q ∈ lw_privs, lw_okq q := by
  show ∀ q ∈ lw_privs_1 ++ (lw_privs_2 ++ (lw_privs_3)), lw_okq q
  exact List.forall_mem_append.mpr ⟨lw_r1, List.forall_mem_append.mpr ⟨lw_r2, lw_r3⟩⟩
def RX0 : String := "MendedBank$Bank"
def TX0 : u_T := fun k => match k with
  | 0 => ("MendedBank$Bank", "rules", "LMendedBank$Code;", true)
  | 1 => ("MendedBank$Bank", "cells", "LMendedBank$Cells;", true)
  | 2 => ("MendedBank$Bank", "history", "LMendedBank$Log;", true)
  | 3 => ("MendedBank$Bank", "frames", "[I", true)
  | 4 => ("MendedBank$Bank", "keptValues", "[I", true)
  | 5 => ("MendedBank$Bank", "retiredFrames", "[I", true)
  | 6 => ("MendedBank$Bank", "retiredCount", "I", false)
  | 7 => ("MendedBank$Bank", "swappedBit", "I", false)
  | 8 => ("MendedBank$Bank", "sparePlace", "I", false)
  | 9 => ("MendedBank$Bank", "scrubPage", "I", false)
  | _ => ("MendedBank$Bank", "scrubWord", "I", false)
def tyX0 : Nat → FieldType := fun k => match k with
  | 0 => .object "MendedBank$Code"
  | 1 => .object "MendedBank$Cells"
  | 2 => .object "MendedBank$Log"
  | 3 => .array .int
  | 4 => .array .int
  | 5 => .array .int
  | 6 => .int
  | 7 => .int
  | 8 => .int
  | 9 => .int
  | _ => .int
abbrev wsX00 : List Cond := u_ws RX0 TX0 11
theorem nmX0 : ∀ a, a < 11 → ∀ b, b < 11 → a ≠ b → (TX0 a).2.1 ≠ (TX0 b).2.1 := by decide +kernel
theorem tyX0_ok : ∀ k, k < 11 → parseFieldDescriptor (TX0 k).2.2.1 = some (tyX0 k) := by decide +kernel
abbrev cX0_init : ByteArray := prog_2_method_1_code
def yX0_init : MethodName := ⟨RX0, "<init>", "(LMendedBank$Code;)V"⟩
abbrev cX0_renew : ByteArray := prog_2_method_2_code
def yX0_renew : MethodName := ⟨RX0, "renew", "()V"⟩
abbrev cX0_log : ByteArray := prog_2_method_3_code
def yX0_log : MethodName := ⟨RX0, "log", "()LMendedBank$Log;"⟩
abbrev cX0_frameOf : ByteArray := prog_2_method_4_code
def yX0_frameOf : MethodName := ⟨RX0, "frameOf", "(I)I"⟩
abbrev cX0_placeOf : ByteArray := prog_2_method_5_code
def yX0_placeOf : MethodName := ⟨RX0, "placeOf", "(I)I"⟩
abbrev cX0_retiredFrame : ByteArray := prog_2_method_6_code
def yX0_retiredFrame : MethodName := ⟨RX0, "retiredFrame", "(I)I"⟩
abbrev cX0_marksOf : ByteArray := prog_2_method_7_code
def yX0_marksOf : MethodName := ⟨RX0, "marksOf", "(III)I"⟩
abbrev cX0_keptValue : ByteArray := prog_2_method_8_code
def yX0_keptValue : MethodName := ⟨RX0, "keptValue", "(II)I"⟩
abbrev cX0_keep : ByteArray := prog_2_method_9_code
def yX0_keep : MethodName := ⟨RX0, "keep", "(III)V"⟩
abbrev cX0_bitsOf : ByteArray := prog_2_method_10_code
def yX0_bitsOf : MethodName := ⟨RX0, "bitsOf", "(II)I"⟩
abbrev cX0_turn : ByteArray := prog_2_method_11_code
def yX0_turn : MethodName := ⟨RX0, "turn", "(III)I"⟩
abbrev cX0_hold : ByteArray := prog_2_method_12_code
def yX0_hold : MethodName := ⟨RX0, "hold", "(IIII)I"⟩
abbrev cX0_loosen : ByteArray := prog_2_method_13_code
def yX0_loosen : MethodName := ⟨RX0, "loosen", "(III)I"⟩
abbrev cX0_lookAt : ByteArray := prog_2_method_14_code
def yX0_lookAt : MethodName := ⟨RX0, "lookAt", "(II)I"⟩
abbrev cX0_scrubNext : ByteArray := prog_2_method_15_code
def yX0_scrubNext : MethodName := ⟨RX0, "scrubNext", "()Z"⟩
abbrev cX0_tally : ByteArray := prog_2_method_16_code
def yX0_tally : MethodName := ⟨RX0, "tally", "(I)I"⟩
abbrev cX0_rowOf : ByteArray := prog_2_method_17_code
def yX0_rowOf : MethodName := ⟨RX0, "rowOf", "(II)I"⟩
abbrev cX0_placesOf : ByteArray := prog_2_method_18_code
def yX0_placesOf : MethodName := ⟨RX0, "placesOf", "(I)I"⟩
abbrev cX0_placesInUse : ByteArray := prog_2_method_19_code
def yX0_placesInUse : MethodName := ⟨RX0, "placesInUse", "()I"⟩
abbrev cX0_putBits : ByteArray := prog_2_method_20_code
def yX0_putBits : MethodName := ⟨RX0, "putBits", "(III)V"⟩
abbrev cX0_swapIfDue : ByteArray := prog_2_method_21_code
def yX0_swapIfDue : MethodName := ⟨RX0, "swapIfDue", "(I)Z"⟩
abbrev cX0_retireIfDue : ByteArray := prog_2_method_22_code
def yX0_retireIfDue : MethodName := ⟨RX0, "retireIfDue", "(I)Z"⟩
abbrev cX0_spareFramesLeft : ByteArray := prog_2_method_23_code
def yX0_spareFramesLeft : MethodName := ⟨RX0, "spareFramesLeft", "()I"⟩
abbrev cX0_badInUse : ByteArray := prog_2_method_24_code
def yX0_badInUse : MethodName := ⟨RX0, "badInUse", "()I"⟩
abbrev cX0_stuckInUse : ByteArray := prog_2_method_25_code
def yX0_stuckInUse : MethodName := ⟨RX0, "stuckInUse", "()I"⟩
abbrev cX0_stepScrubber : ByteArray := prog_2_method_26_code
def yX0_stepScrubber : MethodName := ⟨RX0, "stepScrubber", "()V"⟩
def RX1 : String := "MendedBank$Cells"
def TX1 : u_T := fun k => match k with
  | 0 => ("MendedBank$Cells", "values", "[I", true)
  | 1 => ("MendedBank$Cells", "stuck", "[I", true)
  | _ => ("MendedBank$Cells", "markCounts", "[I", true)
def tyX1 : Nat → FieldType := fun k => match k with
  | 0 => .array .int
  | 1 => .array .int
  | _ => .array .int
abbrev wsX10 : List Cond := u_ws RX1 TX1 3
theorem nmX1 : ∀ a, a < 3 → ∀ b, b < 3 → a ≠ b → (TX1 a).2.1 ≠ (TX1 b).2.1 := by decide +kernel
theorem tyX1_ok : ∀ k, k < 3 → parseFieldDescriptor (TX1 k).2.2.1 = some (tyX1 k) := by decide +kernel
abbrev cX1_init : ByteArray := prog_3_method_1_code
def yX1_init : MethodName := ⟨RX1, "<init>", "()V"⟩
abbrev cX1_clear : ByteArray := prog_3_method_2_code
def yX1_clear : MethodName := ⟨RX1, "clear", "()V"⟩
abbrev cX1_valuesIn : ByteArray := prog_3_method_3_code
def yX1_valuesIn : MethodName := ⟨RX1, "valuesIn", "(I)I"⟩
abbrev cX1_put : ByteArray := prog_3_method_4_code
def yX1_put : MethodName := ⟨RX1, "put", "(III)V"⟩
abbrev cX1_turn : ByteArray := prog_3_method_5_code
def yX1_turn : MethodName := ⟨RX1, "turn", "(II)I"⟩
abbrev cX1_valueAt : ByteArray := prog_3_method_6_code
def yX1_valueAt : MethodName := ⟨RX1, "valueAt", "(II)I"⟩
abbrev cX1_setValue : ByteArray := prog_3_method_7_code
def yX1_setValue : MethodName := ⟨RX1, "setValue", "(III)V"⟩
abbrev cX1_hold : ByteArray := prog_3_method_8_code
def yX1_hold : MethodName := ⟨RX1, "hold", "(III)V"⟩
abbrev cX1_loosen : ByteArray := prog_3_method_9_code
def yX1_loosen : MethodName := ⟨RX1, "loosen", "(II)V"⟩
abbrev cX1_addMark : ByteArray := prog_3_method_10_code
def yX1_addMark : MethodName := ⟨RX1, "addMark", "(II)V"⟩
abbrev cX1_marksAt : ByteArray := prog_3_method_11_code
def yX1_marksAt : MethodName := ⟨RX1, "marksAt", "(II)I"⟩
abbrev cX1_isBad : ByteArray := prog_3_method_12_code
def yX1_isBad : MethodName := ⟨RX1, "isBad", "(II)Z"⟩
abbrev cX1_renewCell : ByteArray := prog_3_method_13_code
def yX1_renewCell : MethodName := ⟨RX1, "renewCell", "(III)V"⟩
abbrev cX1_copyPlace : ByteArray := prog_3_method_14_code
def yX1_copyPlace : MethodName := ⟨RX1, "copyPlace", "(II)V"⟩
abbrev cX1_copyFrame : ByteArray := prog_3_method_15_code
def yX1_copyFrame : MethodName := ⟨RX1, "copyFrame", "(II)V"⟩
abbrev cX1_badInPlace : ByteArray := prog_3_method_16_code
def yX1_badInPlace : MethodName := ⟨RX1, "badInPlace", "(I)I"⟩
abbrev cX1_badInFrame : ByteArray := prog_3_method_17_code
def yX1_badInFrame : MethodName := ⟨RX1, "badInFrame", "(II)I"⟩
abbrev cX1_stuckInFrame : ByteArray := prog_3_method_18_code
def yX1_stuckInFrame : MethodName := ⟨RX1, "stuckInFrame", "(II)I"⟩
def RX2 : String := "MendedBank$Code"
def TX2 : u_T := fun k => match k with
  | 0 => ("MendedBank$Code", "columns", "[I", true)
  | 1 => ("MendedBank$Code", "rowOnes", "[I", true)
  | 2 => ("MendedBank$Code", "bitByColumn", "[I", true)
  | 3 => ("MendedBank$Code", "dataBits", "I", false)
  | _ => ("MendedBank$Code", "rows", "I", false)
def tyX2 : Nat → FieldType := fun k => match k with
  | 0 => .array .int
  | 1 => .array .int
  | 2 => .array .int
  | 3 => .int
  | _ => .int
abbrev wsX20 : List Cond := u_ws RX2 TX2 5
theorem nmX2 : ∀ a, a < 5 → ∀ b, b < 5 → a ≠ b → (TX2 a).2.1 ≠ (TX2 b).2.1 := by decide +kernel
theorem tyX2_ok : ∀ k, k < 5 → parseFieldDescriptor (TX2 k).2.2.1 = some (tyX2 k) := by decide +kernel
abbrev cX2_init : ByteArray := prog_4_method_1_code
def yX2_init : MethodName := ⟨RX2, "<init>", "()V"⟩
abbrev cX2_allows : ByteArray := prog_4_method_2_code
def yX2_allows : MethodName := ⟨RX2, "allows", "(II)Z"⟩
abbrev cX2_choose : ByteArray := prog_4_method_3_code
def yX2_choose : MethodName := ⟨RX2, "choose", "(II)V"⟩
abbrev cX2_give : ByteArray := prog_4_method_4_code
def yX2_give : MethodName := ⟨RX2, "give", "(II)V"⟩
abbrev cX2_bestFreeColumn : ByteArray := prog_4_method_5_code
def yX2_bestFreeColumn : MethodName := ⟨RX2, "bestFreeColumn", "()I"⟩
abbrev cX2_fullestRowWith : ByteArray := prog_4_method_6_code
def yX2_fullestRowWith : MethodName := ⟨RX2, "fullestRowWith", "(I)I"⟩
abbrev cX2_stands : ByteArray := prog_4_method_7_code
def yX2_stands : MethodName := ⟨RX2, "stands", "()Z"⟩
abbrev cX2_width : ByteArray := prog_4_method_8_code
def yX2_width : MethodName := ⟨RX2, "width", "()I"⟩
abbrev cX2_allBits : ByteArray := prog_4_method_9_code
def yX2_allBits : MethodName := ⟨RX2, "allBits", "()I"⟩
abbrev cX2_hasBit : ByteArray := prog_4_method_10_code
def yX2_hasBit : MethodName := ⟨RX2, "hasBit", "(I)Z"⟩
abbrev cX2_hasRow : ByteArray := prog_4_method_11_code
def yX2_hasRow : MethodName := ⟨RX2, "hasRow", "(I)Z"⟩
abbrev cX2_hasPlace : ByteArray := prog_4_method_12_code
def yX2_hasPlace : MethodName := ⟨RX2, "hasPlace", "(I)Z"⟩
abbrev cX2_hasValue : ByteArray := prog_4_method_13_code
def yX2_hasValue : MethodName := ⟨RX2, "hasValue", "(I)Z"⟩
abbrev cX2_hasSet : ByteArray := prog_4_method_14_code
def yX2_hasSet : MethodName := ⟨RX2, "hasSet", "(I)Z"⟩
abbrev cX2_columnOf : ByteArray := prog_4_method_15_code
def yX2_columnOf : MethodName := ⟨RX2, "columnOf", "(I)I"⟩
abbrev cX2_onesOfRow : ByteArray := prog_4_method_16_code
def yX2_onesOfRow : MethodName := ⟨RX2, "onesOfRow", "(I)I"⟩
abbrev cX2_onesOfAllRows : ByteArray := prog_4_method_17_code
def yX2_onesOfAllRows : MethodName := ⟨RX2, "onesOfAllRows", "()I"⟩
abbrev cX2_syndromeOf : ByteArray := prog_4_method_18_code
def yX2_syndromeOf : MethodName := ⟨RX2, "syndromeOf", "(I)I"⟩
abbrev cX2_wordOf : ByteArray := prog_4_method_19_code
def yX2_wordOf : MethodName := ⟨RX2, "wordOf", "(I)I"⟩
abbrev cX2_valueOf : ByteArray := prog_4_method_20_code
def yX2_valueOf : MethodName := ⟨RX2, "valueOf", "(I)I"⟩
abbrev cX2_bitWithColumn : ByteArray := prog_4_method_21_code
def yX2_bitWithColumn : MethodName := ⟨RX2, "bitWithColumn", "(I)I"⟩
abbrev cX2_mend : ByteArray := prog_4_method_22_code
def yX2_mend : MethodName := ⟨RX2, "mend", "(I)I"⟩
def RX3 : String := "MendedBank$FlipTable"
def TX3 : u_T := fun k => match k with
  | 0 => ("MendedBank$FlipTable", "rules", "LMendedBank$Code;", true)
  | 1 => ("MendedBank$FlipTable", "counts", "[I", true)
  | _ => ("MendedBank$FlipTable", "counted", "Z", false)
def tyX3 : Nat → FieldType := fun k => match k with
  | 0 => .object "MendedBank$Code"
  | 1 => .array .int
  | _ => .boolean
abbrev wsX30 : List Cond := u_ws RX3 TX3 3
theorem nmX3 : ∀ a, a < 3 → ∀ b, b < 3 → a ≠ b → (TX3 a).2.1 ≠ (TX3 b).2.1 := by decide +kernel
theorem tyX3_ok : ∀ k, k < 3 → parseFieldDescriptor (TX3 k).2.2.1 = some (tyX3 k) := by decide +kernel
abbrev cX3_init : ByteArray := prog_5_method_1_code
def yX3_init : MethodName := ⟨RX3, "<init>", "(LMendedBank$Code;)V"⟩
abbrev cX3_forget : ByteArray := prog_5_method_2_code
def yX3_forget : MethodName := ⟨RX3, "forget", "()V"⟩
abbrev cX3_countOf : ByteArray := prog_5_method_3_code
def yX3_countOf : MethodName := ⟨RX3, "countOf", "(II)I"⟩
abbrev cX3_countAll : ByteArray := prog_5_method_4_code
def yX3_countAll : MethodName := ⟨RX3, "countAll", "()V"⟩
abbrev cX3_allOf : ByteArray := prog_5_method_5_code
def yX3_allOf : MethodName := ⟨RX3, "allOf", "(I)I"⟩
abbrev cX3_missedOf : ByteArray := prog_5_method_6_code
def yX3_missedOf : MethodName := ⟨RX3, "missedOf", "(I)I"⟩
abbrev cX3_rightlyMendedOf : ByteArray := prog_5_method_7_code
def yX3_rightlyMendedOf : MethodName := ⟨RX3, "rightlyMendedOf", "(I)I"⟩
abbrev cX3_mendedOf : ByteArray := prog_5_method_8_code
def yX3_mendedOf : MethodName := ⟨RX3, "mendedOf", "(I)I"⟩
def RX4 : String := "MendedBank$Log"
def TX4 : u_T := fun k => match k with
  | 0 => ("MendedBank$Log", "looksByKind", "[I", true)
  | 1 => ("MendedBank$Log", "mendsByPage", "[I", true)
  | 2 => ("MendedBank$Log", "troubledPages", "[I", true)
  | 3 => ("MendedBank$Log", "troubledCount", "I", false)
  | 4 => ("MendedBank$Log", "lastKind", "I", false)
  | 5 => ("MendedBank$Log", "lastBit", "I", false)
  | 6 => ("MendedBank$Log", "lastPage", "I", false)
  | 7 => ("MendedBank$Log", "lastWord", "I", false)
  | 8 => ("MendedBank$Log", "lastSwap", "I", false)
  | _ => ("MendedBank$Log", "lastRetiring", "I", false)
def tyX4 : Nat → FieldType := fun k => match k with
  | 0 => .array .int
  | 1 => .array .int
  | 2 => .array .int
  | 3 => .int
  | 4 => .int
  | 5 => .int
  | 6 => .int
  | 7 => .int
  | 8 => .int
  | _ => .int
abbrev wsX40 : List Cond := u_ws RX4 TX4 10
theorem nmX4 : ∀ a, a < 10 → ∀ b, b < 10 → a ≠ b → (TX4 a).2.1 ≠ (TX4 b).2.1 := by decide +kernel
theorem tyX4_ok : ∀ k, k < 10 → parseFieldDescriptor (TX4 k).2.2.1 = some (tyX4 k) := by decide +kernel
abbrev cX4_init : ByteArray := prog_6_method_1_code
def yX4_init : MethodName := ⟨RX4, "<init>", "()V"⟩
abbrev cX4_clear : ByteArray := prog_6_method_2_code
def yX4_clear : MethodName := ⟨RX4, "clear", "()V"⟩
abbrev cX4_noteLook : ByteArray := prog_6_method_3_code
def yX4_noteLook : MethodName := ⟨RX4, "noteLook", "(IIII)V"⟩
abbrev cX4_noteMending : ByteArray := prog_6_method_4_code
def yX4_noteMending : MethodName := ⟨RX4, "noteMending", "(IZZ)V"⟩
abbrev cX4_latest : ByteArray := prog_6_method_5_code
def yX4_latest : MethodName := ⟨RX4, "latest", "(I)I"⟩
abbrev cX4_troubledPage : ByteArray := prog_6_method_6_code
def yX4_troubledPage : MethodName := ⟨RX4, "troubledPage", "(I)I"⟩
abbrev cX4_mendsOf : ByteArray := prog_6_method_7_code
def yX4_mendsOf : MethodName := ⟨RX4, "mendsOf", "(I)I"⟩
abbrev cX4_looksOf : ByteArray := prog_6_method_8_code
def yX4_looksOf : MethodName := ⟨RX4, "looksOf", "(I)I"⟩
abbrev cX4_allLooks : ByteArray := prog_6_method_9_code
def yX4_allLooks : MethodName := ⟨RX4, "allLooks", "()I"⟩
def RX5 : String := "MendedBank"
def TX5 : u_T := fun k => match k with
  | 0 => ("MendedBank", "rules", "LMendedBank$Code;", true)
  | 1 => ("MendedBank", "bank", "LMendedBank$Bank;", true)
  | _ => ("MendedBank", "flips", "LMendedBank$FlipTable;", true)
def tyX5 : Nat → FieldType := fun k => match k with
  | 0 => .object "MendedBank$Code"
  | 1 => .object "MendedBank$Bank"
  | _ => .object "MendedBank$FlipTable"
abbrev wsX50 : List Cond := u_ws RX5 TX5 3
theorem nmX5 : ∀ a, a < 3 → ∀ b, b < 3 → a ≠ b → (TX5 a).2.1 ≠ (TX5 b).2.1 := by decide +kernel
theorem tyX5_ok : ∀ k, k < 3 → parseFieldDescriptor (TX5 k).2.2.1 = some (tyX5 k) := by decide +kernel
abbrev cX5_init : ByteArray := prog_1_method_1_code
def yX5_init : MethodName := ⟨RX5, "<init>", "()V"⟩
abbrev cX5_code : ByteArray := prog_1_method_2_code
def yX5_code : MethodName := ⟨RX5, "code", "(II)I"⟩
abbrev cX5_column : ByteArray := prog_1_method_3_code
def yX5_column : MethodName := ⟨RX5, "column", "(I)I"⟩
abbrev cX5_ones : ByteArray := prog_1_method_4_code
def yX5_ones : MethodName := ⟨RX5, "ones", "(I)I"⟩
abbrev cX5_word : ByteArray := prog_1_method_5_code
def yX5_word : MethodName := ⟨RX5, "word", "(I)I"⟩
abbrev cX5_syndrome : ByteArray := prog_1_method_6_code
def yX5_syndrome : MethodName := ⟨RX5, "syndrome", "(I)I"⟩
abbrev cX5_mended : ByteArray := prog_1_method_7_code
def yX5_mended : MethodName := ⟨RX5, "mended", "(I)I"⟩
abbrev cX5_write : ByteArray := prog_1_method_8_code
def yX5_write : MethodName := ⟨RX5, "write", "(III)I"⟩
abbrev cX5_read : ByteArray := prog_1_method_9_code
def yX5_read : MethodName := ⟨RX5, "read", "(II)I"⟩
abbrev cX5_raw : ByteArray := prog_1_method_10_code
def yX5_raw : MethodName := ⟨RX5, "raw", "(II)I"⟩
abbrev cX5_flip : ByteArray := prog_1_method_11_code
def yX5_flip : MethodName := ⟨RX5, "flip", "(III)I"⟩
abbrev cX5_stick : ByteArray := prog_1_method_12_code
def yX5_stick : MethodName := ⟨RX5, "stick", "(IIII)I"⟩
abbrev cX5_scrub : ByteArray := prog_1_method_13_code
def yX5_scrub : MethodName := ⟨RX5, "scrub", "(I)I"⟩
abbrev cX5_look : ByteArray := prog_1_method_14_code
def yX5_look : MethodName := ⟨RX5, "look", "(I)I"⟩
abbrev cX5_fate : ByteArray := prog_1_method_15_code
def yX5_fate : MethodName := ⟨RX5, "fate", "(III)I"⟩
abbrev cX5_marks : ByteArray := prog_1_method_16_code
def yX5_marks : MethodName := ⟨RX5, "marks", "(III)I"⟩
abbrev cX5_frame : ByteArray := prog_1_method_17_code
def yX5_frame : MethodName := ⟨RX5, "frame", "(I)I"⟩
abbrev cX5_place : ByteArray := prog_1_method_18_code
def yX5_place : MethodName := ⟨RX5, "place", "(I)I"⟩
abbrev cX5_retired : ByteArray := prog_1_method_19_code
def yX5_retired : MethodName := ⟨RX5, "retired", "(I)I"⟩
abbrev cX5_troubled : ByteArray := prog_1_method_20_code
def yX5_troubled : MethodName := ⟨RX5, "troubled", "(I)I"⟩
abbrev cX5_mends : ByteArray := prog_1_method_21_code
def yX5_mends : MethodName := ⟨RX5, "mends", "(I)I"⟩
abbrev cX5_patterns : ByteArray := prog_1_method_22_code
def yX5_patterns : MethodName := ⟨RX5, "patterns", "(II)I"⟩
abbrev cX5_weight : ByteArray := prog_1_method_23_code
def yX5_weight : MethodName := ⟨RX5, "weight", "()I"⟩
abbrev cX5_safe : ByteArray := prog_1_method_24_code
def yX5_safe : MethodName := ⟨RX5, "safe", "(III)J"⟩
abbrev cX5_many : ByteArray := prog_1_method_25_code
def yX5_many : MethodName := ⟨RX5, "many", "(I)I"⟩
abbrev cX5_safeWalks : ByteArray := prog_1_method_26_code
def yX5_safeWalks : MethodName := ⟨RX5, "safeWalks", "(II)J"⟩
abbrev cX5_isWord : ByteArray := prog_1_method_27_code
def yX5_isWord : MethodName := ⟨RX5, "isWord", "(I)Z"⟩
abbrev cX5_hasPage : ByteArray := prog_1_method_28_code
def yX5_hasPage : MethodName := ⟨RX5, "hasPage", "(I)Z"⟩
abbrev cX5_hasWord : ByteArray := prog_1_method_29_code
def yX5_hasWord : MethodName := ⟨RX5, "hasWord", "(II)Z"⟩
def RX6 : String := "MendedBankModel"
def TX6 : u_T := fun k => match k with
  | 0 => ("MendedBankModel", "data", "I", false)
  | 1 => ("MendedBankModel", "checks", "I", false)
  | 2 => ("MendedBankModel", "columnOf", "[I", true)
  | 3 => ("MendedBankModel", "onesOf", "[I", true)
  | 4 => ("MendedBankModel", "cell", "[I", true)
  | 5 => ("MendedBankModel", "isStuck", "[Z", true)
  | 6 => ("MendedBankModel", "markOf", "[I", true)
  | 7 => ("MendedBankModel", "frameOf", "[I", true)
  | 8 => ("MendedBankModel", "placeOf", "[I", true)
  | 9 => ("MendedBankModel", "lastWritten", "[I", true)
  | 10 => ("MendedBankModel", "mendsOf", "[I", true)
  | 11 => ("MendedBankModel", "troubles", "[I", true)
  | 12 => ("MendedBankModel", "manyTroubles", "I", false)
  | 13 => ("MendedBankModel", "retirees", "[I", true)
  | 14 => ("MendedBankModel", "manyRetired", "I", false)
  | 15 => ("MendedBankModel", "isSwapped", "Z", false)
  | 16 => ("MendedBankModel", "next", "I", false)
  | 17 => ("MendedBankModel", "looks", "[I", true)
  | 18 => ("MendedBankModel", "latest", "[I", true)
  | _ => ("MendedBankModel", "patternsOf", "[I", true)
def tyX6 : Nat → FieldType := fun k => match k with
  | 0 => .int
  | 1 => .int
  | 2 => .array .int
  | 3 => .array .int
  | 4 => .array .int
  | 5 => .array .boolean
  | 6 => .array .int
  | 7 => .array .int
  | 8 => .array .int
  | 9 => .array .int
  | 10 => .array .int
  | 11 => .array .int
  | 12 => .int
  | 13 => .array .int
  | 14 => .int
  | 15 => .boolean
  | 16 => .int
  | 17 => .array .int
  | 18 => .array .int
  | _ => .array .int
abbrev wsX60 : List Cond := u_ws RX6 TX6 20
theorem nmX6 : ∀ a, a < 20 → ∀ b, b < 20 → a ≠ b → (TX6 a).2.1 ≠ (TX6 b).2.1 := by decide +kernel
theorem tyX6_ok : ∀ k, k < 20 → parseFieldDescriptor (TX6 k).2.2.1 = some (tyX6 k) := by decide +kernel
abbrev cX6_init : ByteArray := prog_8_method_1_code
def yX6_init : MethodName := ⟨RX6, "<init>", "()V"⟩
abbrev cX6_within : ByteArray := prog_8_method_2_code
def yX6_within : MethodName := ⟨RX6, "within", "(III)Z"⟩
abbrev cX6_isIn : ByteArray := prog_8_method_3_code
def yX6_isIn : MethodName := ⟨RX6, "isIn", "(II)I"⟩
abbrev cX6_sizeOf : ByteArray := prog_8_method_4_code
def yX6_sizeOf : MethodName := ⟨RX6, "sizeOf", "(I)I"⟩
abbrev cX6_bits : ByteArray := prog_8_method_5_code
def yX6_bits : MethodName := ⟨RX6, "bits", "()I"⟩
abbrev cX6_isBit : ByteArray := prog_8_method_6_code
def yX6_isBit : MethodName := ⟨RX6, "isBit", "(I)Z"⟩
abbrev cX6_isSet : ByteArray := prog_8_method_7_code
def yX6_isSet : MethodName := ⟨RX6, "isSet", "(I)Z"⟩
abbrev cX6_mostData : ByteArray := prog_8_method_8_code
def yX6_mostData : MethodName := ⟨RX6, "mostData", "(I)I"⟩
abbrev cX6_isChosen : ByteArray := prog_8_method_9_code
def yX6_isChosen : MethodName := ⟨RX6, "isChosen", "(II)Z"⟩
abbrev cX6_fullestWith : ByteArray := prog_8_method_10_code
def yX6_fullestWith : MethodName := ⟨RX6, "fullestWith", "(I)I"⟩
abbrev cX6_nextColumn : ByteArray := prog_8_method_11_code
def yX6_nextColumn : MethodName := ⟨RX6, "nextColumn", "(I)I"⟩
abbrev cX6_code : ByteArray := prog_8_method_12_code
def yX6_code : MethodName := ⟨RX6, "code", "(II)I"⟩
abbrev cX6_column : ByteArray := prog_8_method_13_code
def yX6_column : MethodName := ⟨RX6, "column", "(I)I"⟩
abbrev cX6_ones : ByteArray := prog_8_method_14_code
def yX6_ones : MethodName := ⟨RX6, "ones", "(I)I"⟩
abbrev cX6_syndromeOf : ByteArray := prog_8_method_15_code
def yX6_syndromeOf : MethodName := ⟨RX6, "syndromeOf", "(I)I"⟩
abbrev cX6_wordOf : ByteArray := prog_8_method_16_code
def yX6_wordOf : MethodName := ⟨RX6, "wordOf", "(I)I"⟩
abbrev cX6_bitOf : ByteArray := prog_8_method_17_code
def yX6_bitOf : MethodName := ⟨RX6, "bitOf", "(I)I"⟩
abbrev cX6_mendedOf : ByteArray := prog_8_method_18_code
def yX6_mendedOf : MethodName := ⟨RX6, "mendedOf", "(I)I"⟩
abbrev cX6_word : ByteArray := prog_8_method_19_code
def yX6_word : MethodName := ⟨RX6, "word", "(I)I"⟩
abbrev cX6_syndrome : ByteArray := prog_8_method_20_code
def yX6_syndrome : MethodName := ⟨RX6, "syndrome", "(I)I"⟩
abbrev cX6_mended : ByteArray := prog_8_method_21_code
def yX6_mended : MethodName := ⟨RX6, "mended", "(I)I"⟩
abbrev cX6_begins : ByteArray := prog_8_method_22_code
def yX6_begins : MethodName := ⟨RX6, "begins", "()V"⟩
abbrev cX6_at : ByteArray := prog_8_method_23_code
def yX6_at : MethodName := ⟨RX6, "at", "(III)I"⟩
abbrev cX6_cellOf : ByteArray := prog_8_method_24_code
def yX6_cellOf : MethodName := ⟨RX6, "cellOf", "(III)I"⟩
abbrev cX6_isWord : ByteArray := prog_8_method_25_code
def yX6_isWord : MethodName := ⟨RX6, "isWord", "(II)Z"⟩
abbrev cX6_puts : ByteArray := prog_8_method_26_code
def yX6_puts : MethodName := ⟨RX6, "puts", "(III)V"⟩
abbrev cX6_rawOf : ByteArray := prog_8_method_27_code
def yX6_rawOf : MethodName := ⟨RX6, "rawOf", "(II)I"⟩
abbrev cX6_write : ByteArray := prog_8_method_28_code
def yX6_write : MethodName := ⟨RX6, "write", "(III)I"⟩
abbrev cX6_badIn : ByteArray := prog_8_method_29_code
def yX6_badIn : MethodName := ⟨RX6, "badIn", "(I)I"⟩
abbrev cX6_isUsed : ByteArray := prog_8_method_30_code
def yX6_isUsed : MethodName := ⟨RX6, "isUsed", "(I)Z"⟩
abbrev cX6_wrongIn : ByteArray := prog_8_method_31_code
def yX6_wrongIn : MethodName := ⟨RX6, "wrongIn", "(IZ)I"⟩
abbrev cX6_takesOver : ByteArray := prog_8_method_32_code
def yX6_takesOver : MethodName := ⟨RX6, "takesOver", "(II)V"⟩
abbrev cX6_swaps : ByteArray := prog_8_method_33_code
def yX6_swaps : MethodName := ⟨RX6, "swaps", "(I)V"⟩
abbrev cX6_retires : ByteArray := prog_8_method_34_code
def yX6_retires : MethodName := ⟨RX6, "retires", "(I)V"⟩
abbrev cX6_marksBit : ByteArray := prog_8_method_35_code
def yX6_marksBit : MethodName := ⟨RX6, "marksBit", "(III)V"⟩
abbrev cX6_looksAt : ByteArray := prog_8_method_36_code
def yX6_looksAt : MethodName := ⟨RX6, "looksAt", "(II)I"⟩
abbrev cX6_read : ByteArray := prog_8_method_37_code
def yX6_read : MethodName := ⟨RX6, "read", "(II)I"⟩
abbrev cX6_raw : ByteArray := prog_8_method_38_code
def yX6_raw : MethodName := ⟨RX6, "raw", "(II)I"⟩
abbrev cX6_flip : ByteArray := prog_8_method_39_code
def yX6_flip : MethodName := ⟨RX6, "flip", "(III)I"⟩
abbrev cX6_stick : ByteArray := prog_8_method_40_code
def yX6_stick : MethodName := ⟨RX6, "stick", "(IIII)I"⟩
abbrev cX6_scrub : ByteArray := prog_8_method_41_code
def yX6_scrub : MethodName := ⟨RX6, "scrub", "(I)I"⟩
abbrev cX6_look : ByteArray := prog_8_method_42_code
def yX6_look : MethodName := ⟨RX6, "look", "(I)I"⟩
abbrev cX6_fate : ByteArray := prog_8_method_43_code
def yX6_fate : MethodName := ⟨RX6, "fate", "(III)I"⟩
abbrev cX6_marks : ByteArray := prog_8_method_44_code
def yX6_marks : MethodName := ⟨RX6, "marks", "(III)I"⟩
abbrev cX6_frame : ByteArray := prog_8_method_45_code
def yX6_frame : MethodName := ⟨RX6, "frame", "(I)I"⟩
abbrev cX6_place : ByteArray := prog_8_method_46_code
def yX6_place : MethodName := ⟨RX6, "place", "(I)I"⟩
abbrev cX6_retired : ByteArray := prog_8_method_47_code
def yX6_retired : MethodName := ⟨RX6, "retired", "(I)I"⟩
abbrev cX6_troubled : ByteArray := prog_8_method_48_code
def yX6_troubled : MethodName := ⟨RX6, "troubled", "(I)I"⟩
abbrev cX6_mends : ByteArray := prog_8_method_49_code
def yX6_mends : MethodName := ⟨RX6, "mends", "(I)I"⟩
abbrev cX6_tells : ByteArray := prog_8_method_50_code
def yX6_tells : MethodName := ⟨RX6, "tells", "(I)V"⟩
abbrev cX6_patterns : ByteArray := prog_8_method_51_code
def yX6_patterns : MethodName := ⟨RX6, "patterns", "(II)I"⟩
abbrev cX6_nextSet : ByteArray := prog_8_method_52_code
def yX6_nextSet : MethodName := ⟨RX6, "nextSet", "(I)I"⟩
abbrev cX6_weight : ByteArray := prog_8_method_53_code
def yX6_weight : MethodName := ⟨RX6, "weight", "()I"⟩
abbrev cX6_safe : ByteArray := prog_8_method_54_code
def yX6_safe : MethodName := ⟨RX6, "safe", "(III)J"⟩
abbrev cX6_wrongInUse : ByteArray := prog_8_method_55_code
def yX6_wrongInUse : MethodName := ⟨RX6, "wrongInUse", "(Z)I"⟩
abbrev cX6_many : ByteArray := prog_8_method_56_code
def yX6_many : MethodName := ⟨RX6, "many", "(I)I"⟩
def RJ6 : String := "java/lang/Integer"
abbrev cJ6_bitCount_0f7a4 : ByteArray := prog_9_method_49_code
def yJ6_bitCount_0f7a4 : MethodName := ⟨RJ6, "bitCount", "(I)I"⟩
def RJ9 : String := "java/lang/Math"
abbrev cJ9_max_7cf53 : ByteArray := prog_10_method_65_code
def yJ9_max_7cf53 : MethodName := ⟨RJ9, "max", "(II)I"⟩
def RJ7 : String := "java/util/Arrays"
abbrev cJ7_fill_53178 : ByteArray := prog_11_method_103_code
def yJ7_fill_53178 : MethodName := ⟨RJ7, "fill", "([II)V"⟩
def RL : String := "MendedBankLaw"
abbrev cL_law : ByteArray := code
abbrev vwCl : List vw_C := [(RX0, TX0, 11), (RX1, TX1, 3), (RX2, TX2, 5), (RX3, TX3, 3), (RX4, TX4, 10), (RX5, TX5, 3), (RX6, TX6, 20)]
/-- the words that stay, whatever a call resolves -/
def r_tbl : List Cond := lw_tbl.filter goodWord
theorem lk {w : Cond} (i : Nat) (h : tables_1[i]? = some w) (g : goodWord w = true := by rfl) : w ∈ r_tbl := List.mem_filter.mpr ⟨List.mem_append_right _ (List.mem_of_getElem? h), g⟩
theorem lks {w : Cond} (i : Nat) (h : (k2_sels lw_privs)[i]? = some w) (g : goodWord w = true := by rfl) : w ∈ r_tbl := List.mem_filter.mpr ⟨List.mem_append_left _ (List.mem_of_getElem? h), g⟩
abbrev r_M : Type := MethodName × ByteArray × Nat × Option FieldType
abbrev MX5_init : r_M := (yX5_init, cX5_init, 1, none)
abbrev MX2_init : r_M := (yX2_init, cX2_init, 1, none)
abbrev MX0_init : r_M := (yX0_init, cX0_init, 2, none)
abbrev MX1_init : r_M := (yX1_init, cX1_init, 1, none)
abbrev MX4_init : r_M := (yX4_init, cX4_init, 1, none)
abbrev MX3_init : r_M := (yX3_init, cX3_init, 2, none)
abbrev MX5_code : r_M := (yX5_code, cX5_code, 3, (some .int))
abbrev MX2_allows : r_M := (yX2_allows, cX2_allows, 2, (some .boolean))
abbrev MX2_choose : r_M := (yX2_choose, cX2_choose, 6, none)
abbrev MJ7_fill_53178 : r_M := (yJ7_fill_53178, cJ7_fill_53178, 4, none)
abbrev MX2_bestFreeColumn : r_M := (yX2_bestFreeColumn, cX2_bestFreeColumn, 7, (some .int))
abbrev MJ6_bitCount_0f7a4 : r_M := (yJ6_bitCount_0f7a4, cJ6_bitCount_0f7a4, 1, (some .int))
abbrev MX2_fullestRowWith : r_M := (yX2_fullestRowWith, cX2_fullestRowWith, 4, (some .int))
abbrev MJ9_max_7cf53 : r_M := (yJ9_max_7cf53, cJ9_max_7cf53, 2, (some .int))
abbrev MX2_give : r_M := (yX2_give, cX2_give, 3, none)
abbrev MX0_renew : r_M := (yX0_renew, cX0_renew, 2, none)
abbrev MX1_clear : r_M := (yX1_clear, cX1_clear, 1, none)
abbrev MX4_clear : r_M := (yX4_clear, cX4_clear, 1, none)
abbrev MX2_width : r_M := (yX2_width, cX2_width, 1, (some .int))
abbrev MX3_forget : r_M := (yX3_forget, cX3_forget, 1, none)
abbrev MX5_column : r_M := (yX5_column, cX5_column, 2, (some .int))
abbrev MX2_hasBit : r_M := (yX2_hasBit, cX2_hasBit, 2, (some .boolean))
abbrev MX2_columnOf : r_M := (yX2_columnOf, cX2_columnOf, 2, (some .int))
abbrev MX5_ones : r_M := (yX5_ones, cX5_ones, 2, (some .int))
abbrev MX2_hasRow : r_M := (yX2_hasRow, cX2_hasRow, 2, (some .boolean))
abbrev MX2_onesOfRow : r_M := (yX2_onesOfRow, cX2_onesOfRow, 2, (some .int))
abbrev MX5_word : r_M := (yX5_word, cX5_word, 2, (some .int))
abbrev MX2_stands : r_M := (yX2_stands, cX2_stands, 1, (some .boolean))
abbrev MX2_hasValue : r_M := (yX2_hasValue, cX2_hasValue, 2, (some .boolean))
abbrev MX2_wordOf : r_M := (yX2_wordOf, cX2_wordOf, 2, (some .int))
abbrev MX2_syndromeOf : r_M := (yX2_syndromeOf, cX2_syndromeOf, 4, (some .int))
abbrev MX5_syndrome : r_M := (yX5_syndrome, cX5_syndrome, 2, (some .int))
abbrev MX2_hasSet : r_M := (yX2_hasSet, cX2_hasSet, 2, (some .boolean))
abbrev MX2_allBits : r_M := (yX2_allBits, cX2_allBits, 1, (some .int))
abbrev MX5_mended : r_M := (yX5_mended, cX5_mended, 2, (some .int))
abbrev MX2_mend : r_M := (yX2_mend, cX2_mend, 4, (some .int))
abbrev MX5_write : r_M := (yX5_write, cX5_write, 4, (some .int))
abbrev MX5_hasWord : r_M := (yX5_hasWord, cX5_hasWord, 3, (some .boolean))
abbrev MX5_hasPage : r_M := (yX5_hasPage, cX5_hasPage, 2, (some .boolean))
abbrev MX5_isWord : r_M := (yX5_isWord, cX5_isWord, 1, (some .boolean))
abbrev MX0_keep : r_M := (yX0_keep, cX0_keep, 4, none)
abbrev MX0_putBits : r_M := (yX0_putBits, cX0_putBits, 4, none)
abbrev MX0_rowOf : r_M := (yX0_rowOf, cX0_rowOf, 3, (some .int))
abbrev MX0_placesOf : r_M := (yX0_placesOf, cX0_placesOf, 2, (some .int))
abbrev MX0_placesInUse : r_M := (yX0_placesInUse, cX0_placesInUse, 1, (some .int))
abbrev MX1_put : r_M := (yX1_put, cX1_put, 5, none)
abbrev MX5_read : r_M := (yX5_read, cX5_read, 4, (some .int))
abbrev MX0_lookAt : r_M := (yX0_lookAt, cX0_lookAt, 8, (some .int))
abbrev MX0_bitsOf : r_M := (yX0_bitsOf, cX0_bitsOf, 5, (some .int))
abbrev MX1_valuesIn : r_M := (yX1_valuesIn, cX1_valuesIn, 2, (some .int))
abbrev MX4_noteLook : r_M := (yX4_noteLook, cX4_noteLook, 5, none)
abbrev MX2_bitWithColumn : r_M := (yX2_bitWithColumn, cX2_bitWithColumn, 2, (some .int))
abbrev MX0_placeOf : r_M := (yX0_placeOf, cX0_placeOf, 2, (some .int))
abbrev MX1_addMark : r_M := (yX1_addMark, cX1_addMark, 3, none)
abbrev MX0_swapIfDue : r_M := (yX0_swapIfDue, cX0_swapIfDue, 2, (some .boolean))
abbrev MX1_badInPlace : r_M := (yX1_badInPlace, cX1_badInPlace, 4, (some .int))
abbrev MX1_isBad : r_M := (yX1_isBad, cX1_isBad, 3, (some .boolean))
abbrev MX1_marksAt : r_M := (yX1_marksAt, cX1_marksAt, 3, (some .int))
abbrev MX1_copyPlace : r_M := (yX1_copyPlace, cX1_copyPlace, 4, none)
abbrev MX1_valueAt : r_M := (yX1_valueAt, cX1_valueAt, 3, (some .int))
abbrev MX1_renewCell : r_M := (yX1_renewCell, cX1_renewCell, 4, none)
abbrev MX1_setValue : r_M := (yX1_setValue, cX1_setValue, 4, none)
abbrev MX1_loosen : r_M := (yX1_loosen, cX1_loosen, 3, none)
abbrev MX0_retireIfDue : r_M := (yX0_retireIfDue, cX0_retireIfDue, 4, (some .boolean))
abbrev MX0_spareFramesLeft : r_M := (yX0_spareFramesLeft, cX0_spareFramesLeft, 1, (some .int))
abbrev MX1_badInFrame : r_M := (yX1_badInFrame, cX1_badInFrame, 6, (some .int))
abbrev MX1_copyFrame : r_M := (yX1_copyFrame, cX1_copyFrame, 7, none)
abbrev MX4_noteMending : r_M := (yX4_noteMending, cX4_noteMending, 4, none)
abbrev MX2_valueOf : r_M := (yX2_valueOf, cX2_valueOf, 2, (some .int))
abbrev MX5_raw : r_M := (yX5_raw, cX5_raw, 3, (some .int))
abbrev MX5_flip : r_M := (yX5_flip, cX5_flip, 4, (some .int))
abbrev MX0_turn : r_M := (yX0_turn, cX0_turn, 4, (some .int))
abbrev MX1_turn : r_M := (yX1_turn, cX1_turn, 4, (some .int))
abbrev MX5_stick : r_M := (yX5_stick, cX5_stick, 5, (some .int))
abbrev MX0_loosen : r_M := (yX0_loosen, cX0_loosen, 5, (some .int))
abbrev MX0_hold : r_M := (yX0_hold, cX0_hold, 7, (some .int))
abbrev MX1_hold : r_M := (yX1_hold, cX1_hold, 4, none)
abbrev MX5_scrub : r_M := (yX5_scrub, cX5_scrub, 4, (some .int))
abbrev MX0_scrubNext : r_M := (yX0_scrubNext, cX0_scrubNext, 4, (some .boolean))
abbrev MX0_stepScrubber : r_M := (yX0_stepScrubber, cX0_stepScrubber, 1, none)
abbrev MX4_latest : r_M := (yX4_latest, cX4_latest, 2, (some .int))
abbrev MX5_look : r_M := (yX5_look, cX5_look, 2, (some .int))
abbrev MX0_log : r_M := (yX0_log, cX0_log, 1, (some (.object "MendedBank$Log")))
abbrev MX5_fate : r_M := (yX5_fate, cX5_fate, 6, (some .int))
abbrev MX0_keptValue : r_M := (yX0_keptValue, cX0_keptValue, 3, (some .int))
abbrev MX5_marks : r_M := (yX5_marks, cX5_marks, 5, (some .int))
abbrev MX2_hasPlace : r_M := (yX2_hasPlace, cX2_hasPlace, 2, (some .boolean))
abbrev MX0_marksOf : r_M := (yX0_marksOf, cX0_marksOf, 4, (some .int))
abbrev MX5_frame : r_M := (yX5_frame, cX5_frame, 2, (some .int))
abbrev MX0_frameOf : r_M := (yX0_frameOf, cX0_frameOf, 2, (some .int))
abbrev MX5_place : r_M := (yX5_place, cX5_place, 2, (some .int))
abbrev MX5_retired : r_M := (yX5_retired, cX5_retired, 2, (some .int))
abbrev MX0_retiredFrame : r_M := (yX0_retiredFrame, cX0_retiredFrame, 2, (some .int))
abbrev MX5_troubled : r_M := (yX5_troubled, cX5_troubled, 2, (some .int))
abbrev MX4_troubledPage : r_M := (yX4_troubledPage, cX4_troubledPage, 2, (some .int))
abbrev MX5_mends : r_M := (yX5_mends, cX5_mends, 2, (some .int))
abbrev MX4_mendsOf : r_M := (yX4_mendsOf, cX4_mendsOf, 2, (some .int))
abbrev MX5_patterns : r_M := (yX5_patterns, cX5_patterns, 3, (some .int))
abbrev MX3_countOf : r_M := (yX3_countOf, cX3_countOf, 3, (some .int))
abbrev MX3_countAll : r_M := (yX3_countAll, cX3_countAll, 5, none)
abbrev MX3_allOf : r_M := (yX3_allOf, cX3_allOf, 4, (some .int))
abbrev MX3_missedOf : r_M := (yX3_missedOf, cX3_missedOf, 2, (some .int))
abbrev MX3_rightlyMendedOf : r_M := (yX3_rightlyMendedOf, cX3_rightlyMendedOf, 2, (some .int))
abbrev MX3_mendedOf : r_M := (yX3_mendedOf, cX3_mendedOf, 4, (some .int))
abbrev MX5_weight : r_M := (yX5_weight, cX5_weight, 1, (some .int))
abbrev MX2_onesOfAllRows : r_M := (yX2_onesOfAllRows, cX2_onesOfAllRows, 3, (some .int))
abbrev MX5_safe : r_M := (yX5_safe, cX5_safe, 9, (some .long))
abbrev MX5_safeWalks : r_M := (yX5_safeWalks, cX5_safeWalks, 6, (some .long))
abbrev MX5_many : r_M := (yX5_many, cX5_many, 2, (some .int))
abbrev MX0_tally : r_M := (yX0_tally, cX0_tally, 2, (some .int))
abbrev MX4_allLooks : r_M := (yX4_allLooks, cX4_allLooks, 1, (some .int))
abbrev MX4_looksOf : r_M := (yX4_looksOf, cX4_looksOf, 2, (some .int))
abbrev MX0_badInUse : r_M := (yX0_badInUse, cX0_badInUse, 3, (some .int))
abbrev MX0_stuckInUse : r_M := (yX0_stuckInUse, cX0_stuckInUse, 3, (some .int))
abbrev MX1_stuckInFrame : r_M := (yX1_stuckInFrame, cX1_stuckInFrame, 5, (some .int))
abbrev MX6_init : r_M := (yX6_init, cX6_init, 1, none)
abbrev MX6_code : r_M := (yX6_code, cX6_code, 5, (some .int))
abbrev MX6_within : r_M := (yX6_within, cX6_within, 3, (some .boolean))
abbrev MX6_mostData : r_M := (yX6_mostData, cX6_mostData, 1, (some .int))
abbrev MX6_nextColumn : r_M := (yX6_nextColumn, cX6_nextColumn, 7, (some .int))
abbrev MX6_sizeOf : r_M := (yX6_sizeOf, cX6_sizeOf, 3, (some .int))
abbrev MX6_isIn : r_M := (yX6_isIn, cX6_isIn, 2, (some .int))
abbrev MX6_isChosen : r_M := (yX6_isChosen, cX6_isChosen, 4, (some .boolean))
abbrev MX6_fullestWith : r_M := (yX6_fullestWith, cX6_fullestWith, 5, (some .int))
abbrev MX6_begins : r_M := (yX6_begins, cX6_begins, 2, none)
abbrev MX6_bits : r_M := (yX6_bits, cX6_bits, 1, (some .int))
abbrev MX6_column : r_M := (yX6_column, cX6_column, 2, (some .int))
abbrev MX6_isBit : r_M := (yX6_isBit, cX6_isBit, 2, (some .boolean))
abbrev MX6_ones : r_M := (yX6_ones, cX6_ones, 2, (some .int))
abbrev MX6_word : r_M := (yX6_word, cX6_word, 2, (some .int))
abbrev MX6_wordOf : r_M := (yX6_wordOf, cX6_wordOf, 2, (some .int))
abbrev MX6_syndromeOf : r_M := (yX6_syndromeOf, cX6_syndromeOf, 4, (some .int))
abbrev MX6_syndrome : r_M := (yX6_syndrome, cX6_syndrome, 2, (some .int))
abbrev MX6_isSet : r_M := (yX6_isSet, cX6_isSet, 2, (some .boolean))
abbrev MX6_mended : r_M := (yX6_mended, cX6_mended, 2, (some .int))
abbrev MX6_mendedOf : r_M := (yX6_mendedOf, cX6_mendedOf, 4, (some .int))
abbrev MX6_bitOf : r_M := (yX6_bitOf, cX6_bitOf, 3, (some .int))
abbrev MX6_write : r_M := (yX6_write, cX6_write, 4, (some .int))
abbrev MX6_isWord : r_M := (yX6_isWord, cX6_isWord, 3, (some .boolean))
abbrev MX6_puts : r_M := (yX6_puts, cX6_puts, 6, none)
abbrev MX6_cellOf : r_M := (yX6_cellOf, cX6_cellOf, 4, (some .int))
abbrev MX6_at : r_M := (yX6_at, cX6_at, 3, (some .int))
abbrev MX6_read : r_M := (yX6_read, cX6_read, 4, (some .int))
abbrev MX6_looksAt : r_M := (yX6_looksAt, cX6_looksAt, 7, (some .int))
abbrev MX6_rawOf : r_M := (yX6_rawOf, cX6_rawOf, 5, (some .int))
abbrev MX6_marksBit : r_M := (yX6_marksBit, cX6_marksBit, 4, none)
abbrev MX6_badIn : r_M := (yX6_badIn, cX6_badIn, 4, (some .int))
abbrev MX6_swaps : r_M := (yX6_swaps, cX6_swaps, 4, none)
abbrev MX6_takesOver : r_M := (yX6_takesOver, cX6_takesOver, 3, none)
abbrev MX6_wrongIn : r_M := (yX6_wrongIn, cX6_wrongIn, 8, (some .int))
abbrev MX6_isUsed : r_M := (yX6_isUsed, cX6_isUsed, 3, (some .boolean))
abbrev MX6_retires : r_M := (yX6_retires, cX6_retires, 5, none)
abbrev MX6_raw : r_M := (yX6_raw, cX6_raw, 3, (some .int))
abbrev MX6_flip : r_M := (yX6_flip, cX6_flip, 7, (some .int))
abbrev MX6_stick : r_M := (yX6_stick, cX6_stick, 7, (some .int))
abbrev MX6_scrub : r_M := (yX6_scrub, cX6_scrub, 7, (some .int))
abbrev MX6_look : r_M := (yX6_look, cX6_look, 2, (some .int))
abbrev MX6_fate : r_M := (yX6_fate, cX6_fate, 7, (some .int))
abbrev MX6_marks : r_M := (yX6_marks, cX6_marks, 4, (some .int))
abbrev MX6_frame : r_M := (yX6_frame, cX6_frame, 2, (some .int))
abbrev MX6_place : r_M := (yX6_place, cX6_place, 2, (some .int))
abbrev MX6_retired : r_M := (yX6_retired, cX6_retired, 2, (some .int))
abbrev MX6_troubled : r_M := (yX6_troubled, cX6_troubled, 2, (some .int))
abbrev MX6_mends : r_M := (yX6_mends, cX6_mends, 2, (some .int))
abbrev MX6_patterns : r_M := (yX6_patterns, cX6_patterns, 4, (some .int))
abbrev MX6_tells : r_M := (yX6_tells, cX6_tells, 4, none)
abbrev MX6_nextSet : r_M := (yX6_nextSet, cX6_nextSet, 3, (some .int))
abbrev MX6_weight : r_M := (yX6_weight, cX6_weight, 3, (some .int))
abbrev MX6_safe : r_M := (yX6_safe, cX6_safe, 9, (some .long))
abbrev MX6_many : r_M := (yX6_many, cX6_many, 2, (some .int))
abbrev MX6_wrongInUse : r_M := (yX6_wrongInUse, cX6_wrongInUse, 4, (some .int))
theorem iwX0 : ∀ w ∈ u_ws RX0 TX0 11, w ∈ r_tbl := by decide +kernel
theorem iwX1 : ∀ w ∈ u_ws RX1 TX1 3, w ∈ r_tbl := by decide +kernel
theorem iwX2 : ∀ w ∈ u_ws RX2 TX2 5, w ∈ r_tbl := by decide +kernel
theorem iwX3 : ∀ w ∈ u_ws RX3 TX3 3, w ∈ r_tbl := by decide +kernel
theorem iwX4 : ∀ w ∈ u_ws RX4 TX4 10, w ∈ r_tbl := by decide +kernel
theorem iwX5 : ∀ w ∈ u_ws RX5 TX5 3, w ∈ r_tbl := by decide +kernel
theorem iwX6 : ∀ w ∈ u_ws RX6 TX6 20, w ∈ r_tbl := by decide +kernel
end
section
/-! The walk of a method over ONE pool of 34 cells whose numbers are fixed ahead (class and reference together), its ints a function s c i (cell c, place i): 'G' (go on from here), 'Ev' (a call comes to its end), a row an instruction. -/
abbrev r_Sg : Type := Nat → Nat → Int32
abbrev r_Sh : Type := (Nat × Bool) ⊕ (Nat × List (Option Nat))
/-- the cells: 0 MendedBank, 1 Code (2 columns, 3 rowOnes, 4 bitByColumn), 5 Bank (6 Cells: 7 values, 8 stuck, 9 marks; 10 Log: 11 looks, 12 mends, 13 troubled; 14 frames, 15 kept, 16 retired), 17 FlipTable (18 counts), 19 the reference and its arrays -/
def r_SH : List r_Sh := [.inr (5, [some 1, some 5, some 17]), .inr (2, [some 2, some 3, some 4, none, none]), .inl (20, false), .inl (6, false), .inl (64, false),
  .inr (0, [some 1, some 6, some 10, some 14, some 15, some 16, none, none, none, none, none]), .inr (1, [some 7, some 8, some 9]), .inl (24, false), .inl (24, false), .inl (504, false),
  .inr (4, [some 11, some 12, some 13, none, none, none, none, none, none, none]), .inl (3, false), .inl (4, false), .inl (4, false), .inl (4, false), .inl (16, false), .inl (2, false),
  .inr (3, [some 1, some 18, none]), .inl (320, false),
  .inr (6, [none, none, some 20, some 21, some 22, some 23, some 24, some 25, some 26, some 27, some 28, some 29, none, some 30, none, none, none, some 31, some 32, some 33]),
  .inl (20, false), .inl (6, false), .inl (504, false), .inl (504, true), .inl (504, false), .inl (4, false), .inl (20, false), .inl (16, false), .inl (4, false), .inl (4, false), .inl (2, false), .inl (3, false), .inl (6, false), .inl (5, false)]
abbrev r_En : Type := ((Nat → ClassId) × (Nat → Nat → Nat)) × (Nat → Nat) × ClassId × ClassId
def r_fs (ad : Nat → Nat) (s : r_Sg) (k : Nat) (fl : List (Option Nat)) : List Value := fl.mapIdx (fun i o => match o with
  | some j => .ref (ad j)
  | none => .int (s k i))
def r_e (E : r_En) (s : r_Sg) (k : Nat) (sh : r_Sh) : Nat × va_E := (E.2.1 k, match sh with
  | .inl q => .inl (bif q.2 then E.2.2.2 else E.2.2.1, q.1, .inl (s k))
  | .inr q => .inr (q.1, r_fs E.2.1 s k q.2))
def r_W (E : r_En) (s : r_Sg) : va_W := r_SH.mapIdx (r_e E s)
def r_up (s : r_Sg) (k i : Nat) (v : Int32) : r_Sg := fun k' => if k' = k then upd (s k') i v else s k'
theorem r_at (E : r_En) (s : r_Sg) {k : Nat} {sh : r_Sh} (h : r_SH[k]? = some sh) : (r_W E s)[k]? = some (r_e E s k sh) := by simp [r_W, List.getElem?_mapIdx, h]
theorem r_at_inv {E : r_En} {s : r_Sg} {k : Nat} {q : Nat × va_E} (h : (r_W E s)[k]? = some q) : ∃ sh, r_SH[k]? = some sh ∧ q = r_e E s k sh := by
  simp only [r_W, List.getElem?_mapIdx] at h
  cases hs : r_SH[k]? with
  | none => rw [hs] at h; cases h
  | some sh => rw [hs] at h; exact ⟨sh, rfl, (Option.some.inj h).symm⟩
theorem r_len (E : r_En) (s : r_Sg) : (r_W E s).length = 34 := by simp [r_W, r_SH]
theorem r_kk {k : Nat} {sh : r_Sh} (h : r_SH[k]? = some sh) : k < 34 := (List.getElem?_eq_some_iff.mp h).1
theorem r_up_ne (s : r_Sg) {k c : Nat} (i : Nat) (v : Int32) (h : c ≠ k) : r_up s k i v c = s c := by simp [r_up, h]
theorem r_up_eq (s : r_Sg) (k i : Nat) (v : Int32) : r_up s k i v k = upd (s k) i v := by simp [r_up]
theorem r_set (E : r_En) (s : r_Sg) {k : Nat} {sh : r_Sh} (h : r_SH[k]? = some sh) (i : Nat) (v : Int32) {e : va_E} (he : r_e E (r_up s k i v) k sh = (E.2.1 k, e)) : (r_W E s).set k (E.2.1 k, e) = r_W E (r_up s k i v) := by
  have hl : k < (r_W E s).length := by rw [r_len]; exact r_kk h
  apply List.ext_getElem?
  intro j
  by_cases hj : j = k
  · subst hj
    rw [List.getElem?_set_self hl, r_at E (r_up s j i v) h, he]
  · rw [List.getElem?_set_ne (Ne.symm hj)]
    simp only [r_W, List.getElem?_mapIdx]
    cases hs : r_SH[j]? with
    | none => rfl
    | some sh2 =>
      simp only [Option.map_some]
      congr 1
      unfold r_e
      cases sh2 with
      | inl q => simp only [r_up_ne s i v hj]
      | inr q =>
        simp only [r_fs]
        rw [r_up_ne s i v hj]
theorem r_setF (E : r_En) (s : r_Sg) {k ci i : Nat} {fl : List (Option Nat)} (h : r_SH[k]? = some (.inr (ci, fl))) (hf : fl[i]? = some none) (v : Int32) : (r_W E s).set k (E.2.1 k, .inr (ci, (r_fs E.2.1 s k fl).set i (.int v))) = r_W E (r_up s k i v) := by
  refine r_set E s h i v ?_
  refine Prod.ext rfl (congrArg Sum.inr (Prod.ext rfl ?_))
  show r_fs E.2.1 (r_up s k i v) k fl = (r_fs E.2.1 s k fl).set i (.int v)
  apply List.ext_getElem?
  intro j
  by_cases hj : j = i
  · subst hj
    have hl : j < fl.length := (List.getElem?_eq_some_iff.mp hf).1
    rw [List.getElem?_set_self (by simpa [r_fs] using hl)]
    simp only [r_fs, List.getElem?_mapIdx, hf, Option.map_some, r_up_eq]
    simp [upd]
  · rw [List.getElem?_set_ne (Ne.symm hj)]
    simp only [r_fs, List.getElem?_mapIdx, r_up_eq]
    cases fl[j]? with
    | none => rfl
    | some o => cases o with
      | none => simp [upd, hj]
      | some x => rfl
theorem r_setA (E : r_En) (s : r_Sg) {k n : Nat} {b : Bool} (h : r_SH[k]? = some (.inl (n, b))) (i : Nat) (v : Int32) : (r_W E s).set k (E.2.1 k, .inl (bif b then E.2.2.2 else E.2.2.1, n, .inl (upd (s k) i v))) = r_W E (r_up s k i v) := by
  refine r_set E s h i v ?_
  simp [r_e, r_up_eq]
/-- which cells a call may change -/
def r_A (ad : Nat → Nat) (sz : Nat) : Nat → Prop := fun q => (∃ k, k < 34 ∧ q = ad k) ∨ sz ≤ q
def r_v (ad : Nat → Nat) : Value → Value
  | .ref k => .ref (ad k)
  | v => v
theorem r_v_cat (ad : Nat → Nat) (v : Value) : (r_v ad v).category = v.category := by cases v <;> rfl
/-- the locals: null is 'nothing known' -/
def r_L (ad : Nat → Nat) (ls : Array Slot) (nL : Nat) (L : List Value) : Prop := ls.size = nL ∧ lv_wf ls ∧ ∀ (i : Nat) (v : Value), L[i]? = some v → v ≠ .null → ls[i]? = some (.val (r_v ad v))
def r_lv (ad : Nat → Nat) : Nat → List Value → List (Nat × Value)
  | _, [] => []
  | k, v :: L => if v = .null then r_lv ad (k + 1) L else (k, r_v ad v) :: r_lv ad (k + 1) L
theorem r_lv_mem (ad : Nat → Nat) : ∀ (L : List Value) (k i : Nat) (v : Value), L[i]? = some v → v ≠ .null → (k + i, r_v ad v) ∈ r_lv ad k L
  | [], k, i, v, h, _ => by simp at h
  | w :: L, k, i, v, h, hv => by
    cases i with
    | zero =>
      simp at h
      subst h
      simp [r_lv, hv]
    | succ i =>
      have h2 : L[i]? = some v := by simpa using h
      have h3 := r_lv_mem ad L (k + 1) i v h2 hv
      rw [show k + 1 + i = k + (i + 1) by omega] at h3
      unfold r_lv
      split
      · exact h3
      · exact List.mem_cons_of_mem _ h3
theorem r_lv_inv (ad : Nat → Nat) : ∀ (L : List Value) (k : Nat) (q : Nat × Value), q ∈ r_lv ad k L → ∃ i v, L[i]? = some v ∧ v ≠ .null ∧ q = (k + i, r_v ad v)
  | [], k, q, h => by simp [r_lv] at h
  | w :: L, k, q, h => by
    unfold r_lv at h
    split at h
    · obtain ⟨i, v, h1, h2, h3⟩ := r_lv_inv ad L (k + 1) q h
      exact ⟨i + 1, v, by simpa using h1, h2, by rw [h3]; congr 1; omega⟩
    · rcases List.mem_cons.mp h with rfl | h
      · exact ⟨0, w, by simp, by assumption, rfl⟩
      · obtain ⟨i, v, h1, h2, h3⟩ := r_lv_inv ad L (k + 1) q h
        exact ⟨i + 1, v, by simpa using h1, h2, by rw [h3]; congr 1; omega⟩
theorem r_L.has {ad : Nat → Nat} {ls : Array Slot} {nL : Nat} {L : List Value} (h : r_L ad ls nL L) : lv_has ls nL (r_lv ad 0 L) := by
  refine ⟨h.1, h.2.1, fun q hq => ?_⟩
  obtain ⟨i, v, h1, h2, h3⟩ := r_lv_inv ad L 0 q hq
  subst h3
  simpa using h.2.2 i v h1 h2
/-- a local by its place -/
def r_lg : List Value → Nat → Value
  | [], _ => .null
  | v :: _, 0 => v
  | _ :: L, i + 1 => r_lg L i
theorem r_lg_some : ∀ {L : List Value} {i : Nat} {v : Value}, r_lg L i = v → v ≠ .null → L[i]? = some v
  | [], i, v, h, hv => absurd h.symm hv
  | w :: L, 0, v, h, hv => by simpa [r_lg] using h
  | w :: L, i + 1, v, h, hv => by simpa using r_lg_some (L := L) (i := i) h hv
/-- a store of one place: the place before it holds no long -/
def r_ls : List Value → Nat → Value → List Value
  | [], _, _ => []
  | _ :: L, 0, v => v :: L
  | w :: L, i + 1, v => w :: r_ls L i v
theorem r_ls_set : ∀ (L : List Value) (i : Nat) (v : Value), r_ls L i v = L.set i v
  | [], _, _ => rfl
  | _ :: _, 0, _ => rfl
  | w :: L, i + 1, v => by simp [r_ls, r_ls_set L i v]
def r_lg2 : Value → Bool
  | .long _ => true
  | .double _ => true
  | _ => false
def r_pv (L : List Value) : Nat → Bool
  | 0 => true
  | i + 1 => !(r_lg2 (r_lg L i))
theorem r_lg2_cat {v : Value} (h : r_lg2 v = false) : ¬ v.category = 2 := by cases v <;> simp_all [r_lg2, Value.category]
theorem r_lg_get {L : List Value} {i : Nat} {v : Value} (h : L[i]? = some v) : r_lg L i = v := by
  induction L generalizing i with
  | nil => simp at h
  | cons w L ih =>
    cases i with
    | zero => simpa [r_lg] using h
    | succ i => exact ih (by simpa using h)
theorem r_L.set {ad : Nat → Nat} {ls ls' : Array Slot} {nL : Nat} {L : List Value} (h : r_L ad ls nL L) {i : Nat} {v : Value} (hp : r_pv L i = true) (h2 : lv_has ls' nL ((i, r_v ad v) :: (r_lv ad 0 L).filter (fun q => !(q.1 == i) && !(q.1 + 1 == i && q.2.category == 2)))) : r_L ad ls' nL (r_ls L i v) := by
  refine ⟨h2.1, h2.2.1, fun j w hj hw => ?_⟩
  rw [r_ls_set] at hj
  by_cases hji : j = i
  · subst hji
    have hl : j < L.length := by
      have := (List.getElem?_eq_some_iff.mp hj).1
      simpa using this
    rw [List.getElem?_set_self hl] at hj
    cases hj
    exact h2.2.2 (j, r_v ad v) (List.mem_cons_self)
  · rw [List.getElem?_set_ne (Ne.symm hji)] at hj
    refine h2.2.2 (j, r_v ad w) (List.mem_cons_of_mem _ (List.mem_filter.mpr ⟨by simpa using r_lv_mem ad L 0 j w hj hw, ?_⟩))
    simp only [r_v_cat]
    by_cases hc : j + 1 = i
    · subst hc
      have h3 : r_lg2 w = false := by
        simp only [r_pv, r_lg_get hj] at hp
        simpa using hp
      have h4 := r_lg2_cat h3
      simp [h4]
    · simp [hji, hc]
theorem r_L.set2 {ad : Nat → Nat} {ls ls' : Array Slot} {nL : Nat} {L : List Value} (h : r_L ad ls nL L) {i : Nat} {v : Value} (hp : r_pv L i = true) (h2 : lv_has ls' nL ((i, r_v ad v) :: (r_lv ad 0 L).filter (fun q => !(q.1 == i) && (!(q.1 == i + 1) && !(q.1 + 1 == i && q.2.category == 2))))) : r_L ad ls' nL (r_ls (r_ls L i v) (i + 1) .null) := by
  refine ⟨h2.1, h2.2.1, fun j w hj hw => ?_⟩
  rw [r_ls_set, r_ls_set] at hj
  by_cases hj1 : j = i + 1
  · subst hj1
    rw [List.getElem?_set] at hj
    simp only [if_true] at hj
    split at hj
    · cases hj; exact absurd rfl hw
    · cases hj
  · rw [List.getElem?_set_ne (Ne.symm hj1)] at hj
    by_cases hji : j = i
    · subst hji
      have hl : j < L.length := by
        have := (List.getElem?_eq_some_iff.mp hj).1
        simpa using this
      rw [List.getElem?_set_self hl] at hj
      cases hj
      exact h2.2.2 (j, r_v ad v) (List.mem_cons_self)
    · rw [List.getElem?_set_ne (Ne.symm hji)] at hj
      refine h2.2.2 (j, r_v ad w) (List.mem_cons_of_mem _ (List.mem_filter.mpr ⟨by simpa using r_lv_mem ad L 0 j w hj hw, ?_⟩))
      simp only [r_v_cat]
      by_cases hc : j + 1 = i
      · subst hc
        have h3 : r_lg2 w = false := by
          simp only [r_pv, r_lg_get hj] at hp
          simpa using hp
        have h4 := r_lg2_cat h3
        simp [h4, hj1]
      · simp [hji, hc, hj1]
/-- the static array of the class: 4, 11, 14; it is 'cell 98', the script 'cell 99' -/
def r_md : Nat → Value := fun j => .int (if j = 0 then 4 else if j = 1 then 11 else 14)
def r_St (ad : Nat → Nat) (A : Nat → Prop) (U : State) (H : Heap) : Prop := va_Z "MendedBank$Code" "MOST_DATA" "[I" (.ref (ad 98)) A U H ∧ va_T .int (ad 98) 3 r_md A U H
abbrev r_X : Type := Option (Nat × (Nat → Int32))
def r_XF (ad : Nat → Nat) (A : Nat → Prop) (s : State) (X : r_X) : Prop := ∀ q, X = some q → va_X (ad 99) q.1 q.2 s s.heap ∧ ad 99 < s.heap.size ∧ ¬ A (ad 99)
abbrev r_ty (E : r_En) : List (ClassId × FieldType) := [(E.2.2.1, .int), (E.2.2.2, .boolean)]
abbrev r_rm (h : Nat) : Room := { frames := h, cells := 0, slots := 0, locals := 30 * h }
/-- a call of a method comes to its end: its answer, and what the ints are then -/
def Ev (h : Nat) (M : r_M) (as : List Value) (s : r_Sg) (r : Option Value) (s' : r_Sg) : Prop := ∀ (l : Launch) (E : r_En) (sz : Nat),
  Met l M.1 (.code M.1 M.2.1 M.2.2.1 M.2.2.2 :: r_tbl) (r_rm h) (va_Pc (as.map (r_v E.2.1)) (fun U => U.heap.size = sz ∧ va_P E.1 vwCl (r_W E s) U.heap ∧ va_K E.1 vwCl (r_ty E) U ∧ va_D (fun _ => True) (r_W E s) ∧ r_St E.2.1 (r_A E.2.1 sz) U U.heap))
    (fun _ st oc t => (oc = .returned (r.map (r_v E.2.1)) ∧ va_P E.1 vwCl (r_W E s') t.heap) ∧ va_F (r_A E.2.1 sz) st t) 0 0 (r_A E.2.1 sz)
/-- what a return gives -/
def r_rt : Option FieldType → Option Value → Prop
  | none, none => True
  | some ty, some (.int v) => narrow ty (.int v) = .int v ∧ (ty = .int ∨ ty = .boolean)
  | some ty, some (.long _) => ty = .long
  | some ty, some (.ref _) => ∃ n, ty = .object n
  | _, _ => False
def r_ri : Instr → List Value → Option Value → Prop
  | .ireturn, [.int v], some (.int w) => v = w
  | .lreturn, [.long v], some (.long w) => v = w
  | .areturn, [.ref v], some (.ref w) => v = w
  | .return_, [], none => True
  | _, _, _ => False
/-- what stands fast while a method runs -/
def r_C (M : r_M) (h : Nat) (X : r_X) (Post : Option Value → r_Sg → Prop) (E : r_En) (p : Program) (l : Launch) (e : Env) (R : Room) (s : State) (m : MethodId) (args : Array Value) (below : List Frame) (meth : Method) (c : Code) (A : Nat → Prop) (cells slots : Nat) (Q : State → Prop) : Prop :=
  p.tables.exec = Jvm.exec ∧ c.code = M.2.1 ∧ c.maxLocals = M.2.2.1 ∧ s.vm.findClass M.1.cls = some m.cls ∧ (∀ w ∈ r_tbl, w.before args s = true) ∧ va_K E.1 vwCl (r_ty E) s ∧ (∀ q, s.heap.size ≤ q → A q) ∧ (∀ k, k < 34 → A (E.2.1 k)) ∧ r_St E.2.1 A s s.heap ∧ r_XF E.2.1 A s X ∧
  (h ≤ R.frames ∧ 30 * h ≤ R.locals) ∧ (cells ≤ R.cells ∧ slots ≤ R.slots) ∧
  (∀ (pc : Nat) (i : Instr) (r : Option Value) (σ : r_Sg) (S : List Value) (H : Heap) (locs : List Loc) (ls : Array Slot), decode M.2.1 pc = .ok (i, 1) → r_ri i S r → r_rt M.2.2.2 r → Post r σ → va_P E.1 vwCl (r_W E σ) H → va_D A (r_W E σ) → va_S A s.heap H locs →
    W p l e R s m args below meth c H locs cells slots Q (F0 m pc ls (S.map (r_v E.2.1))))
/-- from here the method comes to its end, with Post of its answer and its ints -/
def G (M : r_M) (h : Nat) (X : r_X) (Post : Option Value → r_Sg → Prop) (pc : Nat) (L S : List Value) (σ : r_Sg) : Prop :=
  ∀ (E : r_En) (p : Program) (l : Launch) (e : Env) (R : Room) (s : State) (m : MethodId) (args : Array Value) (below : List Frame) (meth : Method) (c : Code) (A : Nat → Prop) (cells slots : Nat) (Q : State → Prop), r_C M h X Post E p l e R s m args below meth c A cells slots Q →
  ∀ (H : Heap) (locs : List Loc) (ls : Array Slot), va_P E.1 vwCl (r_W E σ) H → va_D A (r_W E σ) → va_S A s.heap H locs → r_L E.2.1 ls M.2.2.1 L → W p l e R s m args below meth c H locs cells slots Q (F0 m pc ls (S.map (r_v E.2.1)))
end
section
section Rows
variable {M : r_M} {h : Nat} {X : r_X} {Post : Option Value → r_Sg → Prop} {pc : Nat} {L S : List Value} {σ : r_Sg}
theorem g_iconst {n : Int} {v : Int32} (d : decode M.2.1 pc = .ok (.iconst n, 1)) (hv : Int32.ofInt n = v) (k : G M h X Post (pc + 1) L (.int v :: S) σ) : G M h X Post pc L S σ := by
  intro E p l e R s m args below meth c A cells slots Q C H locs ls hP hD hS hL
  exact lv_iconst C.1 C.2.1 d hv (k E p l e R s m args below meth c A cells slots Q C H locs ls hP hD hS hL)
theorem g_bipush {n : Int} {v : Int32} (d : decode M.2.1 pc = .ok (.bipush n, 2)) (hv : (Int8.ofInt n).toInt32 = v) (k : G M h X Post (pc + 2) L (.int v :: S) σ) : G M h X Post pc L S σ := by
  intro E p l e R s m args below meth c A cells slots Q C H locs ls hP hD hS hL
  exact lv_bipush C.1 C.2.1 d hv (k E p l e R s m args below meth c A cells slots Q C H locs ls hP hD hS hL)
theorem g_sipush {n : Int} {v : Int32} (d : decode M.2.1 pc = .ok (.sipush n, 3)) (hv : (Int16.ofInt n).toInt32 = v) (k : G M h X Post (pc + 3) L (.int v :: S) σ) : G M h X Post pc L S σ := by
  intro E p l e R s m args below meth c A cells slots Q C H locs ls hP hD hS hL
  exact lv_sipush C.1 C.2.1 d hv (k E p l e R s m args below meth c A cells slots Q C H locs ls hP hD hS hL)
theorem g_lconst {n : Fin 2} {v : Int64} (d : decode M.2.1 pc = .ok (.lconst n, 1)) (hv : Int64.ofNat (n : Nat) = v) (k : G M h X Post (pc + 1) L (.long v :: S) σ) : G M h X Post pc L S σ := by
  intro E p l e R s m args below meth c A cells slots Q C H locs ls hP hD hS hL
  exact lv_lconst C.1 C.2.1 d hv (k E p l e R s m args below meth c A cells slots Q C H locs ls hP hD hS hL)
theorem g_ldcw {n : Nat} {v : Int32} (d : decode M.2.1 pc = .ok (.ldc_w n, 3)) (hv : Cond.constant M.1.cls n v ∈ r_tbl) (k : G M h X Post (pc + 3) L (.int v :: S) σ) : G M h X Post pc L S σ := by
  intro E p l e R s m args below meth c A cells slots Q C H locs ls hP hD hS hL
  exact lv_ldcw C.1 C.2.1 C.2.2.2.1 (C.2.2.2.2.1 _ hv) d (k E p l e R s m args below meth c A cells slots Q C H locs ls hP hD hS hL)
theorem g_ldc2 {n : Nat} {v : Int64} (d : decode M.2.1 pc = .ok (.ldc2_w n, 3)) (hv : Cond.constantLong M.1.cls n v ∈ r_tbl) (k : G M h X Post (pc + 3) L (.long v :: S) σ) : G M h X Post pc L S σ := by
  intro E p l e R s m args below meth c A cells slots Q C H locs ls hP hD hS hL
  exact lv_ldc2 C.1 C.2.1 C.2.2.2.1 (C.2.2.2.2.1 _ hv) d (k E p l e R s m args below meth c A cells slots Q C H locs ls hP hD hS hL)
theorem g_iload_n {n : Fin 4} {x : Int32} (d : decode M.2.1 pc = .ok (.iload_n n, 1)) (hl : r_lg L n = .int x) (k : G M h X Post (pc + 1) L (.int x :: S) σ) : G M h X Post pc L S σ := by
  intro E p l e R s m args below meth c A cells slots Q C H locs ls hP hD hS hL
  exact lv_iload_n C.1 C.2.1 d rfl (hL.2.2 n _ (r_lg_some hl (by intro q; cases q)) (by intro q; cases q)) (k E p l e R s m args below meth c A cells slots Q C H locs ls hP hD hS hL)
theorem g_iload {n : Nat} {x : Int32} (d : decode M.2.1 pc = .ok (.iload n, 2)) (hl : r_lg L n = .int x) (k : G M h X Post (pc + 2) L (.int x :: S) σ) : G M h X Post pc L S σ := by
  intro E p l e R s m args below meth c A cells slots Q C H locs ls hP hD hS hL
  exact lv_iload C.1 C.2.1 d (hL.2.2 n _ (r_lg_some hl (by intro q; cases q)) (by intro q; cases q)) (k E p l e R s m args below meth c A cells slots Q C H locs ls hP hD hS hL)
theorem g_lload_n {n : Fin 4} {x : Int64} (d : decode M.2.1 pc = .ok (.lload_n n, 1)) (hl : r_lg L n = .long x) (k : G M h X Post (pc + 1) L (.long x :: S) σ) : G M h X Post pc L S σ := by
  intro E p l e R s m args below meth c A cells slots Q C H locs ls hP hD hS hL
  exact lv_lload_n C.1 C.2.1 d rfl (hL.2.2 n _ (r_lg_some hl (by intro q; cases q)) (by intro q; cases q)) (k E p l e R s m args below meth c A cells slots Q C H locs ls hP hD hS hL)
theorem g_lload {n : Nat} {x : Int64} (d : decode M.2.1 pc = .ok (.lload n, 2)) (hl : r_lg L n = .long x) (k : G M h X Post (pc + 2) L (.long x :: S) σ) : G M h X Post pc L S σ := by
  intro E p l e R s m args below meth c A cells slots Q C H locs ls hP hD hS hL
  exact lv_lload C.1 C.2.1 d (hL.2.2 n _ (r_lg_some hl (by intro q; cases q)) (by intro q; cases q)) (k E p l e R s m args below meth c A cells slots Q C H locs ls hP hD hS hL)
theorem g_aload_n {n : Fin 4} {x : Nat} (d : decode M.2.1 pc = .ok (.aload_n n, 1)) (hl : r_lg L n = .ref x) (k : G M h X Post (pc + 1) L (.ref x :: S) σ) : G M h X Post pc L S σ := by
  intro E p l e R s m args below meth c A cells slots Q C H locs ls hP hD hS hL
  exact lv_aload_n C.1 C.2.1 d rfl (hL.2.2 n _ (r_lg_some hl (by intro q; cases q)) (by intro q; cases q)) (k E p l e R s m args below meth c A cells slots Q C H locs ls hP hD hS hL)
theorem g_aload {n : Nat} {x : Nat} (d : decode M.2.1 pc = .ok (.aload n, 2)) (hl : r_lg L n = .ref x) (k : G M h X Post (pc + 2) L (.ref x :: S) σ) : G M h X Post pc L S σ := by
  intro E p l e R s m args below meth c A cells slots Q C H locs ls hP hD hS hL
  exact lv_aload C.1 C.2.1 d (hL.2.2 n _ (r_lg_some hl (by intro q; cases q)) (by intro q; cases q)) (k E p l e R s m args below meth c A cells slots Q C H locs ls hP hD hS hL)
theorem g_istore_n {n : Fin 4} {x : Int32} (d : decode M.2.1 pc = .ok (.istore_n n, 1)) (hn : n.val < M.2.2.1) (hp : r_pv L n.val = true) (k : G M h X Post (pc + 1) (r_ls L n.val (.int x)) S σ) : G M h X Post pc L ((.int x) :: S) σ := by
  intro E p l e R s m args below meth c A cells slots Q C H locs ls hP hD hS hL
  exact lv_istore_n C.1 C.2.1 d rfl hL.has hn rfl (fun ls2 hl2 => k E p l e R s m args below meth c A cells slots Q C H locs ls2 hP hD hS (hL.set hp hl2))
theorem g_istore {n : Nat} {x : Int32} (d : decode M.2.1 pc = .ok (.istore n, 2)) (hn : n < M.2.2.1) (hp : r_pv L n = true) (k : G M h X Post (pc + 2) (r_ls L n (.int x)) S σ) : G M h X Post pc L ((.int x) :: S) σ := by
  intro E p l e R s m args below meth c A cells slots Q C H locs ls hP hD hS hL
  exact lv_istore C.1 C.2.1 d hL.has hn rfl (fun ls2 hl2 => k E p l e R s m args below meth c A cells slots Q C H locs ls2 hP hD hS (hL.set hp hl2))
theorem g_lstore_n {n : Fin 4} {x : Int64} (d : decode M.2.1 pc = .ok (.lstore_n n, 1)) (hn : n.val + 1 < M.2.2.1) (hp : r_pv L n.val = true) (k : G M h X Post (pc + 1) (r_ls (r_ls L n.val (.long x)) (n.val + 1) .null) S σ) : G M h X Post pc L ((.long x) :: S) σ := by
  intro E p l e R s m args below meth c A cells slots Q C H locs ls hP hD hS hL
  exact lv_lstore_n C.1 C.2.1 d rfl hL.has hn rfl (fun ls2 hl2 => k E p l e R s m args below meth c A cells slots Q C H locs ls2 hP hD hS (hL.set2 hp hl2))
theorem g_lstore {n : Nat} {x : Int64} (d : decode M.2.1 pc = .ok (.lstore n, 2)) (hn : n + 1 < M.2.2.1) (hp : r_pv L n = true) (k : G M h X Post (pc + 2) (r_ls (r_ls L n (.long x)) (n + 1) .null) S σ) : G M h X Post pc L ((.long x) :: S) σ := by
  intro E p l e R s m args below meth c A cells slots Q C H locs ls hP hD hS hL
  exact lv_lstore C.1 C.2.1 d hL.has hn rfl (fun ls2 hl2 => k E p l e R s m args below meth c A cells slots Q C H locs ls2 hP hD hS (hL.set2 hp hl2))
theorem g_astore_n {n : Fin 4} {x : Nat} (d : decode M.2.1 pc = .ok (.astore_n n, 1)) (hn : n.val < M.2.2.1) (hp : r_pv L n.val = true) (k : G M h X Post (pc + 1) (r_ls L n.val (.ref x)) S σ) : G M h X Post pc L ((.ref x) :: S) σ := by
  intro E p l e R s m args below meth c A cells slots Q C H locs ls hP hD hS hL
  exact lv_astore_n C.1 C.2.1 d rfl hL.has hn rfl (fun ls2 hl2 => k E p l e R s m args below meth c A cells slots Q C H locs ls2 hP hD hS (hL.set hp hl2))
theorem g_iinc {n : Nat} {z : Int} {x v : Int32} (d : decode M.2.1 pc = .ok (.iinc n z, 3)) (hx : r_lg L n = .int x) (hv : x + Int32.ofInt z = v) (hn : n < M.2.2.1) (hp : r_pv L n = true) (k : G M h X Post (pc + 3) (r_ls L n (.int v)) S σ) : G M h X Post pc L S σ := by
  intro E p l e R s m args below meth c A cells slots Q C H locs ls hP hD hS hL
  have hm : (n, Value.int x) ∈ r_lv E.2.1 0 L := by simpa [r_v] using r_lv_mem E.2.1 L 0 n (.int x) (r_lg_some hx (by intro q; cases q)) (by intro q; cases q)
  obtain ⟨j, hj⟩ := List.getElem?_of_mem hm
  exact lv_iinc C.1 C.2.1 d hL.has hj hv hn rfl (fun ls2 hl2 => k E p l e R s m args below meth c A cells slots Q C H locs ls2 hP hD hS (hL.set hp hl2))
theorem g_iadd {x y : Int32} (d : decode M.2.1 pc = .ok (.iadd, 1))  (k : G M h X Post (pc + 1) L (.int (x + y) :: S) σ) : G M h X Post pc L (.int y :: .int x :: S) σ := by
  intro E p l e R s m args below meth c A cells slots Q C H locs ls hP hD hS hL
  exact lv_iadd C.1 C.2.1 d (k E p l e R s m args below meth c A cells slots Q C H locs ls hP hD hS hL)
theorem g_isub {x y : Int32} (d : decode M.2.1 pc = .ok (.isub, 1))  (k : G M h X Post (pc + 1) L (.int (x - y) :: S) σ) : G M h X Post pc L (.int y :: .int x :: S) σ := by
  intro E p l e R s m args below meth c A cells slots Q C H locs ls hP hD hS hL
  exact lv_isub C.1 C.2.1 d (k E p l e R s m args below meth c A cells slots Q C H locs ls hP hD hS hL)
theorem g_imul {x y : Int32} (d : decode M.2.1 pc = .ok (.imul, 1))  (k : G M h X Post (pc + 1) L (.int (x * y) :: S) σ) : G M h X Post pc L (.int y :: .int x :: S) σ := by
  intro E p l e R s m args below meth c A cells slots Q C H locs ls hP hD hS hL
  exact lv_imul C.1 C.2.1 d (k E p l e R s m args below meth c A cells slots Q C H locs ls hP hD hS hL)
theorem g_iand {x y : Int32} (d : decode M.2.1 pc = .ok (.iand, 1))  (k : G M h X Post (pc + 1) L (.int (x &&& y) :: S) σ) : G M h X Post pc L (.int y :: .int x :: S) σ := by
  intro E p l e R s m args below meth c A cells slots Q C H locs ls hP hD hS hL
  exact lv_iand C.1 C.2.1 d (k E p l e R s m args below meth c A cells slots Q C H locs ls hP hD hS hL)
theorem g_ior {x y : Int32} (d : decode M.2.1 pc = .ok (.ior, 1))  (k : G M h X Post (pc + 1) L (.int (x ||| y) :: S) σ) : G M h X Post pc L (.int y :: .int x :: S) σ := by
  intro E p l e R s m args below meth c A cells slots Q C H locs ls hP hD hS hL
  exact lv_ior C.1 C.2.1 d (k E p l e R s m args below meth c A cells slots Q C H locs ls hP hD hS hL)
theorem g_ixor {x y : Int32} (d : decode M.2.1 pc = .ok (.ixor, 1))  (k : G M h X Post (pc + 1) L (.int (x ^^^ y) :: S) σ) : G M h X Post pc L (.int y :: .int x :: S) σ := by
  intro E p l e R s m args below meth c A cells slots Q C H locs ls hP hD hS hL
  exact lv_ixor C.1 C.2.1 d (k E p l e R s m args below meth c A cells slots Q C H locs ls hP hD hS hL)
theorem g_ishl {x y : Int32} (d : decode M.2.1 pc = .ok (.ishl, 1))  (k : G M h X Post (pc + 1) L (.int (x <<< (y &&& 31)) :: S) σ) : G M h X Post pc L (.int y :: .int x :: S) σ := by
  intro E p l e R s m args below meth c A cells slots Q C H locs ls hP hD hS hL
  exact lv_ishl C.1 C.2.1 d (k E p l e R s m args below meth c A cells slots Q C H locs ls hP hD hS hL)
theorem g_ishr {x y : Int32} (d : decode M.2.1 pc = .ok (.ishr, 1))  (k : G M h X Post (pc + 1) L (.int (x >>> (y &&& 31)) :: S) σ) : G M h X Post pc L (.int y :: .int x :: S) σ := by
  intro E p l e R s m args below meth c A cells slots Q C H locs ls hP hD hS hL
  exact lv_ishr C.1 C.2.1 d (k E p l e R s m args below meth c A cells slots Q C H locs ls hP hD hS hL)
theorem g_iushr {x y v : Int32} (d : decode M.2.1 pc = .ok (.iushr, 1)) (hv : (x.toUInt32 >>> (y.toUInt32 &&& Int32.toUInt32 31)).toInt32 = v) (k : G M h X Post (pc + 1) L (.int v :: S) σ) : G M h X Post pc L (.int y :: .int x :: S) σ := by
  intro E p l e R s m args below meth c A cells slots Q C H locs ls hP hD hS hL
  exact lv_iushr C.1 C.2.1 d hv (k E p l e R s m args below meth c A cells slots Q C H locs ls hP hD hS hL)
theorem g_idiv {x y : Int32} (d : decode M.2.1 pc = .ok (.idiv, 1)) (hy : ¬ y = 0) (k : G M h X Post (pc + 1) L (.int (x / y) :: S) σ) : G M h X Post pc L (.int y :: .int x :: S) σ := by
  intro E p l e R s m args below meth c A cells slots Q C H locs ls hP hD hS hL
  exact lv_idiv C.1 C.2.1 d hy (k E p l e R s m args below meth c A cells slots Q C H locs ls hP hD hS hL)
theorem g_irem {x y : Int32} (d : decode M.2.1 pc = .ok (.irem, 1)) (hy : ¬ y = 0) (k : G M h X Post (pc + 1) L (.int (x - x / y * y) :: S) σ) : G M h X Post pc L (.int y :: .int x :: S) σ := by
  intro E p l e R s m args below meth c A cells slots Q C H locs ls hP hD hS hL
  exact lv_irem C.1 C.2.1 d hy (k E p l e R s m args below meth c A cells slots Q C H locs ls hP hD hS hL)
theorem g_ineg {x : Int32} (d : decode M.2.1 pc = .ok (.ineg, 1))  (k : G M h X Post (pc + 1) L (.int (-x) :: S) σ) : G M h X Post pc L (.int x :: S) σ := by
  intro E p l e R s m args below meth c A cells slots Q C H locs ls hP hD hS hL
  exact lv_ineg C.1 C.2.1 d (k E p l e R s m args below meth c A cells slots Q C H locs ls hP hD hS hL)
theorem g_lmul {x y : Int64} (d : decode M.2.1 pc = .ok (.lmul, 1))  (k : G M h X Post (pc + 1) L (.long (x * y) :: S) σ) : G M h X Post pc L (.long y :: .long x :: S) σ := by
  intro E p l e R s m args below meth c A cells slots Q C H locs ls hP hD hS hL
  exact lv_lmul C.1 C.2.1 d (k E p l e R s m args below meth c A cells slots Q C H locs ls hP hD hS hL)
theorem g_land {x y : Int64} (d : decode M.2.1 pc = .ok (.land, 1))  (k : G M h X Post (pc + 1) L (.long (x &&& y) :: S) σ) : G M h X Post pc L (.long y :: .long x :: S) σ := by
  intro E p l e R s m args below meth c A cells slots Q C H locs ls hP hD hS hL
  exact lv_land C.1 C.2.1 d (k E p l e R s m args below meth c A cells slots Q C H locs ls hP hD hS hL)
theorem g_ldiv {x y : Int64} (d : decode M.2.1 pc = .ok (.ldiv, 1)) (hy : ¬ y = 0) (k : G M h X Post (pc + 1) L (.long (x / y) :: S) σ) : G M h X Post pc L (.long y :: .long x :: S) σ := by
  intro E p l e R s m args below meth c A cells slots Q C H locs ls hP hD hS hL
  exact lv_ldiv C.1 C.2.1 d hy (k E p l e R s m args below meth c A cells slots Q C H locs ls hP hD hS hL)
theorem g_lrem {x y : Int64} (d : decode M.2.1 pc = .ok (.lrem, 1)) (hy : ¬ y = 0) (k : G M h X Post (pc + 1) L (.long (x - x / y * y) :: S) σ) : G M h X Post pc L (.long y :: .long x :: S) σ := by
  intro E p l e R s m args below meth c A cells slots Q C H locs ls hP hD hS hL
  exact lv_lrem C.1 C.2.1 d hy (k E p l e R s m args below meth c A cells slots Q C H locs ls hP hD hS hL)
theorem g_lshl {x : Int64} {y : Int32} (d : decode M.2.1 pc = .ok (.lshl, 1))  (k : G M h X Post (pc + 1) L (.long (x <<< (y.toInt64 &&& 63)) :: S) σ) : G M h X Post pc L (.int y :: .long x :: S) σ := by
  intro E p l e R s m args below meth c A cells slots Q C H locs ls hP hD hS hL
  exact lv_lshl C.1 C.2.1 d rfl (k E p l e R s m args below meth c A cells slots Q C H locs ls hP hD hS hL)
theorem g_lshr {x : Int64} {y : Int32} (d : decode M.2.1 pc = .ok (.lshr, 1))  (k : G M h X Post (pc + 1) L (.long (x >>> (y.toInt64 &&& 63)) :: S) σ) : G M h X Post pc L (.int y :: .long x :: S) σ := by
  intro E p l e R s m args below meth c A cells slots Q C H locs ls hP hD hS hL
  exact lv_lshr C.1 C.2.1 d rfl (k E p l e R s m args below meth c A cells slots Q C H locs ls hP hD hS hL)
theorem g_i2l {x : Int32} (d : decode M.2.1 pc = .ok (.i2l, 1))  (k : G M h X Post (pc + 1) L (.long x.toInt64 :: S) σ) : G M h X Post pc L (.int x :: S) σ := by
  intro E p l e R s m args below meth c A cells slots Q C H locs ls hP hD hS hL
  exact lv_i2l C.1 C.2.1 d rfl (k E p l e R s m args below meth c A cells slots Q C H locs ls hP hD hS hL)
theorem g_dup {v : Value} (d : decode M.2.1 pc = .ok (.dup, 1)) (hv : v.category = 1) (k : G M h X Post (pc + 1) L (v :: v :: S) σ) : G M h X Post pc L (v :: S) σ := by
  intro E p l e R s m args below meth c A cells slots Q C H locs ls hP hD hS hL
  exact lv_dup C.1 C.2.1 d (by rw [r_v_cat]; exact hv) (k E p l e R s m args below meth c A cells slots Q C H locs ls hP hD hS hL)
theorem g_dup2 {v w : Value} (d : decode M.2.1 pc = .ok (.dup2, 1)) (hv : v.category = 1) (hw : w.category = 1) (k : G M h X Post (pc + 1) L (v :: w :: v :: w :: S) σ) : G M h X Post pc L (v :: w :: S) σ := by
  intro E p l e R s m args below meth c A cells slots Q C H locs ls hP hD hS hL
  exact lv_dup2_11 C.1 C.2.1 d (by rw [r_v_cat]; exact hv) (by rw [r_v_cat]; exact hw) (k E p l e R s m args below meth c A cells slots Q C H locs ls hP hD hS hL)
theorem g_pop {v : Value} (d : decode M.2.1 pc = .ok (.pop, 1)) (hv : v.category = 1) (k : G M h X Post (pc + 1) L S σ) : G M h X Post pc L (v :: S) σ := by
  intro E p l e R s m args below meth c A cells slots Q C H locs ls hP hD hS hL
  exact lv_pop C.1 C.2.1 d (by rw [r_v_cat]; exact hv) (k E p l e R s m args below meth c A cells slots Q C H locs ls hP hD hS hL)
theorem g_ifeq {x : Int32} {off : Int} {tgt : Nat} (d : decode M.2.1 pc = .ok (.ifCond .eq off, 3)) (ht : (pc : Int) + off = (tgt : Int)) (kt : x = 0 → G M h X Post tgt L S σ) (kf : ¬ x = 0 → G M h X Post (pc + 3) L S σ) : G M h X Post pc L (.int x :: S) σ := by
  intro E p l e R s m args below meth c A cells slots Q C H locs ls hP hD hS hL
  exact lv_if_eq C.1 C.2.1 d ht (fun q => kt q E p l e R s m args below meth c A cells slots Q C H locs ls hP hD hS hL) (fun q => kf q E p l e R s m args below meth c A cells slots Q C H locs ls hP hD hS hL)
theorem g_ifne {x : Int32} {off : Int} {tgt : Nat} (d : decode M.2.1 pc = .ok (.ifCond .ne off, 3)) (ht : (pc : Int) + off = (tgt : Int)) (kt : ¬ x = 0 → G M h X Post tgt L S σ) (kf : x = 0 → G M h X Post (pc + 3) L S σ) : G M h X Post pc L (.int x :: S) σ := by
  intro E p l e R s m args below meth c A cells slots Q C H locs ls hP hD hS hL
  exact lv_if_ne C.1 C.2.1 d ht (fun q => kt q E p l e R s m args below meth c A cells slots Q C H locs ls hP hD hS hL) (fun q => kf q E p l e R s m args below meth c A cells slots Q C H locs ls hP hD hS hL)
theorem g_iflt {x : Int32} {off : Int} {tgt : Nat} (d : decode M.2.1 pc = .ok (.ifCond .lt off, 3)) (ht : (pc : Int) + off = (tgt : Int)) (kt : x < 0 → G M h X Post tgt L S σ) (kf : ¬ x < 0 → G M h X Post (pc + 3) L S σ) : G M h X Post pc L (.int x :: S) σ := by
  intro E p l e R s m args below meth c A cells slots Q C H locs ls hP hD hS hL
  exact lv_if_lt C.1 C.2.1 d ht (fun q => kt q E p l e R s m args below meth c A cells slots Q C H locs ls hP hD hS hL) (fun q => kf q E p l e R s m args below meth c A cells slots Q C H locs ls hP hD hS hL)
theorem g_ifge {x : Int32} {off : Int} {tgt : Nat} (d : decode M.2.1 pc = .ok (.ifCond .ge off, 3)) (ht : (pc : Int) + off = (tgt : Int)) (kt : 0 ≤ x → G M h X Post tgt L S σ) (kf : ¬ 0 ≤ x → G M h X Post (pc + 3) L S σ) : G M h X Post pc L (.int x :: S) σ := by
  intro E p l e R s m args below meth c A cells slots Q C H locs ls hP hD hS hL
  exact lv_if_ge C.1 C.2.1 d ht (fun q => kt q E p l e R s m args below meth c A cells slots Q C H locs ls hP hD hS hL) (fun q => kf q E p l e R s m args below meth c A cells slots Q C H locs ls hP hD hS hL)
theorem g_ifgt {x : Int32} {off : Int} {tgt : Nat} (d : decode M.2.1 pc = .ok (.ifCond .gt off, 3)) (ht : (pc : Int) + off = (tgt : Int)) (kt : 0 < x → G M h X Post tgt L S σ) (kf : ¬ 0 < x → G M h X Post (pc + 3) L S σ) : G M h X Post pc L (.int x :: S) σ := by
  intro E p l e R s m args below meth c A cells slots Q C H locs ls hP hD hS hL
  exact lv_if_gt C.1 C.2.1 d ht (fun q => kt q E p l e R s m args below meth c A cells slots Q C H locs ls hP hD hS hL) (fun q => kf q E p l e R s m args below meth c A cells slots Q C H locs ls hP hD hS hL)
theorem g_ifle {x : Int32} {off : Int} {tgt : Nat} (d : decode M.2.1 pc = .ok (.ifCond .le off, 3)) (ht : (pc : Int) + off = (tgt : Int)) (kt : x ≤ 0 → G M h X Post tgt L S σ) (kf : ¬ x ≤ 0 → G M h X Post (pc + 3) L S σ) : G M h X Post pc L (.int x :: S) σ := by
  intro E p l e R s m args below meth c A cells slots Q C H locs ls hP hD hS hL
  exact lv_if_le C.1 C.2.1 d ht (fun q => kt q E p l e R s m args below meth c A cells slots Q C H locs ls hP hD hS hL) (fun q => kf q E p l e R s m args below meth c A cells slots Q C H locs ls hP hD hS hL)
theorem g_iceq {x y : Int32} {off : Int} {tgt : Nat} (d : decode M.2.1 pc = .ok (.if_icmp .eq off, 3)) (ht : (pc : Int) + off = (tgt : Int)) (kt : x = y → G M h X Post tgt L S σ) (kf : ¬ x = y → G M h X Post (pc + 3) L S σ) : G M h X Post pc L (.int y :: .int x :: S) σ := by
  intro E p l e R s m args below meth c A cells slots Q C H locs ls hP hD hS hL
  exact lv_icmp_eq C.1 C.2.1 d ht (fun q => kt q E p l e R s m args below meth c A cells slots Q C H locs ls hP hD hS hL) (fun q => kf q E p l e R s m args below meth c A cells slots Q C H locs ls hP hD hS hL)
theorem g_icne {x y : Int32} {off : Int} {tgt : Nat} (d : decode M.2.1 pc = .ok (.if_icmp .ne off, 3)) (ht : (pc : Int) + off = (tgt : Int)) (kt : ¬ x = y → G M h X Post tgt L S σ) (kf : x = y → G M h X Post (pc + 3) L S σ) : G M h X Post pc L (.int y :: .int x :: S) σ := by
  intro E p l e R s m args below meth c A cells slots Q C H locs ls hP hD hS hL
  exact lv_icmp_ne C.1 C.2.1 d ht (fun q => kt q E p l e R s m args below meth c A cells slots Q C H locs ls hP hD hS hL) (fun q => kf q E p l e R s m args below meth c A cells slots Q C H locs ls hP hD hS hL)
theorem g_iclt {x y : Int32} {off : Int} {tgt : Nat} (d : decode M.2.1 pc = .ok (.if_icmp .lt off, 3)) (ht : (pc : Int) + off = (tgt : Int)) (kt : x < y → G M h X Post tgt L S σ) (kf : ¬ x < y → G M h X Post (pc + 3) L S σ) : G M h X Post pc L (.int y :: .int x :: S) σ := by
  intro E p l e R s m args below meth c A cells slots Q C H locs ls hP hD hS hL
  exact lv_icmp_lt C.1 C.2.1 d ht (fun q => kt q E p l e R s m args below meth c A cells slots Q C H locs ls hP hD hS hL) (fun q => kf q E p l e R s m args below meth c A cells slots Q C H locs ls hP hD hS hL)
theorem g_icge {x y : Int32} {off : Int} {tgt : Nat} (d : decode M.2.1 pc = .ok (.if_icmp .ge off, 3)) (ht : (pc : Int) + off = (tgt : Int)) (kt : y ≤ x → G M h X Post tgt L S σ) (kf : ¬ y ≤ x → G M h X Post (pc + 3) L S σ) : G M h X Post pc L (.int y :: .int x :: S) σ := by
  intro E p l e R s m args below meth c A cells slots Q C H locs ls hP hD hS hL
  exact lv_icmp_ge C.1 C.2.1 d ht (fun q => kt q E p l e R s m args below meth c A cells slots Q C H locs ls hP hD hS hL) (fun q => kf q E p l e R s m args below meth c A cells slots Q C H locs ls hP hD hS hL)
theorem g_icgt {x y : Int32} {off : Int} {tgt : Nat} (d : decode M.2.1 pc = .ok (.if_icmp .gt off, 3)) (ht : (pc : Int) + off = (tgt : Int)) (kt : y < x → G M h X Post tgt L S σ) (kf : ¬ y < x → G M h X Post (pc + 3) L S σ) : G M h X Post pc L (.int y :: .int x :: S) σ := by
  intro E p l e R s m args below meth c A cells slots Q C H locs ls hP hD hS hL
  exact lv_icmp_gt C.1 C.2.1 d ht (fun q => kt q E p l e R s m args below meth c A cells slots Q C H locs ls hP hD hS hL) (fun q => kf q E p l e R s m args below meth c A cells slots Q C H locs ls hP hD hS hL)
theorem g_icle {x y : Int32} {off : Int} {tgt : Nat} (d : decode M.2.1 pc = .ok (.if_icmp .le off, 3)) (ht : (pc : Int) + off = (tgt : Int)) (kt : x ≤ y → G M h X Post tgt L S σ) (kf : ¬ x ≤ y → G M h X Post (pc + 3) L S σ) : G M h X Post pc L (.int y :: .int x :: S) σ := by
  intro E p l e R s m args below meth c A cells slots Q C H locs ls hP hD hS hL
  exact lv_icmp_le C.1 C.2.1 d ht (fun q => kt q E p l e R s m args below meth c A cells slots Q C H locs ls hP hD hS hL) (fun q => kf q E p l e R s m args below meth c A cells slots Q C H locs ls hP hD hS hL)
theorem g_goto {off : Int} {tgt : Nat} (d : decode M.2.1 pc = .ok (.goto off, 3)) (ht : (pc : Int) + off = (tgt : Int)) (k : G M h X Post tgt L S σ) : G M h X Post pc L S σ := by
  intro E p l e R s m args below meth c A cells slots Q C H locs ls hP hD hS hL
  exact lv_goto C.1 C.2.1 d ht (k E p l e R s m args below meth c A cells slots Q C H locs ls hP hD hS hL)
theorem g_tabIn {dflt lo hi : Int} {offs : Array Int} {len : Nat} {x : Int32} {off : Int} {tgt : Nat} (d : decode M.2.1 pc = .ok (.tableswitch dflt lo hi offs, len)) (h1 : ¬ x.toInt < lo) (h2 : ¬ hi < x.toInt) (ho : offs[(x.toInt - lo).toNat]? = some off) (ht : (pc : Int) + off = (tgt : Int)) (k : G M h X Post tgt L S σ) : G M h X Post pc L (.int x :: S) σ := by
  intro E p l e R s m args below meth c A cells slots Q C H locs ls hP hD hS hL
  exact lv_tableIn C.1 C.2.1 d h1 h2 ho ht (k E p l e R s m args below meth c A cells slots Q C H locs ls hP hD hS hL)
theorem g_tabOut {dflt lo hi : Int} {offs : Array Int} {len : Nat} {x : Int32} {tgt : Nat} (d : decode M.2.1 pc = .ok (.tableswitch dflt lo hi offs, len)) (h1 : x.toInt < lo ∨ hi < x.toInt) (ht : (pc : Int) + dflt = (tgt : Int)) (k : G M h X Post tgt L S σ) : G M h X Post pc L (.int x :: S) σ := by
  intro E p l e R s m args below meth c A cells slots Q C H locs ls hP hD hS hL
  exact lv_tableOut C.1 C.2.1 d h1 ht (k E p l e R s m args below meth c A cells slots Q C H locs ls hP hD hS hL)
theorem g_iret {v : Int32} (d : decode M.2.1 pc = .ok (.ireturn, 1)) (hr : M.2.2.2 = some .int) (k : Post (some (.int v)) σ) : G M h X Post pc L [.int v] σ := by
  intro E p l e R s m args below meth c A cells slots Q C H locs ls hP hD hS hL
  exact C.2.2.2.2.2.2.2.2.2.2.2.2 pc _ (some (.int v)) σ _ H locs ls d rfl (by rw [hr]; exact ⟨rfl, Or.inl rfl⟩) k hP hD hS
theorem g_zret {v : Int32} (d : decode M.2.1 pc = .ok (.ireturn, 1)) (hr : M.2.2.2 = some .boolean) (hz : v = 0 ∨ v = 1) (k : Post (some (.int v)) σ) : G M h X Post pc L [.int v] σ := by
  intro E p l e R s m args below meth c A cells slots Q C H locs ls hP hD hS hL
  exact C.2.2.2.2.2.2.2.2.2.2.2.2 pc _ (some (.int v)) σ _ H locs ls d rfl (by rw [hr]; refine ⟨?_, Or.inr rfl⟩; rcases hz with rfl | rfl <;> rfl) k hP hD hS
theorem g_lret {v : Int64} (d : decode M.2.1 pc = .ok (.lreturn, 1)) (hr : M.2.2.2 = some .long) (k : Post (some (.long v)) σ) : G M h X Post pc L [.long v] σ := by
  intro E p l e R s m args below meth c A cells slots Q C H locs ls hP hD hS hL
  exact C.2.2.2.2.2.2.2.2.2.2.2.2 pc _ (some (.long v)) σ _ H locs ls d rfl (by rw [hr]; exact rfl) k hP hD hS
theorem g_aret {v : Nat} (d : decode M.2.1 pc = .ok (.areturn, 1)) {cn : String} (hr : M.2.2.2 = some (.object cn)) (k : Post (some (.ref v)) σ) : G M h X Post pc L [.ref v] σ := by
  intro E p l e R s m args below meth c A cells slots Q C H locs ls hP hD hS hL
  exact C.2.2.2.2.2.2.2.2.2.2.2.2 pc _ (some (.ref v)) σ _ H locs ls d rfl (by rw [hr]; exact ⟨_, rfl⟩) k hP hD hS
theorem g_ret (d : decode M.2.1 pc = .ok (.return_, 1)) (hr : M.2.2.2 = none) (k : Post none σ) : G M h X Post pc L [] σ := by
  intro E p l e R s m args below meth c A cells slots Q C H locs ls hP hD hS hL
  exact C.2.2.2.2.2.2.2.2.2.2.2.2 pc _ none σ _ H locs ls d trivial (by rw [hr]; exact trivial) k hP hD hS
-- fields and arrays
def r_Fl (own : String) (idx ci k : Nat) : Prop := ∃ (C : String) (T : u_T) (N : Nat), vwCl[ci]? = some (C, T, N) ∧ (∀ w ∈ u_ws C T N, w ∈ r_tbl) ∧ k < N ∧ Cond.fieldLink own idx C (T k).2.1 (T k).2.2.1 ∈ r_tbl ∧ (T k).1 = C
def r_Fp (own : String) (idx ci k : Nat) (ty : FieldType) : Prop := ∃ (C : String) (T : u_T) (N : Nat), vwCl[ci]? = some (C, T, N) ∧ (∀ w ∈ u_ws C T N, w ∈ r_tbl) ∧ k < N ∧ Cond.fieldLink own idx C (T k).2.1 (T k).2.2.1 ∈ r_tbl ∧ (T k).1 = C ∧
  ∃ (ty0 : Nat → FieldType), (∀ k, k < N → parseFieldDescriptor (T k).2.2.1 = some (ty0 k)) ∧ (∀ a, a < N → ∀ b, b < N → a ≠ b → (T a).2.1 ≠ (T b).2.1) ∧ (T k).2.2.2 = false ∧ parseFieldDescriptor (T k).2.2.1 = some ty
theorem r_fs_at {ad : Nat → Nat} {k i j : Nat} {fl : List (Option Nat)} (h : fl[i]? = some (some j)) : (r_fs ad σ k fl)[i]? = some (.ref (ad j)) := by simp [r_fs, List.getElem?_mapIdx, h]
theorem r_fs_at0 {ad : Nat → Nat} {k i : Nat} {fl : List (Option Nat)} (h : fl[i]? = some none) : (r_fs ad σ k fl)[i]? = some (.int (σ k i)) := by simp [r_fs, List.getElem?_mapIdx, h]
theorem g_getI {idx ci f q : Nat} {fl : List (Option Nat)} (d : decode M.2.1 pc = .ok (.getfield idx, 3)) (hf : r_Fl M.1.cls idx ci f) (hs : r_SH[q]? = some (.inr (ci, fl))) (hk : fl[f]? = some none) (k : G M h X Post (pc + 3) L (.int (σ q f) :: S) σ) : G M h X Post pc L (.ref q :: S) σ := by
  intro E p l e R s m args below meth c A cells slots Q C H locs ls hP hD hS hL
  obtain ⟨Cn, T, N, h1, h2, h3, h4, h5⟩ := hf
  exact va_get C.1 C.2.1 C.2.2.2.2.1 h2 C.2.2.2.1 C.2.2.2.2.2.1 hP q (r_at E σ hs) h1 f h3 (C.2.2.2.2.1 _ h4) (fun _ h9 => by rw [h5] at h9; exact h9) (r_fs_at0 hk) d (k E p l e R s m args below meth c A cells slots Q C H locs ls hP hD hS hL)
theorem g_getR {idx ci f q j : Nat} {fl : List (Option Nat)} (d : decode M.2.1 pc = .ok (.getfield idx, 3)) (hf : r_Fl M.1.cls idx ci f) (hs : r_SH[q]? = some (.inr (ci, fl))) (hk : fl[f]? = some (some j)) (k : G M h X Post (pc + 3) L (.ref j :: S) σ) : G M h X Post pc L (.ref q :: S) σ := by
  intro E p l e R s m args below meth c A cells slots Q C H locs ls hP hD hS hL
  obtain ⟨Cn, T, N, h1, h2, h3, h4, h5⟩ := hf
  exact va_get C.1 C.2.1 C.2.2.2.2.1 h2 C.2.2.2.1 C.2.2.2.2.2.1 hP q (r_at E σ hs) h1 f h3 (C.2.2.2.2.1 _ h4) (fun _ h9 => by rw [h5] at h9; exact h9) (r_fs_at hk) d (k E p l e R s m args below meth c A cells slots Q C H locs ls hP hD hS hL)
theorem g_put0 {idx ci f q : Nat} {fl : List (Option Nat)} {ty : FieldType} {v : Int32} (d : decode M.2.1 pc = .ok (.putfield idx, 3)) (hf : r_Fp M.1.cls idx ci f ty) (hs : r_SH[q]? = some (.inr (ci, fl))) (hk : fl[f]? = some none) (hn : narrow ty (.int v) = .int v) (hfit : fits ty (.int v) = true) (k : G M h X Post (pc + 3) L S (r_up σ q f v)) : G M h X Post pc L (.int v :: .ref q :: S) σ := by
  intro E p l e R s m args below meth c A cells slots Q C H locs ls hP hD hS hL
  obtain ⟨Cn, T, N, h1, h2, h3, h4, h5, ty0, h6, h7, h8, h9⟩ := hf
  refine va_put C.1 C.2.1 C.2.2.2.2.1 h2 ty0 h6 h7 C.2.2.2.1 C.2.2.2.2.2.1 hP hD hS q (r_at E σ hs) h1 f h3 (C.2.2.2.2.1 _ h4) (fun _ h9 => by rw [h5] at h9; exact h9) h8 h9 hn hfit (by simpa [r_fs] using (List.getElem?_eq_some_iff.mp hk).1) d (fun H1 locs1 hP1 hD1 hS1 => ?_)
  have e1 := r_setF E σ hs hk v
  exact k E p l e R s m args below meth c A cells slots Q C H1 locs1 ls (by rw [← e1]; exact hP1) (by rw [← e1]; exact hD1) hS1 hL
theorem g_putI {idx ci f q : Nat} {fl : List (Option Nat)} {v : Int32} (d : decode M.2.1 pc = .ok (.putfield idx, 3)) (hf : r_Fp M.1.cls idx ci f .int) (hs : r_SH[q]? = some (.inr (ci, fl))) (hk : fl[f]? = some none) (k : G M h X Post (pc + 3) L S (r_up σ q f v)) : G M h X Post pc L (.int v :: .ref q :: S) σ := g_put0 d hf hs hk rfl rfl k
theorem g_putZ {idx ci f q : Nat} {fl : List (Option Nat)} {v : Int32} (d : decode M.2.1 pc = .ok (.putfield idx, 3)) (hf : r_Fp M.1.cls idx ci f .boolean) (hs : r_SH[q]? = some (.inr (ci, fl))) (hk : fl[f]? = some none) (hv : v = 0 ∨ v = 1) (k : G M h X Post (pc + 3) L S (r_up σ q f v)) : G M h X Post pc L (.int v :: .ref q :: S) σ := g_put0 d hf hs hk (by rcases hv with rfl | rfl <;> rfl) (by rcases hv with rfl | rfl <;> rfl) k
theorem g_iald {q n : Nat} {i : Int32} (d : decode M.2.1 pc = .ok (.iaload, 1)) (hs : r_SH[q]? = some (.inl (n, false))) (hi : vp_in i n) (k : G M h X Post (pc + 1) L (.int (σ q i.toNatClampNeg) :: S) σ) : G M h X Post pc L (.int i :: .ref q :: S) σ := by
  intro E p l e R s m args below meth c A cells slots Q C H locs ls hP hD hS hL
  exact va_iald C.1 C.2.1 C.2.2.2.2.2.1 hP q 0 (r_at E σ hs) rfl hi d (k E p l e R s m args below meth c A cells slots Q C H locs ls hP hD hS hL)
theorem g_zald {q n : Nat} {i : Int32} (d : decode M.2.1 pc = .ok (.baload, 1)) (hs : r_SH[q]? = some (.inl (n, true))) (hi : vp_in i n) (k : G M h X Post (pc + 1) L (.int (σ q i.toNatClampNeg) :: S) σ) : G M h X Post pc L (.int i :: .ref q :: S) σ := by
  intro E p l e R s m args below meth c A cells slots Q C H locs ls hP hD hS hL
  exact va_zald C.1 C.2.1 C.2.2.2.2.2.1 hP q 1 (r_at E σ hs) rfl hi d (k E p l e R s m args below meth c A cells slots Q C H locs ls hP hD hS hL)
theorem g_iast {q n : Nat} {i v : Int32} (d : decode M.2.1 pc = .ok (.iastore, 1)) (hs : r_SH[q]? = some (.inl (n, false))) (hi : vp_in i n) (k : G M h X Post (pc + 1) L S (r_up σ q i.toNatClampNeg v)) : G M h X Post pc L (.int v :: .int i :: .ref q :: S) σ := by
  intro E p l e R s m args below meth c A cells slots Q C H locs ls hP hD hS hL
  refine va_iast C.1 C.2.1 C.2.2.2.2.2.1 hP hD hS q 0 (r_at E σ hs) rfl hi d (fun H1 locs1 hP1 hD1 hS1 => ?_)
  have e1 := r_setA E σ hs i.toNatClampNeg v
  exact k E p l e R s m args below meth c A cells slots Q C H1 locs1 ls (by rw [← e1]; exact hP1) (by rw [← e1]; exact hD1) hS1 hL
theorem g_zast {q n : Nat} {i v : Int32} (d : decode M.2.1 pc = .ok (.bastore, 1)) (hs : r_SH[q]? = some (.inl (n, true))) (hi : vp_in i n) (hv : v = 0 ∨ v = 1) (k : G M h X Post (pc + 1) L S (r_up σ q i.toNatClampNeg v)) : G M h X Post pc L (.int v :: .int i :: .ref q :: S) σ := by
  intro E p l e R s m args below meth c A cells slots Q C H locs ls hP hD hS hL
  refine va_zast C.1 C.2.1 C.2.2.2.2.2.1 hP hD hS q 1 (r_at E σ hs) rfl hi d (fun H1 locs1 hP1 hD1 hS1 => ?_)
  have e0 : vp_nar .boolean v = v := by rcases hv with rfl | rfl <;> rfl
  rw [e0] at hP1 hD1
  have e1 := r_setA E σ hs i.toNatClampNeg v
  exact k E p l e R s m args below meth c A cells slots Q C H1 locs1 ls (by rw [← e1]; exact hP1) (by rw [← e1]; exact hD1) hS1 hL
theorem g_alen {q n : Nat} {b : Bool} {v : Int32} (d : decode M.2.1 pc = .ok (.arraylength, 1)) (hs : r_SH[q]? = some (.inl (n, b))) (hv : Int32.ofNat n = v) (k : G M h X Post (pc + 1) L (.int v :: S) σ) : G M h X Post pc L (.ref q :: S) σ := by
  intro E p l e R s m args below meth c A cells slots Q C H locs ls hP hD hS hL
  cases b with
  | false => exact va_alen C.1 C.2.1 C.2.2.2.2.2.1 hP q 0 (r_at E σ hs) rfl hv d (k E p l e R s m args below meth c A cells slots Q C H locs ls hP hD hS hL)
  | true => exact va_alen C.1 C.2.1 C.2.2.2.2.2.1 hP q 1 (r_at E σ hs) rfl hv d (k E p l e R s m args below meth c A cells slots Q C H locs ls hP hD hS hL)
-- the static array, the script
theorem g_gets {idx : Nat} (d : decode M.2.1 pc = .ok (.getstatic idx, 3)) (hl : Cond.fieldLink M.1.cls idx "MendedBank$Code" "MOST_DATA" "[I" ∈ r_tbl) (k : G M h X Post (pc + 3) L (.ref 98 :: S) σ) : G M h X Post pc L S σ := by
  intro E p l e R s m args below meth c A cells slots Q C H locs ls hP hD hS hL
  exact va_gets C.1 C.2.1 C.2.2.2.2.2.2.2.2.1.1 hS C.2.2.2.1 (C.2.2.2.2.1 _ hl) (fun _ h9 => h9) d (k E p l e R s m args below meth c A cells slots Q C H locs ls hP hD hS hL)
theorem g_tld {i v : Int32} (d : decode M.2.1 pc = .ok (.iaload, 1)) (hi : vp_in i 3) (hv : r_md i.toNatClampNeg = .int v) (k : G M h X Post (pc + 1) L (.int v :: S) σ) : G M h X Post pc L (.int i :: .ref 98 :: S) σ := by
  intro E p l e R s m args below meth c A cells slots Q C H locs ls hP hD hS hL
  obtain ⟨cell, h1, h2, h3, h4, h5, h6, h7⟩ := C.2.2.2.2.2.2.2.2.1.2
  have hlt : i.toNatClampNeg < 3 := Nat.not_le.mp fun q => hi (Or.inr q)
  have hb : E.2.1 98 < s.heap.size := (Array.getElem?_eq_some_iff.mp h1).1
  exact W.iald (v := .int v) C.1 C.2.1 (by rw [hS.2.1 _ hb h7]; exact h1) h2 h3 (fun q => q.elim (fun z => hi (Or.inl z)) (fun z => by omega)) (by rw [h6 _ hlt, hv]) rfl rfl d (k E p l e R s m args below meth c A cells slots Q C H locs ls hP hD hS hL)
theorem g_sld {N : Nat} {xs : Nat → Int32} {i : Int32} (d : decode M.2.1 pc = .ok (.iaload, 1)) (hi : vp_in i N) (k : G M h (some (N, xs)) Post (pc + 1) L (.int (xs i.toNatClampNeg) :: S) σ) : G M h (some (N, xs)) Post pc L (.int i :: .ref 99 :: S) σ := by
  intro E p l e R s m args below meth c A cells slots Q C H locs ls hP hD hS hL
  obtain ⟨h1, h2, h3⟩ := C.2.2.2.2.2.2.2.2.2.1 _ rfl
  exact va_sld C.1 C.2.1 h1 h2 h3 hS hi d (k E p l e R s m args below meth c A cells slots Q C H locs ls hP hD hS hL)
theorem g_slen {N : Nat} {xs : Nat → Int32} (d : decode M.2.1 pc = .ok (.arraylength, 1)) (k : G M h (some (N, xs)) Post (pc + 1) L (.int (Int32.ofNat N) :: S) σ) : G M h (some (N, xs)) Post pc L (.ref 99 :: S) σ := by
  intro E p l e R s m args below meth c A cells slots Q C H locs ls hP hD hS hL
  obtain ⟨h1, h2, h3⟩ := C.2.2.2.2.2.2.2.2.2.1 _ rfl
  exact va_slen C.1 C.2.1 h1 h2 h3 hS d (k E p l e R s m args below meth c A cells slots Q C H locs ls hP hD hS hL)
end Rows
end
section
/-! calls; a method's walk gives its call -/
theorem r_good {ws : List Cond} (h : ∀ w ∈ ws, w ∈ r_tbl) : GoodIn r_tbl ws := fun w hw => ⟨h w hw, good_of_word (List.mem_filter.mp (h w hw)).2⟩
def r_Vl (own : String) (idx : Nat) (M : r_M) (ci n : Nat) : Prop := Cond.methodLink own idx M.1 ∈ r_tbl ∧ Cond.instanceMethod M.1 ∈ r_tbl ∧ Cond.selects M.1.cls M.1 M.1 ∈ r_tbl ∧ Cond.initialized M.1.cls ∈ r_tbl ∧ Cond.code M.1 M.2.1 M.2.2.1 M.2.2.2 ∈ r_tbl ∧ (vwCl[ci]?).map (fun q => q.1) = some M.1.cls ∧ M.1.cls ≠ "java/lang/invoke/MethodHandle" ∧ M.1.cls ≠ "java/lang/invoke/VarHandle" ∧ (parseMethodDescriptor M.1.desc).map (fun d => d.parameters.length) = some n ∧ M.2.2.1 ≤ 11
def r_Sl (own : String) (idx : Nat) (M : r_M) (n : Nat) : Prop := Cond.methodLink own idx M.1 ∈ r_tbl ∧ Cond.static M.1 ∈ r_tbl ∧ Cond.initialized M.1.cls ∈ r_tbl ∧ Cond.code M.1 M.2.1 M.2.2.1 M.2.2.2 ∈ r_tbl ∧ M.1.cls ≠ "java/lang/invoke/MethodHandle" ∧ M.1.cls ≠ "java/lang/invoke/VarHandle" ∧ (parseMethodDescriptor M.1.desc).map (fun d => d.parameters.length) = some n ∧ M.2.2.1 ≤ 11
theorem r_D {A : Nat → Prop} {E : r_En} {σ : r_Sg} (h : va_D A (r_W E σ)) (σ' : r_Sg) : va_D A (r_W E σ') := by
  have key : ∀ (k : Nat) (q : Nat × va_E), (r_W E σ')[k]? = some q → ∃ q0, (r_W E σ)[k]? = some q0 ∧ q0.1 = q.1 := by
    intro k q hq
    obtain ⟨sh, h1, h2⟩ := r_at_inv hq
    exact ⟨_, r_at E σ h1, by rw [h2]; rfl⟩
  refine ⟨fun i j x y hi hj hxy => ?_, fun k q hk => ?_⟩
  · obtain ⟨x0, h1, h2⟩ := key i x hi
    obtain ⟨y0, h3, h4⟩ := key j y hj
    exact h.1 i j x0 y0 h1 h3 (h2.trans (hxy.trans h4.symm))
  · obtain ⟨q0, h1, h2⟩ := key k q hk
    rw [← h2]
    exact h.2 k q0 h1
theorem r_St.at {ad : Nat → Nat} {A : Nat → Prop} {s U : State} {H : Heap} {locs : List Loc} (h : r_St ad A s s.heap) (hS : va_S A s.heap H locs) (hA : ∀ q, s.heap.size ≤ q → A q) (hC : ∀ k, k < 34 → A (ad k)) (hU : U.heap = H) (hv : s.vm.Alike U.vm) : r_St ad (r_A ad H.size) U U.heap := by
  have hn : ∀ q, r_A ad H.size q → A q := by
    intro q hq
    rcases hq with ⟨k, hk, rfl⟩ | hq
    · exact hC k hk
    · exact hA q (Nat.le_trans hS.1 hq)
  rw [hU]
  exact ⟨((h.1.kept (fun a h1 h2 => hS.2.1 a h1 h2)).moved hv).narrow hn, ((h.2.kept (fun a h1 h2 => hS.2.1 a h1 h2)).moved hv).narrow hn⟩
def r_Pc (E : r_En) (σ : r_Sg) (sz : Nat) (as : List Value) : Array Value → State → Prop := va_Pc (as.map (r_v E.2.1)) (fun U => U.heap.size = sz ∧ va_P E.1 vwCl (r_W E σ) U.heap ∧ va_K E.1 vwCl (r_ty E) U ∧ va_D (fun _ => True) (r_W E σ) ∧ r_St E.2.1 (r_A E.2.1 sz) U U.heap)
theorem r_blind (E : r_En) (σ : r_Sg) (sz : Nat) (as : List Value) : FrameBlind (r_Pc E σ sz as) := by
  intro a U g mk q
  obtain ⟨q0, q1, qP, qK, qD, qS⟩ := q
  exact ⟨q0, q1, qP, va_K.moved (u := U) (U := U.calling g mk a) (Vm.Alike.refl U.vm) qK, qD, va_Z.moved (u := U) (U := U.calling g mk a) (Vm.Alike.refl U.vm) qS.1, va_T.moved (u := U) (U := U.calling g mk a) (Vm.Alike.refl U.vm) qS.2⟩
section Calls
variable {M : r_M} {h : Nat} {X : r_X} {Post : Option Value → r_Sg → Prop} {pc : Nat} {L S : List Value} {σ σ' : r_Sg}
theorem r_behind {p : Program} {l : Launch} {e : Env} {R : Room} {s : State} {m : MethodId} {args : Array Value} {below : List Frame} {meth : Method} {c : Code} {A : Nat → Prop} {cells slots : Nat} {Q : State → Prop} {E : r_En} {H : Heap} {locs : List Loc} {ls : Array Slot} {r : Option Value} {rest st0 : List Value}
    (k : G M h X Post (pc + 3) L (r.toList ++ rest) σ') (C : r_C M h X Post E p l e R s m args below meth c A cells slots Q) (hD : va_D A (r_W E σ)) (hS : va_S A s.heap H locs) (hL : r_L E.2.1 ls M.2.2.1 L)
    (hr : va_Run p l e R s m args below meth c H locs cells slots 0 0 (F0 m pc ls st0) (rest.map (r_v E.2.1)) (fun st oc t => (oc = .returned (r.map (r_v E.2.1)) ∧ va_P E.1 vwCl (r_W E σ') t.heap) ∧ va_F (r_A E.2.1 H.size) st t) (r_A E.2.1 H.size)) : W p l e R s m args below meth c H locs cells slots Q (F0 m pc ls st0) := by
  have hn : ∀ q, r_A E.2.1 H.size q → A q := by
    intro q hq
    rcases hq with ⟨k, hk, rfl⟩ | hq
    · exact C.2.2.2.2.2.2.2.1 k hk
    · exact C.2.2.2.2.2.2.1 q (Nat.le_trans hS.1 hq)
  intro T hT X0
  obtain ⟨v, st₀, t, T', L2, h0, X', hL2, e1, e2, ⟨⟨hv, hP1⟩, hz, hk⟩, st⟩ := hr T hT X0
  cases hv
  rw [h0] at hz hk
  have e3 : (r.map (r_v E.2.1)).toList ++ rest.map (r_v E.2.1) = (r.toList ++ rest).map (r_v E.2.1) := by cases r <;> simp
  obtain ⟨t2, a1, b1⟩ := k E p l e R s m args below meth c A cells slots Q C T'.heap (locs ++ L2) ls (by rw [e1]; exact hP1) (r_D hD σ')
    ⟨Nat.le_trans hS.1 (by rw [e1]; exact hz), fun q h1 h2 => by rw [e1, hk q (Nat.lt_of_lt_of_le h1 hS.1) (fun z => h2 (hn q z))]; exact hS.2.1 q h1 h2, fun q hq => by
      rcases List.mem_append.mp hq with h | h
      · exact hS.2.2 q h
      · exact hn _ (hL2 q h)⟩ hL T' rfl X'
  refine ⟨t2, st t2 ?_, b1⟩
  rw [e3]
  exact a1
theorem r_cats (ad : Nat → Nat) (rest : List Value) : ((rest.map (r_v ad)).map fun v => v.category).sum = (rest.map fun v => v.category).sum := by
  rw [List.map_map]
  congr 1
  apply List.map_congr_left
  intro v _
  exact r_v_cat ad v
theorem g_callV {idx ci q n h' : Nat} {M' : r_M} {fl : List (Option Nat)} {As rest : List Value} {r : Option Value} (d : decode M.2.1 pc = .ok (.invokevirtual idx, 3)) (hv : r_Vl M.1.cls idx M' ci n) (hs : r_SH[q]? = some (.inr (ci, fl))) (hn : As.length = n) (hc : (rest.map fun v => v.category).sum ≤ 8) (hh : h' + 1 ≤ h) (hev : Ev h' M' (.ref q :: As) σ r σ') (k : G M h X Post (pc + 3) L (r.toList ++ rest) σ') : G M h X Post pc L (As.reverse ++ .ref q :: rest) σ := by
  intro E p l e R s m args below meth c A cells slots Q C H locs ls hP hD hS hL
  obtain ⟨v1, v2, v3, v4, v5, v6, v7, v8, v9, v10⟩ := hv
  obtain ⟨hx, hb, hml, hown, hts, hK, hA, hC, hSt, hXF, ⟨hR1, hR2⟩, ⟨hc1, hc2⟩, hret⟩ := id C
  obtain ⟨cq, hcq, hcn⟩ : ∃ cq, vwCl[ci]? = some cq ∧ cq.1 = M'.1.cls := by
    cases hq : vwCl[ci]? with
    | none => rw [hq] at v6; cases v6
    | some cq => rw [hq] at v6; exact ⟨cq, rfl, Option.some.inj v6⟩
  have hM := hev l E H.size
  have hrec := va_recv hK hP hcq (r_at E σ hs)
  rw [hcn] at hrec
  refine r_behind k C hD hS hL (va_runV (As := As.map (r_v E.2.1)) (rest := rest.map (r_v E.2.1)) (b := E.2.1 q) ⟨hx, hb, hml, hown, hts⟩ hM (cwV n hts (r_good ?_) rfl rfl rfl ⟨rfl, v7, v8, v9⟩ ⟨Nat.le_trans hh hR1, ?_⟩) ⟨r_blind E σ H.size _, hrec, fun U hU hW => ⟨rfl, by rw [hU], by rw [hU]; exact hP, va_K.moved hW.alike hK, hD.weaken (fun _ _ _ _ => trivial), hSt.at hS hA hC hU hW.alike⟩⟩ rfl (by simpa using hn) hL.1 (by simp [List.map_reverse]; rfl) (lv_room (by rw [r_cats]; exact hc)) d ⟨hc1, hc2⟩)
  · intro w hw
    simp only [wsV, List.cons_append, List.nil_append, List.mem_cons] at hw
    rcases hw with rfl | rfl | rfl | rfl | rfl | hw
    · exact v1
    · exact v2
    · exact v3
    · exact v4
    · exact v5
    · exact hw
  · show 8 + (M'.2.2.1 + 11) + 30 * h' ≤ R.locals
    omega
theorem g_callS {idx n h' : Nat} {M' : r_M} {As rest : List Value} {r : Option Value} (d : decode M.2.1 pc = .ok (.invokestatic idx, 3)) (hv : r_Sl M.1.cls idx M' n) (hn : As.length = n) (hc : (rest.map fun v => v.category).sum ≤ 8) (hh : h' + 1 ≤ h) (hev : Ev h' M' As σ r σ') (k : G M h X Post (pc + 3) L (r.toList ++ rest) σ') : G M h X Post pc L (As.reverse ++ rest) σ := by
  intro E p l e R s m args below meth c A cells slots Q C H locs ls hP hD hS hL
  obtain ⟨v1, v2, v4, v5, v7, v8, v9, v10⟩ := hv
  obtain ⟨hx, hb, hml, hown, hts, hK, hA, hC, hSt, hXF, ⟨hR1, hR2⟩, ⟨hc1, hc2⟩, hret⟩ := id C
  have hM := hev l E H.size
  refine r_behind k C hD hS hL (va_runS (As := As.map (r_v E.2.1)) (rest := rest.map (r_v E.2.1)) ⟨hx, hb, hml, hown, hts⟩ hM (va_cwS n hts (r_good ?_) rfl rfl rfl ⟨v7, v8, v9⟩ ⟨Nat.le_trans hh hR1, ?_⟩) ⟨r_blind E σ H.size _, fun U hU hW => ⟨rfl, by rw [hU], by rw [hU]; exact hP, va_K.moved hW.alike hK, hD.weaken (fun _ _ _ _ => trivial), hSt.at hS hA hC hU hW.alike⟩⟩ rfl (by simpa using hn) hL.1 (by simp [List.map_reverse]) (lv_room (by rw [r_cats]; exact hc)) d ⟨hc1, hc2⟩)
  · intro w hw
    simp only [va_wsS, List.cons_append, List.nil_append, List.mem_cons] at hw
    rcases hw with rfl | rfl | rfl | rfl | hw
    · exact v1
    · exact v2
    · exact v4
    · exact v5
    · exact hw
  · show 8 + (M'.2.2.1 + 11) + 30 * h' ≤ R.locals
    omega
theorem g_lcmp {x y : Int64} (d : decode M.2.1 pc = .ok (.lcmp, 1)) (k : G M h X Post (pc + 1) L (.int (lg_cmp x y) :: S) σ) : G M h X Post pc L (.long y :: .long x :: S) σ := by
  intro E p l e R s m args below meth c A cells slots Q C H locs ls hP hD hS hL
  exact W.lcmp C.1 C.2.1 d (k E p l e R s m args below meth c A cells slots Q C H locs ls hP hD hS hL)
end Calls
theorem r_args : ∀ (vs : List Value) (k i : Nat) (v : Value), (∀ w ∈ vs, w.category = 1) → vs[i]? = some v → (k + i, v) ∈ lv_args k vs
  | [], k, i, v, _, h => by simp at h
  | w :: vs, k, i, v, hc, h => by
    have h1 : ¬ w.category = 2 := by rw [hc w List.mem_cons_self]; decide
    cases i with
    | zero =>
      simp at h
      subst h
      simp [lv_args]
    | succ i =>
      have h3 := r_args vs (k + 1) i v (fun z hz => hc z (List.mem_cons_of_mem _ hz)) (by simpa using h)
      simp only [lv_args, h1, if_false]
      refine List.mem_cons_of_mem _ ?_
      rw [show k + (i + 1) = k + 1 + i by omega]
      exact h3
theorem r_sl : ∀ (vs : List Value), (∀ w ∈ vs, w.category = 1) → (lg_sl vs).length = vs.length
  | [], _ => rfl
  | w :: vs, hc => by
    have h1 : ¬ w.category = 2 := by rw [hc w List.mem_cons_self]; decide
    have h2 := r_sl vs (fun z hz => hc z (List.mem_cons_of_mem _ hz))
    simp only [lg_sl, List.flatMap_cons, h1, if_false, List.length_append, List.length_cons] at h2 ⊢
    simp only [List.length_nil]
    omega
theorem r_entry (ad : Nat → Nat) (as : List Value) (n : Nat) (hc : ∀ w ∈ as, w.category = 1) (hl : as.length ≤ n) : r_L ad ((lg_sl (as.map (r_v ad)) ++ List.replicate (n - (lg_sl (as.map (r_v ad))).length) Slot.unset).toArray) n (as ++ List.replicate (n - as.length) .null) := by
  have hc2 : ∀ w ∈ as.map (r_v ad), w.category = 1 := by
    intro w hw
    obtain ⟨v, hv, rfl⟩ := List.mem_map.mp hw
    rw [r_v_cat]
    exact hc v hv
  have he := lv_entry (as.map (r_v ad)) (n := n) (by rw [r_sl _ hc2]; simpa using hl)
  refine ⟨he.1, he.2.1, fun i v hi hv => ?_⟩
  by_cases hil : i < as.length
  · rw [List.getElem?_append_left hil] at hi
    have h1 := r_args (as.map (r_v ad)) 0 i (r_v ad v) hc2 (by rw [List.getElem?_map, hi]; rfl)
    have h2 := he.2.2 _ h1
    simpa using h2
  · rw [List.getElem?_append_right (by omega)] at hi
    exact absurd (List.eq_of_mem_replicate (List.mem_of_getElem? hi)) hv
theorem Ev_of {h : Nat} {M : r_M} {as : List Value} {σ σ' : r_Sg} {r : Option Value} (hp : plainName M.1.cls = true) (hc : ∀ w ∈ as, w.category = 1) (hl : as.length ≤ M.2.2.1) (hg : G M h none (fun r1 s1 => r1 = r ∧ s1 = σ') 0 (as ++ List.replicate (M.2.2.1 - as.length) .null) [] σ) : Ev h M as σ r σ' := by
  intro l E sz
  refine Met.ofW (cc := M.2.1) (maxL := M.2.2.1) (ret := M.2.2.2) hp rfl ?_
  intro p e s m args below meth c s₁ B hml hv
  obtain ⟨rfl, hsz, hP, hK, hD0, hSt⟩ := hv
  subst hsz
  have hts := atoms_spec (ws := .code M.1 M.2.1 M.2.2.1 M.2.2.2 :: r_tbl) B.pre
  have hr := B.returns
  have hlocks := B.notSynchronized
  have hx := B.exec
  have hb := B.bytes
  rw [lg_entry_eq]
  refine hg E p l e _ s m _ below meth c (r_A E.2.1 s.heap.size) 0 0 _ ⟨B.exec, B.bytes, hml, findClass_of_methodNamed B.named, fun w hw => hts w (List.mem_cons_of_mem _ hw), hK, fun q h => Or.inr h, fun k hk => Or.inl ⟨k, hk, rfl⟩, hSt, (fun q h => by cases h), ⟨Nat.le_refl _, Nat.le_refl _⟩, ⟨Nat.zero_le _, Nat.zero_le _⟩, ?_⟩ s.heap [] _ hP ?_ va_S.rf (r_entry E.2.1 as _ hc hl)
  · intro pc i r2 σ2 S H locs ls d hri hrt hpost hP2 hD2 hS2
    obtain ⟨rfl, rfl⟩ := hpost
    unfold r_ri at hri
    split at hri
    · subst hri
      rename_i v
      cases hM : M.2.2.2 with
      | none => rw [hM] at hrt; exact absurd hrt (by simp [r_rt])
      | some ty =>
        rw [hM] at hrt hr
        exact W.zret hx hb hr hrt.1 (fun t ht hW => ⟨⟨rfl, by rw [ht]; exact hP2⟩, hS2.F ht⟩) hS2.2.2 d
    · subst hri
      cases hM : M.2.2.2 with
      | none => rw [hM] at hrt; exact absurd hrt (by simp [r_rt])
      | some ty =>
        rw [hM] at hrt hr
        have h9 : ty = .long := hrt
        subst h9
        exact W.lret hx hb hr (fun t ht hW => ⟨⟨rfl, by rw [ht]; exact hP2⟩, hS2.F ht⟩) hS2.2.2 d
    · subst hri
      cases hM : M.2.2.2 with
      | none => rw [hM] at hrt; exact absurd hrt (by simp [r_rt])
      | some ty =>
        rw [hM] at hrt hr
        exact W.aret hx hb hr (Or.inl hrt) (Or.inr ⟨_, rfl⟩) (fun t ht hW => ⟨⟨rfl, by rw [ht]; exact hP2⟩, hS2.F ht⟩) hS2.2.2 d
    · cases hM : M.2.2.2 with
      | some ty => rw [hM] at hrt; exact absurd hrt (by simp [r_rt])
      | none =>
        rw [hM] at hr
        exact W.vret hx hb hr (fun t ht hW => ⟨⟨rfl, by rw [ht]; exact hP2⟩, hS2.F ht⟩) hS2.2.2 d
    · exact absurd hri (by simp)
  · refine ⟨hD0.1, fun k q hk => ?_⟩
    obtain ⟨sh, h1, h2⟩ := r_at_inv hk
    rw [h2]
    exact Or.inl ⟨k, r_kk h1, rfl⟩
end
