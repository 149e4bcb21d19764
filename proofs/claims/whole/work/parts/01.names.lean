-- ===== PART A: goes FIRST, ahead of the names: the tables' words, and 'selects' of the private methods out of them =====
/-- a private method of a class that the tables say can be made, by its rows of tables_1 -/
def lw_okq (q : MethodName × Nat) : Prop := (q.1.cls ≠ "java/lang/invoke/MethodHandle" ∧ q.1.cls ≠ "java/lang/invoke/VarHandle") ∧ Cond.instantiable q.1.cls q.2 ∈ tables_1 ∧ Cond.privateMethod q.1 ∈ tables_1 ∧ Cond.instanceMethod q.1 ∈ tables_1
theorem lw_p0 : lw_okq (⟨"ChairRanks", "found", "(I)I"⟩, 12) := ⟨⟨by decide +kernel, by decide +kernel⟩, List.mem_of_getElem? (i := 18) (by decide +kernel), List.mem_of_getElem? (i := 215) (by decide +kernel), List.mem_of_getElem? (i := 216) (by decide +kernel)⟩
theorem lw_p1 : lw_okq (⟨"ChairRanks", "nothingFound", "(I)I"⟩, 12) := ⟨⟨by decide +kernel, by decide +kernel⟩, List.mem_of_getElem? (i := 18) (by decide +kernel), List.mem_of_getElem? (i := 227) (by decide +kernel), List.mem_of_getElem? (i := 228) (by decide +kernel)⟩
theorem lw_p2 : lw_okq (⟨"ChairRanks", "findingOfItems", "(III)I"⟩, 12) := ⟨⟨by decide +kernel, by decide +kernel⟩, List.mem_of_getElem? (i := 18) (by decide +kernel), List.mem_of_getElem? (i := 235) (by decide +kernel), List.mem_of_getElem? (i := 236) (by decide +kernel)⟩
theorem lw_p3 : lw_okq (⟨"ChairRanks$Tape", "readLaw", "(LChairRanks$Ministry;)V"⟩, 4) := ⟨⟨by decide +kernel, by decide +kernel⟩, List.mem_of_getElem? (i := 28) (by decide +kernel), List.mem_of_getElem? (i := 287) (by decide +kernel), List.mem_of_getElem? (i := 288) (by decide +kernel)⟩
theorem lw_p4 : lw_okq (⟨"ChairRanks$Tape", "takeSign", "(I)V"⟩, 4) := ⟨⟨by decide +kernel, by decide +kernel⟩, List.mem_of_getElem? (i := 28) (by decide +kernel), List.mem_of_getElem? (i := 291) (by decide +kernel), List.mem_of_getElem? (i := 292) (by decide +kernel)⟩
theorem lw_p5 : lw_okq (⟨"ChairRanks$Tape", "takeNumber", "(II)I"⟩, 4) := ⟨⟨by decide +kernel, by decide +kernel⟩, List.mem_of_getElem? (i := 28) (by decide +kernel), List.mem_of_getElem? (i := 295) (by decide +kernel), List.mem_of_getElem? (i := 296) (by decide +kernel)⟩
theorem lw_p6 : lw_okq (⟨"ChairRanks$Tape", "readOneChair", "(LChairRanks$Ministry;)V"⟩, 4) := ⟨⟨by decide +kernel, by decide +kernel⟩, List.mem_of_getElem? (i := 28) (by decide +kernel), List.mem_of_getElem? (i := 300) (by decide +kernel), List.mem_of_getElem? (i := 301) (by decide +kernel)⟩
theorem lw_p7 : lw_okq (⟨"ChairRanks", "isEmpty", "()Z"⟩, 12) := ⟨⟨by decide +kernel, by decide +kernel⟩, List.mem_of_getElem? (i := 18) (by decide +kernel), List.mem_of_getElem? (i := 428) (by decide +kernel), List.mem_of_getElem? (i := 429) (by decide +kernel)⟩
theorem lw_p8 : lw_okq (⟨"ChairRanks$Ministry", "reckonRanks", "()V"⟩, 14) := ⟨⟨by decide +kernel, by decide +kernel⟩, List.mem_of_getElem? (i := 50) (by decide +kernel), List.mem_of_getElem? (i := 441) (by decide +kernel), List.mem_of_getElem? (i := 442) (by decide +kernel)⟩
theorem lw_p9 : lw_okq (⟨"ChairRanks$Ministry", "preyByRanks", "(I)I"⟩, 14) := ⟨⟨by decide +kernel, by decide +kernel⟩, List.mem_of_getElem? (i := 50) (by decide +kernel), List.mem_of_getElem? (i := 449) (by decide +kernel), List.mem_of_getElem? (i := 450) (by decide +kernel)⟩
theorem lw_p10 : lw_okq (⟨"ChairRanks$Ministry", "sawLeg", "(II)Z"⟩, 14) := ⟨⟨by decide +kernel, by decide +kernel⟩, List.mem_of_getElem? (i := 50) (by decide +kernel), List.mem_of_getElem? (i := 458) (by decide +kernel), List.mem_of_getElem? (i := 459) (by decide +kernel)⟩
theorem lw_p11 : lw_okq (⟨"ChairRanks", "isChair", "(I)Z"⟩, 12) := ⟨⟨by decide +kernel, by decide +kernel⟩, List.mem_of_getElem? (i := 18) (by decide +kernel), List.mem_of_getElem? (i := 471) (by decide +kernel), List.mem_of_getElem? (i := 472) (by decide +kernel)⟩
theorem lw_p12 : lw_okq (⟨"ChairRanks", "foresee", "()V"⟩, 12) := ⟨⟨by decide +kernel, by decide +kernel⟩, List.mem_of_getElem? (i := 18) (by decide +kernel), List.mem_of_getElem? (i := 531) (by decide +kernel), List.mem_of_getElem? (i := 532) (by decide +kernel)⟩
theorem lw_p13 : lw_okq (⟨"ChairRanks", "fewestToWatch", "(III)I"⟩, 12) := ⟨⟨by decide +kernel, by decide +kernel⟩, List.mem_of_getElem? (i := 18) (by decide +kernel), List.mem_of_getElem? (i := 565) (by decide +kernel), List.mem_of_getElem? (i := 566) (by decide +kernel)⟩
theorem lw_p14 : lw_okq (⟨"ChairRanks", "rankIfWatched", "(III)I"⟩, 12) := ⟨⟨by decide +kernel, by decide +kernel⟩, List.mem_of_getElem? (i := 18) (by decide +kernel), List.mem_of_getElem? (i := 569) (by decide +kernel), List.mem_of_getElem? (i := 570) (by decide +kernel)⟩
theorem lw_p15 : lw_okq (⟨"ChairRanks", "passWatched", "(II)V"⟩, 12) := ⟨⟨by decide +kernel, by decide +kernel⟩, List.mem_of_getElem? (i := 18) (by decide +kernel), List.mem_of_getElem? (i := 573) (by decide +kernel), List.mem_of_getElem? (i := 574) (by decide +kernel)⟩
def lw_privs_1 : List (MethodName × Nat) := [(⟨"ChairRanks", "found", "(I)I"⟩, 12), (⟨"ChairRanks", "nothingFound", "(I)I"⟩, 12), (⟨"ChairRanks", "findingOfItems", "(III)I"⟩, 12), (⟨"ChairRanks$Tape", "readLaw", "(LChairRanks$Ministry;)V"⟩, 4), (⟨"ChairRanks$Tape", "takeSign", "(I)V"⟩, 4), (⟨"ChairRanks$Tape", "takeNumber", "(II)I"⟩, 4), (⟨"ChairRanks$Tape", "readOneChair", "(LChairRanks$Ministry;)V"⟩, 4), (⟨"ChairRanks", "isEmpty", "()Z"⟩, 12), (⟨"ChairRanks$Ministry", "reckonRanks", "()V"⟩, 14), (⟨"ChairRanks$Ministry", "preyByRanks", "(I)I"⟩, 14), (⟨"ChairRanks$Ministry", "sawLeg", "(II)Z"⟩, 14), (⟨"ChairRanks", "isChair", "(I)Z"⟩, 12), (⟨"ChairRanks", "foresee", "()V"⟩, 12), (⟨"ChairRanks", "fewestToWatch", "(III)I"⟩, 12), (⟨"ChairRanks", "rankIfWatched", "(III)I"⟩, 12), (⟨"ChairRanks", "passWatched", "(II)V"⟩, 12)]
theorem lw_r1 : ∀ q ∈ lw_privs_1, lw_okq q := List.forall_mem_cons.mpr ⟨lw_p0, List.forall_mem_cons.mpr ⟨lw_p1, List.forall_mem_cons.mpr ⟨lw_p2, List.forall_mem_cons.mpr ⟨lw_p3, List.forall_mem_cons.mpr ⟨lw_p4, List.forall_mem_cons.mpr ⟨lw_p5, List.forall_mem_cons.mpr ⟨lw_p6, List.forall_mem_cons.mpr ⟨lw_p7, List.forall_mem_cons.mpr ⟨lw_p8, List.forall_mem_cons.mpr ⟨lw_p9, List.forall_mem_cons.mpr ⟨lw_p10, List.forall_mem_cons.mpr ⟨lw_p11, List.forall_mem_cons.mpr ⟨lw_p12, List.forall_mem_cons.mpr ⟨lw_p13, List.forall_mem_cons.mpr ⟨lw_p14, List.forall_mem_cons.mpr ⟨lw_p15, fun _ h => absurd h List.not_mem_nil⟩⟩⟩⟩⟩⟩⟩⟩⟩⟩⟩⟩⟩⟩⟩⟩
theorem lw_p16 : lw_okq (⟨"ChairRanks", "refusalOfOrder", "(II)I"⟩, 12) := ⟨⟨by decide +kernel, by decide +kernel⟩, List.mem_of_getElem? (i := 18) (by decide +kernel), List.mem_of_getElem? (i := 589) (by decide +kernel), List.mem_of_getElem? (i := 590) (by decide +kernel)⟩
theorem lw_p17 : lw_okq (⟨"ChairRanks", "findingOfOrder", "(II)I"⟩, 12) := ⟨⟨by decide +kernel, by decide +kernel⟩, List.mem_of_getElem? (i := 18) (by decide +kernel), List.mem_of_getElem? (i := 593) (by decide +kernel), List.mem_of_getElem? (i := 594) (by decide +kernel)⟩
theorem lw_p18 : lw_okq (⟨"ChairRanks", "leastSawdust", "()I"⟩, 12) := ⟨⟨by decide +kernel, by decide +kernel⟩, List.mem_of_getElem? (i := 18) (by decide +kernel), List.mem_of_getElem? (i := 597) (by decide +kernel), List.mem_of_getElem? (i := 598) (by decide +kernel)⟩
theorem lw_p19 : lw_okq (⟨"ChairRanks", "fewestCushions", "()I"⟩, 12) := ⟨⟨by decide +kernel, by decide +kernel⟩, List.mem_of_getElem? (i := 18) (by decide +kernel), List.mem_of_getElem? (i := 609) (by decide +kernel), List.mem_of_getElem? (i := 610) (by decide +kernel)⟩
theorem lw_p20 : lw_okq (⟨"ChairRanks", "fewestAboveHalf", "()I"⟩, 12) := ⟨⟨by decide +kernel, by decide +kernel⟩, List.mem_of_getElem? (i := 18) (by decide +kernel), List.mem_of_getElem? (i := 621) (by decide +kernel), List.mem_of_getElem? (i := 622) (by decide +kernel)⟩
theorem lw_p21 : lw_okq (⟨"ChairRanks", "highTogether", "(I)I"⟩, 12) := ⟨⟨by decide +kernel, by decide +kernel⟩, List.mem_of_getElem? (i := 18) (by decide +kernel), List.mem_of_getElem? (i := 625) (by decide +kernel), List.mem_of_getElem? (i := 626) (by decide +kernel)⟩
theorem lw_p22 : lw_okq (⟨"ChairRanks", "suppose", "(III)V"⟩, 12) := ⟨⟨by decide +kernel, by decide +kernel⟩, List.mem_of_getElem? (i := 18) (by decide +kernel), List.mem_of_getElem? (i := 651) (by decide +kernel), List.mem_of_getElem? (i := 652) (by decide +kernel)⟩
theorem lw_p23 : lw_okq (⟨"ChairRanks", "comesTrue", "(ILChairRanks$Row;II)Z"⟩, 12) := ⟨⟨by decide +kernel, by decide +kernel⟩, List.mem_of_getElem? (i := 18) (by decide +kernel), List.mem_of_getElem? (i := 655) (by decide +kernel), List.mem_of_getElem? (i := 656) (by decide +kernel)⟩
theorem lw_p24 : lw_okq (⟨"ChairRanks", "weightOf", "(II)J"⟩, 12) := ⟨⟨by decide +kernel, by decide +kernel⟩, List.mem_of_getElem? (i := 18) (by decide +kernel), List.mem_of_getElem? (i := 668) (by decide +kernel), List.mem_of_getElem? (i := 669) (by decide +kernel)⟩
theorem lw_p25 : lw_okq (⟨"ChairRanks$Asks", "sizeOf", "(LChairRanks$Ministry;II)I"⟩, 2) := ⟨⟨by decide +kernel, by decide +kernel⟩, List.mem_of_getElem? (i := 135) (by decide +kernel), List.mem_of_getElem? (i := 708) (by decide +kernel), List.mem_of_getElem? (i := 709) (by decide +kernel)⟩
theorem lw_p26 : lw_okq (⟨"ChairRanks$Asks", "plainSize", "(LChairRanks$Ministry;II)I"⟩, 2) := ⟨⟨by decide +kernel, by decide +kernel⟩, List.mem_of_getElem? (i := 135) (by decide +kernel), List.mem_of_getElem? (i := 712) (by decide +kernel), List.mem_of_getElem? (i := 713) (by decide +kernel)⟩
theorem lw_p27 : lw_okq (⟨"ChairRanks$Asks", "begin", "(I)V"⟩, 2) := ⟨⟨by decide +kernel, by decide +kernel⟩, List.mem_of_getElem? (i := 135) (by decide +kernel), List.mem_of_getElem? (i := 716) (by decide +kernel), List.mem_of_getElem? (i := 717) (by decide +kernel)⟩
theorem lw_p28 : lw_okq (⟨"ChairRanks$Asks", "lentSize", "(LChairRanks$Ministry;I)I"⟩, 2) := ⟨⟨by decide +kernel, by decide +kernel⟩, List.mem_of_getElem? (i := 135) (by decide +kernel), List.mem_of_getElem? (i := 720) (by decide +kernel), List.mem_of_getElem? (i := 721) (by decide +kernel)⟩
theorem lw_p29 : lw_okq (⟨"ChairRanks$Asks", "markOf", "(LChairRanks$Ministry;II)I"⟩, 2) := ⟨⟨by decide +kernel, by decide +kernel⟩, List.mem_of_getElem? (i := 135) (by decide +kernel), List.mem_of_getElem? (i := 724) (by decide +kernel), List.mem_of_getElem? (i := 725) (by decide +kernel)⟩
theorem lw_p30 : lw_okq (⟨"ChairRanks$Asks", "plainMark", "(LChairRanks$Ministry;I)I"⟩, 2) := ⟨⟨by decide +kernel, by decide +kernel⟩, List.mem_of_getElem? (i := 135) (by decide +kernel), List.mem_of_getElem? (i := 728) (by decide +kernel), List.mem_of_getElem? (i := 729) (by decide +kernel)⟩
theorem lw_p31 : lw_okq (⟨"ChairRanks$Asks", "lentMark", "(I)I"⟩, 2) := ⟨⟨by decide +kernel, by decide +kernel⟩, List.mem_of_getElem? (i := 135) (by decide +kernel), List.mem_of_getElem? (i := 732) (by decide +kernel), List.mem_of_getElem? (i := 733) (by decide +kernel)⟩
def lw_privs_2 : List (MethodName × Nat) := [(⟨"ChairRanks", "refusalOfOrder", "(II)I"⟩, 12), (⟨"ChairRanks", "findingOfOrder", "(II)I"⟩, 12), (⟨"ChairRanks", "leastSawdust", "()I"⟩, 12), (⟨"ChairRanks", "fewestCushions", "()I"⟩, 12), (⟨"ChairRanks", "fewestAboveHalf", "()I"⟩, 12), (⟨"ChairRanks", "highTogether", "(I)I"⟩, 12), (⟨"ChairRanks", "suppose", "(III)V"⟩, 12), (⟨"ChairRanks", "comesTrue", "(ILChairRanks$Row;II)Z"⟩, 12), (⟨"ChairRanks", "weightOf", "(II)J"⟩, 12), (⟨"ChairRanks$Asks", "sizeOf", "(LChairRanks$Ministry;II)I"⟩, 2), (⟨"ChairRanks$Asks", "plainSize", "(LChairRanks$Ministry;II)I"⟩, 2), (⟨"ChairRanks$Asks", "begin", "(I)V"⟩, 2), (⟨"ChairRanks$Asks", "lentSize", "(LChairRanks$Ministry;I)I"⟩, 2), (⟨"ChairRanks$Asks", "markOf", "(LChairRanks$Ministry;II)I"⟩, 2), (⟨"ChairRanks$Asks", "plainMark", "(LChairRanks$Ministry;I)I"⟩, 2), (⟨"ChairRanks$Asks", "lentMark", "(I)I"⟩, 2)]
theorem lw_r2 : ∀ q ∈ lw_privs_2, lw_okq q := List.forall_mem_cons.mpr ⟨lw_p16, List.forall_mem_cons.mpr ⟨lw_p17, List.forall_mem_cons.mpr ⟨lw_p18, List.forall_mem_cons.mpr ⟨lw_p19, List.forall_mem_cons.mpr ⟨lw_p20, List.forall_mem_cons.mpr ⟨lw_p21, List.forall_mem_cons.mpr ⟨lw_p22, List.forall_mem_cons.mpr ⟨lw_p23, List.forall_mem_cons.mpr ⟨lw_p24, List.forall_mem_cons.mpr ⟨lw_p25, List.forall_mem_cons.mpr ⟨lw_p26, List.forall_mem_cons.mpr ⟨lw_p27, List.forall_mem_cons.mpr ⟨lw_p28, List.forall_mem_cons.mpr ⟨lw_p29, List.forall_mem_cons.mpr ⟨lw_p30, List.forall_mem_cons.mpr ⟨lw_p31, fun _ h => absurd h List.not_mem_nil⟩⟩⟩⟩⟩⟩⟩⟩⟩⟩⟩⟩⟩⟩⟩⟩
theorem lw_p32 : lw_okq (⟨"ChairRanks$Asks", "oakMark", "(LChairRanks$Ministry;II)I"⟩, 2) := ⟨⟨by decide +kernel, by decide +kernel⟩, List.mem_of_getElem? (i := 135) (by decide +kernel), List.mem_of_getElem? (i := 736) (by decide +kernel), List.mem_of_getElem? (i := 737) (by decide +kernel)⟩
theorem lw_p33 : lw_okq (⟨"ChairRanks$Asks", "oakSize", "(LChairRanks$Ministry;I)I"⟩, 2) := ⟨⟨by decide +kernel, by decide +kernel⟩, List.mem_of_getElem? (i := 135) (by decide +kernel), List.mem_of_getElem? (i := 741) (by decide +kernel), List.mem_of_getElem? (i := 742) (by decide +kernel)⟩
theorem lw_p34 : lw_okq (⟨"ChairRanks", "rowsThere", "()I"⟩, 12) := ⟨⟨by decide +kernel, by decide +kernel⟩, List.mem_of_getElem? (i := 18) (by decide +kernel), List.mem_of_getElem? (i := 754) (by decide +kernel), List.mem_of_getElem? (i := 755) (by decide +kernel)⟩
theorem lw_p35 : lw_okq (⟨"ChairRanksModel", "find", "(I)I"⟩, 25) := ⟨⟨by decide +kernel, by decide +kernel⟩, List.mem_of_getElem? (i := 766) (by decide +kernel), List.mem_of_getElem? (i := 862) (by decide +kernel), List.mem_of_getElem? (i := 863) (by decide +kernel)⟩
theorem lw_p36 : lw_okq (⟨"ChairRanksModel", "well", "(I)I"⟩, 25) := ⟨⟨by decide +kernel, by decide +kernel⟩, List.mem_of_getElem? (i := 766) (by decide +kernel), List.mem_of_getElem? (i := 867) (by decide +kernel), List.mem_of_getElem? (i := 868) (by decide +kernel)⟩
theorem lw_p37 : lw_okq (⟨"ChairRanksModel", "readMinistry", "()Z"⟩, 25) := ⟨⟨by decide +kernel, by decide +kernel⟩, List.mem_of_getElem? (i := 766) (by decide +kernel), List.mem_of_getElem? (i := 896) (by decide +kernel), List.mem_of_getElem? (i := 897) (by decide +kernel)⟩
theorem lw_p38 : lw_okq (⟨"ChairRanksModel", "nextToken", "()V"⟩, 25) := ⟨⟨by decide +kernel, by decide +kernel⟩, List.mem_of_getElem? (i := 766) (by decide +kernel), List.mem_of_getElem? (i := 900) (by decide +kernel), List.mem_of_getElem? (i := 901) (by decide +kernel)⟩
theorem lw_p39 : lw_okq (⟨"ChairRanksModel", "takes", "(I)Z"⟩, 25) := ⟨⟨by decide +kernel, by decide +kernel⟩, List.mem_of_getElem? (i := 766) (by decide +kernel), List.mem_of_getElem? (i := 908) (by decide +kernel), List.mem_of_getElem? (i := 909) (by decide +kernel)⟩
theorem lw_p40 : lw_okq (⟨"ChairRanksModel", "isLetter", "(I)Z"⟩, 25) := ⟨⟨by decide +kernel, by decide +kernel⟩, List.mem_of_getElem? (i := 766) (by decide +kernel), List.mem_of_getElem? (i := 912) (by decide +kernel), List.mem_of_getElem? (i := 913) (by decide +kernel)⟩
theorem lw_p41 : lw_okq (⟨"ChairRanksModel", "faults", "(I)Z"⟩, 25) := ⟨⟨by decide +kernel, by decide +kernel⟩, List.mem_of_getElem? (i := 766) (by decide +kernel), List.mem_of_getElem? (i := 916) (by decide +kernel), List.mem_of_getElem? (i := 917) (by decide +kernel)⟩
theorem lw_p42 : lw_okq (⟨"ChairRanksModel", "takesNumber", "(IIII)Z"⟩, 25) := ⟨⟨by decide +kernel, by decide +kernel⟩, List.mem_of_getElem? (i := 766) (by decide +kernel), List.mem_of_getElem? (i := 920) (by decide +kernel), List.mem_of_getElem? (i := 921) (by decide +kernel)⟩
theorem lw_p43 : lw_okq (⟨"ChairRanksModel", "readChair", "()Z"⟩, 25) := ⟨⟨by decide +kernel, by decide +kernel⟩, List.mem_of_getElem? (i := 766) (by decide +kernel), List.mem_of_getElem? (i := 924) (by decide +kernel), List.mem_of_getElem? (i := 925) (by decide +kernel)⟩
theorem lw_p44 : lw_okq (⟨"ChairRanksModel", "note", "()V"⟩, 25) := ⟨⟨by decide +kernel, by decide +kernel⟩, List.mem_of_getElem? (i := 766) (by decide +kernel), List.mem_of_getElem? (i := 943) (by decide +kernel), List.mem_of_getElem? (i := 944) (by decide +kernel)⟩
theorem lw_p45 : lw_okq (⟨"ChairRanksModel", "oneNight", "()V"⟩, 25) := ⟨⟨by decide +kernel, by decide +kernel⟩, List.mem_of_getElem? (i := 766) (by decide +kernel), List.mem_of_getElem? (i := 947) (by decide +kernel), List.mem_of_getElem? (i := 948) (by decide +kernel)⟩
theorem lw_p46 : lw_okq (⟨"ChairRanksModel", "targetOf", "(I)I"⟩, 25) := ⟨⟨by decide +kernel, by decide +kernel⟩, List.mem_of_getElem? (i := 766) (by decide +kernel), List.mem_of_getElem? (i := 951) (by decide +kernel), List.mem_of_getElem? (i := 952) (by decide +kernel)⟩
theorem lw_p47 : lw_okq (⟨"ChairRanksModel", "rankOf", "(I)I"⟩, 25) := ⟨⟨by decide +kernel, by decide +kernel⟩, List.mem_of_getElem? (i := 766) (by decide +kernel), List.mem_of_getElem? (i := 956) (by decide +kernel), List.mem_of_getElem? (i := 957) (by decide +kernel)⟩
def lw_privs_3 : List (MethodName × Nat) := [(⟨"ChairRanks$Asks", "oakMark", "(LChairRanks$Ministry;II)I"⟩, 2), (⟨"ChairRanks$Asks", "oakSize", "(LChairRanks$Ministry;I)I"⟩, 2), (⟨"ChairRanks", "rowsThere", "()I"⟩, 12), (⟨"ChairRanksModel", "find", "(I)I"⟩, 25), (⟨"ChairRanksModel", "well", "(I)I"⟩, 25), (⟨"ChairRanksModel", "readMinistry", "()Z"⟩, 25), (⟨"ChairRanksModel", "nextToken", "()V"⟩, 25), (⟨"ChairRanksModel", "takes", "(I)Z"⟩, 25), (⟨"ChairRanksModel", "isLetter", "(I)Z"⟩, 25), (⟨"ChairRanksModel", "faults", "(I)Z"⟩, 25), (⟨"ChairRanksModel", "takesNumber", "(IIII)Z"⟩, 25), (⟨"ChairRanksModel", "readChair", "()Z"⟩, 25), (⟨"ChairRanksModel", "note", "()V"⟩, 25), (⟨"ChairRanksModel", "oneNight", "()V"⟩, 25), (⟨"ChairRanksModel", "targetOf", "(I)I"⟩, 25), (⟨"ChairRanksModel", "rankOf", "(I)I"⟩, 25)]
theorem lw_r3 : ∀ q ∈ lw_privs_3, lw_okq q := List.forall_mem_cons.mpr ⟨lw_p32, List.forall_mem_cons.mpr ⟨lw_p33, List.forall_mem_cons.mpr ⟨lw_p34, List.forall_mem_cons.mpr ⟨lw_p35, List.forall_mem_cons.mpr ⟨lw_p36, List.forall_mem_cons.mpr ⟨lw_p37, List.forall_mem_cons.mpr ⟨lw_p38, List.forall_mem_cons.mpr ⟨lw_p39, List.forall_mem_cons.mpr ⟨lw_p40, List.forall_mem_cons.mpr ⟨lw_p41, List.forall_mem_cons.mpr ⟨lw_p42, List.forall_mem_cons.mpr ⟨lw_p43, List.forall_mem_cons.mpr ⟨lw_p44, List.forall_mem_cons.mpr ⟨lw_p45, List.forall_mem_cons.mpr ⟨lw_p46, List.forall_mem_cons.mpr ⟨lw_p47, fun _ h => absurd h List.not_mem_nil⟩⟩⟩⟩⟩⟩⟩⟩⟩⟩⟩⟩⟩⟩⟩⟩
theorem lw_p48 : lw_okq (⟨"ChairRanksModel", "highOf", "(I)I"⟩, 25) := ⟨⟨by decide +kernel, by decide +kernel⟩, List.mem_of_getElem? (i := 766) (by decide +kernel), List.mem_of_getElem? (i := 960) (by decide +kernel), List.mem_of_getElem? (i := 961) (by decide +kernel)⟩
theorem lw_p49 : lw_okq (⟨"ChairRanksModel", "atRank", "(I)I"⟩, 25) := ⟨⟨by decide +kernel, by decide +kernel⟩, List.mem_of_getElem? (i := 766) (by decide +kernel), List.mem_of_getElem? (i := 967) (by decide +kernel), List.mem_of_getElem? (i := 968) (by decide +kernel)⟩
theorem lw_p50 : lw_okq (⟨"ChairRanksModel", "sawnOff", "(II)I"⟩, 25) := ⟨⟨by decide +kernel, by decide +kernel⟩, List.mem_of_getElem? (i := 766) (by decide +kernel), List.mem_of_getElem? (i := 974) (by decide +kernel), List.mem_of_getElem? (i := 975) (by decide +kernel)⟩
theorem lw_p51 : lw_okq (⟨"ChairRanksModel", "isChair", "(I)Z"⟩, 25) := ⟨⟨by decide +kernel, by decide +kernel⟩, List.mem_of_getElem? (i := 766) (by decide +kernel), List.mem_of_getElem? (i := 982) (by decide +kernel), List.mem_of_getElem? (i := 983) (by decide +kernel)⟩
theorem lw_p52 : lw_okq (⟨"ChairRanksModel", "glue", "(I)V"⟩, 25) := ⟨⟨by decide +kernel, by decide +kernel⟩, List.mem_of_getElem? (i := 766) (by decide +kernel), List.mem_of_getElem? (i := 991) (by decide +kernel), List.mem_of_getElem? (i := 992) (by decide +kernel)⟩
theorem lw_p53 : lw_okq (⟨"ChairRanksModel", "exchange", "(III)V"⟩, 25) := ⟨⟨by decide +kernel, by decide +kernel⟩, List.mem_of_getElem? (i := 766) (by decide +kernel), List.mem_of_getElem? (i := 1006) (by decide +kernel), List.mem_of_getElem? (i := 1007) (by decide +kernel)⟩
theorem lw_p54 : lw_okq (⟨"ChairRanksModel", "putAside", "()V"⟩, 25) := ⟨⟨by decide +kernel, by decide +kernel⟩, List.mem_of_getElem? (i := 766) (by decide +kernel), List.mem_of_getElem? (i := 1028) (by decide +kernel), List.mem_of_getElem? (i := 1029) (by decide +kernel)⟩
theorem lw_p55 : lw_okq (⟨"ChairRanksModel", "goOn", "(I)V"⟩, 25) := ⟨⟨by decide +kernel, by decide +kernel⟩, List.mem_of_getElem? (i := 766) (by decide +kernel), List.mem_of_getElem? (i := 1032) (by decide +kernel), List.mem_of_getElem? (i := 1033) (by decide +kernel)⟩
theorem lw_p56 : lw_okq (⟨"ChairRanksModel", "takeBack", "()V"⟩, 25) := ⟨⟨by decide +kernel, by decide +kernel⟩, List.mem_of_getElem? (i := 766) (by decide +kernel), List.mem_of_getElem? (i := 1036) (by decide +kernel), List.mem_of_getElem? (i := 1037) (by decide +kernel)⟩
theorem lw_p57 : lw_okq (⟨"ChairRanksModel", "sumOf", "(I)I"⟩, 25) := ⟨⟨by decide +kernel, by decide +kernel⟩, List.mem_of_getElem? (i := 766) (by decide +kernel), List.mem_of_getElem? (i := 1057) (by decide +kernel), List.mem_of_getElem? (i := 1058) (by decide +kernel)⟩
theorem lw_p58 : lw_okq (⟨"ChairRanksModel", "rankBy", "(II)I"⟩, 25) := ⟨⟨by decide +kernel, by decide +kernel⟩, List.mem_of_getElem? (i := 766) (by decide +kernel), List.mem_of_getElem? (i := 1066) (by decide +kernel), List.mem_of_getElem? (i := 1067) (by decide +kernel)⟩
theorem lw_p59 : lw_okq (⟨"ChairRanksModel", "lacksOrder", "(II)I"⟩, 25) := ⟨⟨by decide +kernel, by decide +kernel⟩, List.mem_of_getElem? (i := 766) (by decide +kernel), List.mem_of_getElem? (i := 1085) (by decide +kernel), List.mem_of_getElem? (i := 1086) (by decide +kernel)⟩
theorem lw_p60 : lw_okq (⟨"ChairRanksModel", "lacks", "(III)I"⟩, 25) := ⟨⟨by decide +kernel, by decide +kernel⟩, List.mem_of_getElem? (i := 766) (by decide +kernel), List.mem_of_getElem? (i := 1089) (by decide +kernel), List.mem_of_getElem? (i := 1090) (by decide +kernel)⟩
theorem lw_p61 : lw_okq (⟨"ChairRanksModel", "isSo", "(III)Z"⟩, 25) := ⟨⟨by decide +kernel, by decide +kernel⟩, List.mem_of_getElem? (i := 766) (by decide +kernel), List.mem_of_getElem? (i := 1125) (by decide +kernel), List.mem_of_getElem? (i := 1126) (by decide +kernel)⟩
theorem lw_p62 : lw_okq (⟨"ChairRanksModel", "sizeOf", "(I)I"⟩, 25) := ⟨⟨by decide +kernel, by decide +kernel⟩, List.mem_of_getElem? (i := 766) (by decide +kernel), List.mem_of_getElem? (i := 1169) (by decide +kernel), List.mem_of_getElem? (i := 1170) (by decide +kernel)⟩
theorem lw_p63 : lw_okq (⟨"ChairRanksModel", "begin", "(I)V"⟩, 25) := ⟨⟨by decide +kernel, by decide +kernel⟩, List.mem_of_getElem? (i := 766) (by decide +kernel), List.mem_of_getElem? (i := 1173) (by decide +kernel), List.mem_of_getElem? (i := 1174) (by decide +kernel)⟩
def lw_privs_4 : List (MethodName × Nat) := [(⟨"ChairRanksModel", "highOf", "(I)I"⟩, 25), (⟨"ChairRanksModel", "atRank", "(I)I"⟩, 25), (⟨"ChairRanksModel", "sawnOff", "(II)I"⟩, 25), (⟨"ChairRanksModel", "isChair", "(I)Z"⟩, 25), (⟨"ChairRanksModel", "glue", "(I)V"⟩, 25), (⟨"ChairRanksModel", "exchange", "(III)V"⟩, 25), (⟨"ChairRanksModel", "putAside", "()V"⟩, 25), (⟨"ChairRanksModel", "goOn", "(I)V"⟩, 25), (⟨"ChairRanksModel", "takeBack", "()V"⟩, 25), (⟨"ChairRanksModel", "sumOf", "(I)I"⟩, 25), (⟨"ChairRanksModel", "rankBy", "(II)I"⟩, 25), (⟨"ChairRanksModel", "lacksOrder", "(II)I"⟩, 25), (⟨"ChairRanksModel", "lacks", "(III)I"⟩, 25), (⟨"ChairRanksModel", "isSo", "(III)Z"⟩, 25), (⟨"ChairRanksModel", "sizeOf", "(I)I"⟩, 25), (⟨"ChairRanksModel", "begin", "(I)V"⟩, 25)]
theorem lw_r4 : ∀ q ∈ lw_privs_4, lw_okq q := List.forall_mem_cons.mpr ⟨lw_p48, List.forall_mem_cons.mpr ⟨lw_p49, List.forall_mem_cons.mpr ⟨lw_p50, List.forall_mem_cons.mpr ⟨lw_p51, List.forall_mem_cons.mpr ⟨lw_p52, List.forall_mem_cons.mpr ⟨lw_p53, List.forall_mem_cons.mpr ⟨lw_p54, List.forall_mem_cons.mpr ⟨lw_p55, List.forall_mem_cons.mpr ⟨lw_p56, List.forall_mem_cons.mpr ⟨lw_p57, List.forall_mem_cons.mpr ⟨lw_p58, List.forall_mem_cons.mpr ⟨lw_p59, List.forall_mem_cons.mpr ⟨lw_p60, List.forall_mem_cons.mpr ⟨lw_p61, List.forall_mem_cons.mpr ⟨lw_p62, List.forall_mem_cons.mpr ⟨lw_p63, fun _ h => absurd h List.not_mem_nil⟩⟩⟩⟩⟩⟩⟩⟩⟩⟩⟩⟩⟩⟩⟩⟩
theorem lw_p64 : lw_okq (⟨"ChairRanksModel", "plainSize", "(I)I"⟩, 25) := ⟨⟨by decide +kernel, by decide +kernel⟩, List.mem_of_getElem? (i := 766) (by decide +kernel), List.mem_of_getElem? (i := 1177) (by decide +kernel), List.mem_of_getElem? (i := 1178) (by decide +kernel)⟩
theorem lw_p65 : lw_okq (⟨"ChairRanksModel", "lent", "(II)I"⟩, 25) := ⟨⟨by decide +kernel, by decide +kernel⟩, List.mem_of_getElem? (i := 766) (by decide +kernel), List.mem_of_getElem? (i := 1181) (by decide +kernel), List.mem_of_getElem? (i := 1182) (by decide +kernel)⟩
theorem lw_p66 : lw_okq (⟨"ChairRanksModel", "markOf", "(I)I"⟩, 25) := ⟨⟨by decide +kernel, by decide +kernel⟩, List.mem_of_getElem? (i := 766) (by decide +kernel), List.mem_of_getElem? (i := 1185) (by decide +kernel), List.mem_of_getElem? (i := 1186) (by decide +kernel)⟩
theorem lw_p67 : lw_okq (⟨"ChairRanksModel", "plainMark", "(I)I"⟩, 25) := ⟨⟨by decide +kernel, by decide +kernel⟩, List.mem_of_getElem? (i := 766) (by decide +kernel), List.mem_of_getElem? (i := 1189) (by decide +kernel), List.mem_of_getElem? (i := 1190) (by decide +kernel)⟩
theorem lw_p68 : lw_okq (⟨"ChairRanksModel", "sizeOfOak", "(I)I"⟩, 25) := ⟨⟨by decide +kernel, by decide +kernel⟩, List.mem_of_getElem? (i := 766) (by decide +kernel), List.mem_of_getElem? (i := 1193) (by decide +kernel), List.mem_of_getElem? (i := 1194) (by decide +kernel)⟩
theorem lw_p69 : lw_okq (⟨"ChairRanksModel", "oakSize", "(I)I"⟩, 25) := ⟨⟨by decide +kernel, by decide +kernel⟩, List.mem_of_getElem? (i := 766) (by decide +kernel), List.mem_of_getElem? (i := 1197) (by decide +kernel), List.mem_of_getElem? (i := 1198) (by decide +kernel)⟩
def lw_privs_5 : List (MethodName × Nat) := [(⟨"ChairRanksModel", "plainSize", "(I)I"⟩, 25), (⟨"ChairRanksModel", "lent", "(II)I"⟩, 25), (⟨"ChairRanksModel", "markOf", "(I)I"⟩, 25), (⟨"ChairRanksModel", "plainMark", "(I)I"⟩, 25), (⟨"ChairRanksModel", "sizeOfOak", "(I)I"⟩, 25), (⟨"ChairRanksModel", "oakSize", "(I)I"⟩, 25)]
theorem lw_r5 : ∀ q ∈ lw_privs_5, lw_okq q := List.forall_mem_cons.mpr ⟨lw_p64, List.forall_mem_cons.mpr ⟨lw_p65, List.forall_mem_cons.mpr ⟨lw_p66, List.forall_mem_cons.mpr ⟨lw_p67, List.forall_mem_cons.mpr ⟨lw_p68, List.forall_mem_cons.mpr ⟨lw_p69, fun _ h => absurd h List.not_mem_nil⟩⟩⟩⟩⟩⟩
def lw_privs : List (MethodName × Nat) := lw_privs_1 ++ (lw_privs_2 ++ (lw_privs_3 ++ (lw_privs_4 ++ (lw_privs_5))))
def lw_tbl : List Cond := k2_sels lw_privs ++ tables_1
theorem lw_privs_ok : ∀ q ∈ lw_privs, lw_okq q := by
  show ∀ q ∈ lw_privs_1 ++ (lw_privs_2 ++ (lw_privs_3 ++ (lw_privs_4 ++ (lw_privs_5)))), lw_okq q
  exact List.forall_mem_append.mpr ⟨lw_r1, List.forall_mem_append.mpr ⟨lw_r2, List.forall_mem_append.mpr ⟨lw_r3, List.forall_mem_append.mpr ⟨lw_r4, lw_r5⟩⟩⟩⟩
/-! ===== BEGIN words of one list among another's, by their places ===== -/
theorem goodIn_r {big : List Cond} (ws : List Cond) (ps : List Nat) (hp : ws = ps.filterMap (fun i => big[i]?)) (h : ws.all goodWord = true) : GoodIn big ws := by
  intro w hw
  have h1 := List.all_eq_true.mp h w hw
  rw [hp] at hw
  obtain ⟨i, -, hi⟩ := List.mem_filterMap.mp hw
  have hm : w ∈ big := by first | exact List.mem_of_getElem? hi | exact List.getElem?_mem hi
  exact ⟨hm, good_of_word h1⟩
theorem goodIn_app {big a b : List Cond} (ha : GoodIn big a) (hb : GoodIn big b) : GoodIn big (a ++ b) := fun w h => (List.mem_append.mp h).elim (ha w) (hb w)
theorem goodIn_ca {big a b : List Cond} {c : Cond} (ha : GoodIn big (c :: a)) (hb : GoodIn big b) : GoodIn big (c :: (a ++ b)) := fun w h => (List.mem_cons.mp h).elim (fun e => ha w (List.mem_cons.mpr (Or.inl e))) (fun h => (List.mem_append.mp h).elim (fun h => ha w (List.mem_cons.mpr (Or.inr h))) (hb w))
theorem goodIn_sub {big ws : List Cond} (hm : ∀ w ∈ ws, w ∈ big) (h : ws.all goodWord = true) : GoodIn big ws := fun w hw => ⟨hm w hw, good_of_word (List.all_eq_true.mp h w hw)⟩
/-! ===== END ===== -/

def RX0 : String := "ChairRanks$Asks"
def TX0 : u_T := fun k => match k with
  | 0 => ("ChairRanks$Asks", "numbers", "[I", true)
  | _ => ("ChairRanks$Asks", "size", "I", false)
def tyX0 : Nat → FieldType := fun k => match k with
  | 0 => .array .int
  | _ => .int
abbrev wsX00 : List Cond := u_ws RX0 TX0 2
theorem nmX0 : ∀ a, a < 2 → ∀ b, b < 2 → a ≠ b → (TX0 a).2.1 ≠ (TX0 b).2.1 := by decide +kernel
theorem tyX0_ok : ∀ k, k < 2 → parseFieldDescriptor (TX0 k).2.2.1 = some (tyX0 k) := by decide +kernel
abbrev cX0_init : ByteArray := prog_2_method_1_code
def yX0_init : MethodName := ⟨RX0, "<init>", "()V"⟩
abbrev cX0_sizeOf : ByteArray := prog_2_method_2_code
def yX0_sizeOf : MethodName := ⟨RX0, "sizeOf", "(LChairRanks$Ministry;II)I"⟩
abbrev cX0_markOf : ByteArray := prog_2_method_3_code
def yX0_markOf : MethodName := ⟨RX0, "markOf", "(LChairRanks$Ministry;II)I"⟩
abbrev cX0_begin : ByteArray := prog_2_method_4_code
def yX0_begin : MethodName := ⟨RX0, "begin", "(I)V"⟩
abbrev cX0_lentSize : ByteArray := prog_2_method_5_code
def yX0_lentSize : MethodName := ⟨RX0, "lentSize", "(LChairRanks$Ministry;I)I"⟩
abbrev cX0_plainSize : ByteArray := prog_2_method_6_code
def yX0_plainSize : MethodName := ⟨RX0, "plainSize", "(LChairRanks$Ministry;II)I"⟩
abbrev cX0_oakSize : ByteArray := prog_2_method_7_code
def yX0_oakSize : MethodName := ⟨RX0, "oakSize", "(LChairRanks$Ministry;I)I"⟩
abbrev cX0_lentMark : ByteArray := prog_2_method_8_code
def yX0_lentMark : MethodName := ⟨RX0, "lentMark", "(I)I"⟩
abbrev cX0_plainMark : ByteArray := prog_2_method_9_code
def yX0_plainMark : MethodName := ⟨RX0, "plainMark", "(LChairRanks$Ministry;I)I"⟩
abbrev cX0_oakMark : ByteArray := prog_2_method_10_code
def yX0_oakMark : MethodName := ⟨RX0, "oakMark", "(LChairRanks$Ministry;II)I"⟩
def RX1 : String := "ChairRanks$History"
def TX1 : u_T := fun k => match k with
  | 0 => ("ChairRanks$History", "kept", "[[I", true)
  | 1 => ("ChairRanks$History", "oldest", "I", false)
  | _ => ("ChairRanks$History", "held", "I", false)
def tyX1 : Nat → FieldType := fun k => match k with
  | 0 => .array (.array .int)
  | 1 => .int
  | _ => .int
abbrev wsX10 : List Cond := u_ws RX1 TX1 3
theorem nmX1 : ∀ a, a < 3 → ∀ b, b < 3 → a ≠ b → (TX1 a).2.1 ≠ (TX1 b).2.1 := by decide +kernel
theorem tyX1_ok : ∀ k, k < 3 → parseFieldDescriptor (TX1 k).2.2.1 = some (tyX1 k) := by decide +kernel
abbrev cX1_init : ByteArray := prog_3_method_1_code
def yX1_init : MethodName := ⟨RX1, "<init>", "()V"⟩
abbrev cX1_keep : ByteArray := prog_3_method_2_code
def yX1_keep : MethodName := ⟨RX1, "keep", "(LChairRanks$Ministry;)V"⟩
abbrev cX1_takeBack : ByteArray := prog_3_method_3_code
def yX1_takeBack : MethodName := ⟨RX1, "takeBack", "(LChairRanks$Ministry;)Z"⟩
abbrev cX1_forget : ByteArray := prog_3_method_4_code
def yX1_forget : MethodName := ⟨RX1, "forget", "()V"⟩
def RX2 : String := "ChairRanks$Ministry"
def TX2 : u_T := fun k => match k with
  | 0 => ("ChairRanks$Ministry", "size", "I", false)
  | 1 => ("ChairRanks$Ministry", "watchmen", "I", false)
  | 2 => ("ChairRanks$Ministry", "glue", "I", false)
  | 3 => ("ChairRanks$Ministry", "night", "I", false)
  | 4 => ("ChairRanks$Ministry", "watched", "I", false)
  | 5 => ("ChairRanks$Ministry", "sort", "[I", true)
  | 6 => ("ChairRanks$Ministry", "leg", "[I", true)
  | 7 => ("ChairRanks$Ministry", "cushions", "[I", true)
  | 8 => ("ChairRanks$Ministry", "saw", "[I", true)
  | 9 => ("ChairRanks$Ministry", "grudge", "[I", true)
  | 10 => ("ChairRanks$Ministry", "caught", "[I", true)
  | 11 => ("ChairRanks$Ministry", "high", "[I", true)
  | 12 => ("ChairRanks$Ministry", "rank", "[I", true)
  | _ => ("ChairRanks$Ministry", "order", "[I", true)
def tyX2 : Nat → FieldType := fun k => match k with
  | 0 => .int
  | 1 => .int
  | 2 => .int
  | 3 => .int
  | 4 => .int
  | 5 => .array .int
  | 6 => .array .int
  | 7 => .array .int
  | 8 => .array .int
  | 9 => .array .int
  | 10 => .array .int
  | 11 => .array .int
  | 12 => .array .int
  | _ => .array .int
abbrev wsX20 : List Cond := u_ws RX2 TX2 14
theorem nmX2 : ∀ a, a < 14 → ∀ b, b < 14 → a ≠ b → (TX2 a).2.1 ≠ (TX2 b).2.1 := by decide +kernel
theorem tyX2_ok : ∀ k, k < 14 → parseFieldDescriptor (TX2 k).2.2.1 = some (tyX2 k) := by decide +kernel
abbrev cX2_init : ByteArray := prog_4_method_1_code
def yX2_init : MethodName := ⟨RX2, "<init>", "()V"⟩
abbrev cX2_clear : ByteArray := prog_4_method_2_code
def yX2_clear : MethodName := ⟨RX2, "clear", "()V"⟩
abbrev cX2_addOne : ByteArray := prog_4_method_3_code
def yX2_addOne : MethodName := ⟨RX2, "addOne", "(IIII)V"⟩
abbrev cX2_writeTo : ByteArray := prog_4_method_4_code
def yX2_writeTo : MethodName := ⟨RX2, "writeTo", "([I)V"⟩
abbrev cX2_readFrom : ByteArray := prog_4_method_5_code
def yX2_readFrom : MethodName := ⟨RX2, "readFrom", "([I)V"⟩
abbrev cX2_isWatched : ByteArray := prog_4_method_6_code
def yX2_isWatched : MethodName := ⟨RX2, "isWatched", "(I)Z"⟩
abbrev cX2_highOf : ByteArray := prog_4_method_7_code
def yX2_highOf : MethodName := ⟨RX2, "highOf", "(I)I"⟩
abbrev cX2_isHigher : ByteArray := prog_4_method_8_code
def yX2_isHigher : MethodName := ⟨RX2, "isHigher", "(II)Z"⟩
abbrev cX2_rankOf : ByteArray := prog_4_method_9_code
def yX2_rankOf : MethodName := ⟨RX2, "rankOf", "(I)I"⟩
abbrev cX2_atRank : ByteArray := prog_4_method_10_code
def yX2_atRank : MethodName := ⟨RX2, "atRank", "(I)I"⟩
abbrev cX2_preyOf : ByteArray := prog_4_method_11_code
def yX2_preyOf : MethodName := ⟨RX2, "preyOf", "(I)I"⟩
abbrev cX2_allLegs : ByteArray := prog_4_method_12_code
def yX2_allLegs : MethodName := ⟨RX2, "allLegs", "()I"⟩
abbrev cX2_allCaught : ByteArray := prog_4_method_13_code
def yX2_allCaught : MethodName := ⟨RX2, "allCaught", "()I"⟩
abbrev cX2_glueLeg : ByteArray := prog_4_method_14_code
def yX2_glueLeg : MethodName := ⟨RX2, "glueLeg", "(I)V"⟩
abbrev cX2_exchangeSitters : ByteArray := prog_4_method_15_code
def yX2_exchangeSitters : MethodName := ⟨RX2, "exchangeSitters", "(II)V"⟩
abbrev cX2_exchange : ByteArray := prog_4_method_16_code
def yX2_exchange : MethodName := ⟨RX2, "exchange", "([III)V"⟩
abbrev cX2_reckonRanks : ByteArray := prog_4_method_17_code
def yX2_reckonRanks : MethodName := ⟨RX2, "reckonRanks", "()V"⟩
abbrev cX2_preyByRanks : ByteArray := prog_4_method_18_code
def yX2_preyByRanks : MethodName := ⟨RX2, "preyByRanks", "(I)I"⟩
abbrev cX2_passNight : ByteArray := prog_4_method_19_code
def yX2_passNight : MethodName := ⟨RX2, "passNight", "()Z"⟩
abbrev cX2_sawLeg : ByteArray := prog_4_method_20_code
def yX2_sawLeg : MethodName := ⟨RX2, "sawLeg", "(II)Z"⟩
abbrev cX2_passNights : ByteArray := prog_4_method_21_code
def yX2_passNights : MethodName := ⟨RX2, "passNights", "(I)V"⟩
def RX3 : String := "ChairRanks$Row"
def TX3 : u_T := fun k => match k with
  | 0 => ("ChairRanks$Row", "items", "[I", true)
  | 1 => ("ChairRanks$Row", "lane", "I", false)
  | _ => ("ChairRanks$Row", "size", "I", false)
def tyX3 : Nat → FieldType := fun k => match k with
  | 0 => .array .int
  | 1 => .int
  | _ => .int
abbrev wsX30 : List Cond := u_ws RX3 TX3 3
theorem nmX3 : ∀ a, a < 3 → ∀ b, b < 3 → a ≠ b → (TX3 a).2.1 ≠ (TX3 b).2.1 := by decide +kernel
theorem tyX3_ok : ∀ k, k < 3 → parseFieldDescriptor (TX3 k).2.2.1 = some (tyX3 k) := by decide +kernel
abbrev cX3_init : ByteArray := prog_5_method_1_code
def yX3_init : MethodName := ⟨RX3, "<init>", "()V"⟩
abbrev cX3_isMissing : ByteArray := prog_5_method_2_code
def yX3_isMissing : MethodName := ⟨RX3, "isMissing", "()Z"⟩
abbrev cX3_begin : ByteArray := prog_5_method_3_code
def yX3_begin : MethodName := ⟨RX3, "begin", "(II)V"⟩
abbrev cX3_end : ByteArray := prog_5_method_4_code
def yX3_end : MethodName := ⟨RX3, "end", "()I"⟩
abbrev cX3_holds : ByteArray := prog_5_method_5_code
def yX3_holds : MethodName := ⟨RX3, "holds", "(II)Z"⟩
abbrev cX3_put : ByteArray := prog_5_method_6_code
def yX3_put : MethodName := ⟨RX3, "put", "(II)I"⟩
def RX4 : String := "ChairRanks$Tape"
def TX4 : u_T := fun k => match k with
  | 0 => ("ChairRanks$Tape", "bytes", "[I", true)
  | 1 => ("ChairRanks$Tape", "size", "I", false)
  | 2 => ("ChairRanks$Tape", "place", "I", false)
  | _ => ("ChairRanks$Tape", "flaw", "I", false)
def tyX4 : Nat → FieldType := fun k => match k with
  | 0 => .array .int
  | 1 => .int
  | 2 => .int
  | _ => .int
abbrev wsX40 : List Cond := u_ws RX4 TX4 4
theorem nmX4 : ∀ a, a < 4 → ∀ b, b < 4 → a ≠ b → (TX4 a).2.1 ≠ (TX4 b).2.1 := by decide +kernel
theorem tyX4_ok : ∀ k, k < 4 → parseFieldDescriptor (TX4 k).2.2.1 = some (tyX4 k) := by decide +kernel
abbrev cX4_init : ByteArray := prog_6_method_1_code
def yX4_init : MethodName := ⟨RX4, "<init>", "()V"⟩
abbrev cX4_add : ByteArray := prog_6_method_2_code
def yX4_add : MethodName := ⟨RX4, "add", "(I)Z"⟩
abbrev cX4_readInto : ByteArray := prog_6_method_3_code
def yX4_readInto : MethodName := ⟨RX4, "readInto", "(LChairRanks$Ministry;)I"⟩
abbrev cX4_readLaw : ByteArray := prog_6_method_4_code
def yX4_readLaw : MethodName := ⟨RX4, "readLaw", "(LChairRanks$Ministry;)V"⟩
abbrev cX4_readOneChair : ByteArray := prog_6_method_5_code
def yX4_readOneChair : MethodName := ⟨RX4, "readOneChair", "(LChairRanks$Ministry;)V"⟩
abbrev cX4_takeSign : ByteArray := prog_6_method_6_code
def yX4_takeSign : MethodName := ⟨RX4, "takeSign", "(I)V"⟩
abbrev cX4_takeNumber : ByteArray := prog_6_method_7_code
def yX4_takeNumber : MethodName := ⟨RX4, "takeNumber", "(II)I"⟩
def RX5 : String := "ChairRanks"
def TX5 : u_T := fun k => match k with
  | 0 => ("ChairRanks", "rows", "[LChairRanks$Row;", true)
  | 1 => ("ChairRanks", "tape", "LChairRanks$Tape;", true)
  | 2 => ("ChairRanks", "now", "LChairRanks$Ministry;", true)
  | 3 => ("ChairRanks", "plan", "LChairRanks$Ministry;", true)
  | 4 => ("ChairRanks", "present", "[I", true)
  | 5 => ("ChairRanks", "told", "[I", true)
  | 6 => ("ChairRanks", "acts", "LChairRanks$History;", true)
  | 7 => ("ChairRanks", "images", "[[I", true)
  | 8 => ("ChairRanks", "asks", "LChairRanks$Asks;", true)
  | 9 => ("ChairRanks", "imagesKept", "I", false)
  | 10 => ("ChairRanks", "latestFault", "I", false)
  | _ => ("ChairRanks", "latestFinding", "I", false)
def tyX5 : Nat → FieldType := fun k => match k with
  | 0 => .array (.object "ChairRanks$Row")
  | 1 => .object "ChairRanks$Tape"
  | 2 => .object "ChairRanks$Ministry"
  | 3 => .object "ChairRanks$Ministry"
  | 4 => .array .int
  | 5 => .array .int
  | 6 => .object "ChairRanks$History"
  | 7 => .array (.array .int)
  | 8 => .object "ChairRanks$Asks"
  | 9 => .int
  | 10 => .int
  | _ => .int
abbrev wsX50 : List Cond := u_ws RX5 TX5 12
theorem nmX5 : ∀ a, a < 12 → ∀ b, b < 12 → a ≠ b → (TX5 a).2.1 ≠ (TX5 b).2.1 := by decide +kernel
theorem tyX5_ok : ∀ k, k < 12 → parseFieldDescriptor (TX5 k).2.2.1 = some (tyX5 k) := by decide +kernel
abbrev cX5_init : ByteArray := prog_1_method_1_code
def yX5_init : MethodName := ⟨RX5, "<init>", "()V"⟩
abbrev cX5_row : ByteArray := prog_1_method_2_code
def yX5_row : MethodName := ⟨RX5, "row", "(III)I"⟩
abbrev cX5_set : ByteArray := prog_1_method_3_code
def yX5_set : MethodName := ⟨RX5, "set", "(III)I"⟩
abbrev cX5_copy : ByteArray := prog_1_method_4_code
def yX5_copy : MethodName := ⟨RX5, "copy", "(IIIII)I"⟩
abbrev cX5_drop : ByteArray := prog_1_method_5_code
def yX5_drop : MethodName := ⟨RX5, "drop", "(I)I"⟩
abbrev cX5_feed : ByteArray := prog_1_method_6_code
def yX5_feed : MethodName := ⟨RX5, "feed", "(I)I"⟩
abbrev cX5_ministry : ByteArray := prog_1_method_7_code
def yX5_ministry : MethodName := ⟨RX5, "ministry", "()I"⟩
abbrev cX5_fault : ByteArray := prog_1_method_8_code
def yX5_fault : MethodName := ⟨RX5, "fault", "()I"⟩
abbrev cX5_undo : ByteArray := prog_1_method_9_code
def yX5_undo : MethodName := ⟨RX5, "undo", "()I"⟩
abbrev cX5_nights : ByteArray := prog_1_method_10_code
def yX5_nights : MethodName := ⟨RX5, "nights", "(I)I"⟩
abbrev cX5_cushions : ByteArray := prog_1_method_11_code
def yX5_cushions : MethodName := ⟨RX5, "cushions", "(II)I"⟩
abbrev cX5_mend : ByteArray := prog_1_method_12_code
def yX5_mend : MethodName := ⟨RX5, "mend", "(I)I"⟩
abbrev cX5_watch : ByteArray := prog_1_method_13_code
def yX5_watch : MethodName := ⟨RX5, "watch", "(II)I"⟩
abbrev cX5_change : ByteArray := prog_1_method_14_code
def yX5_change : MethodName := ⟨RX5, "change", "(II)I"⟩
abbrev cX5_saw : ByteArray := prog_1_method_15_code
def yX5_saw : MethodName := ⟨RX5, "saw", "(II)I"⟩
abbrev cX5_chair : ByteArray := prog_1_method_16_code
def yX5_chair : MethodName := ⟨RX5, "chair", "(II)I"⟩
abbrev cX5_ranked : ByteArray := prog_1_method_17_code
def yX5_ranked : MethodName := ⟨RX5, "ranked", "(I)I"⟩
abbrev cX5_ahead : ByteArray := prog_1_method_18_code
def yX5_ahead : MethodName := ⟨RX5, "ahead", "(III)I"⟩
abbrev cX5_minister : ByteArray := prog_1_method_19_code
def yX5_minister : MethodName := ⟨RX5, "minister", "(I)I"⟩
abbrev cX5_floor : ByteArray := prog_1_method_20_code
def yX5_floor : MethodName := ⟨RX5, "floor", "(I)I"⟩
abbrev cX5_rises : ByteArray := prog_1_method_21_code
def yX5_rises : MethodName := ⟨RX5, "rises", "(II)I"⟩
abbrev cX5_calm : ByteArray := prog_1_method_22_code
def yX5_calm : MethodName := ⟨RX5, "calm", "()I"⟩
abbrev cX5_cushionFor : ByteArray := prog_1_method_23_code
def yX5_cushionFor : MethodName := ⟨RX5, "cushionFor", "(III)I"⟩
abbrev cX5_guard : ByteArray := prog_1_method_24_code
def yX5_guard : MethodName := ⟨RX5, "guard", "(IIII)I"⟩
abbrev cX5_bestWatch : ByteArray := prog_1_method_25_code
def yX5_bestWatch : MethodName := ⟨RX5, "bestWatch", "(II)I"⟩
abbrev cX5_sawdust : ByteArray := prog_1_method_26_code
def yX5_sawdust : MethodName := ⟨RX5, "sawdust", "(II)I"⟩
abbrev cX5_pile : ByteArray := prog_1_method_27_code
def yX5_pile : MethodName := ⟨RX5, "pile", "(II)I"⟩
abbrev cX5_climb : ByteArray := prog_1_method_28_code
def yX5_climb : MethodName := ⟨RX5, "climb", "(I)I"⟩
abbrev cX5_coalition : ByteArray := prog_1_method_29_code
def yX5_coalition : MethodName := ⟨RX5, "coalition", "(I)I"⟩
abbrev cX5_sawnBy : ByteArray := prog_1_method_30_code
def yX5_sawnBy : MethodName := ⟨RX5, "sawnBy", "(I)I"⟩
abbrev cX5_round : ByteArray := prog_1_method_31_code
def yX5_round : MethodName := ⟨RX5, "round", "()I"⟩
abbrev cX5_enemy : ByteArray := prog_1_method_32_code
def yX5_enemy : MethodName := ⟨RX5, "enemy", "(III)I"⟩
abbrev cX5_who : ByteArray := prog_1_method_33_code
def yX5_who : MethodName := ⟨RX5, "who", "(IIIIII)I"⟩
abbrev cX5_guarded : ByteArray := prog_1_method_34_code
def yX5_guarded : MethodName := ⟨RX5, "guarded", "(IIII)I"⟩
abbrev cX5_doze : ByteArray := prog_1_method_35_code
def yX5_doze : MethodName := ⟨RX5, "doze", "(IIIII)J"⟩
abbrev cX5_drawn : ByteArray := prog_1_method_36_code
def yX5_drawn : MethodName := ⟨RX5, "drawn", "(III)I"⟩
abbrev cX5_image : ByteArray := prog_1_method_37_code
def yX5_image : MethodName := ⟨RX5, "image", "(I)I"⟩
abbrev cX5_restore : ByteArray := prog_1_method_38_code
def yX5_restore : MethodName := ⟨RX5, "restore", "(I)I"⟩
abbrev cX5_kind : ByteArray := prog_1_method_39_code
def yX5_kind : MethodName := ⟨RX5, "kind", "(I)I"⟩
abbrev cX5_as : ByteArray := prog_1_method_40_code
def yX5_as : MethodName := ⟨RX5, "as", "(II)I"⟩
abbrev cX5_ask : ByteArray := prog_1_method_41_code
def yX5_ask : MethodName := ⟨RX5, "ask", "(II)I"⟩
abbrev cX5_trace : ByteArray := prog_1_method_42_code
def yX5_trace : MethodName := ⟨RX5, "trace", "(I)I"⟩
abbrev cX5_count : ByteArray := prog_1_method_43_code
def yX5_count : MethodName := ⟨RX5, "count", "(I)I"⟩
abbrev cX5_status : ByteArray := prog_1_method_44_code
def yX5_status : MethodName := ⟨RX5, "status", "()I"⟩
abbrev cX5_within : ByteArray := prog_1_method_45_code
def yX5_within : MethodName := ⟨RX5, "within", "(III)Z"⟩
abbrev cX5_isRow : ByteArray := prog_1_method_46_code
def yX5_isRow : MethodName := ⟨RX5, "isRow", "(I)Z"⟩
abbrev cX5_isChair : ByteArray := prog_1_method_47_code
def yX5_isChair : MethodName := ⟨RX5, "isChair", "(I)Z"⟩
abbrev cX5_isEmpty : ByteArray := prog_1_method_48_code
def yX5_isEmpty : MethodName := ⟨RX5, "isEmpty", "()Z"⟩
abbrev cX5_found : ByteArray := prog_1_method_49_code
def yX5_found : MethodName := ⟨RX5, "found", "(I)I"⟩
abbrev cX5_nothingFound : ByteArray := prog_1_method_50_code
def yX5_nothingFound : MethodName := ⟨RX5, "nothingFound", "(I)I"⟩
abbrev cX5_findingOfItems : ByteArray := prog_1_method_51_code
def yX5_findingOfItems : MethodName := ⟨RX5, "findingOfItems", "(III)I"⟩
abbrev cX5_refusalOfOrder : ByteArray := prog_1_method_52_code
def yX5_refusalOfOrder : MethodName := ⟨RX5, "refusalOfOrder", "(II)I"⟩
abbrev cX5_findingOfOrder : ByteArray := prog_1_method_53_code
def yX5_findingOfOrder : MethodName := ⟨RX5, "findingOfOrder", "(II)I"⟩
abbrev cX5_rowsThere : ByteArray := prog_1_method_54_code
def yX5_rowsThere : MethodName := ⟨RX5, "rowsThere", "()I"⟩
abbrev cX5_isOfKind : ByteArray := prog_1_method_55_code
def yX5_isOfKind : MethodName := ⟨RX5, "isOfKind", "(II)Z"⟩
abbrev cX5_foresee : ByteArray := prog_1_method_56_code
def yX5_foresee : MethodName := ⟨RX5, "foresee", "()V"⟩
abbrev cX5_passWatched : ByteArray := prog_1_method_57_code
def yX5_passWatched : MethodName := ⟨RX5, "passWatched", "(II)V"⟩
abbrev cX5_rankIfWatched : ByteArray := prog_1_method_58_code
def yX5_rankIfWatched : MethodName := ⟨RX5, "rankIfWatched", "(III)I"⟩
abbrev cX5_leastSawdust : ByteArray := prog_1_method_59_code
def yX5_leastSawdust : MethodName := ⟨RX5, "leastSawdust", "()I"⟩
abbrev cX5_fewestCushions : ByteArray := prog_1_method_60_code
def yX5_fewestCushions : MethodName := ⟨RX5, "fewestCushions", "()I"⟩
abbrev cX5_fewestToWatch : ByteArray := prog_1_method_61_code
def yX5_fewestToWatch : MethodName := ⟨RX5, "fewestToWatch", "(III)I"⟩
abbrev cX5_fewestAboveHalf : ByteArray := prog_1_method_62_code
def yX5_fewestAboveHalf : MethodName := ⟨RX5, "fewestAboveHalf", "()I"⟩
abbrev cX5_highTogether : ByteArray := prog_1_method_63_code
def yX5_highTogether : MethodName := ⟨RX5, "highTogether", "(I)I"⟩
abbrev cX5_leastOf : ByteArray := prog_1_method_64_code
def yX5_leastOf : MethodName := ⟨RX5, "leastOf", "(I)I"⟩
abbrev cX5_mostOf : ByteArray := prog_1_method_65_code
def yX5_mostOf : MethodName := ⟨RX5, "mostOf", "(I)I"⟩
abbrev cX5_suppose : ByteArray := prog_1_method_66_code
def yX5_suppose : MethodName := ⟨RX5, "suppose", "(III)V"⟩
abbrev cX5_comesTrue : ByteArray := prog_1_method_67_code
def yX5_comesTrue : MethodName := ⟨RX5, "comesTrue", "(ILChairRanks$Row;II)Z"⟩
abbrev cX5_weightOf : ByteArray := prog_1_method_68_code
def yX5_weightOf : MethodName := ⟨RX5, "weightOf", "(II)J"⟩
abbrev cX5_commonDivisor : ByteArray := prog_1_method_69_code
def yX5_commonDivisor : MethodName := ⟨RX5, "commonDivisor", "(JJ)J"⟩
def RX6 : String := "ChairRanksModel"
def TX6 : u_T := fun k => match k with
  | 0 => ("ChairRanksModel", "lanes", "[I", true)
  | 1 => ("ChairRanksModel", "sizes", "[I", true)
  | 2 => ("ChairRanksModel", "items", "[I", true)
  | 3 => ("ChairRanksModel", "status", "I", false)
  | 4 => ("ChairRanksModel", "isThere", "Z", false)
  | 5 => ("ChairRanksModel", "st", "[I", true)
  | 6 => ("ChairRanksModel", "moved", "[I", true)
  | 7 => ("ChairRanksModel", "tape", "[I", true)
  | 8 => ("ChairRanksModel", "bytes", "I", false)
  | 9 => ("ChairRanksModel", "latest", "I", false)
  | 10 => ("ChairRanksModel", "place", "I", false)
  | 11 => ("ChairRanksModel", "token", "I", false)
  | 12 => ("ChairRanksModel", "value", "I", false)
  | 13 => ("ChairRanksModel", "begins", "I", false)
  | 14 => ("ChairRanksModel", "wrong", "I", false)
  | 15 => ("ChairRanksModel", "read", "[I", true)
  | 16 => ("ChairRanksModel", "off", "[I", true)
  | 17 => ("ChairRanksModel", "caughtNow", "I", false)
  | 18 => ("ChairRanksModel", "acts", "[I", true)
  | 19 => ("ChairRanksModel", "actMany", "I", false)
  | 20 => ("ChairRanksModel", "aside", "[I", true)
  | 21 => ("ChairRanksModel", "isKept", "[Z", true)
  | 22 => ("ChairRanksModel", "kept", "[I", true)
  | 23 => ("ChairRanksModel", "trace", "[I", true)
  | _ => ("ChairRanksModel", "traced", "I", false)
def tyX6 : Nat → FieldType := fun k => match k with
  | 0 => .array .int
  | 1 => .array .int
  | 2 => .array .int
  | 3 => .int
  | 4 => .boolean
  | 5 => .array .int
  | 6 => .array .int
  | 7 => .array .int
  | 8 => .int
  | 9 => .int
  | 10 => .int
  | 11 => .int
  | 12 => .int
  | 13 => .int
  | 14 => .int
  | 15 => .array .int
  | 16 => .array .int
  | 17 => .int
  | 18 => .array .int
  | 19 => .int
  | 20 => .array .int
  | 21 => .array .boolean
  | 22 => .array .int
  | 23 => .array .int
  | _ => .int
abbrev wsX60 : List Cond := u_ws RX6 TX6 25
theorem nmX6 : ∀ a, a < 25 → ∀ b, b < 25 → a ≠ b → (TX6 a).2.1 ≠ (TX6 b).2.1 := by decide +kernel
theorem tyX6_ok : ∀ k, k < 25 → parseFieldDescriptor (TX6 k).2.2.1 = some (tyX6 k) := by decide +kernel
abbrev cX6_init : ByteArray := prog_8_method_1_code
def yX6_init : MethodName := ⟨RX6, "<init>", "()V"⟩
abbrev cX6_in : ByteArray := prog_8_method_2_code
def yX6_in : MethodName := ⟨RX6, "in", "(JJJ)Z"⟩
abbrev cX6_has : ByteArray := prog_8_method_3_code
def yX6_has : MethodName := ⟨RX6, "has", "(II)Z"⟩
abbrev cX6_ones : ByteArray := prog_8_method_4_code
def yX6_ones : MethodName := ⟨RX6, "ones", "(I)I"⟩
abbrev cX6_find : ByteArray := prog_8_method_5_code
def yX6_find : MethodName := ⟨RX6, "find", "(I)I"⟩
abbrev cX6_well : ByteArray := prog_8_method_6_code
def yX6_well : MethodName := ⟨RX6, "well", "(I)I"⟩
abbrev cX6_isRow : ByteArray := prog_8_method_7_code
def yX6_isRow : MethodName := ⟨RX6, "isRow", "(I)Z"⟩
abbrev cX6_row : ByteArray := prog_8_method_8_code
def yX6_row : MethodName := ⟨RX6, "row", "(III)I"⟩
abbrev cX6_asLane : ByteArray := prog_8_method_9_code
def yX6_asLane : MethodName := ⟨RX6, "asLane", "(II)I"⟩
abbrev cX6_set : ByteArray := prog_8_method_10_code
def yX6_set : MethodName := ⟨RX6, "set", "(III)I"⟩
abbrev cX6_copy : ByteArray := prog_8_method_11_code
def yX6_copy : MethodName := ⟨RX6, "copy", "(IIIII)I"⟩
abbrev cX6_drop : ByteArray := prog_8_method_12_code
def yX6_drop : MethodName := ⟨RX6, "drop", "(I)I"⟩
abbrev cX6_feed : ByteArray := prog_8_method_13_code
def yX6_feed : MethodName := ⟨RX6, "feed", "(I)I"⟩
abbrev cX6_nextToken : ByteArray := prog_8_method_14_code
def yX6_nextToken : MethodName := ⟨RX6, "nextToken", "()V"⟩
abbrev cX6_faults : ByteArray := prog_8_method_15_code
def yX6_faults : MethodName := ⟨RX6, "faults", "(I)Z"⟩
abbrev cX6_isLetter : ByteArray := prog_8_method_16_code
def yX6_isLetter : MethodName := ⟨RX6, "isLetter", "(I)Z"⟩
abbrev cX6_takes : ByteArray := prog_8_method_17_code
def yX6_takes : MethodName := ⟨RX6, "takes", "(I)Z"⟩
abbrev cX6_takesNumber : ByteArray := prog_8_method_18_code
def yX6_takesNumber : MethodName := ⟨RX6, "takesNumber", "(IIII)Z"⟩
abbrev cX6_readChair : ByteArray := prog_8_method_19_code
def yX6_readChair : MethodName := ⟨RX6, "readChair", "()Z"⟩
abbrev cX6_readMinistry : ByteArray := prog_8_method_20_code
def yX6_readMinistry : MethodName := ⟨RX6, "readMinistry", "()Z"⟩
abbrev cX6_ministry : ByteArray := prog_8_method_21_code
def yX6_ministry : MethodName := ⟨RX6, "ministry", "()I"⟩
abbrev cX6_fault : ByteArray := prog_8_method_22_code
def yX6_fault : MethodName := ⟨RX6, "fault", "()I"⟩
abbrev cX6_isChair : ByteArray := prog_8_method_23_code
def yX6_isChair : MethodName := ⟨RX6, "isChair", "(I)Z"⟩
abbrev cX6_highBy : ByteArray := prog_8_method_24_code
def yX6_highBy : MethodName := ⟨RX6, "highBy", "(III)I"⟩
abbrev cX6_highOf : ByteArray := prog_8_method_25_code
def yX6_highOf : MethodName := ⟨RX6, "highOf", "(I)I"⟩
abbrev cX6_rankOf : ByteArray := prog_8_method_26_code
def yX6_rankOf : MethodName := ⟨RX6, "rankOf", "(I)I"⟩
abbrev cX6_atRank : ByteArray := prog_8_method_27_code
def yX6_atRank : MethodName := ⟨RX6, "atRank", "(I)I"⟩
abbrev cX6_targetOf : ByteArray := prog_8_method_28_code
def yX6_targetOf : MethodName := ⟨RX6, "targetOf", "(I)I"⟩
abbrev cX6_sawnOff : ByteArray := prog_8_method_29_code
def yX6_sawnOff : MethodName := ⟨RX6, "sawnOff", "(II)I"⟩
abbrev cX6_oneNight : ByteArray := prog_8_method_30_code
def yX6_oneNight : MethodName := ⟨RX6, "oneNight", "()V"⟩
abbrev cX6_sumOf : ByteArray := prog_8_method_31_code
def yX6_sumOf : MethodName := ⟨RX6, "sumOf", "(I)I"⟩
abbrev cX6_note : ByteArray := prog_8_method_32_code
def yX6_note : MethodName := ⟨RX6, "note", "()V"⟩
abbrev cX6_undo : ByteArray := prog_8_method_33_code
def yX6_undo : MethodName := ⟨RX6, "undo", "()I"⟩
abbrev cX6_nights : ByteArray := prog_8_method_34_code
def yX6_nights : MethodName := ⟨RX6, "nights", "(I)I"⟩
abbrev cX6_cushions : ByteArray := prog_8_method_35_code
def yX6_cushions : MethodName := ⟨RX6, "cushions", "(II)I"⟩
abbrev cX6_glue : ByteArray := prog_8_method_36_code
def yX6_glue : MethodName := ⟨RX6, "glue", "(I)V"⟩
abbrev cX6_mend : ByteArray := prog_8_method_37_code
def yX6_mend : MethodName := ⟨RX6, "mend", "(I)I"⟩
abbrev cX6_watch : ByteArray := prog_8_method_38_code
def yX6_watch : MethodName := ⟨RX6, "watch", "(II)I"⟩
abbrev cX6_exchange : ByteArray := prog_8_method_39_code
def yX6_exchange : MethodName := ⟨RX6, "exchange", "(III)V"⟩
abbrev cX6_change : ByteArray := prog_8_method_40_code
def yX6_change : MethodName := ⟨RX6, "change", "(II)I"⟩
abbrev cX6_saw : ByteArray := prog_8_method_41_code
def yX6_saw : MethodName := ⟨RX6, "saw", "(II)I"⟩
abbrev cX6_chair : ByteArray := prog_8_method_42_code
def yX6_chair : MethodName := ⟨RX6, "chair", "(II)I"⟩
abbrev cX6_ranked : ByteArray := prog_8_method_43_code
def yX6_ranked : MethodName := ⟨RX6, "ranked", "(I)I"⟩
abbrev cX6_putAside : ByteArray := prog_8_method_44_code
def yX6_putAside : MethodName := ⟨RX6, "putAside", "()V"⟩
abbrev cX6_takeBack : ByteArray := prog_8_method_45_code
def yX6_takeBack : MethodName := ⟨RX6, "takeBack", "()V"⟩
abbrev cX6_goOn : ByteArray := prog_8_method_46_code
def yX6_goOn : MethodName := ⟨RX6, "goOn", "(I)V"⟩
abbrev cX6_isWhat : ByteArray := prog_8_method_47_code
def yX6_isWhat : MethodName := ⟨RX6, "isWhat", "(I)Z"⟩
abbrev cX6_rankBy : ByteArray := prog_8_method_48_code
def yX6_rankBy : MethodName := ⟨RX6, "rankBy", "(II)I"⟩
abbrev cX6_ahead : ByteArray := prog_8_method_49_code
def yX6_ahead : MethodName := ⟨RX6, "ahead", "(III)I"⟩
abbrev cX6_minister : ByteArray := prog_8_method_50_code
def yX6_minister : MethodName := ⟨RX6, "minister", "(I)I"⟩
abbrev cX6_floor : ByteArray := prog_8_method_51_code
def yX6_floor : MethodName := ⟨RX6, "floor", "(I)I"⟩
abbrev cX6_rises : ByteArray := prog_8_method_52_code
def yX6_rises : MethodName := ⟨RX6, "rises", "(II)I"⟩
abbrev cX6_calm : ByteArray := prog_8_method_53_code
def yX6_calm : MethodName := ⟨RX6, "calm", "()I"⟩
abbrev cX6_cushionFor : ByteArray := prog_8_method_54_code
def yX6_cushionFor : MethodName := ⟨RX6, "cushionFor", "(III)I"⟩
abbrev cX6_guard : ByteArray := prog_8_method_55_code
def yX6_guard : MethodName := ⟨RX6, "guard", "(IIII)I"⟩
abbrev cX6_bestWatch : ByteArray := prog_8_method_56_code
def yX6_bestWatch : MethodName := ⟨RX6, "bestWatch", "(II)I"⟩
abbrev cX6_lacks : ByteArray := prog_8_method_57_code
def yX6_lacks : MethodName := ⟨RX6, "lacks", "(III)I"⟩
abbrev cX6_lacksOrder : ByteArray := prog_8_method_58_code
def yX6_lacksOrder : MethodName := ⟨RX6, "lacksOrder", "(II)I"⟩
abbrev cX6_isAbove : ByteArray := prog_8_method_59_code
def yX6_isAbove : MethodName := ⟨RX6, "isAbove", "(IIII)Z"⟩
abbrev cX6_sawdust : ByteArray := prog_8_method_60_code
def yX6_sawdust : MethodName := ⟨RX6, "sawdust", "(II)I"⟩
abbrev cX6_pile : ByteArray := prog_8_method_61_code
def yX6_pile : MethodName := ⟨RX6, "pile", "(II)I"⟩
abbrev cX6_climb : ByteArray := prog_8_method_62_code
def yX6_climb : MethodName := ⟨RX6, "climb", "(I)I"⟩
abbrev cX6_coalition : ByteArray := prog_8_method_63_code
def yX6_coalition : MethodName := ⟨RX6, "coalition", "(I)I"⟩
abbrev cX6_sawnBy : ByteArray := prog_8_method_64_code
def yX6_sawnBy : MethodName := ⟨RX6, "sawnBy", "(I)I"⟩
abbrev cX6_round : ByteArray := prog_8_method_65_code
def yX6_round : MethodName := ⟨RX6, "round", "()I"⟩
abbrev cX6_enemy : ByteArray := prog_8_method_66_code
def yX6_enemy : MethodName := ⟨RX6, "enemy", "(III)I"⟩
abbrev cX6_isSo : ByteArray := prog_8_method_67_code
def yX6_isSo : MethodName := ⟨RX6, "isSo", "(III)Z"⟩
abbrev cX6_who : ByteArray := prog_8_method_68_code
def yX6_who : MethodName := ⟨RX6, "who", "(IIIIII)I"⟩
abbrev cX6_guarded : ByteArray := prog_8_method_69_code
def yX6_guarded : MethodName := ⟨RX6, "guarded", "(IIII)I"⟩
abbrev cX6_doze : ByteArray := prog_8_method_70_code
def yX6_doze : MethodName := ⟨RX6, "doze", "(IIIII)J"⟩
abbrev cX6_drawn : ByteArray := prog_8_method_71_code
def yX6_drawn : MethodName := ⟨RX6, "drawn", "(III)I"⟩
abbrev cX6_image : ByteArray := prog_8_method_72_code
def yX6_image : MethodName := ⟨RX6, "image", "(I)I"⟩
abbrev cX6_restore : ByteArray := prog_8_method_73_code
def yX6_restore : MethodName := ⟨RX6, "restore", "(I)I"⟩
abbrev cX6_kind : ByteArray := prog_8_method_74_code
def yX6_kind : MethodName := ⟨RX6, "kind", "(I)I"⟩
abbrev cX6_isKind : ByteArray := prog_8_method_75_code
def yX6_isKind : MethodName := ⟨RX6, "isKind", "(II)Z"⟩
abbrev cX6_as : ByteArray := prog_8_method_76_code
def yX6_as : MethodName := ⟨RX6, "as", "(II)I"⟩
abbrev cX6_begin : ByteArray := prog_8_method_77_code
def yX6_begin : MethodName := ⟨RX6, "begin", "(I)V"⟩
abbrev cX6_lent : ByteArray := prog_8_method_78_code
def yX6_lent : MethodName := ⟨RX6, "lent", "(II)I"⟩
abbrev cX6_plainMark : ByteArray := prog_8_method_79_code
def yX6_plainMark : MethodName := ⟨RX6, "plainMark", "(I)I"⟩
abbrev cX6_oakSize : ByteArray := prog_8_method_80_code
def yX6_oakSize : MethodName := ⟨RX6, "oakSize", "(I)I"⟩
abbrev cX6_sizeOfOak : ByteArray := prog_8_method_81_code
def yX6_sizeOfOak : MethodName := ⟨RX6, "sizeOfOak", "(I)I"⟩
abbrev cX6_markOf : ByteArray := prog_8_method_82_code
def yX6_markOf : MethodName := ⟨RX6, "markOf", "(I)I"⟩
abbrev cX6_plainSize : ByteArray := prog_8_method_83_code
def yX6_plainSize : MethodName := ⟨RX6, "plainSize", "(I)I"⟩
abbrev cX6_sizeOf : ByteArray := prog_8_method_84_code
def yX6_sizeOf : MethodName := ⟨RX6, "sizeOf", "(I)I"⟩
abbrev cX6_ask : ByteArray := prog_8_method_85_code
def yX6_ask : MethodName := ⟨RX6, "ask", "(II)I"⟩
abbrev cX6_trace : ByteArray := prog_8_method_86_code
def yX6_trace : MethodName := ⟨RX6, "trace", "(I)I"⟩
abbrev cX6_count : ByteArray := prog_8_method_87_code
def yX6_count : MethodName := ⟨RX6, "count", "(I)I"⟩
abbrev cX6_status : ByteArray := prog_8_method_88_code
def yX6_status : MethodName := ⟨RX6, "status", "()I"⟩
def RJx145de : String := "java/io/Serializable"
def TJx145de : u_T := fun k => match k with
  | _ => ("", "", "", false)
def tyJx145de : Nat → FieldType := fun k => match k with
  | _ => .int
abbrev wsJx145de0 : List Cond := u_ws RJx145de TJx145de 0
theorem nmJx145de : ∀ a, a < 0 → ∀ b, b < 0 → a ≠ b → (TJx145de a).2.1 ≠ (TJx145de b).2.1 := by decide +kernel
theorem tyJx145de_ok : ∀ k, k < 0 → parseFieldDescriptor (TJx145de k).2.2.1 = some (tyJx145de k) := by decide +kernel
def RJx9f9b0 : String := "java/lang/CharSequence"
def TJx9f9b0 : u_T := fun k => match k with
  | _ => ("", "", "", false)
def tyJx9f9b0 : Nat → FieldType := fun k => match k with
  | _ => .int
abbrev wsJx9f9b00 : List Cond := u_ws RJx9f9b0 TJx9f9b0 0
theorem nmJx9f9b0 : ∀ a, a < 0 → ∀ b, b < 0 → a ≠ b → (TJx9f9b0 a).2.1 ≠ (TJx9f9b0 b).2.1 := by decide +kernel
theorem tyJx9f9b0_ok : ∀ k, k < 0 → parseFieldDescriptor (TJx9f9b0 k).2.2.1 = some (tyJx9f9b0 k) := by decide +kernel
def RJ11 : String := "java/lang/Character"
def TJ11 : u_T := fun k => match k with
  | _ => ("", "", "", false)
def tyJ11 : Nat → FieldType := fun k => match k with
  | _ => .int
abbrev wsJ110 : List Cond := u_ws RJ11 TJ11 0
theorem nmJ11 : ∀ a, a < 0 → ∀ b, b < 0 → a ≠ b → (TJ11 a).2.1 ≠ (TJ11 b).2.1 := by decide +kernel
theorem tyJ11_ok : ∀ k, k < 0 → parseFieldDescriptor (TJ11 k).2.2.1 = some (tyJ11 k) := by decide +kernel
abbrev cJ11_isValidCodePoint_9a6ad : ByteArray := prog_9_method_11_code
def yJ11_isValidCodePoint_9a6ad : MethodName := ⟨RJ11, "isValidCodePoint", "(I)Z"⟩
abbrev cJ11_highSurrogate_5068e : ByteArray := prog_9_method_28_code
def yJ11_highSurrogate_5068e : MethodName := ⟨RJ11, "highSurrogate", "(I)C"⟩
abbrev cJ11_lowSurrogate_5068e : ByteArray := prog_9_method_29_code
def yJ11_lowSurrogate_5068e : MethodName := ⟨RJ11, "lowSurrogate", "(I)C"⟩
def RJxb160c : String := "java/lang/Comparable"
def TJxb160c : u_T := fun k => match k with
  | _ => ("", "", "", false)
def tyJxb160c : Nat → FieldType := fun k => match k with
  | _ => .int
abbrev wsJxb160c0 : List Cond := u_ws RJxb160c TJxb160c 0
theorem nmJxb160c : ∀ a, a < 0 → ∀ b, b < 0 → a ≠ b → (TJxb160c a).2.1 ≠ (TJxb160c b).2.1 := by decide +kernel
theorem tyJxb160c_ok : ∀ k, k < 0 → parseFieldDescriptor (TJxb160c k).2.2.1 = some (tyJxb160c k) := by decide +kernel
def RJ6 : String := "java/lang/Integer"
def TJ6 : u_T := fun k => match k with
  | _ => ("", "", "", false)
def tyJ6 : Nat → FieldType := fun k => match k with
  | _ => .int
abbrev wsJ60 : List Cond := u_ws RJ6 TJ6 0
theorem nmJ6 : ∀ a, a < 0 → ∀ b, b < 0 → a ≠ b → (TJ6 a).2.1 ≠ (TJ6 b).2.1 := by decide +kernel
theorem tyJ6_ok : ∀ k, k < 0 → parseFieldDescriptor (TJ6 k).2.2.1 = some (tyJ6 k) := by decide +kernel
abbrev cJ6_bitCount_0f7a4 : ByteArray := prog_10_method_49_code
def yJ6_bitCount_0f7a4 : MethodName := ⟨RJ6, "bitCount", "(I)I"⟩
def RJ9 : String := "java/lang/Math"
def TJ9 : u_T := fun k => match k with
  | _ => ("", "", "", false)
def tyJ9 : Nat → FieldType := fun k => match k with
  | _ => .int
abbrev wsJ90 : List Cond := u_ws RJ9 TJ9 0
theorem nmJ9 : ∀ a, a < 0 → ∀ b, b < 0 → a ≠ b → (TJ9 a).2.1 ≠ (TJ9 b).2.1 := by decide +kernel
theorem tyJ9_ok : ∀ k, k < 0 → parseFieldDescriptor (TJ9 k).2.2.1 = some (tyJ9 k) := by decide +kernel
abbrev cJ9_max_7cf53 : ByteArray := prog_11_method_65_code
def yJ9_max_7cf53 : MethodName := ⟨RJ9, "max", "(II)I"⟩
abbrev cJ9_min_7cf53 : ByteArray := prog_11_method_69_code
def yJ9_min_7cf53 : MethodName := ⟨RJ9, "min", "(II)I"⟩
def RJ0 : String := "java/lang/String"
def TJ0 : u_T := fun k => match k with
  | _ => ("", "", "", false)
def tyJ0 : Nat → FieldType := fun k => match k with
  | _ => .int
abbrev wsJ00 : List Cond := u_ws RJ0 TJ0 0
theorem nmJ0 : ∀ a, a < 0 → ∀ b, b < 0 → a ≠ b → (TJ0 a).2.1 ≠ (TJ0 b).2.1 := by decide +kernel
theorem tyJ0_ok : ∀ k, k < 0 → parseFieldDescriptor (TJ0 k).2.2.1 = some (tyJ0 k) := by decide +kernel
abbrev cJ0_length_8abf5 : ByteArray := prog_12_method_54_code
def yJ0_length_8abf5 : MethodName := ⟨RJ0, "length", "()I"⟩
abbrev cJ0_indexOf_0f7a4 : ByteArray := prog_12_method_79_code
def yJ0_indexOf_0f7a4 : MethodName := ⟨RJ0, "indexOf", "(I)I"⟩
abbrev cJ0_indexOf_7cf53 : ByteArray := prog_12_method_80_code
def yJ0_indexOf_7cf53 : MethodName := ⟨RJ0, "indexOf", "(II)I"⟩
abbrev cJ0_coder_7d493 : ByteArray := prog_12_method_152_code
def yJ0_coder_7d493 : MethodName := ⟨RJ0, "coder", "()B"⟩
abbrev cJ0_isLatin1_aae02 : ByteArray := prog_12_method_154_code
def yJ0_isLatin1_aae02 : MethodName := ⟨RJ0, "isLatin1", "()Z"⟩
abbrev cJ0_checkBoundsBeginEnd_23922 : ByteArray := prog_12_method_158_code
def yJ0_checkBoundsBeginEnd_23922 : MethodName := ⟨RJ0, "checkBoundsBeginEnd", "(III)V"⟩
def RJ1 : String := "java/lang/StringLatin1"
def TJ1 : u_T := fun k => match k with
  | _ => ("", "", "", false)
def tyJ1 : Nat → FieldType := fun k => match k with
  | _ => .int
abbrev wsJ10 : List Cond := u_ws RJ1 TJ1 0
theorem nmJ1 : ∀ a, a < 0 → ∀ b, b < 0 → a ≠ b → (TJ1 a).2.1 ≠ (TJ1 b).2.1 := by decide +kernel
theorem tyJ1_ok : ∀ k, k < 0 → parseFieldDescriptor (TJ1 k).2.2.1 = some (tyJ1 k) := by decide +kernel
abbrev cJ1_canEncode_9a6ad : ByteArray := prog_13_method_4_code
def yJ1_canEncode_9a6ad : MethodName := ⟨RJ1, "canEncode", "(I)Z"⟩
abbrev cJ1_indexOf_4cfef : ByteArray := prog_13_method_22_code
def yJ1_indexOf_4cfef : MethodName := ⟨RJ1, "indexOf", "([BIII)I"⟩
abbrev cJ1_indexOfChar_4cfef : ByteArray := prog_13_method_23_code
def yJ1_indexOfChar_4cfef : MethodName := ⟨RJ1, "indexOfChar", "([BIII)I"⟩
def RJ2 : String := "java/lang/StringUTF16"
def TJ2 : u_T := fun k => match k with
  | _ => ("", "", "", false)
def tyJ2 : Nat → FieldType := fun k => match k with
  | _ => .int
abbrev wsJ20 : List Cond := u_ws RJ2 TJ2 0
theorem nmJ2 : ∀ a, a < 0 → ∀ b, b < 0 → a ≠ b → (TJ2 a).2.1 ≠ (TJ2 b).2.1 := by decide +kernel
theorem tyJ2_ok : ∀ k, k < 0 → parseFieldDescriptor (TJ2 k).2.2.1 = some (tyJ2 k) := by decide +kernel
abbrev cJ2_getChar_3b067 : ByteArray := prog_14_method_5_code
def yJ2_getChar_3b067 : MethodName := ⟨RJ2, "getChar", "([BI)C"⟩
abbrev cJ2_length_9d52b : ByteArray := prog_14_method_6_code
def yJ2_length_9d52b : MethodName := ⟨RJ2, "length", "([B)I"⟩
abbrev cJ2_indexOf_4cfef : ByteArray := prog_14_method_40_code
def yJ2_indexOf_4cfef : MethodName := ⟨RJ2, "indexOf", "([BIII)I"⟩
abbrev cJ2_indexOfChar_4cfef : ByteArray := prog_14_method_47_code
def yJ2_indexOfChar_4cfef : MethodName := ⟨RJ2, "indexOfChar", "([BIII)I"⟩
abbrev cJ2_indexOfCharUnsafe_4cfef : ByteArray := prog_14_method_48_code
def yJ2_indexOfCharUnsafe_4cfef : MethodName := ⟨RJ2, "indexOfCharUnsafe", "([BIII)I"⟩
abbrev cJ2_indexOfSupplementary_4cfef : ByteArray := prog_14_method_49_code
def yJ2_indexOfSupplementary_4cfef : MethodName := ⟨RJ2, "indexOfSupplementary", "([BIII)I"⟩
abbrev cJ2_checkBoundsBeginEnd_d044e : ByteArray := prog_14_method_93_code
def yJ2_checkBoundsBeginEnd_d044e : MethodName := ⟨RJ2, "checkBoundsBeginEnd", "(II[B)V"⟩
def RJ10 : String := "java/lang/System"
def TJ10 : u_T := fun k => match k with
  | _ => ("", "", "", false)
def tyJ10 : Nat → FieldType := fun k => match k with
  | _ => .int
abbrev wsJ100 : List Cond := u_ws RJ10 TJ10 0
theorem nmJ10 : ∀ a, a < 0 → ∀ b, b < 0 → a ≠ b → (TJ10 a).2.1 ≠ (TJ10 b).2.1 := by decide +kernel
theorem tyJ10_ok : ∀ k, k < 0 → parseFieldDescriptor (TJ10 k).2.2.1 = some (tyJ10 k) := by decide +kernel
def RJxfd54e : String := "java/lang/constant/Constable"
def TJxfd54e : u_T := fun k => match k with
  | _ => ("", "", "", false)
def tyJxfd54e : Nat → FieldType := fun k => match k with
  | _ => .int
abbrev wsJxfd54e0 : List Cond := u_ws RJxfd54e TJxfd54e 0
theorem nmJxfd54e : ∀ a, a < 0 → ∀ b, b < 0 → a ≠ b → (TJxfd54e a).2.1 ≠ (TJxfd54e b).2.1 := by decide +kernel
theorem tyJxfd54e_ok : ∀ k, k < 0 → parseFieldDescriptor (TJxfd54e k).2.2.1 = some (tyJxfd54e k) := by decide +kernel
def RJx3cf43 : String := "java/lang/constant/ConstantDesc"
def TJx3cf43 : u_T := fun k => match k with
  | _ => ("", "", "", false)
def tyJx3cf43 : Nat → FieldType := fun k => match k with
  | _ => .int
abbrev wsJx3cf430 : List Cond := u_ws RJx3cf43 TJx3cf43 0
theorem nmJx3cf43 : ∀ a, a < 0 → ∀ b, b < 0 → a ≠ b → (TJx3cf43 a).2.1 ≠ (TJx3cf43 b).2.1 := by decide +kernel
theorem tyJx3cf43_ok : ∀ k, k < 0 → parseFieldDescriptor (TJx3cf43 k).2.2.1 = some (tyJx3cf43 k) := by decide +kernel
def RJ7 : String := "java/util/Arrays"
def TJ7 : u_T := fun k => match k with
  | _ => ("", "", "", false)
def tyJ7 : Nat → FieldType := fun k => match k with
  | _ => .int
abbrev wsJ70 : List Cond := u_ws RJ7 TJ7 0
theorem nmJ7 : ∀ a, a < 0 → ∀ b, b < 0 → a ≠ b → (TJ7 a).2.1 ≠ (TJ7 b).2.1 := by decide +kernel
theorem tyJ7_ok : ∀ k, k < 0 → parseFieldDescriptor (TJ7 k).2.2.1 = some (tyJ7 k) := by decide +kernel
abbrev cJ7_fill_53178 : ByteArray := prog_16_method_103_code
def yJ7_fill_53178 : MethodName := ⟨RJ7, "fill", "([II)V"⟩
def RJ3 : String := "jdk/internal/util/Preconditions"
def TJ3 : u_T := fun k => match k with
  | _ => ("", "", "", false)
def tyJ3 : Nat → FieldType := fun k => match k with
  | _ => .int
abbrev wsJ30 : List Cond := u_ws RJ3 TJ3 0
theorem nmJ3 : ∀ a, a < 0 → ∀ b, b < 0 → a ≠ b → (TJ3 a).2.1 ≠ (TJ3 b).2.1 := by decide +kernel
theorem tyJ3_ok : ∀ k, k < 0 → parseFieldDescriptor (TJ3 k).2.2.1 = some (tyJ3 k) := by decide +kernel
abbrev cJ3_checkFromToIndex_8c36e : ByteArray := prog_17_method_12_code
def yJ3_checkFromToIndex_8c36e : MethodName := ⟨RJ3, "checkFromToIndex", "(IIILjava/util/function/BiFunction;)I"⟩
def RL : String := "ChairRanksLaw"
abbrev cL_law : ByteArray := code
def yL_law : MethodName := ⟨RL, "law", "([I)Z"⟩
theorem inX0 : ∀ w ∈ wsX00, w ∈ lw_tbl := by decide +kernel
theorem inX1 : ∀ w ∈ wsX10, w ∈ lw_tbl := by decide +kernel
theorem inX2 : ∀ w ∈ wsX20, w ∈ lw_tbl := by decide +kernel
theorem inX3 : ∀ w ∈ wsX30, w ∈ lw_tbl := by decide +kernel
theorem inX4 : ∀ w ∈ wsX40, w ∈ lw_tbl := by decide +kernel
theorem inX5 : ∀ w ∈ wsX50, w ∈ lw_tbl := by decide +kernel
theorem inX6 : ∀ w ∈ wsX60, w ∈ lw_tbl := by decide +kernel
theorem inJx145de : ∀ w ∈ wsJx145de0, w ∈ lw_tbl := by decide +kernel
theorem inJx9f9b0 : ∀ w ∈ wsJx9f9b00, w ∈ lw_tbl := by decide +kernel
theorem inJ11 : ∀ w ∈ wsJ110, w ∈ lw_tbl := by decide +kernel
theorem inJxb160c : ∀ w ∈ wsJxb160c0, w ∈ lw_tbl := by decide +kernel
theorem inJ6 : ∀ w ∈ wsJ60, w ∈ lw_tbl := by decide +kernel
theorem inJ9 : ∀ w ∈ wsJ90, w ∈ lw_tbl := by decide +kernel
theorem inJ0 : ∀ w ∈ wsJ00, w ∈ lw_tbl := by decide +kernel
theorem inJ1 : ∀ w ∈ wsJ10, w ∈ lw_tbl := by decide +kernel
theorem inJ2 : ∀ w ∈ wsJ20, w ∈ lw_tbl := by decide +kernel
theorem inJ10 : ∀ w ∈ wsJ100, w ∈ lw_tbl := by decide +kernel
theorem inJxfd54e : ∀ w ∈ wsJxfd54e0, w ∈ lw_tbl := by decide +kernel
theorem inJx3cf43 : ∀ w ∈ wsJx3cf430, w ∈ lw_tbl := by decide +kernel
theorem inJ7 : ∀ w ∈ wsJ70, w ∈ lw_tbl := by decide +kernel
theorem inJ3 : ∀ w ∈ wsJ30, w ∈ lw_tbl := by decide +kernel
abbrev vwCl : List vw_C := [(RX0, TX0, 2), (RX1, TX1, 3), (RX2, TX2, 14), (RX3, TX3, 3), (RX4, TX4, 4), (RX5, TX5, 12), (RX6, TX6, 25)]
