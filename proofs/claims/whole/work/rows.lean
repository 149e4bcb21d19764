section
-- ===== PART A: goes FIRST, ahead of the names: the tables' words, and 'selects' of the private methods out of them =====
/-- a private method of a class that the tables say can be made, by its rows of tables_1 -/
def lw_okq (q : MethodName × Nat) : Prop := (q.1.cls ≠ "java/lang/invoke/MethodHandle" ∧ q.1.cls ≠ "java/lang/invoke/VarHandle") ∧ Cond.instantiable q.1.cls q.2 ∈ tables_1 ∧ Cond.privateMethod q.1 ∈ tables_1 ∧ Cond.instanceMethod q.1 ∈ tables_1
theorem lw_p0 : lw_okq (⟨"ChairRanks", "found", "(I)I"⟩, 12) := ⟨⟨by decide +kernel, by decide +kernel⟩, List.mem_of_getElem? (i := 18) (by decide +kernel), List.mem_of_getElem? (i := 215) (by decide +kernel), List.mem_of_getElem? (i := 216) (by decide +kernel)⟩
theorem lw_p1 : lw_okq (⟨"ChairRanks", "nothingFound", "(I)I"⟩, 12) := ⟨⟨by decide +kernel, by decide +kernel⟩, List.mem_of_getElem? (i := 18) (by decide +kernel), List.mem_of_getElem? (i := 227) (by decide +kernel), List.mem_of_getElem? (i := 228) (by decide +kernel)⟩
theorem lw_p2 : lw_okq (⟨"ChairRanks", "findingOfItems", "(III)I"⟩, 12) := ⟨⟨by decide +kernel, by decide +kernel⟩, List.mem_of_getElem? (i := 18) (by decide +kernel), List.mem_of_getElem? (i := 235) (by decide +kernel), List.mem_of_getElem? (i := 236) (by decide +kernel)⟩
theorem lw_p3 : lw_okq (⟨"ChairRanks$Tape", "readLaw", "(LChairRanks$Ministry;)V"⟩, 4) := ⟨⟨by decide +kernel, by decide +kernel⟩, List.mem_of_getElem? (i := 28) (by decide +kernel), List.mem_of_getElem? (i := 287) (by decide +kernel), List.mem_of_getElem? (i := 288) (by decide +kernel)⟩
theorem lw_p4 : lw_okq (⟨"ChairRanks$Tape", "takeSign", "(I)V"⟩, 4) := ⟨⟨by decide +kernel, by decide +kernel⟩, List.mem_of_getElem? (i := 28) (by decide +kernel), List.mem_of_getElem? (i := 291) (by decide +kernel), List.mem_of_getElem? (i := 292) (by decide +kernel)⟩
theorem lw_p5 : lw_okq (⟨"ChairRanks$Tape", "takeNumber", "(II)I"⟩, 4) := ⟨⟨by decide +kernel, by decide +kernel⟩, List.mem_of_getElem? (i := 28) (by decide +kernel), List.mem_of_getElem? (i := 295) (by decide +kernel), List.mem_of_getElem? (i := 296) (by decide +kernel)⟩
theorem lw_p6 : lw_okq (⟨"ChairRanks$Tape", "readOneChair", "(LChairRanks$Ministry;)V"⟩, 4) := ⟨⟨by decide +kernel, by decide +kernel⟩, List.mem_of_getElem? (i := 28) (by decide +kernel), List.mem_of_getElem? (i := 300) (by decide +kernel), List.mem_of_getElem? (i := 301) (by decide +kernel)⟩
theorem lw_p7 : lw_okq (⟨"ChairRanks", "isEmpty", "()Z"⟩, 12) := ⟨⟨by decide +kernel, by decide +kernel⟩, List.mem_of_getElem? (i := 18) (by decide +kernel), List.mem_of_getElem? (i := 428) (by decide +kernel), List.mem_of_getElem? (i := 429) (by decide +kernel)⟩
theorem lw_p8 : lw_okq (⟨"ChairRanks$Ministry", "reckonRanks", "()V"⟩, 14) := ⟨⟨by decide +kernel, by decide +kernel⟩, List.mem_of_getElem? (i := 50) (by decide +kernel), List.mem_of_getElem? (i := 441) (by decide +kernel), List.mem_of_getElem? (i := 442) (by decide +kernel)⟩
theorem lw_p9 : lw_okq (⟨"ChairRanks$Ministry", "preyByRanks", "(I)I"⟩, 14) := ⟨⟨by decide +kernel, by decide +kernel⟩, List.mem_of_getElem? (i := 50) (by decide +kernel), List.mem_of_getElem? (i := 449) (by decide +kernel), List.mem_of_getElem? (i := 450) (by decide +kernel)⟩
theorem lw_p10 : lw_okq (⟨"ChairRanks$Ministry", "sawLeg", "(II)Z"⟩, 14) := ⟨⟨by decide +kernel, by decide +kernel⟩, List.mem_of_getElem? (i := 50) (by decide +kernel), List.mem_of_getElem? (i := 458) (by decide +kernel), List.mem_of_getElem? (i := 459) (by decide +kernel)⟩
theorem lw_p11 : lw_okq (⟨"ChairRanks", "isChair", "(I)Z"⟩, 12) := ⟨⟨by decide +kernel, by decide +kernel⟩, List.mem_of_getElem? (i := 18) (by decide +kernel), List.mem_of_getElem? (i := 471) (by decide +kernel), List.mem_of_getElem? (i := 472) (by decide +kernel)⟩
theorem lw_p12 : lw_okq (⟨"ChairRanks", "foresee", "()V"⟩, 12) := ⟨⟨by decide +kernel, by decide +kernel⟩, List.mem_of_getElem? (i := 18) (by decide +kernel), List.mem_of_getElem? (i := 531) (by decide +kernel), List.mem_of_getElem? (i := 532) (by decide +kernel)⟩
theorem lw_p13 : lw_okq (⟨"ChairRanks", "fewestToWatch", "(III)I"⟩, 12) := ⟨⟨by decide +kernel, by decide +kernel⟩, List.mem_of_getElem? (i := 18) (by decide +kernel), List.mem_of_getElem? (i := 565) (by decide +kernel), List.mem_of_getElem? (i := 566) (by decide +kernel)⟩
theorem lw_p14 : lw_okq (⟨"ChairRanks", "rankIfWatched", "(III)I"⟩, 12) := ⟨⟨by decide +kernel, by decide +kernel⟩, List.mem_of_getElem? (i := 18) (by decide +kernel), List.mem_of_getElem? (i := 569) (by decide +kernel), List.mem_of_getElem? (i := 570) (by decide +kernel)⟩
theorem lw_p15 : lw_okq (⟨"ChairRanks", "passWatched", "(II)V"⟩, 12) := ⟨⟨by decide +kernel, by decide +kernel⟩, List.mem_of_getElem? (i := 18) (by decide +kernel), List.mem_of_getElem? (i := 573) (by decide +kernel), List.mem_of_getElem? (i := 574) (by decide +kernel)⟩
def lw_privs_1 : List (MethodName × Nat) := [(⟨"ChairRanks", "found", "(I)I"⟩, 12), (⟨"ChairRanks", "nothingFound", "(I)I"⟩, 12), (⟨"ChairRanks", "findingOfItems", "(III)I"⟩, 12), (⟨"ChairRanks$Tape", "readLaw", "(LChairRanks$Ministry;)V"⟩, 4), (⟨"ChairRanks$Tape", "takeSign", "(I)V"⟩, 4), (⟨"ChairRanks$Tape", "takeNumber", "(II)I"⟩, 4), (⟨"ChairRanks$Tape", "readOneChair", "(LChairRanks$Ministry;)V"⟩, 4), (⟨"ChairRanks", "isEmpty", "()Z"⟩, 12), (⟨"ChairRanks$Ministry", "reckonRanks", "()V"⟩, 14), (⟨"ChairRanks$Ministry", "preyByRanks", "(I)I"⟩, 14), (⟨"ChairRanks$Ministry", "sawLeg", "(II)Z"⟩, 14), (⟨"ChairRanks", "isChair", "(I)Z"⟩, 12), (⟨"ChairRanks", "foresee", "()V"⟩, 12), (⟨"ChairRanks", "fewestToWatch", "(III)I"⟩, 12), (⟨"ChairRanks", "rankIfWatched", "(III)I"⟩, 12), (⟨"ChairRanks", "passWatched", "(II)V"⟩, 12)]
theorem lw_r1 : ∀ q ∈ lw_privs_1, lw_okq q := List.forall_mem_cons.mpr ⟨lw_p0, List.forall_mem_cons.mpr ⟨lw_p1, List.forall_mem_cons.mpr ⟨lw_p2, List.forall_mem_cons.mpr ⟨lw_p3, List.forall_mem_cons.mpr ⟨lw_p4, List.forall_mem_cons.mpr ⟨lw_p5, List.forall_mem_cons.mpr ⟨lw_p6, List.forall_mem_cons.mpr ⟨lw_p7, List.forall_mem_cons.mpr ⟨lw_p8, List.forall_mem_cons.mpr ⟨lw_p9, List.forall_mem_cons.mpr ⟨lw_p10, List.forall_mem_cons.mpr ⟨lw_p11, List.forall_mem_cons.mpr ⟨lw_p12, List.forall_mem_cons.mpr ⟨lw_p13, List.forall_mem_cons.mpr ⟨lw_p14, List.forall_mem_cons.mpr ⟨lw_p15, fun _ h => absurd h List.not_mem_nil⟩⟩⟩⟩⟩⟩⟩⟩⟩⟩⟩⟩⟩⟩⟩⟩
theorem lw_p16 : lw_okq (⟨"ChairRanks", "findingOfOrder", "(II)I"⟩, 12) := ⟨⟨by decide +kernel, by decide +kernel⟩, List.mem_of_getElem? (i := 18) (by decide +kernel), List.mem_of_getElem? (i := 589) (by decide +kernel), List.mem_of_getElem? (i := 590) (by decide +kernel)⟩
theorem lw_p17 : lw_okq (⟨"ChairRanks", "leastSawdust", "()I"⟩, 12) := ⟨⟨by decide +kernel, by decide +kernel⟩, List.mem_of_getElem? (i := 18) (by decide +kernel), List.mem_of_getElem? (i := 593) (by decide +kernel), List.mem_of_getElem? (i := 594) (by decide +kernel)⟩
theorem lw_p18 : lw_okq (⟨"ChairRanks", "fewestCushions", "()I"⟩, 12) := ⟨⟨by decide +kernel, by decide +kernel⟩, List.mem_of_getElem? (i := 18) (by decide +kernel), List.mem_of_getElem? (i := 605) (by decide +kernel), List.mem_of_getElem? (i := 606) (by decide +kernel)⟩
theorem lw_p19 : lw_okq (⟨"ChairRanks", "fewestAboveHalf", "()I"⟩, 12) := ⟨⟨by decide +kernel, by decide +kernel⟩, List.mem_of_getElem? (i := 18) (by decide +kernel), List.mem_of_getElem? (i := 617) (by decide +kernel), List.mem_of_getElem? (i := 618) (by decide +kernel)⟩
theorem lw_p20 : lw_okq (⟨"ChairRanks", "highTogether", "(I)I"⟩, 12) := ⟨⟨by decide +kernel, by decide +kernel⟩, List.mem_of_getElem? (i := 18) (by decide +kernel), List.mem_of_getElem? (i := 621) (by decide +kernel), List.mem_of_getElem? (i := 622) (by decide +kernel)⟩
theorem lw_p21 : lw_okq (⟨"ChairRanks", "suppose", "(III)V"⟩, 12) := ⟨⟨by decide +kernel, by decide +kernel⟩, List.mem_of_getElem? (i := 18) (by decide +kernel), List.mem_of_getElem? (i := 647) (by decide +kernel), List.mem_of_getElem? (i := 648) (by decide +kernel)⟩
theorem lw_p22 : lw_okq (⟨"ChairRanks", "comesTrue", "(ILChairRanks$Row;II)Z"⟩, 12) := ⟨⟨by decide +kernel, by decide +kernel⟩, List.mem_of_getElem? (i := 18) (by decide +kernel), List.mem_of_getElem? (i := 651) (by decide +kernel), List.mem_of_getElem? (i := 652) (by decide +kernel)⟩
theorem lw_p23 : lw_okq (⟨"ChairRanks", "weightOf", "(II)J"⟩, 12) := ⟨⟨by decide +kernel, by decide +kernel⟩, List.mem_of_getElem? (i := 18) (by decide +kernel), List.mem_of_getElem? (i := 664) (by decide +kernel), List.mem_of_getElem? (i := 665) (by decide +kernel)⟩
theorem lw_p24 : lw_okq (⟨"ChairRanks$Asks", "sizeOf", "(LChairRanks$Ministry;II)I"⟩, 2) := ⟨⟨by decide +kernel, by decide +kernel⟩, List.mem_of_getElem? (i := 135) (by decide +kernel), List.mem_of_getElem? (i := 704) (by decide +kernel), List.mem_of_getElem? (i := 705) (by decide +kernel)⟩
theorem lw_p25 : lw_okq (⟨"ChairRanks$Asks", "plainSize", "(LChairRanks$Ministry;II)I"⟩, 2) := ⟨⟨by decide +kernel, by decide +kernel⟩, List.mem_of_getElem? (i := 135) (by decide +kernel), List.mem_of_getElem? (i := 708) (by decide +kernel), List.mem_of_getElem? (i := 709) (by decide +kernel)⟩
theorem lw_p26 : lw_okq (⟨"ChairRanks$Asks", "begin", "(I)V"⟩, 2) := ⟨⟨by decide +kernel, by decide +kernel⟩, List.mem_of_getElem? (i := 135) (by decide +kernel), List.mem_of_getElem? (i := 712) (by decide +kernel), List.mem_of_getElem? (i := 713) (by decide +kernel)⟩
theorem lw_p27 : lw_okq (⟨"ChairRanks$Asks", "lentSize", "(LChairRanks$Ministry;I)I"⟩, 2) := ⟨⟨by decide +kernel, by decide +kernel⟩, List.mem_of_getElem? (i := 135) (by decide +kernel), List.mem_of_getElem? (i := 716) (by decide +kernel), List.mem_of_getElem? (i := 717) (by decide +kernel)⟩
theorem lw_p28 : lw_okq (⟨"ChairRanks$Asks", "markOf", "(LChairRanks$Ministry;II)I"⟩, 2) := ⟨⟨by decide +kernel, by decide +kernel⟩, List.mem_of_getElem? (i := 135) (by decide +kernel), List.mem_of_getElem? (i := 720) (by decide +kernel), List.mem_of_getElem? (i := 721) (by decide +kernel)⟩
theorem lw_p29 : lw_okq (⟨"ChairRanks$Asks", "plainMark", "(LChairRanks$Ministry;I)I"⟩, 2) := ⟨⟨by decide +kernel, by decide +kernel⟩, List.mem_of_getElem? (i := 135) (by decide +kernel), List.mem_of_getElem? (i := 724) (by decide +kernel), List.mem_of_getElem? (i := 725) (by decide +kernel)⟩
theorem lw_p30 : lw_okq (⟨"ChairRanks$Asks", "lentMark", "(I)I"⟩, 2) := ⟨⟨by decide +kernel, by decide +kernel⟩, List.mem_of_getElem? (i := 135) (by decide +kernel), List.mem_of_getElem? (i := 728) (by decide +kernel), List.mem_of_getElem? (i := 729) (by decide +kernel)⟩
theorem lw_p31 : lw_okq (⟨"ChairRanks$Asks", "rockerMark", "(LChairRanks$Ministry;I)I"⟩, 2) := ⟨⟨by decide +kernel, by decide +kernel⟩, List.mem_of_getElem? (i := 135) (by decide +kernel), List.mem_of_getElem? (i := 732) (by decide +kernel), List.mem_of_getElem? (i := 733) (by decide +kernel)⟩
def lw_privs_2 : List (MethodName × Nat) := [(⟨"ChairRanks", "findingOfOrder", "(II)I"⟩, 12), (⟨"ChairRanks", "leastSawdust", "()I"⟩, 12), (⟨"ChairRanks", "fewestCushions", "()I"⟩, 12), (⟨"ChairRanks", "fewestAboveHalf", "()I"⟩, 12), (⟨"ChairRanks", "highTogether", "(I)I"⟩, 12), (⟨"ChairRanks", "suppose", "(III)V"⟩, 12), (⟨"ChairRanks", "comesTrue", "(ILChairRanks$Row;II)Z"⟩, 12), (⟨"ChairRanks", "weightOf", "(II)J"⟩, 12), (⟨"ChairRanks$Asks", "sizeOf", "(LChairRanks$Ministry;II)I"⟩, 2), (⟨"ChairRanks$Asks", "plainSize", "(LChairRanks$Ministry;II)I"⟩, 2), (⟨"ChairRanks$Asks", "begin", "(I)V"⟩, 2), (⟨"ChairRanks$Asks", "lentSize", "(LChairRanks$Ministry;I)I"⟩, 2), (⟨"ChairRanks$Asks", "markOf", "(LChairRanks$Ministry;II)I"⟩, 2), (⟨"ChairRanks$Asks", "plainMark", "(LChairRanks$Ministry;I)I"⟩, 2), (⟨"ChairRanks$Asks", "lentMark", "(I)I"⟩, 2), (⟨"ChairRanks$Asks", "rockerMark", "(LChairRanks$Ministry;I)I"⟩, 2)]
theorem lw_r2 : ∀ q ∈ lw_privs_2, lw_okq q := List.forall_mem_cons.mpr ⟨lw_p16, List.forall_mem_cons.mpr ⟨lw_p17, List.forall_mem_cons.mpr ⟨lw_p18, List.forall_mem_cons.mpr ⟨lw_p19, List.forall_mem_cons.mpr ⟨lw_p20, List.forall_mem_cons.mpr ⟨lw_p21, List.forall_mem_cons.mpr ⟨lw_p22, List.forall_mem_cons.mpr ⟨lw_p23, List.forall_mem_cons.mpr ⟨lw_p24, List.forall_mem_cons.mpr ⟨lw_p25, List.forall_mem_cons.mpr ⟨lw_p26, List.forall_mem_cons.mpr ⟨lw_p27, List.forall_mem_cons.mpr ⟨lw_p28, List.forall_mem_cons.mpr ⟨lw_p29, List.forall_mem_cons.mpr ⟨lw_p30, List.forall_mem_cons.mpr ⟨lw_p31, fun _ h => absurd h List.not_mem_nil⟩⟩⟩⟩⟩⟩⟩⟩⟩⟩⟩⟩⟩⟩⟩⟩
theorem lw_p32 : lw_okq (⟨"ChairRanks$Asks", "cushionedMark", "(LChairRanks$Ministry;I)I"⟩, 2) := ⟨⟨by decide +kernel, by decide +kernel⟩, List.mem_of_getElem? (i := 135) (by decide +kernel), List.mem_of_getElem? (i := 736) (by decide +kernel), List.mem_of_getElem? (i := 737) (by decide +kernel)⟩
theorem lw_p33 : lw_okq (⟨"ChairRanks$Asks", "oakMark", "(LChairRanks$Ministry;II)I"⟩, 2) := ⟨⟨by decide +kernel, by decide +kernel⟩, List.mem_of_getElem? (i := 135) (by decide +kernel), List.mem_of_getElem? (i := 740) (by decide +kernel), List.mem_of_getElem? (i := 741) (by decide +kernel)⟩
theorem lw_p34 : lw_okq (⟨"ChairRanks$Asks", "rockerSize", "(LChairRanks$Ministry;II)I"⟩, 2) := ⟨⟨by decide +kernel, by decide +kernel⟩, List.mem_of_getElem? (i := 135) (by decide +kernel), List.mem_of_getElem? (i := 745) (by decide +kernel), List.mem_of_getElem? (i := 746) (by decide +kernel)⟩
theorem lw_p35 : lw_okq (⟨"ChairRanks$Asks", "oakSize", "(LChairRanks$Ministry;I)I"⟩, 2) := ⟨⟨by decide +kernel, by decide +kernel⟩, List.mem_of_getElem? (i := 135) (by decide +kernel), List.mem_of_getElem? (i := 749) (by decide +kernel), List.mem_of_getElem? (i := 750) (by decide +kernel)⟩
theorem lw_p36 : lw_okq (⟨"ChairRanks$Asks", "throneSize", "(LChairRanks$Ministry;I)I"⟩, 2) := ⟨⟨by decide +kernel, by decide +kernel⟩, List.mem_of_getElem? (i := 135) (by decide +kernel), List.mem_of_getElem? (i := 753) (by decide +kernel), List.mem_of_getElem? (i := 754) (by decide +kernel)⟩
theorem lw_p37 : lw_okq (⟨"ChairRanks", "rowsThere", "()I"⟩, 12) := ⟨⟨by decide +kernel, by decide +kernel⟩, List.mem_of_getElem? (i := 18) (by decide +kernel), List.mem_of_getElem? (i := 766) (by decide +kernel), List.mem_of_getElem? (i := 767) (by decide +kernel)⟩
theorem lw_p38 : lw_okq (⟨"ChairRanksModel", "find", "(I)I"⟩, 25) := ⟨⟨by decide +kernel, by decide +kernel⟩, List.mem_of_getElem? (i := 778) (by decide +kernel), List.mem_of_getElem? (i := 874) (by decide +kernel), List.mem_of_getElem? (i := 875) (by decide +kernel)⟩
theorem lw_p39 : lw_okq (⟨"ChairRanksModel", "well", "(I)I"⟩, 25) := ⟨⟨by decide +kernel, by decide +kernel⟩, List.mem_of_getElem? (i := 778) (by decide +kernel), List.mem_of_getElem? (i := 879) (by decide +kernel), List.mem_of_getElem? (i := 880) (by decide +kernel)⟩
theorem lw_p40 : lw_okq (⟨"ChairRanksModel", "readMinistry", "()Z"⟩, 25) := ⟨⟨by decide +kernel, by decide +kernel⟩, List.mem_of_getElem? (i := 778) (by decide +kernel), List.mem_of_getElem? (i := 908) (by decide +kernel), List.mem_of_getElem? (i := 909) (by decide +kernel)⟩
theorem lw_p41 : lw_okq (⟨"ChairRanksModel", "nextToken", "()V"⟩, 25) := ⟨⟨by decide +kernel, by decide +kernel⟩, List.mem_of_getElem? (i := 778) (by decide +kernel), List.mem_of_getElem? (i := 912) (by decide +kernel), List.mem_of_getElem? (i := 913) (by decide +kernel)⟩
theorem lw_p42 : lw_okq (⟨"ChairRanksModel", "takes", "(I)Z"⟩, 25) := ⟨⟨by decide +kernel, by decide +kernel⟩, List.mem_of_getElem? (i := 778) (by decide +kernel), List.mem_of_getElem? (i := 920) (by decide +kernel), List.mem_of_getElem? (i := 921) (by decide +kernel)⟩
theorem lw_p43 : lw_okq (⟨"ChairRanksModel", "isLetter", "(I)Z"⟩, 25) := ⟨⟨by decide +kernel, by decide +kernel⟩, List.mem_of_getElem? (i := 778) (by decide +kernel), List.mem_of_getElem? (i := 924) (by decide +kernel), List.mem_of_getElem? (i := 925) (by decide +kernel)⟩
theorem lw_p44 : lw_okq (⟨"ChairRanksModel", "faults", "(I)Z"⟩, 25) := ⟨⟨by decide +kernel, by decide +kernel⟩, List.mem_of_getElem? (i := 778) (by decide +kernel), List.mem_of_getElem? (i := 928) (by decide +kernel), List.mem_of_getElem? (i := 929) (by decide +kernel)⟩
theorem lw_p45 : lw_okq (⟨"ChairRanksModel", "takesNumber", "(IIII)Z"⟩, 25) := ⟨⟨by decide +kernel, by decide +kernel⟩, List.mem_of_getElem? (i := 778) (by decide +kernel), List.mem_of_getElem? (i := 932) (by decide +kernel), List.mem_of_getElem? (i := 933) (by decide +kernel)⟩
theorem lw_p46 : lw_okq (⟨"ChairRanksModel", "readChair", "()Z"⟩, 25) := ⟨⟨by decide +kernel, by decide +kernel⟩, List.mem_of_getElem? (i := 778) (by decide +kernel), List.mem_of_getElem? (i := 936) (by decide +kernel), List.mem_of_getElem? (i := 937) (by decide +kernel)⟩
theorem lw_p47 : lw_okq (⟨"ChairRanksModel", "note", "()V"⟩, 25) := ⟨⟨by decide +kernel, by decide +kernel⟩, List.mem_of_getElem? (i := 778) (by decide +kernel), List.mem_of_getElem? (i := 955) (by decide +kernel), List.mem_of_getElem? (i := 956) (by decide +kernel)⟩
def lw_privs_3 : List (MethodName × Nat) := [(⟨"ChairRanks$Asks", "cushionedMark", "(LChairRanks$Ministry;I)I"⟩, 2), (⟨"ChairRanks$Asks", "oakMark", "(LChairRanks$Ministry;II)I"⟩, 2), (⟨"ChairRanks$Asks", "rockerSize", "(LChairRanks$Ministry;II)I"⟩, 2), (⟨"ChairRanks$Asks", "oakSize", "(LChairRanks$Ministry;I)I"⟩, 2), (⟨"ChairRanks$Asks", "throneSize", "(LChairRanks$Ministry;I)I"⟩, 2), (⟨"ChairRanks", "rowsThere", "()I"⟩, 12), (⟨"ChairRanksModel", "find", "(I)I"⟩, 25), (⟨"ChairRanksModel", "well", "(I)I"⟩, 25), (⟨"ChairRanksModel", "readMinistry", "()Z"⟩, 25), (⟨"ChairRanksModel", "nextToken", "()V"⟩, 25), (⟨"ChairRanksModel", "takes", "(I)Z"⟩, 25), (⟨"ChairRanksModel", "isLetter", "(I)Z"⟩, 25), (⟨"ChairRanksModel", "faults", "(I)Z"⟩, 25), (⟨"ChairRanksModel", "takesNumber", "(IIII)Z"⟩, 25), (⟨"ChairRanksModel", "readChair", "()Z"⟩, 25), (⟨"ChairRanksModel", "note", "()V"⟩, 25)]
theorem lw_r3 : ∀ q ∈ lw_privs_3, lw_okq q := List.forall_mem_cons.mpr ⟨lw_p32, List.forall_mem_cons.mpr ⟨lw_p33, List.forall_mem_cons.mpr ⟨lw_p34, List.forall_mem_cons.mpr ⟨lw_p35, List.forall_mem_cons.mpr ⟨lw_p36, List.forall_mem_cons.mpr ⟨lw_p37, List.forall_mem_cons.mpr ⟨lw_p38, List.forall_mem_cons.mpr ⟨lw_p39, List.forall_mem_cons.mpr ⟨lw_p40, List.forall_mem_cons.mpr ⟨lw_p41, List.forall_mem_cons.mpr ⟨lw_p42, List.forall_mem_cons.mpr ⟨lw_p43, List.forall_mem_cons.mpr ⟨lw_p44, List.forall_mem_cons.mpr ⟨lw_p45, List.forall_mem_cons.mpr ⟨lw_p46, List.forall_mem_cons.mpr ⟨lw_p47, fun _ h => absurd h List.not_mem_nil⟩⟩⟩⟩⟩⟩⟩⟩⟩⟩⟩⟩⟩⟩⟩⟩
theorem lw_p48 : lw_okq (⟨"ChairRanksModel", "oneNight", "()V"⟩, 25) := ⟨⟨by decide +kernel, by decide +kernel⟩, List.mem_of_getElem? (i := 778) (by decide +kernel), List.mem_of_getElem? (i := 959) (by decide +kernel), List.mem_of_getElem? (i := 960) (by decide +kernel)⟩
theorem lw_p49 : lw_okq (⟨"ChairRanksModel", "targetOf", "(I)I"⟩, 25) := ⟨⟨by decide +kernel, by decide +kernel⟩, List.mem_of_getElem? (i := 778) (by decide +kernel), List.mem_of_getElem? (i := 963) (by decide +kernel), List.mem_of_getElem? (i := 964) (by decide +kernel)⟩
theorem lw_p50 : lw_okq (⟨"ChairRanksModel", "rankOf", "(I)I"⟩, 25) := ⟨⟨by decide +kernel, by decide +kernel⟩, List.mem_of_getElem? (i := 778) (by decide +kernel), List.mem_of_getElem? (i := 968) (by decide +kernel), List.mem_of_getElem? (i := 969) (by decide +kernel)⟩
theorem lw_p51 : lw_okq (⟨"ChairRanksModel", "highOf", "(I)I"⟩, 25) := ⟨⟨by decide +kernel, by decide +kernel⟩, List.mem_of_getElem? (i := 778) (by decide +kernel), List.mem_of_getElem? (i := 972) (by decide +kernel), List.mem_of_getElem? (i := 973) (by decide +kernel)⟩
theorem lw_p52 : lw_okq (⟨"ChairRanksModel", "atRank", "(I)I"⟩, 25) := ⟨⟨by decide +kernel, by decide +kernel⟩, List.mem_of_getElem? (i := 778) (by decide +kernel), List.mem_of_getElem? (i := 979) (by decide +kernel), List.mem_of_getElem? (i := 980) (by decide +kernel)⟩
theorem lw_p53 : lw_okq (⟨"ChairRanksModel", "sawnOff", "(II)I"⟩, 25) := ⟨⟨by decide +kernel, by decide +kernel⟩, List.mem_of_getElem? (i := 778) (by decide +kernel), List.mem_of_getElem? (i := 986) (by decide +kernel), List.mem_of_getElem? (i := 987) (by decide +kernel)⟩
theorem lw_p54 : lw_okq (⟨"ChairRanksModel", "isChair", "(I)Z"⟩, 25) := ⟨⟨by decide +kernel, by decide +kernel⟩, List.mem_of_getElem? (i := 778) (by decide +kernel), List.mem_of_getElem? (i := 994) (by decide +kernel), List.mem_of_getElem? (i := 995) (by decide +kernel)⟩
theorem lw_p55 : lw_okq (⟨"ChairRanksModel", "glue", "(I)V"⟩, 25) := ⟨⟨by decide +kernel, by decide +kernel⟩, List.mem_of_getElem? (i := 778) (by decide +kernel), List.mem_of_getElem? (i := 1003) (by decide +kernel), List.mem_of_getElem? (i := 1004) (by decide +kernel)⟩
theorem lw_p56 : lw_okq (⟨"ChairRanksModel", "exchange", "(III)V"⟩, 25) := ⟨⟨by decide +kernel, by decide +kernel⟩, List.mem_of_getElem? (i := 778) (by decide +kernel), List.mem_of_getElem? (i := 1018) (by decide +kernel), List.mem_of_getElem? (i := 1019) (by decide +kernel)⟩
theorem lw_p57 : lw_okq (⟨"ChairRanksModel", "putAside", "()V"⟩, 25) := ⟨⟨by decide +kernel, by decide +kernel⟩, List.mem_of_getElem? (i := 778) (by decide +kernel), List.mem_of_getElem? (i := 1040) (by decide +kernel), List.mem_of_getElem? (i := 1041) (by decide +kernel)⟩
theorem lw_p58 : lw_okq (⟨"ChairRanksModel", "goOn", "(I)V"⟩, 25) := ⟨⟨by decide +kernel, by decide +kernel⟩, List.mem_of_getElem? (i := 778) (by decide +kernel), List.mem_of_getElem? (i := 1044) (by decide +kernel), List.mem_of_getElem? (i := 1045) (by decide +kernel)⟩
theorem lw_p59 : lw_okq (⟨"ChairRanksModel", "takeBack", "()V"⟩, 25) := ⟨⟨by decide +kernel, by decide +kernel⟩, List.mem_of_getElem? (i := 778) (by decide +kernel), List.mem_of_getElem? (i := 1048) (by decide +kernel), List.mem_of_getElem? (i := 1049) (by decide +kernel)⟩
theorem lw_p60 : lw_okq (⟨"ChairRanksModel", "sumOf", "(I)I"⟩, 25) := ⟨⟨by decide +kernel, by decide +kernel⟩, List.mem_of_getElem? (i := 778) (by decide +kernel), List.mem_of_getElem? (i := 1069) (by decide +kernel), List.mem_of_getElem? (i := 1070) (by decide +kernel)⟩
theorem lw_p61 : lw_okq (⟨"ChairRanksModel", "rankBy", "(II)I"⟩, 25) := ⟨⟨by decide +kernel, by decide +kernel⟩, List.mem_of_getElem? (i := 778) (by decide +kernel), List.mem_of_getElem? (i := 1078) (by decide +kernel), List.mem_of_getElem? (i := 1079) (by decide +kernel)⟩
theorem lw_p62 : lw_okq (⟨"ChairRanksModel", "lacksOrder", "(II)I"⟩, 25) := ⟨⟨by decide +kernel, by decide +kernel⟩, List.mem_of_getElem? (i := 778) (by decide +kernel), List.mem_of_getElem? (i := 1097) (by decide +kernel), List.mem_of_getElem? (i := 1098) (by decide +kernel)⟩
theorem lw_p63 : lw_okq (⟨"ChairRanksModel", "lacks", "(III)I"⟩, 25) := ⟨⟨by decide +kernel, by decide +kernel⟩, List.mem_of_getElem? (i := 778) (by decide +kernel), List.mem_of_getElem? (i := 1101) (by decide +kernel), List.mem_of_getElem? (i := 1102) (by decide +kernel)⟩
def lw_privs_4 : List (MethodName × Nat) := [(⟨"ChairRanksModel", "oneNight", "()V"⟩, 25), (⟨"ChairRanksModel", "targetOf", "(I)I"⟩, 25), (⟨"ChairRanksModel", "rankOf", "(I)I"⟩, 25), (⟨"ChairRanksModel", "highOf", "(I)I"⟩, 25), (⟨"ChairRanksModel", "atRank", "(I)I"⟩, 25), (⟨"ChairRanksModel", "sawnOff", "(II)I"⟩, 25), (⟨"ChairRanksModel", "isChair", "(I)Z"⟩, 25), (⟨"ChairRanksModel", "glue", "(I)V"⟩, 25), (⟨"ChairRanksModel", "exchange", "(III)V"⟩, 25), (⟨"ChairRanksModel", "putAside", "()V"⟩, 25), (⟨"ChairRanksModel", "goOn", "(I)V"⟩, 25), (⟨"ChairRanksModel", "takeBack", "()V"⟩, 25), (⟨"ChairRanksModel", "sumOf", "(I)I"⟩, 25), (⟨"ChairRanksModel", "rankBy", "(II)I"⟩, 25), (⟨"ChairRanksModel", "lacksOrder", "(II)I"⟩, 25), (⟨"ChairRanksModel", "lacks", "(III)I"⟩, 25)]
theorem lw_r4 : ∀ q ∈ lw_privs_4, lw_okq q := List.forall_mem_cons.mpr ⟨lw_p48, List.forall_mem_cons.mpr ⟨lw_p49, List.forall_mem_cons.mpr ⟨lw_p50, List.forall_mem_cons.mpr ⟨lw_p51, List.forall_mem_cons.mpr ⟨lw_p52, List.forall_mem_cons.mpr ⟨lw_p53, List.forall_mem_cons.mpr ⟨lw_p54, List.forall_mem_cons.mpr ⟨lw_p55, List.forall_mem_cons.mpr ⟨lw_p56, List.forall_mem_cons.mpr ⟨lw_p57, List.forall_mem_cons.mpr ⟨lw_p58, List.forall_mem_cons.mpr ⟨lw_p59, List.forall_mem_cons.mpr ⟨lw_p60, List.forall_mem_cons.mpr ⟨lw_p61, List.forall_mem_cons.mpr ⟨lw_p62, List.forall_mem_cons.mpr ⟨lw_p63, fun _ h => absurd h List.not_mem_nil⟩⟩⟩⟩⟩⟩⟩⟩⟩⟩⟩⟩⟩⟩⟩⟩
theorem lw_p64 : lw_okq (⟨"ChairRanksModel", "isSo", "(III)Z"⟩, 25) := ⟨⟨by decide +kernel, by decide +kernel⟩, List.mem_of_getElem? (i := 778) (by decide +kernel), List.mem_of_getElem? (i := 1137) (by decide +kernel), List.mem_of_getElem? (i := 1138) (by decide +kernel)⟩
theorem lw_p65 : lw_okq (⟨"ChairRanksModel", "sizeOf", "(I)I"⟩, 25) := ⟨⟨by decide +kernel, by decide +kernel⟩, List.mem_of_getElem? (i := 778) (by decide +kernel), List.mem_of_getElem? (i := 1181) (by decide +kernel), List.mem_of_getElem? (i := 1182) (by decide +kernel)⟩
theorem lw_p66 : lw_okq (⟨"ChairRanksModel", "begin", "(I)V"⟩, 25) := ⟨⟨by decide +kernel, by decide +kernel⟩, List.mem_of_getElem? (i := 778) (by decide +kernel), List.mem_of_getElem? (i := 1185) (by decide +kernel), List.mem_of_getElem? (i := 1186) (by decide +kernel)⟩
theorem lw_p67 : lw_okq (⟨"ChairRanksModel", "plainSize", "(I)I"⟩, 25) := ⟨⟨by decide +kernel, by decide +kernel⟩, List.mem_of_getElem? (i := 778) (by decide +kernel), List.mem_of_getElem? (i := 1189) (by decide +kernel), List.mem_of_getElem? (i := 1190) (by decide +kernel)⟩
theorem lw_p68 : lw_okq (⟨"ChairRanksModel", "lent", "(II)I"⟩, 25) := ⟨⟨by decide +kernel, by decide +kernel⟩, List.mem_of_getElem? (i := 778) (by decide +kernel), List.mem_of_getElem? (i := 1193) (by decide +kernel), List.mem_of_getElem? (i := 1194) (by decide +kernel)⟩
theorem lw_p69 : lw_okq (⟨"ChairRanksModel", "markOf", "(I)I"⟩, 25) := ⟨⟨by decide +kernel, by decide +kernel⟩, List.mem_of_getElem? (i := 778) (by decide +kernel), List.mem_of_getElem? (i := 1197) (by decide +kernel), List.mem_of_getElem? (i := 1198) (by decide +kernel)⟩
theorem lw_p70 : lw_okq (⟨"ChairRanksModel", "plainMark", "(I)I"⟩, 25) := ⟨⟨by decide +kernel, by decide +kernel⟩, List.mem_of_getElem? (i := 778) (by decide +kernel), List.mem_of_getElem? (i := 1201) (by decide +kernel), List.mem_of_getElem? (i := 1202) (by decide +kernel)⟩
theorem lw_p71 : lw_okq (⟨"ChairRanksModel", "sizeOfOak", "(I)I"⟩, 25) := ⟨⟨by decide +kernel, by decide +kernel⟩, List.mem_of_getElem? (i := 778) (by decide +kernel), List.mem_of_getElem? (i := 1205) (by decide +kernel), List.mem_of_getElem? (i := 1206) (by decide +kernel)⟩
theorem lw_p72 : lw_okq (⟨"ChairRanksModel", "oakSize", "(I)I"⟩, 25) := ⟨⟨by decide +kernel, by decide +kernel⟩, List.mem_of_getElem? (i := 778) (by decide +kernel), List.mem_of_getElem? (i := 1209) (by decide +kernel), List.mem_of_getElem? (i := 1210) (by decide +kernel)⟩
def lw_privs_5 : List (MethodName × Nat) := [(⟨"ChairRanksModel", "isSo", "(III)Z"⟩, 25), (⟨"ChairRanksModel", "sizeOf", "(I)I"⟩, 25), (⟨"ChairRanksModel", "begin", "(I)V"⟩, 25), (⟨"ChairRanksModel", "plainSize", "(I)I"⟩, 25), (⟨"ChairRanksModel", "lent", "(II)I"⟩, 25), (⟨"ChairRanksModel", "markOf", "(I)I"⟩, 25), (⟨"ChairRanksModel", "plainMark", "(I)I"⟩, 25), (⟨"ChairRanksModel", "sizeOfOak", "(I)I"⟩, 25), (⟨"ChairRanksModel", "oakSize", "(I)I"⟩, 25)]
theorem lw_r5 : ∀ q ∈ lw_privs_5, lw_okq q := List.forall_mem_cons.mpr ⟨lw_p64, List.forall_mem_cons.mpr ⟨lw_p65, List.forall_mem_cons.mpr ⟨lw_p66, List.forall_mem_cons.mpr ⟨lw_p67, List.forall_mem_cons.mpr ⟨lw_p68, List.forall_mem_cons.mpr ⟨lw_p69, List.forall_mem_cons.mpr ⟨lw_p70, List.forall_mem_cons.mpr ⟨lw_p71, List.forall_mem_cons.mpr ⟨lw_p72, fun _ h => absurd h List.not_mem_nil⟩⟩⟩⟩⟩⟩⟩⟩⟩
def lw_privs : List (MethodName × Nat) := lw_privs_1 ++ (lw_privs_2 ++ (lw_privs_3 ++ (lw_privs_4 ++ (lw_privs_5))))
def lw_tbl : List Cond := k2_sels lw_privs ++ tables_1
theorem lw_privs_ok : ∀ q ∈ lw_privs, lw_okq q := by
  show ∀ q ∈ lw_privs_1 ++ (lw_privs_2 ++ (lw_privs_3 ++ (lw_privs_4 ++ (lw_privs_5)))), lw_okq q
  exact List.forall_mem_append.mpr ⟨lw_r1, List.forall_mem_append.mpr ⟨lw_r2, List.forall_mem_append.mpr ⟨lw_r3, List.forall_mem_append.mpr ⟨lw_r4, lw_r5⟩⟩⟩⟩
/-! ===== BEGIN words of one list among another's, by their places ===== -/
theorem goodIn_r {big : List Cond} (ws : List Cond) (ps : List Nat) (hp : ws = ps.filterMap (fun i => big[i]?)) (h : ws.all goodWord = true) : GoodIn big ws := by
  intro w hw
  have h1 := List.all_eq_true.mp h w hw
  rw [hp] at hw
  obtain ⟨i, -, hi⟩ := List.mem_filterMap.mp hw
  have hm : w ∈ big := by first | exact List.mem_of_getElem? hi | exact List.getElem?_mem hi
  exact ⟨hm, good_of_word h1⟩
theorem goodIn_app {big a b : List Cond} (ha : GoodIn big a) (hb : GoodIn big b) : GoodIn big (a ++ b) := fun w h => (List.mem_append.mp h).elim (ha w) (hb w)
theorem goodIn_ca {big a b : List Cond} {c : Cond} (ha : GoodIn big (c :: a)) (hb : GoodIn big b) : GoodIn big (c :: (a ++ b)) := fun w h => (List.mem_cons.mp h).elim (fun e => ha w (List.mem_cons.mpr (Or.inl e))) (fun h => (List.mem_append.mp h).elim (fun h => ha w (List.mem_cons.mpr (Or.inr h))) (hb w))
theorem goodIn_sub {big ws : List Cond} (hm : ∀ w ∈ ws, w ∈ big) (h : ws.all goodWord = true) : GoodIn big ws := fun w hw => ⟨hm w hw, good_of_word (List.all_eq_true.mp h w hw)⟩
/-! ===== END ===== -/

def RX0 : String := "ChairRanks$Asks"
def TX0 : u_T := fun k => match k with
  | 0 => ("ChairRanks$Asks", "numbers", "[I", true)
  | _ => ("ChairRanks$Asks", "size", "I", false)
def tyX0 : Nat → FieldType := fun k => match k with
  | 0 => .array .int
  | _ => .int
abbrev wsX00 : List Cond := u_ws RX0 TX0 2
theorem nmX0 : ∀ a, a < 2 → ∀ b, b < 2 → a ≠ b → (TX0 a).2.1 ≠ (TX0 b).2.1 := by decide +kernel
theorem tyX0_ok : ∀ k, k < 2 → parseFieldDescriptor (TX0 k).2.2.1 = some (tyX0 k) := by decide +kernel
abbrev cX0_init : ByteArray := prog_2_method_1_code
def yX0_init : MethodName := ⟨RX0, "<init>", "()V"⟩
abbrev cX0_sizeOf : ByteArray := prog_2_method_2_code
def yX0_sizeOf : MethodName := ⟨RX0, "sizeOf", "(LChairRanks$Ministry;II)I"⟩
abbrev cX0_markOf : ByteArray := prog_2_method_3_code
def yX0_markOf : MethodName := ⟨RX0, "markOf", "(LChairRanks$Ministry;II)I"⟩
abbrev cX0_begin : ByteArray := prog_2_method_4_code
def yX0_begin : MethodName := ⟨RX0, "begin", "(I)V"⟩
abbrev cX0_lentSize : ByteArray := prog_2_method_5_code
def yX0_lentSize : MethodName := ⟨RX0, "lentSize", "(LChairRanks$Ministry;I)I"⟩
abbrev cX0_plainSize : ByteArray := prog_2_method_6_code
def yX0_plainSize : MethodName := ⟨RX0, "plainSize", "(LChairRanks$Ministry;II)I"⟩
abbrev cX0_rockerSize : ByteArray := prog_2_method_7_code
def yX0_rockerSize : MethodName := ⟨RX0, "rockerSize", "(LChairRanks$Ministry;II)I"⟩
abbrev cX0_oakSize : ByteArray := prog_2_method_8_code
def yX0_oakSize : MethodName := ⟨RX0, "oakSize", "(LChairRanks$Ministry;I)I"⟩
abbrev cX0_throneSize : ByteArray := prog_2_method_9_code
def yX0_throneSize : MethodName := ⟨RX0, "throneSize", "(LChairRanks$Ministry;I)I"⟩
abbrev cX0_lentMark : ByteArray := prog_2_method_10_code
def yX0_lentMark : MethodName := ⟨RX0, "lentMark", "(I)I"⟩
abbrev cX0_plainMark : ByteArray := prog_2_method_11_code
def yX0_plainMark : MethodName := ⟨RX0, "plainMark", "(LChairRanks$Ministry;I)I"⟩
abbrev cX0_cushionedMark : ByteArray := prog_2_method_12_code
def yX0_cushionedMark : MethodName := ⟨RX0, "cushionedMark", "(LChairRanks$Ministry;I)I"⟩
abbrev cX0_oakMark : ByteArray := prog_2_method_13_code
def yX0_oakMark : MethodName := ⟨RX0, "oakMark", "(LChairRanks$Ministry;II)I"⟩
abbrev cX0_rockerMark : ByteArray := prog_2_method_14_code
def yX0_rockerMark : MethodName := ⟨RX0, "rockerMark", "(LChairRanks$Ministry;I)I"⟩
def RX1 : String := "ChairRanks$History"
def TX1 : u_T := fun k => match k with
  | 0 => ("ChairRanks$History", "kept", "[[I", true)
  | 1 => ("ChairRanks$History", "oldest", "I", false)
  | _ => ("ChairRanks$History", "held", "I", false)
def tyX1 : Nat → FieldType := fun k => match k with
  | 0 => .array (.array .int)
  | 1 => .int
  | _ => .int
abbrev wsX10 : List Cond := u_ws RX1 TX1 3
theorem nmX1 : ∀ a, a < 3 → ∀ b, b < 3 → a ≠ b → (TX1 a).2.1 ≠ (TX1 b).2.1 := by decide +kernel
theorem tyX1_ok : ∀ k, k < 3 → parseFieldDescriptor (TX1 k).2.2.1 = some (tyX1 k) := by decide +kernel
abbrev cX1_init : ByteArray := prog_3_method_1_code
def yX1_init : MethodName := ⟨RX1, "<init>", "()V"⟩
abbrev cX1_keep : ByteArray := prog_3_method_2_code
def yX1_keep : MethodName := ⟨RX1, "keep", "(LChairRanks$Ministry;)V"⟩
abbrev cX1_takeBack : ByteArray := prog_3_method_3_code
def yX1_takeBack : MethodName := ⟨RX1, "takeBack", "(LChairRanks$Ministry;)Z"⟩
abbrev cX1_forget : ByteArray := prog_3_method_4_code
def yX1_forget : MethodName := ⟨RX1, "forget", "()V"⟩
def RX2 : String := "ChairRanks$Ministry"
def TX2 : u_T := fun k => match k with
  | 0 => ("ChairRanks$Ministry", "size", "I", false)
  | 1 => ("ChairRanks$Ministry", "watchmen", "I", false)
  | 2 => ("ChairRanks$Ministry", "glue", "I", false)
  | 3 => ("ChairRanks$Ministry", "night", "I", false)
  | 4 => ("ChairRanks$Ministry", "watched", "I", false)
  | 5 => ("ChairRanks$Ministry", "sort", "[I", true)
  | 6 => ("ChairRanks$Ministry", "leg", "[I", true)
  | 7 => ("ChairRanks$Ministry", "cushions", "[I", true)
  | 8 => ("ChairRanks$Ministry", "saw", "[I", true)
  | 9 => ("ChairRanks$Ministry", "grudge", "[I", true)
  | 10 => ("ChairRanks$Ministry", "caught", "[I", true)
  | 11 => ("ChairRanks$Ministry", "high", "[I", true)
  | 12 => ("ChairRanks$Ministry", "rank", "[I", true)
  | _ => ("ChairRanks$Ministry", "order", "[I", true)
def tyX2 : Nat → FieldType := fun k => match k with
  | 0 => .int
  | 1 => .int
  | 2 => .int
  | 3 => .int
  | 4 => .int
  | 5 => .array .int
  | 6 => .array .int
  | 7 => .array .int
  | 8 => .array .int
  | 9 => .array .int
  | 10 => .array .int
  | 11 => .array .int
  | 12 => .array .int
  | _ => .array .int
abbrev wsX20 : List Cond := u_ws RX2 TX2 14
theorem nmX2 : ∀ a, a < 14 → ∀ b, b < 14 → a ≠ b → (TX2 a).2.1 ≠ (TX2 b).2.1 := by decide +kernel
theorem tyX2_ok : ∀ k, k < 14 → parseFieldDescriptor (TX2 k).2.2.1 = some (tyX2 k) := by decide +kernel
abbrev cX2_init : ByteArray := prog_4_method_1_code
def yX2_init : MethodName := ⟨RX2, "<init>", "()V"⟩
abbrev cX2_clear : ByteArray := prog_4_method_2_code
def yX2_clear : MethodName := ⟨RX2, "clear", "()V"⟩
abbrev cX2_addOne : ByteArray := prog_4_method_3_code
def yX2_addOne : MethodName := ⟨RX2, "addOne", "(IIII)V"⟩
abbrev cX2_writeTo : ByteArray := prog_4_method_4_code
def yX2_writeTo : MethodName := ⟨RX2, "writeTo", "([I)V"⟩
abbrev cX2_readFrom : ByteArray := prog_4_method_5_code
def yX2_readFrom : MethodName := ⟨RX2, "readFrom", "([I)V"⟩
abbrev cX2_isWatched : ByteArray := prog_4_method_6_code
def yX2_isWatched : MethodName := ⟨RX2, "isWatched", "(I)Z"⟩
abbrev cX2_highOf : ByteArray := prog_4_method_7_code
def yX2_highOf : MethodName := ⟨RX2, "highOf", "(I)I"⟩
abbrev cX2_isHigher : ByteArray := prog_4_method_8_code
def yX2_isHigher : MethodName := ⟨RX2, "isHigher", "(II)Z"⟩
abbrev cX2_rankOf : ByteArray := prog_4_method_9_code
def yX2_rankOf : MethodName := ⟨RX2, "rankOf", "(I)I"⟩
abbrev cX2_atRank : ByteArray := prog_4_method_10_code
def yX2_atRank : MethodName := ⟨RX2, "atRank", "(I)I"⟩
abbrev cX2_preyOf : ByteArray := prog_4_method_11_code
def yX2_preyOf : MethodName := ⟨RX2, "preyOf", "(I)I"⟩
abbrev cX2_allLegs : ByteArray := prog_4_method_12_code
def yX2_allLegs : MethodName := ⟨RX2, "allLegs", "()I"⟩
abbrev cX2_allCaught : ByteArray := prog_4_method_13_code
def yX2_allCaught : MethodName := ⟨RX2, "allCaught", "()I"⟩
abbrev cX2_glueLeg : ByteArray := prog_4_method_14_code
def yX2_glueLeg : MethodName := ⟨RX2, "glueLeg", "(I)V"⟩
abbrev cX2_exchangeSitters : ByteArray := prog_4_method_15_code
def yX2_exchangeSitters : MethodName := ⟨RX2, "exchangeSitters", "(II)V"⟩
abbrev cX2_exchange : ByteArray := prog_4_method_16_code
def yX2_exchange : MethodName := ⟨RX2, "exchange", "([III)V"⟩
abbrev cX2_reckonRanks : ByteArray := prog_4_method_17_code
def yX2_reckonRanks : MethodName := ⟨RX2, "reckonRanks", "()V"⟩
abbrev cX2_preyByRanks : ByteArray := prog_4_method_18_code
def yX2_preyByRanks : MethodName := ⟨RX2, "preyByRanks", "(I)I"⟩
abbrev cX2_passNight : ByteArray := prog_4_method_19_code
def yX2_passNight : MethodName := ⟨RX2, "passNight", "()Z"⟩
abbrev cX2_sawLeg : ByteArray := prog_4_method_20_code
def yX2_sawLeg : MethodName := ⟨RX2, "sawLeg", "(II)Z"⟩
abbrev cX2_passNights : ByteArray := prog_4_method_21_code
def yX2_passNights : MethodName := ⟨RX2, "passNights", "(I)V"⟩
def RX3 : String := "ChairRanks$Row"
def TX3 : u_T := fun k => match k with
  | 0 => ("ChairRanks$Row", "items", "[I", true)
  | 1 => ("ChairRanks$Row", "lane", "I", false)
  | _ => ("ChairRanks$Row", "size", "I", false)
def tyX3 : Nat → FieldType := fun k => match k with
  | 0 => .array .int
  | 1 => .int
  | _ => .int
abbrev wsX30 : List Cond := u_ws RX3 TX3 3
theorem nmX3 : ∀ a, a < 3 → ∀ b, b < 3 → a ≠ b → (TX3 a).2.1 ≠ (TX3 b).2.1 := by decide +kernel
theorem tyX3_ok : ∀ k, k < 3 → parseFieldDescriptor (TX3 k).2.2.1 = some (tyX3 k) := by decide +kernel
abbrev cX3_init : ByteArray := prog_5_method_1_code
def yX3_init : MethodName := ⟨RX3, "<init>", "()V"⟩
abbrev cX3_isMissing : ByteArray := prog_5_method_2_code
def yX3_isMissing : MethodName := ⟨RX3, "isMissing", "()Z"⟩
abbrev cX3_begin : ByteArray := prog_5_method_3_code
def yX3_begin : MethodName := ⟨RX3, "begin", "(II)V"⟩
abbrev cX3_end : ByteArray := prog_5_method_4_code
def yX3_end : MethodName := ⟨RX3, "end", "()I"⟩
abbrev cX3_holds : ByteArray := prog_5_method_5_code
def yX3_holds : MethodName := ⟨RX3, "holds", "(II)Z"⟩
abbrev cX3_put : ByteArray := prog_5_method_6_code
def yX3_put : MethodName := ⟨RX3, "put", "(II)I"⟩
def RX4 : String := "ChairRanks$Tape"
def TX4 : u_T := fun k => match k with
  | 0 => ("ChairRanks$Tape", "bytes", "[I", true)
  | 1 => ("ChairRanks$Tape", "size", "I", false)
  | 2 => ("ChairRanks$Tape", "place", "I", false)
  | _ => ("ChairRanks$Tape", "flaw", "I", false)
def tyX4 : Nat → FieldType := fun k => match k with
  | 0 => .array .int
  | 1 => .int
  | 2 => .int
  | _ => .int
abbrev wsX40 : List Cond := u_ws RX4 TX4 4
theorem nmX4 : ∀ a, a < 4 → ∀ b, b < 4 → a ≠ b → (TX4 a).2.1 ≠ (TX4 b).2.1 := by decide +kernel
theorem tyX4_ok : ∀ k, k < 4 → parseFieldDescriptor (TX4 k).2.2.1 = some (tyX4 k) := by decide +kernel
abbrev cX4_init : ByteArray := prog_6_method_1_code
def yX4_init : MethodName := ⟨RX4, "<init>", "()V"⟩
abbrev cX4_add : ByteArray := prog_6_method_2_code
def yX4_add : MethodName := ⟨RX4, "add", "(I)Z"⟩
abbrev cX4_readInto : ByteArray := prog_6_method_3_code
def yX4_readInto : MethodName := ⟨RX4, "readInto", "(LChairRanks$Ministry;)I"⟩
abbrev cX4_readLaw : ByteArray := prog_6_method_4_code
def yX4_readLaw : MethodName := ⟨RX4, "readLaw", "(LChairRanks$Ministry;)V"⟩
abbrev cX4_readOneChair : ByteArray := prog_6_method_5_code
def yX4_readOneChair : MethodName := ⟨RX4, "readOneChair", "(LChairRanks$Ministry;)V"⟩
abbrev cX4_takeSign : ByteArray := prog_6_method_6_code
def yX4_takeSign : MethodName := ⟨RX4, "takeSign", "(I)V"⟩
abbrev cX4_takeNumber : ByteArray := prog_6_method_7_code
def yX4_takeNumber : MethodName := ⟨RX4, "takeNumber", "(II)I"⟩
def RX5 : String := "ChairRanks"
def TX5 : u_T := fun k => match k with
  | 0 => ("ChairRanks", "rows", "[LChairRanks$Row;", true)
  | 1 => ("ChairRanks", "tape", "LChairRanks$Tape;", true)
  | 2 => ("ChairRanks", "now", "LChairRanks$Ministry;", true)
  | 3 => ("ChairRanks", "plan", "LChairRanks$Ministry;", true)
  | 4 => ("ChairRanks", "present", "[I", true)
  | 5 => ("ChairRanks", "told", "[I", true)
  | 6 => ("ChairRanks", "acts", "LChairRanks$History;", true)
  | 7 => ("ChairRanks", "images", "[[I", true)
  | 8 => ("ChairRanks", "asks", "LChairRanks$Asks;", true)
  | 9 => ("ChairRanks", "imagesKept", "I", false)
  | 10 => ("ChairRanks", "latestFault", "I", false)
  | _ => ("ChairRanks", "latestFinding", "I", false)
def tyX5 : Nat → FieldType := fun k => match k with
  | 0 => .array (.object "ChairRanks$Row")
  | 1 => .object "ChairRanks$Tape"
  | 2 => .object "ChairRanks$Ministry"
  | 3 => .object "ChairRanks$Ministry"
  | 4 => .array .int
  | 5 => .array .int
  | 6 => .object "ChairRanks$History"
  | 7 => .array (.array .int)
  | 8 => .object "ChairRanks$Asks"
  | 9 => .int
  | 10 => .int
  | _ => .int
abbrev wsX50 : List Cond := u_ws RX5 TX5 12
theorem nmX5 : ∀ a, a < 12 → ∀ b, b < 12 → a ≠ b → (TX5 a).2.1 ≠ (TX5 b).2.1 := by decide +kernel
theorem tyX5_ok : ∀ k, k < 12 → parseFieldDescriptor (TX5 k).2.2.1 = some (tyX5 k) := by decide +kernel
abbrev cX5_init : ByteArray := prog_1_method_1_code
def yX5_init : MethodName := ⟨RX5, "<init>", "()V"⟩
abbrev cX5_row : ByteArray := prog_1_method_2_code
def yX5_row : MethodName := ⟨RX5, "row", "(III)I"⟩
abbrev cX5_set : ByteArray := prog_1_method_3_code
def yX5_set : MethodName := ⟨RX5, "set", "(III)I"⟩
abbrev cX5_copy : ByteArray := prog_1_method_4_code
def yX5_copy : MethodName := ⟨RX5, "copy", "(IIIII)I"⟩
abbrev cX5_drop : ByteArray := prog_1_method_5_code
def yX5_drop : MethodName := ⟨RX5, "drop", "(I)I"⟩
abbrev cX5_feed : ByteArray := prog_1_method_6_code
def yX5_feed : MethodName := ⟨RX5, "feed", "(I)I"⟩
abbrev cX5_ministry : ByteArray := prog_1_method_7_code
def yX5_ministry : MethodName := ⟨RX5, "ministry", "()I"⟩
abbrev cX5_fault : ByteArray := prog_1_method_8_code
def yX5_fault : MethodName := ⟨RX5, "fault", "()I"⟩
abbrev cX5_undo : ByteArray := prog_1_method_9_code
def yX5_undo : MethodName := ⟨RX5, "undo", "()I"⟩
abbrev cX5_nights : ByteArray := prog_1_method_10_code
def yX5_nights : MethodName := ⟨RX5, "nights", "(I)I"⟩
abbrev cX5_cushions : ByteArray := prog_1_method_11_code
def yX5_cushions : MethodName := ⟨RX5, "cushions", "(II)I"⟩
abbrev cX5_mend : ByteArray := prog_1_method_12_code
def yX5_mend : MethodName := ⟨RX5, "mend", "(I)I"⟩
abbrev cX5_watch : ByteArray := prog_1_method_13_code
def yX5_watch : MethodName := ⟨RX5, "watch", "(II)I"⟩
abbrev cX5_change : ByteArray := prog_1_method_14_code
def yX5_change : MethodName := ⟨RX5, "change", "(II)I"⟩
abbrev cX5_saw : ByteArray := prog_1_method_15_code
def yX5_saw : MethodName := ⟨RX5, "saw", "(II)I"⟩
abbrev cX5_chair : ByteArray := prog_1_method_16_code
def yX5_chair : MethodName := ⟨RX5, "chair", "(II)I"⟩
abbrev cX5_ranked : ByteArray := prog_1_method_17_code
def yX5_ranked : MethodName := ⟨RX5, "ranked", "(I)I"⟩
abbrev cX5_ahead : ByteArray := prog_1_method_18_code
def yX5_ahead : MethodName := ⟨RX5, "ahead", "(III)I"⟩
abbrev cX5_minister : ByteArray := prog_1_method_19_code
def yX5_minister : MethodName := ⟨RX5, "minister", "(I)I"⟩
abbrev cX5_floor : ByteArray := prog_1_method_20_code
def yX5_floor : MethodName := ⟨RX5, "floor", "(I)I"⟩
abbrev cX5_rises : ByteArray := prog_1_method_21_code
def yX5_rises : MethodName := ⟨RX5, "rises", "(II)I"⟩
abbrev cX5_calm : ByteArray := prog_1_method_22_code
def yX5_calm : MethodName := ⟨RX5, "calm", "()I"⟩
abbrev cX5_cushionFor : ByteArray := prog_1_method_23_code
def yX5_cushionFor : MethodName := ⟨RX5, "cushionFor", "(III)I"⟩
abbrev cX5_guard : ByteArray := prog_1_method_24_code
def yX5_guard : MethodName := ⟨RX5, "guard", "(IIII)I"⟩
abbrev cX5_bestWatch : ByteArray := prog_1_method_25_code
def yX5_bestWatch : MethodName := ⟨RX5, "bestWatch", "(II)I"⟩
abbrev cX5_sawdust : ByteArray := prog_1_method_26_code
def yX5_sawdust : MethodName := ⟨RX5, "sawdust", "(II)I"⟩
abbrev cX5_pile : ByteArray := prog_1_method_27_code
def yX5_pile : MethodName := ⟨RX5, "pile", "(II)I"⟩
abbrev cX5_climb : ByteArray := prog_1_method_28_code
def yX5_climb : MethodName := ⟨RX5, "climb", "(I)I"⟩
abbrev cX5_coalition : ByteArray := prog_1_method_29_code
def yX5_coalition : MethodName := ⟨RX5, "coalition", "(I)I"⟩
abbrev cX5_sawnBy : ByteArray := prog_1_method_30_code
def yX5_sawnBy : MethodName := ⟨RX5, "sawnBy", "(I)I"⟩
abbrev cX5_round : ByteArray := prog_1_method_31_code
def yX5_round : MethodName := ⟨RX5, "round", "()I"⟩
abbrev cX5_enemy : ByteArray := prog_1_method_32_code
def yX5_enemy : MethodName := ⟨RX5, "enemy", "(III)I"⟩
abbrev cX5_who : ByteArray := prog_1_method_33_code
def yX5_who : MethodName := ⟨RX5, "who", "(IIIIII)I"⟩
abbrev cX5_guarded : ByteArray := prog_1_method_34_code
def yX5_guarded : MethodName := ⟨RX5, "guarded", "(IIII)I"⟩
abbrev cX5_doze : ByteArray := prog_1_method_35_code
def yX5_doze : MethodName := ⟨RX5, "doze", "(IIIII)J"⟩
abbrev cX5_drawn : ByteArray := prog_1_method_36_code
def yX5_drawn : MethodName := ⟨RX5, "drawn", "(III)I"⟩
abbrev cX5_image : ByteArray := prog_1_method_37_code
def yX5_image : MethodName := ⟨RX5, "image", "(I)I"⟩
abbrev cX5_restore : ByteArray := prog_1_method_38_code
def yX5_restore : MethodName := ⟨RX5, "restore", "(I)I"⟩
abbrev cX5_kind : ByteArray := prog_1_method_39_code
def yX5_kind : MethodName := ⟨RX5, "kind", "(I)I"⟩
abbrev cX5_as : ByteArray := prog_1_method_40_code
def yX5_as : MethodName := ⟨RX5, "as", "(II)I"⟩
abbrev cX5_ask : ByteArray := prog_1_method_41_code
def yX5_ask : MethodName := ⟨RX5, "ask", "(II)I"⟩
abbrev cX5_trace : ByteArray := prog_1_method_42_code
def yX5_trace : MethodName := ⟨RX5, "trace", "(I)I"⟩
abbrev cX5_count : ByteArray := prog_1_method_43_code
def yX5_count : MethodName := ⟨RX5, "count", "(I)I"⟩
abbrev cX5_status : ByteArray := prog_1_method_44_code
def yX5_status : MethodName := ⟨RX5, "status", "()I"⟩
abbrev cX5_within : ByteArray := prog_1_method_45_code
def yX5_within : MethodName := ⟨RX5, "within", "(III)Z"⟩
abbrev cX5_isRow : ByteArray := prog_1_method_46_code
def yX5_isRow : MethodName := ⟨RX5, "isRow", "(I)Z"⟩
abbrev cX5_isChair : ByteArray := prog_1_method_47_code
def yX5_isChair : MethodName := ⟨RX5, "isChair", "(I)Z"⟩
abbrev cX5_isEmpty : ByteArray := prog_1_method_48_code
def yX5_isEmpty : MethodName := ⟨RX5, "isEmpty", "()Z"⟩
abbrev cX5_found : ByteArray := prog_1_method_49_code
def yX5_found : MethodName := ⟨RX5, "found", "(I)I"⟩
abbrev cX5_nothingFound : ByteArray := prog_1_method_50_code
def yX5_nothingFound : MethodName := ⟨RX5, "nothingFound", "(I)I"⟩
abbrev cX5_findingOfItems : ByteArray := prog_1_method_51_code
def yX5_findingOfItems : MethodName := ⟨RX5, "findingOfItems", "(III)I"⟩
abbrev cX5_findingOfOrder : ByteArray := prog_1_method_52_code
def yX5_findingOfOrder : MethodName := ⟨RX5, "findingOfOrder", "(II)I"⟩
abbrev cX5_rowsThere : ByteArray := prog_1_method_53_code
def yX5_rowsThere : MethodName := ⟨RX5, "rowsThere", "()I"⟩
abbrev cX5_isOfKind : ByteArray := prog_1_method_54_code
def yX5_isOfKind : MethodName := ⟨RX5, "isOfKind", "(II)Z"⟩
abbrev cX5_foresee : ByteArray := prog_1_method_55_code
def yX5_foresee : MethodName := ⟨RX5, "foresee", "()V"⟩
abbrev cX5_passWatched : ByteArray := prog_1_method_56_code
def yX5_passWatched : MethodName := ⟨RX5, "passWatched", "(II)V"⟩
abbrev cX5_rankIfWatched : ByteArray := prog_1_method_57_code
def yX5_rankIfWatched : MethodName := ⟨RX5, "rankIfWatched", "(III)I"⟩
abbrev cX5_leastSawdust : ByteArray := prog_1_method_58_code
def yX5_leastSawdust : MethodName := ⟨RX5, "leastSawdust", "()I"⟩
abbrev cX5_fewestCushions : ByteArray := prog_1_method_59_code
def yX5_fewestCushions : MethodName := ⟨RX5, "fewestCushions", "()I"⟩
abbrev cX5_fewestToWatch : ByteArray := prog_1_method_60_code
def yX5_fewestToWatch : MethodName := ⟨RX5, "fewestToWatch", "(III)I"⟩
abbrev cX5_fewestAboveHalf : ByteArray := prog_1_method_61_code
def yX5_fewestAboveHalf : MethodName := ⟨RX5, "fewestAboveHalf", "()I"⟩
abbrev cX5_highTogether : ByteArray := prog_1_method_62_code
def yX5_highTogether : MethodName := ⟨RX5, "highTogether", "(I)I"⟩
abbrev cX5_leastOf : ByteArray := prog_1_method_63_code
def yX5_leastOf : MethodName := ⟨RX5, "leastOf", "(I)I"⟩
abbrev cX5_mostOf : ByteArray := prog_1_method_64_code
def yX5_mostOf : MethodName := ⟨RX5, "mostOf", "(I)I"⟩
abbrev cX5_suppose : ByteArray := prog_1_method_65_code
def yX5_suppose : MethodName := ⟨RX5, "suppose", "(III)V"⟩
abbrev cX5_comesTrue : ByteArray := prog_1_method_66_code
def yX5_comesTrue : MethodName := ⟨RX5, "comesTrue", "(ILChairRanks$Row;II)Z"⟩
abbrev cX5_weightOf : ByteArray := prog_1_method_67_code
def yX5_weightOf : MethodName := ⟨RX5, "weightOf", "(II)J"⟩
abbrev cX5_commonDivisor : ByteArray := prog_1_method_68_code
def yX5_commonDivisor : MethodName := ⟨RX5, "commonDivisor", "(JJ)J"⟩
def RX6 : String := "ChairRanksModel"
def TX6 : u_T := fun k => match k with
  | 0 => ("ChairRanksModel", "lanes", "[I", true)
  | 1 => ("ChairRanksModel", "sizes", "[I", true)
  | 2 => ("ChairRanksModel", "items", "[I", true)
  | 3 => ("ChairRanksModel", "status", "I", false)
  | 4 => ("ChairRanksModel", "isThere", "Z", false)
  | 5 => ("ChairRanksModel", "st", "[I", true)
  | 6 => ("ChairRanksModel", "moved", "[I", true)
  | 7 => ("ChairRanksModel", "tape", "[I", true)
  | 8 => ("ChairRanksModel", "bytes", "I", false)
  | 9 => ("ChairRanksModel", "latest", "I", false)
  | 10 => ("ChairRanksModel", "place", "I", false)
  | 11 => ("ChairRanksModel", "token", "I", false)
  | 12 => ("ChairRanksModel", "value", "I", false)
  | 13 => ("ChairRanksModel", "begins", "I", false)
  | 14 => ("ChairRanksModel", "wrong", "I", false)
  | 15 => ("ChairRanksModel", "read", "[I", true)
  | 16 => ("ChairRanksModel", "off", "[I", true)
  | 17 => ("ChairRanksModel", "caughtNow", "I", false)
  | 18 => ("ChairRanksModel", "acts", "[I", true)
  | 19 => ("ChairRanksModel", "actMany", "I", false)
  | 20 => ("ChairRanksModel", "aside", "[I", true)
  | 21 => ("ChairRanksModel", "isKept", "[Z", true)
  | 22 => ("ChairRanksModel", "kept", "[I", true)
  | 23 => ("ChairRanksModel", "trace", "[I", true)
  | _ => ("ChairRanksModel", "traced", "I", false)
def tyX6 : Nat → FieldType := fun k => match k with
  | 0 => .array .int
  | 1 => .array .int
  | 2 => .array .int
  | 3 => .int
  | 4 => .boolean
  | 5 => .array .int
  | 6 => .array .int
  | 7 => .array .int
  | 8 => .int
  | 9 => .int
  | 10 => .int
  | 11 => .int
  | 12 => .int
  | 13 => .int
  | 14 => .int
  | 15 => .array .int
  | 16 => .array .int
  | 17 => .int
  | 18 => .array .int
  | 19 => .int
  | 20 => .array .int
  | 21 => .array .boolean
  | 22 => .array .int
  | 23 => .array .int
  | _ => .int
abbrev wsX60 : List Cond := u_ws RX6 TX6 25
theorem nmX6 : ∀ a, a < 25 → ∀ b, b < 25 → a ≠ b → (TX6 a).2.1 ≠ (TX6 b).2.1 := by decide +kernel
theorem tyX6_ok : ∀ k, k < 25 → parseFieldDescriptor (TX6 k).2.2.1 = some (tyX6 k) := by decide +kernel
abbrev cX6_init : ByteArray := prog_8_method_1_code
def yX6_init : MethodName := ⟨RX6, "<init>", "()V"⟩
abbrev cX6_in : ByteArray := prog_8_method_2_code
def yX6_in : MethodName := ⟨RX6, "in", "(JJJ)Z"⟩
abbrev cX6_has : ByteArray := prog_8_method_3_code
def yX6_has : MethodName := ⟨RX6, "has", "(II)Z"⟩
abbrev cX6_ones : ByteArray := prog_8_method_4_code
def yX6_ones : MethodName := ⟨RX6, "ones", "(I)I"⟩
abbrev cX6_find : ByteArray := prog_8_method_5_code
def yX6_find : MethodName := ⟨RX6, "find", "(I)I"⟩
abbrev cX6_well : ByteArray := prog_8_method_6_code
def yX6_well : MethodName := ⟨RX6, "well", "(I)I"⟩
abbrev cX6_isRow : ByteArray := prog_8_method_7_code
def yX6_isRow : MethodName := ⟨RX6, "isRow", "(I)Z"⟩
abbrev cX6_row : ByteArray := prog_8_method_8_code
def yX6_row : MethodName := ⟨RX6, "row", "(III)I"⟩
abbrev cX6_asLane : ByteArray := prog_8_method_9_code
def yX6_asLane : MethodName := ⟨RX6, "asLane", "(II)I"⟩
abbrev cX6_set : ByteArray := prog_8_method_10_code
def yX6_set : MethodName := ⟨RX6, "set", "(III)I"⟩
abbrev cX6_copy : ByteArray := prog_8_method_11_code
def yX6_copy : MethodName := ⟨RX6, "copy", "(IIIII)I"⟩
abbrev cX6_drop : ByteArray := prog_8_method_12_code
def yX6_drop : MethodName := ⟨RX6, "drop", "(I)I"⟩
abbrev cX6_feed : ByteArray := prog_8_method_13_code
def yX6_feed : MethodName := ⟨RX6, "feed", "(I)I"⟩
abbrev cX6_nextToken : ByteArray := prog_8_method_14_code
def yX6_nextToken : MethodName := ⟨RX6, "nextToken", "()V"⟩
abbrev cX6_faults : ByteArray := prog_8_method_15_code
def yX6_faults : MethodName := ⟨RX6, "faults", "(I)Z"⟩
abbrev cX6_isLetter : ByteArray := prog_8_method_16_code
def yX6_isLetter : MethodName := ⟨RX6, "isLetter", "(I)Z"⟩
abbrev cX6_takes : ByteArray := prog_8_method_17_code
def yX6_takes : MethodName := ⟨RX6, "takes", "(I)Z"⟩
abbrev cX6_takesNumber : ByteArray := prog_8_method_18_code
def yX6_takesNumber : MethodName := ⟨RX6, "takesNumber", "(IIII)Z"⟩
abbrev cX6_readChair : ByteArray := prog_8_method_19_code
def yX6_readChair : MethodName := ⟨RX6, "readChair", "()Z"⟩
abbrev cX6_readMinistry : ByteArray := prog_8_method_20_code
def yX6_readMinistry : MethodName := ⟨RX6, "readMinistry", "()Z"⟩
abbrev cX6_ministry : ByteArray := prog_8_method_21_code
def yX6_ministry : MethodName := ⟨RX6, "ministry", "()I"⟩
abbrev cX6_fault : ByteArray := prog_8_method_22_code
def yX6_fault : MethodName := ⟨RX6, "fault", "()I"⟩
abbrev cX6_isChair : ByteArray := prog_8_method_23_code
def yX6_isChair : MethodName := ⟨RX6, "isChair", "(I)Z"⟩
abbrev cX6_highBy : ByteArray := prog_8_method_24_code
def yX6_highBy : MethodName := ⟨RX6, "highBy", "(III)I"⟩
abbrev cX6_highOf : ByteArray := prog_8_method_25_code
def yX6_highOf : MethodName := ⟨RX6, "highOf", "(I)I"⟩
abbrev cX6_rankOf : ByteArray := prog_8_method_26_code
def yX6_rankOf : MethodName := ⟨RX6, "rankOf", "(I)I"⟩
abbrev cX6_atRank : ByteArray := prog_8_method_27_code
def yX6_atRank : MethodName := ⟨RX6, "atRank", "(I)I"⟩
abbrev cX6_targetOf : ByteArray := prog_8_method_28_code
def yX6_targetOf : MethodName := ⟨RX6, "targetOf", "(I)I"⟩
abbrev cX6_sawnOff : ByteArray := prog_8_method_29_code
def yX6_sawnOff : MethodName := ⟨RX6, "sawnOff", "(II)I"⟩
abbrev cX6_oneNight : ByteArray := prog_8_method_30_code
def yX6_oneNight : MethodName := ⟨RX6, "oneNight", "()V"⟩
abbrev cX6_sumOf : ByteArray := prog_8_method_31_code
def yX6_sumOf : MethodName := ⟨RX6, "sumOf", "(I)I"⟩
abbrev cX6_note : ByteArray := prog_8_method_32_code
def yX6_note : MethodName := ⟨RX6, "note", "()V"⟩
abbrev cX6_undo : ByteArray := prog_8_method_33_code
def yX6_undo : MethodName := ⟨RX6, "undo", "()I"⟩
abbrev cX6_nights : ByteArray := prog_8_method_34_code
def yX6_nights : MethodName := ⟨RX6, "nights", "(I)I"⟩
abbrev cX6_cushions : ByteArray := prog_8_method_35_code
def yX6_cushions : MethodName := ⟨RX6, "cushions", "(II)I"⟩
abbrev cX6_glue : ByteArray := prog_8_method_36_code
def yX6_glue : MethodName := ⟨RX6, "glue", "(I)V"⟩
abbrev cX6_mend : ByteArray := prog_8_method_37_code
def yX6_mend : MethodName := ⟨RX6, "mend", "(I)I"⟩
abbrev cX6_watch : ByteArray := prog_8_method_38_code
def yX6_watch : MethodName := ⟨RX6, "watch", "(II)I"⟩
abbrev cX6_exchange : ByteArray := prog_8_method_39_code
def yX6_exchange : MethodName := ⟨RX6, "exchange", "(III)V"⟩
abbrev cX6_change : ByteArray := prog_8_method_40_code
def yX6_change : MethodName := ⟨RX6, "change", "(II)I"⟩
abbrev cX6_saw : ByteArray := prog_8_method_41_code
def yX6_saw : MethodName := ⟨RX6, "saw", "(II)I"⟩
abbrev cX6_chair : ByteArray := prog_8_method_42_code
def yX6_chair : MethodName := ⟨RX6, "chair", "(II)I"⟩
abbrev cX6_ranked : ByteArray := prog_8_method_43_code
def yX6_ranked : MethodName := ⟨RX6, "ranked", "(I)I"⟩
abbrev cX6_putAside : ByteArray := prog_8_method_44_code
def yX6_putAside : MethodName := ⟨RX6, "putAside", "()V"⟩
abbrev cX6_takeBack : ByteArray := prog_8_method_45_code
def yX6_takeBack : MethodName := ⟨RX6, "takeBack", "()V"⟩
abbrev cX6_goOn : ByteArray := prog_8_method_46_code
def yX6_goOn : MethodName := ⟨RX6, "goOn", "(I)V"⟩
abbrev cX6_isWhat : ByteArray := prog_8_method_47_code
def yX6_isWhat : MethodName := ⟨RX6, "isWhat", "(I)Z"⟩
abbrev cX6_rankBy : ByteArray := prog_8_method_48_code
def yX6_rankBy : MethodName := ⟨RX6, "rankBy", "(II)I"⟩
abbrev cX6_ahead : ByteArray := prog_8_method_49_code
def yX6_ahead : MethodName := ⟨RX6, "ahead", "(III)I"⟩
abbrev cX6_minister : ByteArray := prog_8_method_50_code
def yX6_minister : MethodName := ⟨RX6, "minister", "(I)I"⟩
abbrev cX6_floor : ByteArray := prog_8_method_51_code
def yX6_floor : MethodName := ⟨RX6, "floor", "(I)I"⟩
abbrev cX6_rises : ByteArray := prog_8_method_52_code
def yX6_rises : MethodName := ⟨RX6, "rises", "(II)I"⟩
abbrev cX6_calm : ByteArray := prog_8_method_53_code
def yX6_calm : MethodName := ⟨RX6, "calm", "()I"⟩
abbrev cX6_cushionFor : ByteArray := prog_8_method_54_code
def yX6_cushionFor : MethodName := ⟨RX6, "cushionFor", "(III)I"⟩
abbrev cX6_guard : ByteArray := prog_8_method_55_code
def yX6_guard : MethodName := ⟨RX6, "guard", "(IIII)I"⟩
abbrev cX6_bestWatch : ByteArray := prog_8_method_56_code
def yX6_bestWatch : MethodName := ⟨RX6, "bestWatch", "(II)I"⟩
abbrev cX6_lacks : ByteArray := prog_8_method_57_code
def yX6_lacks : MethodName := ⟨RX6, "lacks", "(III)I"⟩
abbrev cX6_lacksOrder : ByteArray := prog_8_method_58_code
def yX6_lacksOrder : MethodName := ⟨RX6, "lacksOrder", "(II)I"⟩
abbrev cX6_isAbove : ByteArray := prog_8_method_59_code
def yX6_isAbove : MethodName := ⟨RX6, "isAbove", "(IIII)Z"⟩
abbrev cX6_sawdust : ByteArray := prog_8_method_60_code
def yX6_sawdust : MethodName := ⟨RX6, "sawdust", "(II)I"⟩
abbrev cX6_pile : ByteArray := prog_8_method_61_code
def yX6_pile : MethodName := ⟨RX6, "pile", "(II)I"⟩
abbrev cX6_climb : ByteArray := prog_8_method_62_code
def yX6_climb : MethodName := ⟨RX6, "climb", "(I)I"⟩
abbrev cX6_coalition : ByteArray := prog_8_method_63_code
def yX6_coalition : MethodName := ⟨RX6, "coalition", "(I)I"⟩
abbrev cX6_sawnBy : ByteArray := prog_8_method_64_code
def yX6_sawnBy : MethodName := ⟨RX6, "sawnBy", "(I)I"⟩
abbrev cX6_round : ByteArray := prog_8_method_65_code
def yX6_round : MethodName := ⟨RX6, "round", "()I"⟩
abbrev cX6_enemy : ByteArray := prog_8_method_66_code
def yX6_enemy : MethodName := ⟨RX6, "enemy", "(III)I"⟩
abbrev cX6_isSo : ByteArray := prog_8_method_67_code
def yX6_isSo : MethodName := ⟨RX6, "isSo", "(III)Z"⟩
abbrev cX6_who : ByteArray := prog_8_method_68_code
def yX6_who : MethodName := ⟨RX6, "who", "(IIIIII)I"⟩
abbrev cX6_guarded : ByteArray := prog_8_method_69_code
def yX6_guarded : MethodName := ⟨RX6, "guarded", "(IIII)I"⟩
abbrev cX6_doze : ByteArray := prog_8_method_70_code
def yX6_doze : MethodName := ⟨RX6, "doze", "(IIIII)J"⟩
abbrev cX6_drawn : ByteArray := prog_8_method_71_code
def yX6_drawn : MethodName := ⟨RX6, "drawn", "(III)I"⟩
abbrev cX6_image : ByteArray := prog_8_method_72_code
def yX6_image : MethodName := ⟨RX6, "image", "(I)I"⟩
abbrev cX6_restore : ByteArray := prog_8_method_73_code
def yX6_restore : MethodName := ⟨RX6, "restore", "(I)I"⟩
abbrev cX6_kind : ByteArray := prog_8_method_74_code
def yX6_kind : MethodName := ⟨RX6, "kind", "(I)I"⟩
abbrev cX6_isKind : ByteArray := prog_8_method_75_code
def yX6_isKind : MethodName := ⟨RX6, "isKind", "(II)Z"⟩
abbrev cX6_as : ByteArray := prog_8_method_76_code
def yX6_as : MethodName := ⟨RX6, "as", "(II)I"⟩
abbrev cX6_begin : ByteArray := prog_8_method_77_code
def yX6_begin : MethodName := ⟨RX6, "begin", "(I)V"⟩
abbrev cX6_lent : ByteArray := prog_8_method_78_code
def yX6_lent : MethodName := ⟨RX6, "lent", "(II)I"⟩
abbrev cX6_plainMark : ByteArray := prog_8_method_79_code
def yX6_plainMark : MethodName := ⟨RX6, "plainMark", "(I)I"⟩
abbrev cX6_oakSize : ByteArray := prog_8_method_80_code
def yX6_oakSize : MethodName := ⟨RX6, "oakSize", "(I)I"⟩
abbrev cX6_sizeOfOak : ByteArray := prog_8_method_81_code
def yX6_sizeOfOak : MethodName := ⟨RX6, "sizeOfOak", "(I)I"⟩
abbrev cX6_markOf : ByteArray := prog_8_method_82_code
def yX6_markOf : MethodName := ⟨RX6, "markOf", "(I)I"⟩
abbrev cX6_plainSize : ByteArray := prog_8_method_83_code
def yX6_plainSize : MethodName := ⟨RX6, "plainSize", "(I)I"⟩
abbrev cX6_sizeOf : ByteArray := prog_8_method_84_code
def yX6_sizeOf : MethodName := ⟨RX6, "sizeOf", "(I)I"⟩
abbrev cX6_ask : ByteArray := prog_8_method_85_code
def yX6_ask : MethodName := ⟨RX6, "ask", "(II)I"⟩
abbrev cX6_trace : ByteArray := prog_8_method_86_code
def yX6_trace : MethodName := ⟨RX6, "trace", "(I)I"⟩
abbrev cX6_count : ByteArray := prog_8_method_87_code
def yX6_count : MethodName := ⟨RX6, "count", "(I)I"⟩
abbrev cX6_status : ByteArray := prog_8_method_88_code
def yX6_status : MethodName := ⟨RX6, "status", "()I"⟩
def RJx145de : String := "java/io/Serializable"
def TJx145de : u_T := fun k => match k with
  | _ => ("", "", "", false)
def tyJx145de : Nat → FieldType := fun k => match k with
  | _ => .int
abbrev wsJx145de0 : List Cond := u_ws RJx145de TJx145de 0
theorem nmJx145de : ∀ a, a < 0 → ∀ b, b < 0 → a ≠ b → (TJx145de a).2.1 ≠ (TJx145de b).2.1 := by decide +kernel
theorem tyJx145de_ok : ∀ k, k < 0 → parseFieldDescriptor (TJx145de k).2.2.1 = some (tyJx145de k) := by decide +kernel
def RJx9f9b0 : String := "java/lang/CharSequence"
def TJx9f9b0 : u_T := fun k => match k with
  | _ => ("", "", "", false)
def tyJx9f9b0 : Nat → FieldType := fun k => match k with
  | _ => .int
abbrev wsJx9f9b00 : List Cond := u_ws RJx9f9b0 TJx9f9b0 0
theorem nmJx9f9b0 : ∀ a, a < 0 → ∀ b, b < 0 → a ≠ b → (TJx9f9b0 a).2.1 ≠ (TJx9f9b0 b).2.1 := by decide +kernel
theorem tyJx9f9b0_ok : ∀ k, k < 0 → parseFieldDescriptor (TJx9f9b0 k).2.2.1 = some (tyJx9f9b0 k) := by decide +kernel
def RJ11 : String := "java/lang/Character"
def TJ11 : u_T := fun k => match k with
  | _ => ("", "", "", false)
def tyJ11 : Nat → FieldType := fun k => match k with
  | _ => .int
abbrev wsJ110 : List Cond := u_ws RJ11 TJ11 0
theorem nmJ11 : ∀ a, a < 0 → ∀ b, b < 0 → a ≠ b → (TJ11 a).2.1 ≠ (TJ11 b).2.1 := by decide +kernel
theorem tyJ11_ok : ∀ k, k < 0 → parseFieldDescriptor (TJ11 k).2.2.1 = some (tyJ11 k) := by decide +kernel
abbrev cJ11_isValidCodePoint_9a6ad : ByteArray := prog_9_method_11_code
def yJ11_isValidCodePoint_9a6ad : MethodName := ⟨RJ11, "isValidCodePoint", "(I)Z"⟩
abbrev cJ11_highSurrogate_5068e : ByteArray := prog_9_method_28_code
def yJ11_highSurrogate_5068e : MethodName := ⟨RJ11, "highSurrogate", "(I)C"⟩
abbrev cJ11_lowSurrogate_5068e : ByteArray := prog_9_method_29_code
def yJ11_lowSurrogate_5068e : MethodName := ⟨RJ11, "lowSurrogate", "(I)C"⟩
def RJxb160c : String := "java/lang/Comparable"
def TJxb160c : u_T := fun k => match k with
  | _ => ("", "", "", false)
def tyJxb160c : Nat → FieldType := fun k => match k with
  | _ => .int
abbrev wsJxb160c0 : List Cond := u_ws RJxb160c TJxb160c 0
theorem nmJxb160c : ∀ a, a < 0 → ∀ b, b < 0 → a ≠ b → (TJxb160c a).2.1 ≠ (TJxb160c b).2.1 := by decide +kernel
theorem tyJxb160c_ok : ∀ k, k < 0 → parseFieldDescriptor (TJxb160c k).2.2.1 = some (tyJxb160c k) := by decide +kernel
def RJ6 : String := "java/lang/Integer"
def TJ6 : u_T := fun k => match k with
  | _ => ("", "", "", false)
def tyJ6 : Nat → FieldType := fun k => match k with
  | _ => .int
abbrev wsJ60 : List Cond := u_ws RJ6 TJ6 0
theorem nmJ6 : ∀ a, a < 0 → ∀ b, b < 0 → a ≠ b → (TJ6 a).2.1 ≠ (TJ6 b).2.1 := by decide +kernel
theorem tyJ6_ok : ∀ k, k < 0 → parseFieldDescriptor (TJ6 k).2.2.1 = some (tyJ6 k) := by decide +kernel
abbrev cJ6_bitCount_0f7a4 : ByteArray := prog_10_method_49_code
def yJ6_bitCount_0f7a4 : MethodName := ⟨RJ6, "bitCount", "(I)I"⟩
def RJ9 : String := "java/lang/Math"
def TJ9 : u_T := fun k => match k with
  | _ => ("", "", "", false)
def tyJ9 : Nat → FieldType := fun k => match k with
  | _ => .int
abbrev wsJ90 : List Cond := u_ws RJ9 TJ9 0
theorem nmJ9 : ∀ a, a < 0 → ∀ b, b < 0 → a ≠ b → (TJ9 a).2.1 ≠ (TJ9 b).2.1 := by decide +kernel
theorem tyJ9_ok : ∀ k, k < 0 → parseFieldDescriptor (TJ9 k).2.2.1 = some (tyJ9 k) := by decide +kernel
abbrev cJ9_max_7cf53 : ByteArray := prog_11_method_65_code
def yJ9_max_7cf53 : MethodName := ⟨RJ9, "max", "(II)I"⟩
abbrev cJ9_min_7cf53 : ByteArray := prog_11_method_69_code
def yJ9_min_7cf53 : MethodName := ⟨RJ9, "min", "(II)I"⟩
def RJ0 : String := "java/lang/String"
def TJ0 : u_T := fun k => match k with
  | _ => ("", "", "", false)
def tyJ0 : Nat → FieldType := fun k => match k with
  | _ => .int
abbrev wsJ00 : List Cond := u_ws RJ0 TJ0 0
theorem nmJ0 : ∀ a, a < 0 → ∀ b, b < 0 → a ≠ b → (TJ0 a).2.1 ≠ (TJ0 b).2.1 := by decide +kernel
theorem tyJ0_ok : ∀ k, k < 0 → parseFieldDescriptor (TJ0 k).2.2.1 = some (tyJ0 k) := by decide +kernel
abbrev cJ0_length_8abf5 : ByteArray := prog_12_method_54_code
def yJ0_length_8abf5 : MethodName := ⟨RJ0, "length", "()I"⟩
abbrev cJ0_indexOf_0f7a4 : ByteArray := prog_12_method_79_code
def yJ0_indexOf_0f7a4 : MethodName := ⟨RJ0, "indexOf", "(I)I"⟩
abbrev cJ0_indexOf_7cf53 : ByteArray := prog_12_method_80_code
def yJ0_indexOf_7cf53 : MethodName := ⟨RJ0, "indexOf", "(II)I"⟩
abbrev cJ0_coder_7d493 : ByteArray := prog_12_method_152_code
def yJ0_coder_7d493 : MethodName := ⟨RJ0, "coder", "()B"⟩
abbrev cJ0_isLatin1_aae02 : ByteArray := prog_12_method_154_code
def yJ0_isLatin1_aae02 : MethodName := ⟨RJ0, "isLatin1", "()Z"⟩
abbrev cJ0_checkBoundsBeginEnd_23922 : ByteArray := prog_12_method_158_code
def yJ0_checkBoundsBeginEnd_23922 : MethodName := ⟨RJ0, "checkBoundsBeginEnd", "(III)V"⟩
def RJ1 : String := "java/lang/StringLatin1"
def TJ1 : u_T := fun k => match k with
  | _ => ("", "", "", false)
def tyJ1 : Nat → FieldType := fun k => match k with
  | _ => .int
abbrev wsJ10 : List Cond := u_ws RJ1 TJ1 0
theorem nmJ1 : ∀ a, a < 0 → ∀ b, b < 0 → a ≠ b → (TJ1 a).2.1 ≠ (TJ1 b).2.1 := by decide +kernel
theorem tyJ1_ok : ∀ k, k < 0 → parseFieldDescriptor (TJ1 k).2.2.1 = some (tyJ1 k) := by decide +kernel
abbrev cJ1_canEncode_9a6ad : ByteArray := prog_13_method_4_code
def yJ1_canEncode_9a6ad : MethodName := ⟨RJ1, "canEncode", "(I)Z"⟩
abbrev cJ1_indexOf_4cfef : ByteArray := prog_13_method_22_code
def yJ1_indexOf_4cfef : MethodName := ⟨RJ1, "indexOf", "([BIII)I"⟩
abbrev cJ1_indexOfChar_4cfef : ByteArray := prog_13_method_23_code
def yJ1_indexOfChar_4cfef : MethodName := ⟨RJ1, "indexOfChar", "([BIII)I"⟩
def RJ2 : String := "java/lang/StringUTF16"
def TJ2 : u_T := fun k => match k with
  | _ => ("", "", "", false)
def tyJ2 : Nat → FieldType := fun k => match k with
  | _ => .int
abbrev wsJ20 : List Cond := u_ws RJ2 TJ2 0
theorem nmJ2 : ∀ a, a < 0 → ∀ b, b < 0 → a ≠ b → (TJ2 a).2.1 ≠ (TJ2 b).2.1 := by decide +kernel
theorem tyJ2_ok : ∀ k, k < 0 → parseFieldDescriptor (TJ2 k).2.2.1 = some (tyJ2 k) := by decide +kernel
abbrev cJ2_getChar_3b067 : ByteArray := prog_14_method_5_code
def yJ2_getChar_3b067 : MethodName := ⟨RJ2, "getChar", "([BI)C"⟩
abbrev cJ2_length_9d52b : ByteArray := prog_14_method_6_code
def yJ2_length_9d52b : MethodName := ⟨RJ2, "length", "([B)I"⟩
abbrev cJ2_indexOf_4cfef : ByteArray := prog_14_method_40_code
def yJ2_indexOf_4cfef : MethodName := ⟨RJ2, "indexOf", "([BIII)I"⟩
abbrev cJ2_indexOfChar_4cfef : ByteArray := prog_14_method_47_code
def yJ2_indexOfChar_4cfef : MethodName := ⟨RJ2, "indexOfChar", "([BIII)I"⟩
abbrev cJ2_indexOfCharUnsafe_4cfef : ByteArray := prog_14_method_48_code
def yJ2_indexOfCharUnsafe_4cfef : MethodName := ⟨RJ2, "indexOfCharUnsafe", "([BIII)I"⟩
abbrev cJ2_indexOfSupplementary_4cfef : ByteArray := prog_14_method_49_code
def yJ2_indexOfSupplementary_4cfef : MethodName := ⟨RJ2, "indexOfSupplementary", "([BIII)I"⟩
abbrev cJ2_checkBoundsBeginEnd_d044e : ByteArray := prog_14_method_93_code
def yJ2_checkBoundsBeginEnd_d044e : MethodName := ⟨RJ2, "checkBoundsBeginEnd", "(II[B)V"⟩
def RJ10 : String := "java/lang/System"
def TJ10 : u_T := fun k => match k with
  | _ => ("", "", "", false)
def tyJ10 : Nat → FieldType := fun k => match k with
  | _ => .int
abbrev wsJ100 : List Cond := u_ws RJ10 TJ10 0
theorem nmJ10 : ∀ a, a < 0 → ∀ b, b < 0 → a ≠ b → (TJ10 a).2.1 ≠ (TJ10 b).2.1 := by decide +kernel
theorem tyJ10_ok : ∀ k, k < 0 → parseFieldDescriptor (TJ10 k).2.2.1 = some (tyJ10 k) := by decide +kernel
def RJxfd54e : String := "java/lang/constant/Constable"
def TJxfd54e : u_T := fun k => match k with
  | _ => ("", "", "", false)
def tyJxfd54e : Nat → FieldType := fun k => match k with
  | _ => .int
abbrev wsJxfd54e0 : List Cond := u_ws RJxfd54e TJxfd54e 0
theorem nmJxfd54e : ∀ a, a < 0 → ∀ b, b < 0 → a ≠ b → (TJxfd54e a).2.1 ≠ (TJxfd54e b).2.1 := by decide +kernel
theorem tyJxfd54e_ok : ∀ k, k < 0 → parseFieldDescriptor (TJxfd54e k).2.2.1 = some (tyJxfd54e k) := by decide +kernel
def RJx3cf43 : String := "java/lang/constant/ConstantDesc"
def TJx3cf43 : u_T := fun k => match k with
  | _ => ("", "", "", false)
def tyJx3cf43 : Nat → FieldType := fun k => match k with
  | _ => .int
abbrev wsJx3cf430 : List Cond := u_ws RJx3cf43 TJx3cf43 0
theorem nmJx3cf43 : ∀ a, a < 0 → ∀ b, b < 0 → a ≠ b → (TJx3cf43 a).2.1 ≠ (TJx3cf43 b).2.1 := by decide +kernel
theorem tyJx3cf43_ok : ∀ k, k < 0 → parseFieldDescriptor (TJx3cf43 k).2.2.1 = some (tyJx3cf43 k) := by decide +kernel
def RJ7 : String := "java/util/Arrays"
def TJ7 : u_T := fun k => match k with
  | _ => ("", "", "", false)
def tyJ7 : Nat → FieldType := fun k => match k with
  | _ => .int
abbrev wsJ70 : List Cond := u_ws RJ7 TJ7 0
theorem nmJ7 : ∀ a, a < 0 → ∀ b, b < 0 → a ≠ b → (TJ7 a).2.1 ≠ (TJ7 b).2.1 := by decide +kernel
theorem tyJ7_ok : ∀ k, k < 0 → parseFieldDescriptor (TJ7 k).2.2.1 = some (tyJ7 k) := by decide +kernel
abbrev cJ7_fill_53178 : ByteArray := prog_16_method_103_code
def yJ7_fill_53178 : MethodName := ⟨RJ7, "fill", "([II)V"⟩
def RJ3 : String := "jdk/internal/util/Preconditions"
def TJ3 : u_T := fun k => match k with
  | _ => ("", "", "", false)
def tyJ3 : Nat → FieldType := fun k => match k with
  | _ => .int
abbrev wsJ30 : List Cond := u_ws RJ3 TJ3 0
theorem nmJ3 : ∀ a, a < 0 → ∀ b, b < 0 → a ≠ b → (TJ3 a).2.1 ≠ (TJ3 b).2.1 := by decide +kernel
theorem tyJ3_ok : ∀ k, k < 0 → parseFieldDescriptor (TJ3 k).2.2.1 = some (tyJ3 k) := by decide +kernel
abbrev cJ3_checkFromToIndex_8c36e : ByteArray := prog_17_method_12_code
def yJ3_checkFromToIndex_8c36e : MethodName := ⟨RJ3, "checkFromToIndex", "(IIILjava/util/function/BiFunction;)I"⟩
def RL : String := "ChairRanksLaw"
abbrev cL_law : ByteArray := code
def yL_law : MethodName := ⟨RL, "law", "([I)Z"⟩
theorem inX0 : ∀ w ∈ wsX00, w ∈ lw_tbl := by decide +kernel
theorem inX1 : ∀ w ∈ wsX10, w ∈ lw_tbl := by decide +kernel
theorem inX2 : ∀ w ∈ wsX20, w ∈ lw_tbl := by decide +kernel
theorem inX3 : ∀ w ∈ wsX30, w ∈ lw_tbl := by decide +kernel
theorem inX4 : ∀ w ∈ wsX40, w ∈ lw_tbl := by decide +kernel
theorem inX5 : ∀ w ∈ wsX50, w ∈ lw_tbl := by decide +kernel
theorem inX6 : ∀ w ∈ wsX60, w ∈ lw_tbl := by decide +kernel
theorem inJx145de : ∀ w ∈ wsJx145de0, w ∈ lw_tbl := by decide +kernel
theorem inJx9f9b0 : ∀ w ∈ wsJx9f9b00, w ∈ lw_tbl := by decide +kernel
theorem inJ11 : ∀ w ∈ wsJ110, w ∈ lw_tbl := by decide +kernel
theorem inJxb160c : ∀ w ∈ wsJxb160c0, w ∈ lw_tbl := by decide +kernel
theorem inJ6 : ∀ w ∈ wsJ60, w ∈ lw_tbl := by decide +kernel
theorem inJ9 : ∀ w ∈ wsJ90, w ∈ lw_tbl := by decide +kernel
theorem inJ0 : ∀ w ∈ wsJ00, w ∈ lw_tbl := by decide +kernel
theorem inJ1 : ∀ w ∈ wsJ10, w ∈ lw_tbl := by decide +kernel
theorem inJ2 : ∀ w ∈ wsJ20, w ∈ lw_tbl := by decide +kernel
theorem inJ10 : ∀ w ∈ wsJ100, w ∈ lw_tbl := by decide +kernel
theorem inJxfd54e : ∀ w ∈ wsJxfd54e0, w ∈ lw_tbl := by decide +kernel
theorem inJx3cf43 : ∀ w ∈ wsJx3cf430, w ∈ lw_tbl := by decide +kernel
theorem inJ7 : ∀ w ∈ wsJ70, w ∈ lw_tbl := by decide +kernel
theorem inJ3 : ∀ w ∈ wsJ30, w ∈ lw_tbl := by decide +kernel
abbrev vwCl : List vw_C := [(RX0, TX0, 2), (RX1, TX1, 3), (RX2, TX2, 14), (RX3, TX3, 3), (RX4, TX4, 4), (RX5, TX5, 12), (RX6, TX6, 25)]
end
section
theorem dX0_init_0 : decode cX0_init 0 = .ok (.aload_n 0, 1) := by decide +kernel
theorem dX0_init_1 : decode cX0_init 1 = .ok (.invokespecial 3, 3) := by decide +kernel
theorem dX0_init_4 : decode cX0_init 4 = .ok (.aload_n 0, 1) := by decide +kernel
theorem dX0_init_5 : decode cX0_init 5 = .ok (.bipush 16, 2) := by decide +kernel
theorem dX0_init_7 : decode cX0_init 7 = .ok (.newarray .int, 2) := by decide +kernel
theorem dX0_init_9 : decode cX0_init 9 = .ok (.putfield 9, 3) := by decide +kernel
theorem dX0_init_12 : decode cX0_init 12 = .ok (.return_, 1) := by decide +kernel
theorem dX0_sizeOf_0 : decode cX0_sizeOf 0 = .ok (.iload_n 3, 1) := by decide +kernel
theorem dX0_sizeOf_1 : decode cX0_sizeOf 1 = .ok (.bipush 8, 2) := by decide +kernel
theorem dX0_sizeOf_3 : decode cX0_sizeOf 3 = .ok (.if_icmp .le 5, 3) := by decide +kernel
theorem dX0_sizeOf_6 : decode cX0_sizeOf 6 = .ok (.iconst 0, 1) := by decide +kernel
theorem dX0_sizeOf_7 : decode cX0_sizeOf 7 = .ok (.ireturn, 1) := by decide +kernel
theorem dX0_sizeOf_8 : decode cX0_sizeOf 8 = .ok (.aload_n 1, 1) := by decide +kernel
theorem dX0_sizeOf_9 : decode cX0_sizeOf 9 = .ok (.getfield 15, 3) := by decide +kernel
theorem dX0_sizeOf_12 : decode cX0_sizeOf 12 = .ok (.iload_n 2, 1) := by decide +kernel
theorem dX0_sizeOf_13 : decode cX0_sizeOf 13 = .ok (.iaload, 1) := by decide +kernel
theorem dX0_sizeOf_14 : decode cX0_sizeOf 14 = .ok (.tableswitch 64 1 5 #[34, 42, 34, 50, 57], 34) := by decide +kernel
theorem dX0_sizeOf_48 : decode cX0_sizeOf 48 = .ok (.aload_n 0, 1) := by decide +kernel
theorem dX0_sizeOf_49 : decode cX0_sizeOf 49 = .ok (.aload_n 1, 1) := by decide +kernel
theorem dX0_sizeOf_50 : decode cX0_sizeOf 50 = .ok (.iload_n 2, 1) := by decide +kernel
theorem dX0_sizeOf_51 : decode cX0_sizeOf 51 = .ok (.iload_n 3, 1) := by decide +kernel
theorem dX0_sizeOf_52 : decode cX0_sizeOf 52 = .ok (.invokevirtual 20, 3) := by decide +kernel
theorem dX0_sizeOf_55 : decode cX0_sizeOf 55 = .ok (.ireturn, 1) := by decide +kernel
theorem dX0_sizeOf_56 : decode cX0_sizeOf 56 = .ok (.aload_n 0, 1) := by decide +kernel
theorem dX0_sizeOf_57 : decode cX0_sizeOf 57 = .ok (.aload_n 1, 1) := by decide +kernel
theorem dX0_sizeOf_58 : decode cX0_sizeOf 58 = .ok (.iload_n 2, 1) := by decide +kernel
theorem dX0_sizeOf_59 : decode cX0_sizeOf 59 = .ok (.iload_n 3, 1) := by decide +kernel
theorem dX0_sizeOf_60 : decode cX0_sizeOf 60 = .ok (.invokevirtual 24, 3) := by decide +kernel
theorem dX0_sizeOf_63 : decode cX0_sizeOf 63 = .ok (.ireturn, 1) := by decide +kernel
theorem dX0_sizeOf_64 : decode cX0_sizeOf 64 = .ok (.aload_n 0, 1) := by decide +kernel
theorem dX0_sizeOf_65 : decode cX0_sizeOf 65 = .ok (.aload_n 1, 1) := by decide +kernel
theorem dX0_sizeOf_66 : decode cX0_sizeOf 66 = .ok (.iload_n 2, 1) := by decide +kernel
theorem dX0_sizeOf_67 : decode cX0_sizeOf 67 = .ok (.invokevirtual 27, 3) := by decide +kernel
theorem dX0_sizeOf_70 : decode cX0_sizeOf 70 = .ok (.ireturn, 1) := by decide +kernel
theorem dX0_sizeOf_71 : decode cX0_sizeOf 71 = .ok (.aload_n 0, 1) := by decide +kernel
theorem dX0_sizeOf_72 : decode cX0_sizeOf 72 = .ok (.aload_n 1, 1) := by decide +kernel
theorem dX0_sizeOf_73 : decode cX0_sizeOf 73 = .ok (.iload_n 2, 1) := by decide +kernel
theorem dX0_sizeOf_74 : decode cX0_sizeOf 74 = .ok (.invokevirtual 31, 3) := by decide +kernel
theorem dX0_sizeOf_77 : decode cX0_sizeOf 77 = .ok (.ireturn, 1) := by decide +kernel
theorem dX0_sizeOf_78 : decode cX0_sizeOf 78 = .ok (.aload_n 0, 1) := by decide +kernel
theorem dX0_sizeOf_79 : decode cX0_sizeOf 79 = .ok (.aload_n 1, 1) := by decide +kernel
theorem dX0_sizeOf_80 : decode cX0_sizeOf 80 = .ok (.iload_n 2, 1) := by decide +kernel
theorem dX0_sizeOf_81 : decode cX0_sizeOf 81 = .ok (.invokevirtual 34, 3) := by decide +kernel
theorem dX0_sizeOf_84 : decode cX0_sizeOf 84 = .ok (.ireturn, 1) := by decide +kernel
theorem dX0_markOf_0 : decode cX0_markOf 0 = .ok (.iload_n 3, 1) := by decide +kernel
theorem dX0_markOf_1 : decode cX0_markOf 1 = .ok (.bipush 8, 2) := by decide +kernel
theorem dX0_markOf_3 : decode cX0_markOf 3 = .ok (.if_icmp .le 5, 3) := by decide +kernel
theorem dX0_markOf_6 : decode cX0_markOf 6 = .ok (.iconst 0, 1) := by decide +kernel
theorem dX0_markOf_7 : decode cX0_markOf 7 = .ok (.ireturn, 1) := by decide +kernel
theorem dX0_markOf_8 : decode cX0_markOf 8 = .ok (.aload_n 1, 1) := by decide +kernel
theorem dX0_markOf_9 : decode cX0_markOf 9 = .ok (.getfield 15, 3) := by decide +kernel
theorem dX0_markOf_12 : decode cX0_markOf 12 = .ok (.iload_n 2, 1) := by decide +kernel
theorem dX0_markOf_13 : decode cX0_markOf 13 = .ok (.iaload, 1) := by decide +kernel
theorem dX0_markOf_14 : decode cX0_markOf 14 = .ok (.tableswitch 63 1 5 #[34, 41, 48, 55, 55], 34) := by decide +kernel
theorem dX0_markOf_48 : decode cX0_markOf 48 = .ok (.aload_n 0, 1) := by decide +kernel
theorem dX0_markOf_49 : decode cX0_markOf 49 = .ok (.aload_n 1, 1) := by decide +kernel
theorem dX0_markOf_50 : decode cX0_markOf 50 = .ok (.iload_n 2, 1) := by decide +kernel
theorem dX0_markOf_51 : decode cX0_markOf 51 = .ok (.invokevirtual 37, 3) := by decide +kernel
theorem dX0_markOf_54 : decode cX0_markOf 54 = .ok (.ireturn, 1) := by decide +kernel
theorem dX0_markOf_55 : decode cX0_markOf 55 = .ok (.aload_n 0, 1) := by decide +kernel
theorem dX0_markOf_56 : decode cX0_markOf 56 = .ok (.aload_n 1, 1) := by decide +kernel
theorem dX0_markOf_57 : decode cX0_markOf 57 = .ok (.iload_n 2, 1) := by decide +kernel
theorem dX0_markOf_58 : decode cX0_markOf 58 = .ok (.invokevirtual 40, 3) := by decide +kernel
theorem dX0_markOf_61 : decode cX0_markOf 61 = .ok (.ireturn, 1) := by decide +kernel
theorem dX0_markOf_62 : decode cX0_markOf 62 = .ok (.aload_n 0, 1) := by decide +kernel
theorem dX0_markOf_63 : decode cX0_markOf 63 = .ok (.aload_n 1, 1) := by decide +kernel
theorem dX0_markOf_64 : decode cX0_markOf 64 = .ok (.iload_n 2, 1) := by decide +kernel
theorem dX0_markOf_65 : decode cX0_markOf 65 = .ok (.invokevirtual 43, 3) := by decide +kernel
theorem dX0_markOf_68 : decode cX0_markOf 68 = .ok (.ireturn, 1) := by decide +kernel
theorem dX0_markOf_69 : decode cX0_markOf 69 = .ok (.aload_n 0, 1) := by decide +kernel
theorem dX0_markOf_70 : decode cX0_markOf 70 = .ok (.aload_n 1, 1) := by decide +kernel
theorem dX0_markOf_71 : decode cX0_markOf 71 = .ok (.iload_n 2, 1) := by decide +kernel
theorem dX0_markOf_72 : decode cX0_markOf 72 = .ok (.iload_n 3, 1) := by decide +kernel
theorem dX0_markOf_73 : decode cX0_markOf 73 = .ok (.invokevirtual 46, 3) := by decide +kernel
theorem dX0_markOf_76 : decode cX0_markOf 76 = .ok (.ireturn, 1) := by decide +kernel
theorem dX0_markOf_77 : decode cX0_markOf 77 = .ok (.aload_n 0, 1) := by decide +kernel
theorem dX0_markOf_78 : decode cX0_markOf 78 = .ok (.iload_n 2, 1) := by decide +kernel
theorem dX0_markOf_79 : decode cX0_markOf 79 = .ok (.invokevirtual 49, 3) := by decide +kernel
theorem dX0_markOf_82 : decode cX0_markOf 82 = .ok (.ireturn, 1) := by decide +kernel
theorem dX0_begin_0 : decode cX0_begin 0 = .ok (.aload_n 0, 1) := by decide +kernel
theorem dX0_begin_1 : decode cX0_begin 1 = .ok (.getfield 53, 3) := by decide +kernel
theorem dX0_begin_4 : decode cX0_begin 4 = .ok (.bipush 16, 2) := by decide +kernel
theorem dX0_begin_6 : decode cX0_begin 6 = .ok (.if_icmp .ge 23, 3) := by decide +kernel
theorem dX0_begin_9 : decode cX0_begin 9 = .ok (.aload_n 0, 1) := by decide +kernel
theorem dX0_begin_10 : decode cX0_begin 10 = .ok (.getfield 9, 3) := by decide +kernel
theorem dX0_begin_13 : decode cX0_begin 13 = .ok (.aload_n 0, 1) := by decide +kernel
theorem dX0_begin_14 : decode cX0_begin 14 = .ok (.getfield 53, 3) := by decide +kernel
theorem dX0_begin_17 : decode cX0_begin 17 = .ok (.iload_n 1, 1) := by decide +kernel
theorem dX0_begin_18 : decode cX0_begin 18 = .ok (.iastore, 1) := by decide +kernel
theorem dX0_begin_19 : decode cX0_begin 19 = .ok (.aload_n 0, 1) := by decide +kernel
theorem dX0_begin_20 : decode cX0_begin 20 = .ok (.dup, 1) := by decide +kernel
theorem dX0_begin_21 : decode cX0_begin 21 = .ok (.getfield 53, 3) := by decide +kernel
theorem dX0_begin_24 : decode cX0_begin 24 = .ok (.iconst 1, 1) := by decide +kernel
theorem dX0_begin_25 : decode cX0_begin 25 = .ok (.iadd, 1) := by decide +kernel
theorem dX0_begin_26 : decode cX0_begin 26 = .ok (.putfield 53, 3) := by decide +kernel
theorem dX0_begin_29 : decode cX0_begin 29 = .ok (.return_, 1) := by decide +kernel
theorem dX0_lentSize_0 : decode cX0_lentSize 0 = .ok (.aload_n 0, 1) := by decide +kernel
theorem dX0_lentSize_1 : decode cX0_lentSize 1 = .ok (.bipush 10, 2) := by decide +kernel
theorem dX0_lentSize_3 : decode cX0_lentSize 3 = .ok (.invokevirtual 57, 3) := by decide +kernel
theorem dX0_lentSize_6 : decode cX0_lentSize 6 = .ok (.aload_n 1, 1) := by decide +kernel
theorem dX0_lentSize_7 : decode cX0_lentSize 7 = .ok (.getfield 61, 3) := by decide +kernel
theorem dX0_lentSize_10 : decode cX0_lentSize 10 = .ok (.iload_n 2, 1) := by decide +kernel
theorem dX0_lentSize_11 : decode cX0_lentSize 11 = .ok (.iaload, 1) := by decide +kernel
theorem dX0_lentSize_12 : decode cX0_lentSize 12 = .ok (.ireturn, 1) := by decide +kernel
theorem dX0_plainSize_0 : decode cX0_plainSize 0 = .ok (.aload_n 0, 1) := by decide +kernel
theorem dX0_plainSize_1 : decode cX0_plainSize 1 = .ok (.bipush 11, 2) := by decide +kernel
theorem dX0_plainSize_3 : decode cX0_plainSize 3 = .ok (.invokevirtual 57, 3) := by decide +kernel
theorem dX0_plainSize_6 : decode cX0_plainSize 6 = .ok (.aload_n 0, 1) := by decide +kernel
theorem dX0_plainSize_7 : decode cX0_plainSize 7 = .ok (.aload_n 1, 1) := by decide +kernel
theorem dX0_plainSize_8 : decode cX0_plainSize 8 = .ok (.iload_n 2, 1) := by decide +kernel
theorem dX0_plainSize_9 : decode cX0_plainSize 9 = .ok (.invokevirtual 34, 3) := by decide +kernel
theorem dX0_plainSize_12 : decode cX0_plainSize 12 = .ok (.istore 4, 2) := by decide +kernel
theorem dX0_plainSize_14 : decode cX0_plainSize 14 = .ok (.iload 4, 2) := by decide +kernel
theorem dX0_plainSize_16 : decode cX0_plainSize 16 = .ok (.aload_n 0, 1) := by decide +kernel
theorem dX0_plainSize_17 : decode cX0_plainSize 17 = .ok (.aload_n 1, 1) := by decide +kernel
theorem dX0_plainSize_18 : decode cX0_plainSize 18 = .ok (.iload_n 2, 1) := by decide +kernel
theorem dX0_plainSize_19 : decode cX0_plainSize 19 = .ok (.iload_n 3, 1) := by decide +kernel
theorem dX0_plainSize_20 : decode cX0_plainSize 20 = .ok (.iconst 1, 1) := by decide +kernel
theorem dX0_plainSize_21 : decode cX0_plainSize 21 = .ok (.iadd, 1) := by decide +kernel
theorem dX0_plainSize_22 : decode cX0_plainSize 22 = .ok (.invokevirtual 64, 3) := by decide +kernel
theorem dX0_plainSize_25 : decode cX0_plainSize 25 = .ok (.iadd, 1) := by decide +kernel
theorem dX0_plainSize_26 : decode cX0_plainSize 26 = .ok (.ireturn, 1) := by decide +kernel
theorem dX0_rockerSize_0 : decode cX0_rockerSize 0 = .ok (.aload_n 0, 1) := by decide +kernel
theorem dX0_rockerSize_1 : decode cX0_rockerSize 1 = .ok (.bipush 12, 2) := by decide +kernel
theorem dX0_rockerSize_3 : decode cX0_rockerSize 3 = .ok (.invokevirtual 57, 3) := by decide +kernel
theorem dX0_rockerSize_6 : decode cX0_rockerSize 6 = .ok (.aload_n 0, 1) := by decide +kernel
theorem dX0_rockerSize_7 : decode cX0_rockerSize 7 = .ok (.aload_n 1, 1) := by decide +kernel
theorem dX0_rockerSize_8 : decode cX0_rockerSize 8 = .ok (.iload_n 2, 1) := by decide +kernel
theorem dX0_rockerSize_9 : decode cX0_rockerSize 9 = .ok (.iload_n 3, 1) := by decide +kernel
theorem dX0_rockerSize_10 : decode cX0_rockerSize 10 = .ok (.invokevirtual 20, 3) := by decide +kernel
theorem dX0_rockerSize_13 : decode cX0_rockerSize 13 = .ok (.ineg, 1) := by decide +kernel
theorem dX0_rockerSize_14 : decode cX0_rockerSize 14 = .ok (.ireturn, 1) := by decide +kernel
theorem dX0_oakSize_0 : decode cX0_oakSize 0 = .ok (.aload_n 0, 1) := by decide +kernel
theorem dX0_oakSize_1 : decode cX0_oakSize 1 = .ok (.bipush 13, 2) := by decide +kernel
theorem dX0_oakSize_3 : decode cX0_oakSize 3 = .ok (.invokevirtual 57, 3) := by decide +kernel
theorem dX0_oakSize_6 : decode cX0_oakSize 6 = .ok (.aload_n 0, 1) := by decide +kernel
theorem dX0_oakSize_7 : decode cX0_oakSize 7 = .ok (.aload_n 1, 1) := by decide +kernel
theorem dX0_oakSize_8 : decode cX0_oakSize 8 = .ok (.iload_n 2, 1) := by decide +kernel
theorem dX0_oakSize_9 : decode cX0_oakSize 9 = .ok (.invokevirtual 34, 3) := by decide +kernel
theorem dX0_oakSize_12 : decode cX0_oakSize 12 = .ok (.bipush 100, 2) := by decide +kernel
theorem dX0_oakSize_14 : decode cX0_oakSize 14 = .ok (.isub, 1) := by decide +kernel
theorem dX0_oakSize_15 : decode cX0_oakSize 15 = .ok (.ireturn, 1) := by decide +kernel
theorem dX0_throneSize_0 : decode cX0_throneSize 0 = .ok (.aload_n 0, 1) := by decide +kernel
theorem dX0_throneSize_1 : decode cX0_throneSize 1 = .ok (.bipush 14, 2) := by decide +kernel
theorem dX0_throneSize_3 : decode cX0_throneSize 3 = .ok (.invokevirtual 57, 3) := by decide +kernel
theorem dX0_throneSize_6 : decode cX0_throneSize 6 = .ok (.iconst 2, 1) := by decide +kernel
theorem dX0_throneSize_7 : decode cX0_throneSize 7 = .ok (.aload_n 0, 1) := by decide +kernel
theorem dX0_throneSize_8 : decode cX0_throneSize 8 = .ok (.aload_n 1, 1) := by decide +kernel
theorem dX0_throneSize_9 : decode cX0_throneSize 9 = .ok (.iload_n 2, 1) := by decide +kernel
theorem dX0_throneSize_10 : decode cX0_throneSize 10 = .ok (.invokevirtual 27, 3) := by decide +kernel
theorem dX0_throneSize_13 : decode cX0_throneSize 13 = .ok (.imul, 1) := by decide +kernel
theorem dX0_throneSize_14 : decode cX0_throneSize 14 = .ok (.ireturn, 1) := by decide +kernel
theorem dX0_lentMark_0 : decode cX0_lentMark 0 = .ok (.aload_n 0, 1) := by decide +kernel
theorem dX0_lentMark_1 : decode cX0_lentMark 1 = .ok (.bipush 20, 2) := by decide +kernel
theorem dX0_lentMark_3 : decode cX0_lentMark 3 = .ok (.invokevirtual 57, 3) := by decide +kernel
theorem dX0_lentMark_6 : decode cX0_lentMark 6 = .ok (.iload_n 1, 1) := by decide +kernel
theorem dX0_lentMark_7 : decode cX0_lentMark 7 = .ok (.ireturn, 1) := by decide +kernel
theorem dX0_plainMark_0 : decode cX0_plainMark 0 = .ok (.aload_n 0, 1) := by decide +kernel
theorem dX0_plainMark_1 : decode cX0_plainMark 1 = .ok (.bipush 21, 2) := by decide +kernel
theorem dX0_plainMark_3 : decode cX0_plainMark 3 = .ok (.invokevirtual 57, 3) := by decide +kernel
theorem dX0_plainMark_6 : decode cX0_plainMark 6 = .ok (.aload_n 0, 1) := by decide +kernel
theorem dX0_plainMark_7 : decode cX0_plainMark 7 = .ok (.iload_n 2, 1) := by decide +kernel
theorem dX0_plainMark_8 : decode cX0_plainMark 8 = .ok (.invokevirtual 49, 3) := by decide +kernel
theorem dX0_plainMark_11 : decode cX0_plainMark 11 = .ok (.aload_n 1, 1) := by decide +kernel
theorem dX0_plainMark_12 : decode cX0_plainMark 12 = .ok (.getfield 67, 3) := by decide +kernel
theorem dX0_plainMark_15 : decode cX0_plainMark 15 = .ok (.iload_n 2, 1) := by decide +kernel
theorem dX0_plainMark_16 : decode cX0_plainMark 16 = .ok (.iaload, 1) := by decide +kernel
theorem dX0_plainMark_17 : decode cX0_plainMark 17 = .ok (.iadd, 1) := by decide +kernel
theorem dX0_plainMark_18 : decode cX0_plainMark 18 = .ok (.ireturn, 1) := by decide +kernel
theorem dX0_cushionedMark_0 : decode cX0_cushionedMark 0 = .ok (.aload_n 0, 1) := by decide +kernel
theorem dX0_cushionedMark_1 : decode cX0_cushionedMark 1 = .ok (.bipush 22, 2) := by decide +kernel
theorem dX0_cushionedMark_3 : decode cX0_cushionedMark 3 = .ok (.invokevirtual 57, 3) := by decide +kernel
theorem dX0_cushionedMark_6 : decode cX0_cushionedMark 6 = .ok (.aload_n 0, 1) := by decide +kernel
theorem dX0_cushionedMark_7 : decode cX0_cushionedMark 7 = .ok (.aload_n 1, 1) := by decide +kernel
theorem dX0_cushionedMark_8 : decode cX0_cushionedMark 8 = .ok (.iload_n 2, 1) := by decide +kernel
theorem dX0_cushionedMark_9 : decode cX0_cushionedMark 9 = .ok (.invokevirtual 37, 3) := by decide +kernel
theorem dX0_cushionedMark_12 : decode cX0_cushionedMark 12 = .ok (.sipush 1000, 3) := by decide +kernel
theorem dX0_cushionedMark_15 : decode cX0_cushionedMark 15 = .ok (.isub, 1) := by decide +kernel
theorem dX0_cushionedMark_16 : decode cX0_cushionedMark 16 = .ok (.ireturn, 1) := by decide +kernel
theorem dX0_oakMark_0 : decode cX0_oakMark 0 = .ok (.aload_n 0, 1) := by decide +kernel
theorem dX0_oakMark_1 : decode cX0_oakMark 1 = .ok (.bipush 23, 2) := by decide +kernel
theorem dX0_oakMark_3 : decode cX0_oakMark 3 = .ok (.invokevirtual 57, 3) := by decide +kernel
theorem dX0_oakMark_6 : decode cX0_oakMark 6 = .ok (.aload_n 0, 1) := by decide +kernel
theorem dX0_oakMark_7 : decode cX0_oakMark 7 = .ok (.iload_n 2, 1) := by decide +kernel
theorem dX0_oakMark_8 : decode cX0_oakMark 8 = .ok (.invokevirtual 49, 3) := by decide +kernel
theorem dX0_oakMark_11 : decode cX0_oakMark 11 = .ok (.istore 4, 2) := by decide +kernel
theorem dX0_oakMark_13 : decode cX0_oakMark 13 = .ok (.iload 4, 2) := by decide +kernel
theorem dX0_oakMark_15 : decode cX0_oakMark 15 = .ok (.aload_n 0, 1) := by decide +kernel
theorem dX0_oakMark_16 : decode cX0_oakMark 16 = .ok (.aload_n 1, 1) := by decide +kernel
theorem dX0_oakMark_17 : decode cX0_oakMark 17 = .ok (.iload_n 2, 1) := by decide +kernel
theorem dX0_oakMark_18 : decode cX0_oakMark 18 = .ok (.iload_n 3, 1) := by decide +kernel
theorem dX0_oakMark_19 : decode cX0_oakMark 19 = .ok (.iconst 1, 1) := by decide +kernel
theorem dX0_oakMark_20 : decode cX0_oakMark 20 = .ok (.iadd, 1) := by decide +kernel
theorem dX0_oakMark_21 : decode cX0_oakMark 21 = .ok (.invokevirtual 70, 3) := by decide +kernel
theorem dX0_oakMark_24 : decode cX0_oakMark 24 = .ok (.isub, 1) := by decide +kernel
theorem dX0_oakMark_25 : decode cX0_oakMark 25 = .ok (.ireturn, 1) := by decide +kernel
theorem dX0_rockerMark_0 : decode cX0_rockerMark 0 = .ok (.aload_n 0, 1) := by decide +kernel
theorem dX0_rockerMark_1 : decode cX0_rockerMark 1 = .ok (.bipush 24, 2) := by decide +kernel
theorem dX0_rockerMark_3 : decode cX0_rockerMark 3 = .ok (.invokevirtual 57, 3) := by decide +kernel
theorem dX0_rockerMark_6 : decode cX0_rockerMark 6 = .ok (.iconst 2, 1) := by decide +kernel
theorem dX0_rockerMark_7 : decode cX0_rockerMark 7 = .ok (.aload_n 0, 1) := by decide +kernel
theorem dX0_rockerMark_8 : decode cX0_rockerMark 8 = .ok (.aload_n 1, 1) := by decide +kernel
theorem dX0_rockerMark_9 : decode cX0_rockerMark 9 = .ok (.iload_n 2, 1) := by decide +kernel
theorem dX0_rockerMark_10 : decode cX0_rockerMark 10 = .ok (.invokevirtual 37, 3) := by decide +kernel
theorem dX0_rockerMark_13 : decode cX0_rockerMark 13 = .ok (.imul, 1) := by decide +kernel
theorem dX0_rockerMark_14 : decode cX0_rockerMark 14 = .ok (.ireturn, 1) := by decide +kernel
theorem dX1_init_0 : decode cX1_init 0 = .ok (.aload_n 0, 1) := by decide +kernel
theorem dX1_init_1 : decode cX1_init 1 = .ok (.invokespecial 3, 3) := by decide +kernel
theorem dX1_init_4 : decode cX1_init 4 = .ok (.aload_n 0, 1) := by decide +kernel
theorem dX1_init_5 : decode cX1_init 5 = .ok (.bipush 24, 2) := by decide +kernel
theorem dX1_init_7 : decode cX1_init 7 = .ok (.bipush 41, 2) := by decide +kernel
theorem dX1_init_9 : decode cX1_init 9 = .ok (.multianewarray 9 2, 4) := by decide +kernel
theorem dX1_init_13 : decode cX1_init 13 = .ok (.putfield 11, 3) := by decide +kernel
theorem dX1_init_16 : decode cX1_init 16 = .ok (.return_, 1) := by decide +kernel
theorem dX1_keep_0 : decode cX1_keep 0 = .ok (.aload_n 1, 1) := by decide +kernel
theorem dX1_keep_1 : decode cX1_keep 1 = .ok (.aload_n 0, 1) := by decide +kernel
theorem dX1_keep_2 : decode cX1_keep 2 = .ok (.getfield 11, 3) := by decide +kernel
theorem dX1_keep_5 : decode cX1_keep 5 = .ok (.aload_n 0, 1) := by decide +kernel
theorem dX1_keep_6 : decode cX1_keep 6 = .ok (.getfield 16, 3) := by decide +kernel
theorem dX1_keep_9 : decode cX1_keep 9 = .ok (.aload_n 0, 1) := by decide +kernel
theorem dX1_keep_10 : decode cX1_keep 10 = .ok (.getfield 20, 3) := by decide +kernel
theorem dX1_keep_13 : decode cX1_keep 13 = .ok (.iadd, 1) := by decide +kernel
theorem dX1_keep_14 : decode cX1_keep 14 = .ok (.bipush 24, 2) := by decide +kernel
theorem dX1_keep_16 : decode cX1_keep 16 = .ok (.irem, 1) := by decide +kernel
theorem dX1_keep_17 : decode cX1_keep 17 = .ok (.aaload, 1) := by decide +kernel
theorem dX1_keep_18 : decode cX1_keep 18 = .ok (.invokevirtual 23, 3) := by decide +kernel
theorem dX1_keep_21 : decode cX1_keep 21 = .ok (.aload_n 0, 1) := by decide +kernel
theorem dX1_keep_22 : decode cX1_keep 22 = .ok (.getfield 20, 3) := by decide +kernel
theorem dX1_keep_25 : decode cX1_keep 25 = .ok (.bipush 24, 2) := by decide +kernel
theorem dX1_keep_27 : decode cX1_keep 27 = .ok (.if_icmp .ge 16, 3) := by decide +kernel
theorem dX1_keep_30 : decode cX1_keep 30 = .ok (.aload_n 0, 1) := by decide +kernel
theorem dX1_keep_31 : decode cX1_keep 31 = .ok (.dup, 1) := by decide +kernel
theorem dX1_keep_32 : decode cX1_keep 32 = .ok (.getfield 20, 3) := by decide +kernel
theorem dX1_keep_35 : decode cX1_keep 35 = .ok (.iconst 1, 1) := by decide +kernel
theorem dX1_keep_36 : decode cX1_keep 36 = .ok (.iadd, 1) := by decide +kernel
theorem dX1_keep_37 : decode cX1_keep 37 = .ok (.putfield 20, 3) := by decide +kernel
theorem dX1_keep_40 : decode cX1_keep 40 = .ok (.goto 16, 3) := by decide +kernel
theorem dX1_keep_43 : decode cX1_keep 43 = .ok (.aload_n 0, 1) := by decide +kernel
theorem dX1_keep_44 : decode cX1_keep 44 = .ok (.aload_n 0, 1) := by decide +kernel
theorem dX1_keep_45 : decode cX1_keep 45 = .ok (.getfield 16, 3) := by decide +kernel
theorem dX1_keep_48 : decode cX1_keep 48 = .ok (.iconst 1, 1) := by decide +kernel
theorem dX1_keep_49 : decode cX1_keep 49 = .ok (.iadd, 1) := by decide +kernel
theorem dX1_keep_50 : decode cX1_keep 50 = .ok (.bipush 24, 2) := by decide +kernel
theorem dX1_keep_52 : decode cX1_keep 52 = .ok (.irem, 1) := by decide +kernel
theorem dX1_keep_53 : decode cX1_keep 53 = .ok (.putfield 16, 3) := by decide +kernel
theorem dX1_keep_56 : decode cX1_keep 56 = .ok (.return_, 1) := by decide +kernel
theorem dX1_takeBack_0 : decode cX1_takeBack 0 = .ok (.aload_n 0, 1) := by decide +kernel
theorem dX1_takeBack_1 : decode cX1_takeBack 1 = .ok (.getfield 20, 3) := by decide +kernel
theorem dX1_takeBack_4 : decode cX1_takeBack 4 = .ok (.iconst 1, 1) := by decide +kernel
theorem dX1_takeBack_5 : decode cX1_takeBack 5 = .ok (.if_icmp .ge 5, 3) := by decide +kernel
theorem dX1_takeBack_8 : decode cX1_takeBack 8 = .ok (.iconst 0, 1) := by decide +kernel
theorem dX1_takeBack_9 : decode cX1_takeBack 9 = .ok (.ireturn, 1) := by decide +kernel
theorem dX1_takeBack_10 : decode cX1_takeBack 10 = .ok (.aload_n 0, 1) := by decide +kernel
theorem dX1_takeBack_11 : decode cX1_takeBack 11 = .ok (.dup, 1) := by decide +kernel
theorem dX1_takeBack_12 : decode cX1_takeBack 12 = .ok (.getfield 20, 3) := by decide +kernel
theorem dX1_takeBack_15 : decode cX1_takeBack 15 = .ok (.iconst 1, 1) := by decide +kernel
theorem dX1_takeBack_16 : decode cX1_takeBack 16 = .ok (.isub, 1) := by decide +kernel
theorem dX1_takeBack_17 : decode cX1_takeBack 17 = .ok (.putfield 20, 3) := by decide +kernel
theorem dX1_takeBack_20 : decode cX1_takeBack 20 = .ok (.aload_n 1, 1) := by decide +kernel
theorem dX1_takeBack_21 : decode cX1_takeBack 21 = .ok (.aload_n 0, 1) := by decide +kernel
theorem dX1_takeBack_22 : decode cX1_takeBack 22 = .ok (.getfield 11, 3) := by decide +kernel
theorem dX1_takeBack_25 : decode cX1_takeBack 25 = .ok (.aload_n 0, 1) := by decide +kernel
theorem dX1_takeBack_26 : decode cX1_takeBack 26 = .ok (.getfield 16, 3) := by decide +kernel
theorem dX1_takeBack_29 : decode cX1_takeBack 29 = .ok (.aload_n 0, 1) := by decide +kernel
theorem dX1_takeBack_30 : decode cX1_takeBack 30 = .ok (.getfield 20, 3) := by decide +kernel
theorem dX1_takeBack_33 : decode cX1_takeBack 33 = .ok (.iadd, 1) := by decide +kernel
theorem dX1_takeBack_34 : decode cX1_takeBack 34 = .ok (.bipush 24, 2) := by decide +kernel
theorem dX1_takeBack_36 : decode cX1_takeBack 36 = .ok (.irem, 1) := by decide +kernel
theorem dX1_takeBack_37 : decode cX1_takeBack 37 = .ok (.aaload, 1) := by decide +kernel
theorem dX1_takeBack_38 : decode cX1_takeBack 38 = .ok (.invokevirtual 29, 3) := by decide +kernel
theorem dX1_takeBack_41 : decode cX1_takeBack 41 = .ok (.iconst 1, 1) := by decide +kernel
theorem dX1_takeBack_42 : decode cX1_takeBack 42 = .ok (.ireturn, 1) := by decide +kernel
theorem dX1_forget_0 : decode cX1_forget 0 = .ok (.aload_n 0, 1) := by decide +kernel
theorem dX1_forget_1 : decode cX1_forget 1 = .ok (.iconst 0, 1) := by decide +kernel
theorem dX1_forget_2 : decode cX1_forget 2 = .ok (.putfield 20, 3) := by decide +kernel
theorem dX1_forget_5 : decode cX1_forget 5 = .ok (.return_, 1) := by decide +kernel
theorem dX2_init_0 : decode cX2_init 0 = .ok (.aload_n 0, 1) := by decide +kernel
theorem dX2_init_1 : decode cX2_init 1 = .ok (.invokespecial 3, 3) := by decide +kernel
theorem dX2_init_4 : decode cX2_init 4 = .ok (.aload_n 0, 1) := by decide +kernel
theorem dX2_init_5 : decode cX2_init 5 = .ok (.bipush 6, 2) := by decide +kernel
theorem dX2_init_7 : decode cX2_init 7 = .ok (.newarray .int, 2) := by decide +kernel
theorem dX2_init_9 : decode cX2_init 9 = .ok (.putfield 9, 3) := by decide +kernel
theorem dX2_init_12 : decode cX2_init 12 = .ok (.aload_n 0, 1) := by decide +kernel
theorem dX2_init_13 : decode cX2_init 13 = .ok (.bipush 6, 2) := by decide +kernel
theorem dX2_init_15 : decode cX2_init 15 = .ok (.newarray .int, 2) := by decide +kernel
theorem dX2_init_17 : decode cX2_init 17 = .ok (.putfield 15, 3) := by decide +kernel
theorem dX2_init_20 : decode cX2_init 20 = .ok (.aload_n 0, 1) := by decide +kernel
theorem dX2_init_21 : decode cX2_init 21 = .ok (.bipush 6, 2) := by decide +kernel
theorem dX2_init_23 : decode cX2_init 23 = .ok (.newarray .int, 2) := by decide +kernel
theorem dX2_init_25 : decode cX2_init 25 = .ok (.putfield 18, 3) := by decide +kernel
theorem dX2_init_28 : decode cX2_init 28 = .ok (.aload_n 0, 1) := by decide +kernel
theorem dX2_init_29 : decode cX2_init 29 = .ok (.bipush 6, 2) := by decide +kernel
theorem dX2_init_31 : decode cX2_init 31 = .ok (.newarray .int, 2) := by decide +kernel
theorem dX2_init_33 : decode cX2_init 33 = .ok (.putfield 21, 3) := by decide +kernel
theorem dX2_init_36 : decode cX2_init 36 = .ok (.aload_n 0, 1) := by decide +kernel
theorem dX2_init_37 : decode cX2_init 37 = .ok (.bipush 6, 2) := by decide +kernel
theorem dX2_init_39 : decode cX2_init 39 = .ok (.newarray .int, 2) := by decide +kernel
theorem dX2_init_41 : decode cX2_init 41 = .ok (.putfield 24, 3) := by decide +kernel
theorem dX2_init_44 : decode cX2_init 44 = .ok (.aload_n 0, 1) := by decide +kernel
theorem dX2_init_45 : decode cX2_init 45 = .ok (.bipush 6, 2) := by decide +kernel
theorem dX2_init_47 : decode cX2_init 47 = .ok (.newarray .int, 2) := by decide +kernel
theorem dX2_init_49 : decode cX2_init 49 = .ok (.putfield 27, 3) := by decide +kernel
theorem dX2_init_52 : decode cX2_init 52 = .ok (.aload_n 0, 1) := by decide +kernel
theorem dX2_init_53 : decode cX2_init 53 = .ok (.bipush 6, 2) := by decide +kernel
theorem dX2_init_55 : decode cX2_init 55 = .ok (.newarray .int, 2) := by decide +kernel
theorem dX2_init_57 : decode cX2_init 57 = .ok (.putfield 30, 3) := by decide +kernel
theorem dX2_init_60 : decode cX2_init 60 = .ok (.aload_n 0, 1) := by decide +kernel
theorem dX2_init_61 : decode cX2_init 61 = .ok (.bipush 6, 2) := by decide +kernel
theorem dX2_init_63 : decode cX2_init 63 = .ok (.newarray .int, 2) := by decide +kernel
theorem dX2_init_65 : decode cX2_init 65 = .ok (.putfield 33, 3) := by decide +kernel
theorem dX2_init_68 : decode cX2_init 68 = .ok (.aload_n 0, 1) := by decide +kernel
theorem dX2_init_69 : decode cX2_init 69 = .ok (.bipush 6, 2) := by decide +kernel
theorem dX2_init_71 : decode cX2_init 71 = .ok (.newarray .int, 2) := by decide +kernel
theorem dX2_init_73 : decode cX2_init 73 = .ok (.putfield 36, 3) := by decide +kernel
theorem dX2_init_76 : decode cX2_init 76 = .ok (.return_, 1) := by decide +kernel
theorem dX2_clear_0 : decode cX2_clear 0 = .ok (.aload_n 0, 1) := by decide +kernel
theorem dX2_clear_1 : decode cX2_clear 1 = .ok (.iconst 0, 1) := by decide +kernel
theorem dX2_clear_2 : decode cX2_clear 2 = .ok (.putfield 39, 3) := by decide +kernel
theorem dX2_clear_5 : decode cX2_clear 5 = .ok (.aload_n 0, 1) := by decide +kernel
theorem dX2_clear_6 : decode cX2_clear 6 = .ok (.iconst 0, 1) := by decide +kernel
theorem dX2_clear_7 : decode cX2_clear 7 = .ok (.putfield 43, 3) := by decide +kernel
theorem dX2_clear_10 : decode cX2_clear 10 = .ok (.aload_n 0, 1) := by decide +kernel
theorem dX2_clear_11 : decode cX2_clear 11 = .ok (.iconst 0, 1) := by decide +kernel
theorem dX2_clear_12 : decode cX2_clear 12 = .ok (.putfield 46, 3) := by decide +kernel
theorem dX2_clear_15 : decode cX2_clear 15 = .ok (.return_, 1) := by decide +kernel
theorem dX2_addOne_0 : decode cX2_addOne 0 = .ok (.aload_n 0, 1) := by decide +kernel
theorem dX2_addOne_1 : decode cX2_addOne 1 = .ok (.getfield 39, 3) := by decide +kernel
theorem dX2_addOne_4 : decode cX2_addOne 4 = .ok (.bipush 6, 2) := by decide +kernel
theorem dX2_addOne_6 : decode cX2_addOne 6 = .ok (.if_icmp .lt 4, 3) := by decide +kernel
theorem dX2_addOne_9 : decode cX2_addOne 9 = .ok (.return_, 1) := by decide +kernel
theorem dX2_addOne_10 : decode cX2_addOne 10 = .ok (.aload_n 0, 1) := by decide +kernel
theorem dX2_addOne_11 : decode cX2_addOne 11 = .ok (.getfield 9, 3) := by decide +kernel
theorem dX2_addOne_14 : decode cX2_addOne 14 = .ok (.aload_n 0, 1) := by decide +kernel
theorem dX2_addOne_15 : decode cX2_addOne 15 = .ok (.getfield 39, 3) := by decide +kernel
theorem dX2_addOne_18 : decode cX2_addOne 18 = .ok (.iload_n 1, 1) := by decide +kernel
theorem dX2_addOne_19 : decode cX2_addOne 19 = .ok (.iastore, 1) := by decide +kernel
theorem dX2_addOne_20 : decode cX2_addOne 20 = .ok (.aload_n 0, 1) := by decide +kernel
theorem dX2_addOne_21 : decode cX2_addOne 21 = .ok (.getfield 15, 3) := by decide +kernel
theorem dX2_addOne_24 : decode cX2_addOne 24 = .ok (.aload_n 0, 1) := by decide +kernel
theorem dX2_addOne_25 : decode cX2_addOne 25 = .ok (.getfield 39, 3) := by decide +kernel
theorem dX2_addOne_28 : decode cX2_addOne 28 = .ok (.iload_n 2, 1) := by decide +kernel
theorem dX2_addOne_29 : decode cX2_addOne 29 = .ok (.iastore, 1) := by decide +kernel
theorem dX2_addOne_30 : decode cX2_addOne 30 = .ok (.aload_n 0, 1) := by decide +kernel
theorem dX2_addOne_31 : decode cX2_addOne 31 = .ok (.getfield 18, 3) := by decide +kernel
theorem dX2_addOne_34 : decode cX2_addOne 34 = .ok (.aload_n 0, 1) := by decide +kernel
theorem dX2_addOne_35 : decode cX2_addOne 35 = .ok (.getfield 39, 3) := by decide +kernel
theorem dX2_addOne_38 : decode cX2_addOne 38 = .ok (.iconst 0, 1) := by decide +kernel
theorem dX2_addOne_39 : decode cX2_addOne 39 = .ok (.iastore, 1) := by decide +kernel
theorem dX2_addOne_40 : decode cX2_addOne 40 = .ok (.aload_n 0, 1) := by decide +kernel
theorem dX2_addOne_41 : decode cX2_addOne 41 = .ok (.getfield 21, 3) := by decide +kernel
theorem dX2_addOne_44 : decode cX2_addOne 44 = .ok (.aload_n 0, 1) := by decide +kernel
theorem dX2_addOne_45 : decode cX2_addOne 45 = .ok (.getfield 39, 3) := by decide +kernel
theorem dX2_addOne_48 : decode cX2_addOne 48 = .ok (.iload_n 3, 1) := by decide +kernel
theorem dX2_addOne_49 : decode cX2_addOne 49 = .ok (.iastore, 1) := by decide +kernel
theorem dX2_addOne_50 : decode cX2_addOne 50 = .ok (.aload_n 0, 1) := by decide +kernel
theorem dX2_addOne_51 : decode cX2_addOne 51 = .ok (.getfield 24, 3) := by decide +kernel
theorem dX2_addOne_54 : decode cX2_addOne 54 = .ok (.aload_n 0, 1) := by decide +kernel
theorem dX2_addOne_55 : decode cX2_addOne 55 = .ok (.getfield 39, 3) := by decide +kernel
theorem dX2_addOne_58 : decode cX2_addOne 58 = .ok (.iload 4, 2) := by decide +kernel
theorem dX2_addOne_60 : decode cX2_addOne 60 = .ok (.iastore, 1) := by decide +kernel
theorem dX2_addOne_61 : decode cX2_addOne 61 = .ok (.aload_n 0, 1) := by decide +kernel
theorem dX2_addOne_62 : decode cX2_addOne 62 = .ok (.getfield 27, 3) := by decide +kernel
theorem dX2_addOne_65 : decode cX2_addOne 65 = .ok (.aload_n 0, 1) := by decide +kernel
theorem dX2_addOne_66 : decode cX2_addOne 66 = .ok (.getfield 39, 3) := by decide +kernel
theorem dX2_addOne_69 : decode cX2_addOne 69 = .ok (.iconst 0, 1) := by decide +kernel
theorem dX2_addOne_70 : decode cX2_addOne 70 = .ok (.iastore, 1) := by decide +kernel
theorem dX2_addOne_71 : decode cX2_addOne 71 = .ok (.aload_n 0, 1) := by decide +kernel
theorem dX2_addOne_72 : decode cX2_addOne 72 = .ok (.dup, 1) := by decide +kernel
theorem dX2_addOne_73 : decode cX2_addOne 73 = .ok (.getfield 39, 3) := by decide +kernel
theorem dX2_addOne_76 : decode cX2_addOne 76 = .ok (.iconst 1, 1) := by decide +kernel
theorem dX2_addOne_77 : decode cX2_addOne 77 = .ok (.iadd, 1) := by decide +kernel
theorem dX2_addOne_78 : decode cX2_addOne 78 = .ok (.putfield 39, 3) := by decide +kernel
theorem dX2_addOne_81 : decode cX2_addOne 81 = .ok (.return_, 1) := by decide +kernel
theorem dX2_writeTo_0 : decode cX2_writeTo 0 = .ok (.aload_n 1, 1) := by decide +kernel
theorem dX2_writeTo_1 : decode cX2_writeTo 1 = .ok (.iconst 0, 1) := by decide +kernel
theorem dX2_writeTo_2 : decode cX2_writeTo 2 = .ok (.aload_n 0, 1) := by decide +kernel
theorem dX2_writeTo_3 : decode cX2_writeTo 3 = .ok (.getfield 39, 3) := by decide +kernel
theorem dX2_writeTo_6 : decode cX2_writeTo 6 = .ok (.iastore, 1) := by decide +kernel
theorem dX2_writeTo_7 : decode cX2_writeTo 7 = .ok (.aload_n 1, 1) := by decide +kernel
theorem dX2_writeTo_8 : decode cX2_writeTo 8 = .ok (.iconst 1, 1) := by decide +kernel
theorem dX2_writeTo_9 : decode cX2_writeTo 9 = .ok (.aload_n 0, 1) := by decide +kernel
theorem dX2_writeTo_10 : decode cX2_writeTo 10 = .ok (.getfield 49, 3) := by decide +kernel
theorem dX2_writeTo_13 : decode cX2_writeTo 13 = .ok (.iastore, 1) := by decide +kernel
theorem dX2_writeTo_14 : decode cX2_writeTo 14 = .ok (.aload_n 1, 1) := by decide +kernel
theorem dX2_writeTo_15 : decode cX2_writeTo 15 = .ok (.iconst 2, 1) := by decide +kernel
theorem dX2_writeTo_16 : decode cX2_writeTo 16 = .ok (.aload_n 0, 1) := by decide +kernel
theorem dX2_writeTo_17 : decode cX2_writeTo 17 = .ok (.getfield 52, 3) := by decide +kernel
theorem dX2_writeTo_20 : decode cX2_writeTo 20 = .ok (.iastore, 1) := by decide +kernel
theorem dX2_writeTo_21 : decode cX2_writeTo 21 = .ok (.aload_n 1, 1) := by decide +kernel
theorem dX2_writeTo_22 : decode cX2_writeTo 22 = .ok (.iconst 3, 1) := by decide +kernel
theorem dX2_writeTo_23 : decode cX2_writeTo 23 = .ok (.aload_n 0, 1) := by decide +kernel
theorem dX2_writeTo_24 : decode cX2_writeTo 24 = .ok (.getfield 43, 3) := by decide +kernel
theorem dX2_writeTo_27 : decode cX2_writeTo 27 = .ok (.iastore, 1) := by decide +kernel
theorem dX2_writeTo_28 : decode cX2_writeTo 28 = .ok (.aload_n 1, 1) := by decide +kernel
theorem dX2_writeTo_29 : decode cX2_writeTo 29 = .ok (.iconst 4, 1) := by decide +kernel
theorem dX2_writeTo_30 : decode cX2_writeTo 30 = .ok (.aload_n 0, 1) := by decide +kernel
theorem dX2_writeTo_31 : decode cX2_writeTo 31 = .ok (.getfield 46, 3) := by decide +kernel
theorem dX2_writeTo_34 : decode cX2_writeTo 34 = .ok (.iastore, 1) := by decide +kernel
theorem dX2_writeTo_35 : decode cX2_writeTo 35 = .ok (.aload_n 0, 1) := by decide +kernel
theorem dX2_writeTo_36 : decode cX2_writeTo 36 = .ok (.getfield 9, 3) := by decide +kernel
theorem dX2_writeTo_39 : decode cX2_writeTo 39 = .ok (.iconst 0, 1) := by decide +kernel
theorem dX2_writeTo_40 : decode cX2_writeTo 40 = .ok (.aload_n 1, 1) := by decide +kernel
theorem dX2_writeTo_41 : decode cX2_writeTo 41 = .ok (.iconst 5, 1) := by decide +kernel
theorem dX2_writeTo_42 : decode cX2_writeTo 42 = .ok (.bipush 6, 2) := by decide +kernel
theorem dX2_writeTo_44 : decode cX2_writeTo 44 = .ok (.invokestatic 55, 3) := by decide +kernel
theorem dX2_writeTo_47 : decode cX2_writeTo 47 = .ok (.aload_n 0, 1) := by decide +kernel
theorem dX2_writeTo_48 : decode cX2_writeTo 48 = .ok (.getfield 15, 3) := by decide +kernel
theorem dX2_writeTo_51 : decode cX2_writeTo 51 = .ok (.iconst 0, 1) := by decide +kernel
theorem dX2_writeTo_52 : decode cX2_writeTo 52 = .ok (.aload_n 1, 1) := by decide +kernel
theorem dX2_writeTo_53 : decode cX2_writeTo 53 = .ok (.bipush 11, 2) := by decide +kernel
theorem dX2_writeTo_55 : decode cX2_writeTo 55 = .ok (.bipush 6, 2) := by decide +kernel
theorem dX2_writeTo_57 : decode cX2_writeTo 57 = .ok (.invokestatic 55, 3) := by decide +kernel
theorem dX2_writeTo_60 : decode cX2_writeTo 60 = .ok (.aload_n 0, 1) := by decide +kernel
theorem dX2_writeTo_61 : decode cX2_writeTo 61 = .ok (.getfield 18, 3) := by decide +kernel
theorem dX2_writeTo_64 : decode cX2_writeTo 64 = .ok (.iconst 0, 1) := by decide +kernel
theorem dX2_writeTo_65 : decode cX2_writeTo 65 = .ok (.aload_n 1, 1) := by decide +kernel
theorem dX2_writeTo_66 : decode cX2_writeTo 66 = .ok (.bipush 17, 2) := by decide +kernel
theorem dX2_writeTo_68 : decode cX2_writeTo 68 = .ok (.bipush 6, 2) := by decide +kernel
theorem dX2_writeTo_70 : decode cX2_writeTo 70 = .ok (.invokestatic 55, 3) := by decide +kernel
theorem dX2_writeTo_73 : decode cX2_writeTo 73 = .ok (.aload_n 0, 1) := by decide +kernel
theorem dX2_writeTo_74 : decode cX2_writeTo 74 = .ok (.getfield 21, 3) := by decide +kernel
theorem dX2_writeTo_77 : decode cX2_writeTo 77 = .ok (.iconst 0, 1) := by decide +kernel
theorem dX2_writeTo_78 : decode cX2_writeTo 78 = .ok (.aload_n 1, 1) := by decide +kernel
theorem dX2_writeTo_79 : decode cX2_writeTo 79 = .ok (.bipush 23, 2) := by decide +kernel
theorem dX2_writeTo_81 : decode cX2_writeTo 81 = .ok (.bipush 6, 2) := by decide +kernel
theorem dX2_writeTo_83 : decode cX2_writeTo 83 = .ok (.invokestatic 55, 3) := by decide +kernel
theorem dX2_writeTo_86 : decode cX2_writeTo 86 = .ok (.aload_n 0, 1) := by decide +kernel
theorem dX2_writeTo_87 : decode cX2_writeTo 87 = .ok (.getfield 24, 3) := by decide +kernel
theorem dX2_writeTo_90 : decode cX2_writeTo 90 = .ok (.iconst 0, 1) := by decide +kernel
theorem dX2_writeTo_91 : decode cX2_writeTo 91 = .ok (.aload_n 1, 1) := by decide +kernel
theorem dX2_writeTo_92 : decode cX2_writeTo 92 = .ok (.bipush 29, 2) := by decide +kernel
theorem dX2_writeTo_94 : decode cX2_writeTo 94 = .ok (.bipush 6, 2) := by decide +kernel
theorem dX2_writeTo_96 : decode cX2_writeTo 96 = .ok (.invokestatic 55, 3) := by decide +kernel
theorem dX2_writeTo_99 : decode cX2_writeTo 99 = .ok (.aload_n 0, 1) := by decide +kernel
theorem dX2_writeTo_100 : decode cX2_writeTo 100 = .ok (.getfield 27, 3) := by decide +kernel
theorem dX2_writeTo_103 : decode cX2_writeTo 103 = .ok (.iconst 0, 1) := by decide +kernel
theorem dX2_writeTo_104 : decode cX2_writeTo 104 = .ok (.aload_n 1, 1) := by decide +kernel
theorem dX2_writeTo_105 : decode cX2_writeTo 105 = .ok (.bipush 35, 2) := by decide +kernel
theorem dX2_writeTo_107 : decode cX2_writeTo 107 = .ok (.bipush 6, 2) := by decide +kernel
theorem dX2_writeTo_109 : decode cX2_writeTo 109 = .ok (.invokestatic 55, 3) := by decide +kernel
theorem dX2_writeTo_112 : decode cX2_writeTo 112 = .ok (.return_, 1) := by decide +kernel
theorem dX2_readFrom_0 : decode cX2_readFrom 0 = .ok (.aload_n 0, 1) := by decide +kernel
theorem dX2_readFrom_1 : decode cX2_readFrom 1 = .ok (.aload_n 1, 1) := by decide +kernel
theorem dX2_readFrom_2 : decode cX2_readFrom 2 = .ok (.iconst 0, 1) := by decide +kernel
theorem dX2_readFrom_3 : decode cX2_readFrom 3 = .ok (.iaload, 1) := by decide +kernel
theorem dX2_readFrom_4 : decode cX2_readFrom 4 = .ok (.putfield 39, 3) := by decide +kernel
theorem dX2_readFrom_7 : decode cX2_readFrom 7 = .ok (.aload_n 0, 1) := by decide +kernel
theorem dX2_readFrom_8 : decode cX2_readFrom 8 = .ok (.aload_n 1, 1) := by decide +kernel
theorem dX2_readFrom_9 : decode cX2_readFrom 9 = .ok (.iconst 1, 1) := by decide +kernel
theorem dX2_readFrom_10 : decode cX2_readFrom 10 = .ok (.iaload, 1) := by decide +kernel
theorem dX2_readFrom_11 : decode cX2_readFrom 11 = .ok (.putfield 49, 3) := by decide +kernel
theorem dX2_readFrom_14 : decode cX2_readFrom 14 = .ok (.aload_n 0, 1) := by decide +kernel
theorem dX2_readFrom_15 : decode cX2_readFrom 15 = .ok (.aload_n 1, 1) := by decide +kernel
theorem dX2_readFrom_16 : decode cX2_readFrom 16 = .ok (.iconst 2, 1) := by decide +kernel
theorem dX2_readFrom_17 : decode cX2_readFrom 17 = .ok (.iaload, 1) := by decide +kernel
theorem dX2_readFrom_18 : decode cX2_readFrom 18 = .ok (.putfield 52, 3) := by decide +kernel
theorem dX2_readFrom_21 : decode cX2_readFrom 21 = .ok (.aload_n 0, 1) := by decide +kernel
theorem dX2_readFrom_22 : decode cX2_readFrom 22 = .ok (.aload_n 1, 1) := by decide +kernel
theorem dX2_readFrom_23 : decode cX2_readFrom 23 = .ok (.iconst 3, 1) := by decide +kernel
theorem dX2_readFrom_24 : decode cX2_readFrom 24 = .ok (.iaload, 1) := by decide +kernel
theorem dX2_readFrom_25 : decode cX2_readFrom 25 = .ok (.putfield 43, 3) := by decide +kernel
theorem dX2_readFrom_28 : decode cX2_readFrom 28 = .ok (.aload_n 0, 1) := by decide +kernel
theorem dX2_readFrom_29 : decode cX2_readFrom 29 = .ok (.aload_n 1, 1) := by decide +kernel
theorem dX2_readFrom_30 : decode cX2_readFrom 30 = .ok (.iconst 4, 1) := by decide +kernel
theorem dX2_readFrom_31 : decode cX2_readFrom 31 = .ok (.iaload, 1) := by decide +kernel
theorem dX2_readFrom_32 : decode cX2_readFrom 32 = .ok (.putfield 46, 3) := by decide +kernel
theorem dX2_readFrom_35 : decode cX2_readFrom 35 = .ok (.aload_n 1, 1) := by decide +kernel
theorem dX2_readFrom_36 : decode cX2_readFrom 36 = .ok (.iconst 5, 1) := by decide +kernel
theorem dX2_readFrom_37 : decode cX2_readFrom 37 = .ok (.aload_n 0, 1) := by decide +kernel
theorem dX2_readFrom_38 : decode cX2_readFrom 38 = .ok (.getfield 9, 3) := by decide +kernel
theorem dX2_readFrom_41 : decode cX2_readFrom 41 = .ok (.iconst 0, 1) := by decide +kernel
theorem dX2_readFrom_42 : decode cX2_readFrom 42 = .ok (.bipush 6, 2) := by decide +kernel
theorem dX2_readFrom_44 : decode cX2_readFrom 44 = .ok (.invokestatic 55, 3) := by decide +kernel
theorem dX2_readFrom_47 : decode cX2_readFrom 47 = .ok (.aload_n 1, 1) := by decide +kernel
theorem dX2_readFrom_48 : decode cX2_readFrom 48 = .ok (.bipush 11, 2) := by decide +kernel
theorem dX2_readFrom_50 : decode cX2_readFrom 50 = .ok (.aload_n 0, 1) := by decide +kernel
theorem dX2_readFrom_51 : decode cX2_readFrom 51 = .ok (.getfield 15, 3) := by decide +kernel
theorem dX2_readFrom_54 : decode cX2_readFrom 54 = .ok (.iconst 0, 1) := by decide +kernel
theorem dX2_readFrom_55 : decode cX2_readFrom 55 = .ok (.bipush 6, 2) := by decide +kernel
theorem dX2_readFrom_57 : decode cX2_readFrom 57 = .ok (.invokestatic 55, 3) := by decide +kernel
theorem dX2_readFrom_60 : decode cX2_readFrom 60 = .ok (.aload_n 1, 1) := by decide +kernel
theorem dX2_readFrom_61 : decode cX2_readFrom 61 = .ok (.bipush 17, 2) := by decide +kernel
theorem dX2_readFrom_63 : decode cX2_readFrom 63 = .ok (.aload_n 0, 1) := by decide +kernel
theorem dX2_readFrom_64 : decode cX2_readFrom 64 = .ok (.getfield 18, 3) := by decide +kernel
theorem dX2_readFrom_67 : decode cX2_readFrom 67 = .ok (.iconst 0, 1) := by decide +kernel
theorem dX2_readFrom_68 : decode cX2_readFrom 68 = .ok (.bipush 6, 2) := by decide +kernel
theorem dX2_readFrom_70 : decode cX2_readFrom 70 = .ok (.invokestatic 55, 3) := by decide +kernel
theorem dX2_readFrom_73 : decode cX2_readFrom 73 = .ok (.aload_n 1, 1) := by decide +kernel
theorem dX2_readFrom_74 : decode cX2_readFrom 74 = .ok (.bipush 23, 2) := by decide +kernel
theorem dX2_readFrom_76 : decode cX2_readFrom 76 = .ok (.aload_n 0, 1) := by decide +kernel
theorem dX2_readFrom_77 : decode cX2_readFrom 77 = .ok (.getfield 21, 3) := by decide +kernel
theorem dX2_readFrom_80 : decode cX2_readFrom 80 = .ok (.iconst 0, 1) := by decide +kernel
theorem dX2_readFrom_81 : decode cX2_readFrom 81 = .ok (.bipush 6, 2) := by decide +kernel
theorem dX2_readFrom_83 : decode cX2_readFrom 83 = .ok (.invokestatic 55, 3) := by decide +kernel
theorem dX2_readFrom_86 : decode cX2_readFrom 86 = .ok (.aload_n 1, 1) := by decide +kernel
theorem dX2_readFrom_87 : decode cX2_readFrom 87 = .ok (.bipush 29, 2) := by decide +kernel
theorem dX2_readFrom_89 : decode cX2_readFrom 89 = .ok (.aload_n 0, 1) := by decide +kernel
theorem dX2_readFrom_90 : decode cX2_readFrom 90 = .ok (.getfield 24, 3) := by decide +kernel
theorem dX2_readFrom_93 : decode cX2_readFrom 93 = .ok (.iconst 0, 1) := by decide +kernel
theorem dX2_readFrom_94 : decode cX2_readFrom 94 = .ok (.bipush 6, 2) := by decide +kernel
theorem dX2_readFrom_96 : decode cX2_readFrom 96 = .ok (.invokestatic 55, 3) := by decide +kernel
theorem dX2_readFrom_99 : decode cX2_readFrom 99 = .ok (.aload_n 1, 1) := by decide +kernel
theorem dX2_readFrom_100 : decode cX2_readFrom 100 = .ok (.bipush 35, 2) := by decide +kernel
theorem dX2_readFrom_102 : decode cX2_readFrom 102 = .ok (.aload_n 0, 1) := by decide +kernel
theorem dX2_readFrom_103 : decode cX2_readFrom 103 = .ok (.getfield 27, 3) := by decide +kernel
theorem dX2_readFrom_106 : decode cX2_readFrom 106 = .ok (.iconst 0, 1) := by decide +kernel
theorem dX2_readFrom_107 : decode cX2_readFrom 107 = .ok (.bipush 6, 2) := by decide +kernel
theorem dX2_readFrom_109 : decode cX2_readFrom 109 = .ok (.invokestatic 55, 3) := by decide +kernel
theorem dX2_readFrom_112 : decode cX2_readFrom 112 = .ok (.return_, 1) := by decide +kernel
theorem dX2_isWatched_0 : decode cX2_isWatched 0 = .ok (.aload_n 0, 1) := by decide +kernel
theorem dX2_isWatched_1 : decode cX2_isWatched 1 = .ok (.getfield 46, 3) := by decide +kernel
theorem dX2_isWatched_4 : decode cX2_isWatched 4 = .ok (.iload_n 1, 1) := by decide +kernel
theorem dX2_isWatched_5 : decode cX2_isWatched 5 = .ok (.ishr, 1) := by decide +kernel
theorem dX2_isWatched_6 : decode cX2_isWatched 6 = .ok (.iconst 1, 1) := by decide +kernel
theorem dX2_isWatched_7 : decode cX2_isWatched 7 = .ok (.iand, 1) := by decide +kernel
theorem dX2_isWatched_8 : decode cX2_isWatched 8 = .ok (.ifCond .eq 7, 3) := by decide +kernel
theorem dX2_isWatched_11 : decode cX2_isWatched 11 = .ok (.iconst 1, 1) := by decide +kernel
theorem dX2_isWatched_12 : decode cX2_isWatched 12 = .ok (.goto 4, 3) := by decide +kernel
theorem dX2_isWatched_15 : decode cX2_isWatched 15 = .ok (.iconst 0, 1) := by decide +kernel
theorem dX2_isWatched_16 : decode cX2_isWatched 16 = .ok (.ireturn, 1) := by decide +kernel
theorem dX2_highOf_0 : decode cX2_highOf 0 = .ok (.aload_n 0, 1) := by decide +kernel
theorem dX2_highOf_1 : decode cX2_highOf 1 = .ok (.getfield 15, 3) := by decide +kernel
theorem dX2_highOf_4 : decode cX2_highOf 4 = .ok (.iload_n 1, 1) := by decide +kernel
theorem dX2_highOf_5 : decode cX2_highOf 5 = .ok (.iaload, 1) := by decide +kernel
theorem dX2_highOf_6 : decode cX2_highOf 6 = .ok (.aload_n 0, 1) := by decide +kernel
theorem dX2_highOf_7 : decode cX2_highOf 7 = .ok (.getfield 18, 3) := by decide +kernel
theorem dX2_highOf_10 : decode cX2_highOf 10 = .ok (.iload_n 1, 1) := by decide +kernel
theorem dX2_highOf_11 : decode cX2_highOf 11 = .ok (.iaload, 1) := by decide +kernel
theorem dX2_highOf_12 : decode cX2_highOf 12 = .ok (.iadd, 1) := by decide +kernel
theorem dX2_highOf_13 : decode cX2_highOf 13 = .ok (.istore_n 2, 1) := by decide +kernel
theorem dX2_highOf_14 : decode cX2_highOf 14 = .ok (.aload_n 0, 1) := by decide +kernel
theorem dX2_highOf_15 : decode cX2_highOf 15 = .ok (.getfield 9, 3) := by decide +kernel
theorem dX2_highOf_18 : decode cX2_highOf 18 = .ok (.iload_n 1, 1) := by decide +kernel
theorem dX2_highOf_19 : decode cX2_highOf 19 = .ok (.iaload, 1) := by decide +kernel
theorem dX2_highOf_20 : decode cX2_highOf 20 = .ok (.tableswitch 76 2 5 #[32, 38, 47, 54], 32) := by decide +kernel
theorem dX2_highOf_52 : decode cX2_highOf 52 = .ok (.iload_n 2, 1) := by decide +kernel
theorem dX2_highOf_53 : decode cX2_highOf 53 = .ok (.iload_n 2, 1) := by decide +kernel
theorem dX2_highOf_54 : decode cX2_highOf 54 = .ok (.iconst 1, 1) := by decide +kernel
theorem dX2_highOf_55 : decode cX2_highOf 55 = .ok (.iand, 1) := by decide +kernel
theorem dX2_highOf_56 : decode cX2_highOf 56 = .ok (.isub, 1) := by decide +kernel
theorem dX2_highOf_57 : decode cX2_highOf 57 = .ok (.ireturn, 1) := by decide +kernel
theorem dX2_highOf_58 : decode cX2_highOf 58 = .ok (.iload_n 2, 1) := by decide +kernel
theorem dX2_highOf_59 : decode cX2_highOf 59 = .ok (.aload_n 0, 1) := by decide +kernel
theorem dX2_highOf_60 : decode cX2_highOf 60 = .ok (.getfield 18, 3) := by decide +kernel
theorem dX2_highOf_63 : decode cX2_highOf 63 = .ok (.iload_n 1, 1) := by decide +kernel
theorem dX2_highOf_64 : decode cX2_highOf 64 = .ok (.iaload, 1) := by decide +kernel
theorem dX2_highOf_65 : decode cX2_highOf 65 = .ok (.iadd, 1) := by decide +kernel
theorem dX2_highOf_66 : decode cX2_highOf 66 = .ok (.ireturn, 1) := by decide +kernel
theorem dX2_highOf_67 : decode cX2_highOf 67 = .ok (.aload_n 0, 1) := by decide +kernel
theorem dX2_highOf_68 : decode cX2_highOf 68 = .ok (.getfield 15, 3) := by decide +kernel
theorem dX2_highOf_71 : decode cX2_highOf 71 = .ok (.iload_n 1, 1) := by decide +kernel
theorem dX2_highOf_72 : decode cX2_highOf 72 = .ok (.iaload, 1) := by decide +kernel
theorem dX2_highOf_73 : decode cX2_highOf 73 = .ok (.ireturn, 1) := by decide +kernel
theorem dX2_highOf_74 : decode cX2_highOf 74 = .ok (.aload_n 0, 1) := by decide +kernel
theorem dX2_highOf_75 : decode cX2_highOf 75 = .ok (.getfield 15, 3) := by decide +kernel
theorem dX2_highOf_78 : decode cX2_highOf 78 = .ok (.iload_n 1, 1) := by decide +kernel
theorem dX2_highOf_79 : decode cX2_highOf 79 = .ok (.iaload, 1) := by decide +kernel
theorem dX2_highOf_80 : decode cX2_highOf 80 = .ok (.ifCond .le 14, 3) := by decide +kernel
theorem dX2_highOf_83 : decode cX2_highOf 83 = .ok (.aload_n 0, 1) := by decide +kernel
theorem dX2_highOf_84 : decode cX2_highOf 84 = .ok (.getfield 15, 3) := by decide +kernel
theorem dX2_highOf_87 : decode cX2_highOf 87 = .ok (.iload_n 1, 1) := by decide +kernel
theorem dX2_highOf_88 : decode cX2_highOf 88 = .ok (.iaload, 1) := by decide +kernel
theorem dX2_highOf_89 : decode cX2_highOf 89 = .ok (.iconst 5, 1) := by decide +kernel
theorem dX2_highOf_90 : decode cX2_highOf 90 = .ok (.iadd, 1) := by decide +kernel
theorem dX2_highOf_91 : decode cX2_highOf 91 = .ok (.goto 4, 3) := by decide +kernel
theorem dX2_highOf_94 : decode cX2_highOf 94 = .ok (.iconst 0, 1) := by decide +kernel
theorem dX2_highOf_95 : decode cX2_highOf 95 = .ok (.ireturn, 1) := by decide +kernel
theorem dX2_highOf_96 : decode cX2_highOf 96 = .ok (.iload_n 2, 1) := by decide +kernel
theorem dX2_highOf_97 : decode cX2_highOf 97 = .ok (.ireturn, 1) := by decide +kernel
theorem dX2_isHigher_0 : decode cX2_isHigher 0 = .ok (.aload_n 0, 1) := by decide +kernel
theorem dX2_isHigher_1 : decode cX2_isHigher 1 = .ok (.iload_n 1, 1) := by decide +kernel
theorem dX2_isHigher_2 : decode cX2_isHigher 2 = .ok (.invokevirtual 61, 3) := by decide +kernel
theorem dX2_isHigher_5 : decode cX2_isHigher 5 = .ok (.aload_n 0, 1) := by decide +kernel
theorem dX2_isHigher_6 : decode cX2_isHigher 6 = .ok (.iload_n 2, 1) := by decide +kernel
theorem dX2_isHigher_7 : decode cX2_isHigher 7 = .ok (.invokevirtual 61, 3) := by decide +kernel
theorem dX2_isHigher_10 : decode cX2_isHigher 10 = .ok (.isub, 1) := by decide +kernel
theorem dX2_isHigher_11 : decode cX2_isHigher 11 = .ok (.istore_n 3, 1) := by decide +kernel
theorem dX2_isHigher_12 : decode cX2_isHigher 12 = .ok (.iload_n 3, 1) := by decide +kernel
theorem dX2_isHigher_13 : decode cX2_isHigher 13 = .ok (.ifCond .gt 12, 3) := by decide +kernel
theorem dX2_isHigher_16 : decode cX2_isHigher 16 = .ok (.iload_n 3, 1) := by decide +kernel
theorem dX2_isHigher_17 : decode cX2_isHigher 17 = .ok (.ifCond .ne 12, 3) := by decide +kernel
theorem dX2_isHigher_20 : decode cX2_isHigher 20 = .ok (.iload_n 1, 1) := by decide +kernel
theorem dX2_isHigher_21 : decode cX2_isHigher 21 = .ok (.iload_n 2, 1) := by decide +kernel
theorem dX2_isHigher_22 : decode cX2_isHigher 22 = .ok (.if_icmp .ge 7, 3) := by decide +kernel
theorem dX2_isHigher_25 : decode cX2_isHigher 25 = .ok (.iconst 1, 1) := by decide +kernel
theorem dX2_isHigher_26 : decode cX2_isHigher 26 = .ok (.goto 4, 3) := by decide +kernel
theorem dX2_isHigher_29 : decode cX2_isHigher 29 = .ok (.iconst 0, 1) := by decide +kernel
theorem dX2_isHigher_30 : decode cX2_isHigher 30 = .ok (.ireturn, 1) := by decide +kernel
theorem dX2_rankOf_0 : decode cX2_rankOf 0 = .ok (.aload_n 0, 1) := by decide +kernel
theorem dX2_rankOf_1 : decode cX2_rankOf 1 = .ok (.invokevirtual 65, 3) := by decide +kernel
theorem dX2_rankOf_4 : decode cX2_rankOf 4 = .ok (.aload_n 0, 1) := by decide +kernel
theorem dX2_rankOf_5 : decode cX2_rankOf 5 = .ok (.getfield 33, 3) := by decide +kernel
theorem dX2_rankOf_8 : decode cX2_rankOf 8 = .ok (.iload_n 1, 1) := by decide +kernel
theorem dX2_rankOf_9 : decode cX2_rankOf 9 = .ok (.iaload, 1) := by decide +kernel
theorem dX2_rankOf_10 : decode cX2_rankOf 10 = .ok (.ireturn, 1) := by decide +kernel
theorem dX2_atRank_0 : decode cX2_atRank 0 = .ok (.aload_n 0, 1) := by decide +kernel
theorem dX2_atRank_1 : decode cX2_atRank 1 = .ok (.invokevirtual 65, 3) := by decide +kernel
theorem dX2_atRank_4 : decode cX2_atRank 4 = .ok (.aload_n 0, 1) := by decide +kernel
theorem dX2_atRank_5 : decode cX2_atRank 5 = .ok (.getfield 36, 3) := by decide +kernel
theorem dX2_atRank_8 : decode cX2_atRank 8 = .ok (.iload_n 1, 1) := by decide +kernel
theorem dX2_atRank_9 : decode cX2_atRank 9 = .ok (.iaload, 1) := by decide +kernel
theorem dX2_atRank_10 : decode cX2_atRank 10 = .ok (.ireturn, 1) := by decide +kernel
theorem dX2_preyOf_0 : decode cX2_preyOf 0 = .ok (.aload_n 0, 1) := by decide +kernel
theorem dX2_preyOf_1 : decode cX2_preyOf 1 = .ok (.invokevirtual 65, 3) := by decide +kernel
theorem dX2_preyOf_4 : decode cX2_preyOf 4 = .ok (.aload_n 0, 1) := by decide +kernel
theorem dX2_preyOf_5 : decode cX2_preyOf 5 = .ok (.iload_n 1, 1) := by decide +kernel
theorem dX2_preyOf_6 : decode cX2_preyOf 6 = .ok (.invokevirtual 68, 3) := by decide +kernel
theorem dX2_preyOf_9 : decode cX2_preyOf 9 = .ok (.ireturn, 1) := by decide +kernel
theorem dX2_allLegs_0 : decode cX2_allLegs 0 = .ok (.iconst 0, 1) := by decide +kernel
theorem dX2_allLegs_1 : decode cX2_allLegs 1 = .ok (.istore_n 1, 1) := by decide +kernel
theorem dX2_allLegs_2 : decode cX2_allLegs 2 = .ok (.iconst 0, 1) := by decide +kernel
theorem dX2_allLegs_3 : decode cX2_allLegs 3 = .ok (.istore_n 2, 1) := by decide +kernel
theorem dX2_allLegs_4 : decode cX2_allLegs 4 = .ok (.iload_n 2, 1) := by decide +kernel
theorem dX2_allLegs_5 : decode cX2_allLegs 5 = .ok (.aload_n 0, 1) := by decide +kernel
theorem dX2_allLegs_6 : decode cX2_allLegs 6 = .ok (.getfield 39, 3) := by decide +kernel
theorem dX2_allLegs_9 : decode cX2_allLegs 9 = .ok (.if_icmp .ge 18, 3) := by decide +kernel
theorem dX2_allLegs_12 : decode cX2_allLegs 12 = .ok (.iload_n 1, 1) := by decide +kernel
theorem dX2_allLegs_13 : decode cX2_allLegs 13 = .ok (.aload_n 0, 1) := by decide +kernel
theorem dX2_allLegs_14 : decode cX2_allLegs 14 = .ok (.getfield 15, 3) := by decide +kernel
theorem dX2_allLegs_17 : decode cX2_allLegs 17 = .ok (.iload_n 2, 1) := by decide +kernel
theorem dX2_allLegs_18 : decode cX2_allLegs 18 = .ok (.iaload, 1) := by decide +kernel
theorem dX2_allLegs_19 : decode cX2_allLegs 19 = .ok (.iadd, 1) := by decide +kernel
theorem dX2_allLegs_20 : decode cX2_allLegs 20 = .ok (.istore_n 1, 1) := by decide +kernel
theorem dX2_allLegs_21 : decode cX2_allLegs 21 = .ok (.iinc 2 1, 3) := by decide +kernel
theorem dX2_allLegs_24 : decode cX2_allLegs 24 = .ok (.goto (-20), 3) := by decide +kernel
theorem dX2_allLegs_27 : decode cX2_allLegs 27 = .ok (.iload_n 1, 1) := by decide +kernel
theorem dX2_allLegs_28 : decode cX2_allLegs 28 = .ok (.ireturn, 1) := by decide +kernel
theorem dX2_allCaught_0 : decode cX2_allCaught 0 = .ok (.iconst 0, 1) := by decide +kernel
theorem dX2_allCaught_1 : decode cX2_allCaught 1 = .ok (.istore_n 1, 1) := by decide +kernel
theorem dX2_allCaught_2 : decode cX2_allCaught 2 = .ok (.iconst 0, 1) := by decide +kernel
theorem dX2_allCaught_3 : decode cX2_allCaught 3 = .ok (.istore_n 2, 1) := by decide +kernel
theorem dX2_allCaught_4 : decode cX2_allCaught 4 = .ok (.iload_n 2, 1) := by decide +kernel
theorem dX2_allCaught_5 : decode cX2_allCaught 5 = .ok (.aload_n 0, 1) := by decide +kernel
theorem dX2_allCaught_6 : decode cX2_allCaught 6 = .ok (.getfield 39, 3) := by decide +kernel
theorem dX2_allCaught_9 : decode cX2_allCaught 9 = .ok (.if_icmp .ge 18, 3) := by decide +kernel
theorem dX2_allCaught_12 : decode cX2_allCaught 12 = .ok (.iload_n 1, 1) := by decide +kernel
theorem dX2_allCaught_13 : decode cX2_allCaught 13 = .ok (.aload_n 0, 1) := by decide +kernel
theorem dX2_allCaught_14 : decode cX2_allCaught 14 = .ok (.getfield 27, 3) := by decide +kernel
theorem dX2_allCaught_17 : decode cX2_allCaught 17 = .ok (.iload_n 2, 1) := by decide +kernel
theorem dX2_allCaught_18 : decode cX2_allCaught 18 = .ok (.iaload, 1) := by decide +kernel
theorem dX2_allCaught_19 : decode cX2_allCaught 19 = .ok (.iadd, 1) := by decide +kernel
theorem dX2_allCaught_20 : decode cX2_allCaught 20 = .ok (.istore_n 1, 1) := by decide +kernel
theorem dX2_allCaught_21 : decode cX2_allCaught 21 = .ok (.iinc 2 1, 3) := by decide +kernel
theorem dX2_allCaught_24 : decode cX2_allCaught 24 = .ok (.goto (-20), 3) := by decide +kernel
theorem dX2_allCaught_27 : decode cX2_allCaught 27 = .ok (.iload_n 1, 1) := by decide +kernel
theorem dX2_allCaught_28 : decode cX2_allCaught 28 = .ok (.ireturn, 1) := by decide +kernel
theorem dX2_glueLeg_0 : decode cX2_glueLeg 0 = .ok (.aload_n 0, 1) := by decide +kernel
theorem dX2_glueLeg_1 : decode cX2_glueLeg 1 = .ok (.getfield 15, 3) := by decide +kernel
theorem dX2_glueLeg_4 : decode cX2_glueLeg 4 = .ok (.iload_n 1, 1) := by decide +kernel
theorem dX2_glueLeg_5 : decode cX2_glueLeg 5 = .ok (.bipush 60, 2) := by decide +kernel
theorem dX2_glueLeg_7 : decode cX2_glueLeg 7 = .ok (.aload_n 0, 1) := by decide +kernel
theorem dX2_glueLeg_8 : decode cX2_glueLeg 8 = .ok (.getfield 15, 3) := by decide +kernel
theorem dX2_glueLeg_11 : decode cX2_glueLeg 11 = .ok (.iload_n 1, 1) := by decide +kernel
theorem dX2_glueLeg_12 : decode cX2_glueLeg 12 = .ok (.iaload, 1) := by decide +kernel
theorem dX2_glueLeg_13 : decode cX2_glueLeg 13 = .ok (.aload_n 0, 1) := by decide +kernel
theorem dX2_glueLeg_14 : decode cX2_glueLeg 14 = .ok (.getfield 52, 3) := by decide +kernel
theorem dX2_glueLeg_17 : decode cX2_glueLeg 17 = .ok (.iadd, 1) := by decide +kernel
theorem dX2_glueLeg_18 : decode cX2_glueLeg 18 = .ok (.invokestatic 71, 3) := by decide +kernel
theorem dX2_glueLeg_21 : decode cX2_glueLeg 21 = .ok (.iastore, 1) := by decide +kernel
theorem dX2_glueLeg_22 : decode cX2_glueLeg 22 = .ok (.return_, 1) := by decide +kernel
theorem dX2_exchangeSitters_0 : decode cX2_exchangeSitters 0 = .ok (.aload_n 0, 1) := by decide +kernel
theorem dX2_exchangeSitters_1 : decode cX2_exchangeSitters 1 = .ok (.getfield 21, 3) := by decide +kernel
theorem dX2_exchangeSitters_4 : decode cX2_exchangeSitters 4 = .ok (.iload_n 1, 1) := by decide +kernel
theorem dX2_exchangeSitters_5 : decode cX2_exchangeSitters 5 = .ok (.iload_n 2, 1) := by decide +kernel
theorem dX2_exchangeSitters_6 : decode cX2_exchangeSitters 6 = .ok (.invokestatic 77, 3) := by decide +kernel
theorem dX2_exchangeSitters_9 : decode cX2_exchangeSitters 9 = .ok (.aload_n 0, 1) := by decide +kernel
theorem dX2_exchangeSitters_10 : decode cX2_exchangeSitters 10 = .ok (.getfield 24, 3) := by decide +kernel
theorem dX2_exchangeSitters_13 : decode cX2_exchangeSitters 13 = .ok (.iload_n 1, 1) := by decide +kernel
theorem dX2_exchangeSitters_14 : decode cX2_exchangeSitters 14 = .ok (.iload_n 2, 1) := by decide +kernel
theorem dX2_exchangeSitters_15 : decode cX2_exchangeSitters 15 = .ok (.invokestatic 77, 3) := by decide +kernel
theorem dX2_exchangeSitters_18 : decode cX2_exchangeSitters 18 = .ok (.aload_n 0, 1) := by decide +kernel
theorem dX2_exchangeSitters_19 : decode cX2_exchangeSitters 19 = .ok (.getfield 27, 3) := by decide +kernel
theorem dX2_exchangeSitters_22 : decode cX2_exchangeSitters 22 = .ok (.iload_n 1, 1) := by decide +kernel
theorem dX2_exchangeSitters_23 : decode cX2_exchangeSitters 23 = .ok (.iload_n 2, 1) := by decide +kernel
theorem dX2_exchangeSitters_24 : decode cX2_exchangeSitters 24 = .ok (.invokestatic 77, 3) := by decide +kernel
theorem dX2_exchangeSitters_27 : decode cX2_exchangeSitters 27 = .ok (.return_, 1) := by decide +kernel
theorem dX2_exchange_0 : decode cX2_exchange 0 = .ok (.aload_n 0, 1) := by decide +kernel
theorem dX2_exchange_1 : decode cX2_exchange 1 = .ok (.iload_n 1, 1) := by decide +kernel
theorem dX2_exchange_2 : decode cX2_exchange 2 = .ok (.iaload, 1) := by decide +kernel
theorem dX2_exchange_3 : decode cX2_exchange 3 = .ok (.istore_n 3, 1) := by decide +kernel
theorem dX2_exchange_4 : decode cX2_exchange 4 = .ok (.aload_n 0, 1) := by decide +kernel
theorem dX2_exchange_5 : decode cX2_exchange 5 = .ok (.iload_n 1, 1) := by decide +kernel
theorem dX2_exchange_6 : decode cX2_exchange 6 = .ok (.aload_n 0, 1) := by decide +kernel
theorem dX2_exchange_7 : decode cX2_exchange 7 = .ok (.iload_n 2, 1) := by decide +kernel
theorem dX2_exchange_8 : decode cX2_exchange 8 = .ok (.iaload, 1) := by decide +kernel
theorem dX2_exchange_9 : decode cX2_exchange 9 = .ok (.iastore, 1) := by decide +kernel
theorem dX2_exchange_10 : decode cX2_exchange 10 = .ok (.aload_n 0, 1) := by decide +kernel
theorem dX2_exchange_11 : decode cX2_exchange 11 = .ok (.iload_n 2, 1) := by decide +kernel
theorem dX2_exchange_12 : decode cX2_exchange 12 = .ok (.iload_n 3, 1) := by decide +kernel
theorem dX2_exchange_13 : decode cX2_exchange 13 = .ok (.iastore, 1) := by decide +kernel
theorem dX2_exchange_14 : decode cX2_exchange 14 = .ok (.return_, 1) := by decide +kernel
theorem dX2_reckonRanks_0 : decode cX2_reckonRanks 0 = .ok (.iconst 0, 1) := by decide +kernel
theorem dX2_reckonRanks_1 : decode cX2_reckonRanks 1 = .ok (.istore_n 1, 1) := by decide +kernel
theorem dX2_reckonRanks_2 : decode cX2_reckonRanks 2 = .ok (.iload_n 1, 1) := by decide +kernel
theorem dX2_reckonRanks_3 : decode cX2_reckonRanks 3 = .ok (.aload_n 0, 1) := by decide +kernel
theorem dX2_reckonRanks_4 : decode cX2_reckonRanks 4 = .ok (.getfield 39, 3) := by decide +kernel
theorem dX2_reckonRanks_7 : decode cX2_reckonRanks 7 = .ok (.if_icmp .ge 27, 3) := by decide +kernel
theorem dX2_reckonRanks_10 : decode cX2_reckonRanks 10 = .ok (.aload_n 0, 1) := by decide +kernel
theorem dX2_reckonRanks_11 : decode cX2_reckonRanks 11 = .ok (.getfield 30, 3) := by decide +kernel
theorem dX2_reckonRanks_14 : decode cX2_reckonRanks 14 = .ok (.iload_n 1, 1) := by decide +kernel
theorem dX2_reckonRanks_15 : decode cX2_reckonRanks 15 = .ok (.aload_n 0, 1) := by decide +kernel
theorem dX2_reckonRanks_16 : decode cX2_reckonRanks 16 = .ok (.iload_n 1, 1) := by decide +kernel
theorem dX2_reckonRanks_17 : decode cX2_reckonRanks 17 = .ok (.invokevirtual 61, 3) := by decide +kernel
theorem dX2_reckonRanks_20 : decode cX2_reckonRanks 20 = .ok (.iastore, 1) := by decide +kernel
theorem dX2_reckonRanks_21 : decode cX2_reckonRanks 21 = .ok (.aload_n 0, 1) := by decide +kernel
theorem dX2_reckonRanks_22 : decode cX2_reckonRanks 22 = .ok (.getfield 33, 3) := by decide +kernel
theorem dX2_reckonRanks_25 : decode cX2_reckonRanks 25 = .ok (.iload_n 1, 1) := by decide +kernel
theorem dX2_reckonRanks_26 : decode cX2_reckonRanks 26 = .ok (.iconst 0, 1) := by decide +kernel
theorem dX2_reckonRanks_27 : decode cX2_reckonRanks 27 = .ok (.iastore, 1) := by decide +kernel
theorem dX2_reckonRanks_28 : decode cX2_reckonRanks 28 = .ok (.iinc 1 1, 3) := by decide +kernel
theorem dX2_reckonRanks_31 : decode cX2_reckonRanks 31 = .ok (.goto (-29), 3) := by decide +kernel
theorem dX2_reckonRanks_34 : decode cX2_reckonRanks 34 = .ok (.iconst 0, 1) := by decide +kernel
theorem dX2_reckonRanks_35 : decode cX2_reckonRanks 35 = .ok (.istore_n 1, 1) := by decide +kernel
theorem dX2_reckonRanks_36 : decode cX2_reckonRanks 36 = .ok (.iload_n 1, 1) := by decide +kernel
theorem dX2_reckonRanks_37 : decode cX2_reckonRanks 37 = .ok (.aload_n 0, 1) := by decide +kernel
theorem dX2_reckonRanks_38 : decode cX2_reckonRanks 38 = .ok (.getfield 39, 3) := by decide +kernel
theorem dX2_reckonRanks_41 : decode cX2_reckonRanks 41 = .ok (.if_icmp .ge 65, 3) := by decide +kernel
theorem dX2_reckonRanks_44 : decode cX2_reckonRanks 44 = .ok (.iload_n 1, 1) := by decide +kernel
theorem dX2_reckonRanks_45 : decode cX2_reckonRanks 45 = .ok (.iconst 1, 1) := by decide +kernel
theorem dX2_reckonRanks_46 : decode cX2_reckonRanks 46 = .ok (.iadd, 1) := by decide +kernel
theorem dX2_reckonRanks_47 : decode cX2_reckonRanks 47 = .ok (.istore_n 2, 1) := by decide +kernel
theorem dX2_reckonRanks_48 : decode cX2_reckonRanks 48 = .ok (.iload_n 2, 1) := by decide +kernel
theorem dX2_reckonRanks_49 : decode cX2_reckonRanks 49 = .ok (.aload_n 0, 1) := by decide +kernel
theorem dX2_reckonRanks_50 : decode cX2_reckonRanks 50 = .ok (.getfield 39, 3) := by decide +kernel
theorem dX2_reckonRanks_53 : decode cX2_reckonRanks 53 = .ok (.if_icmp .ge 47, 3) := by decide +kernel
theorem dX2_reckonRanks_56 : decode cX2_reckonRanks 56 = .ok (.aload_n 0, 1) := by decide +kernel
theorem dX2_reckonRanks_57 : decode cX2_reckonRanks 57 = .ok (.getfield 30, 3) := by decide +kernel
theorem dX2_reckonRanks_60 : decode cX2_reckonRanks 60 = .ok (.iload_n 2, 1) := by decide +kernel
theorem dX2_reckonRanks_61 : decode cX2_reckonRanks 61 = .ok (.iaload, 1) := by decide +kernel
theorem dX2_reckonRanks_62 : decode cX2_reckonRanks 62 = .ok (.aload_n 0, 1) := by decide +kernel
theorem dX2_reckonRanks_63 : decode cX2_reckonRanks 63 = .ok (.getfield 30, 3) := by decide +kernel
theorem dX2_reckonRanks_66 : decode cX2_reckonRanks 66 = .ok (.iload_n 1, 1) := by decide +kernel
theorem dX2_reckonRanks_67 : decode cX2_reckonRanks 67 = .ok (.iaload, 1) := by decide +kernel
theorem dX2_reckonRanks_68 : decode cX2_reckonRanks 68 = .ok (.if_icmp .le 16, 3) := by decide +kernel
theorem dX2_reckonRanks_71 : decode cX2_reckonRanks 71 = .ok (.aload_n 0, 1) := by decide +kernel
theorem dX2_reckonRanks_72 : decode cX2_reckonRanks 72 = .ok (.getfield 33, 3) := by decide +kernel
theorem dX2_reckonRanks_75 : decode cX2_reckonRanks 75 = .ok (.iload_n 1, 1) := by decide +kernel
theorem dX2_reckonRanks_76 : decode cX2_reckonRanks 76 = .ok (.dup2, 1) := by decide +kernel
theorem dX2_reckonRanks_77 : decode cX2_reckonRanks 77 = .ok (.iaload, 1) := by decide +kernel
theorem dX2_reckonRanks_78 : decode cX2_reckonRanks 78 = .ok (.iconst 1, 1) := by decide +kernel
theorem dX2_reckonRanks_79 : decode cX2_reckonRanks 79 = .ok (.iadd, 1) := by decide +kernel
theorem dX2_reckonRanks_80 : decode cX2_reckonRanks 80 = .ok (.iastore, 1) := by decide +kernel
theorem dX2_reckonRanks_81 : decode cX2_reckonRanks 81 = .ok (.goto 13, 3) := by decide +kernel
theorem dX2_reckonRanks_84 : decode cX2_reckonRanks 84 = .ok (.aload_n 0, 1) := by decide +kernel
theorem dX2_reckonRanks_85 : decode cX2_reckonRanks 85 = .ok (.getfield 33, 3) := by decide +kernel
theorem dX2_reckonRanks_88 : decode cX2_reckonRanks 88 = .ok (.iload_n 2, 1) := by decide +kernel
theorem dX2_reckonRanks_89 : decode cX2_reckonRanks 89 = .ok (.dup2, 1) := by decide +kernel
theorem dX2_reckonRanks_90 : decode cX2_reckonRanks 90 = .ok (.iaload, 1) := by decide +kernel
theorem dX2_reckonRanks_91 : decode cX2_reckonRanks 91 = .ok (.iconst 1, 1) := by decide +kernel
theorem dX2_reckonRanks_92 : decode cX2_reckonRanks 92 = .ok (.iadd, 1) := by decide +kernel
theorem dX2_reckonRanks_93 : decode cX2_reckonRanks 93 = .ok (.iastore, 1) := by decide +kernel
theorem dX2_reckonRanks_94 : decode cX2_reckonRanks 94 = .ok (.iinc 2 1, 3) := by decide +kernel
theorem dX2_reckonRanks_97 : decode cX2_reckonRanks 97 = .ok (.goto (-49), 3) := by decide +kernel
theorem dX2_reckonRanks_100 : decode cX2_reckonRanks 100 = .ok (.iinc 1 1, 3) := by decide +kernel
theorem dX2_reckonRanks_103 : decode cX2_reckonRanks 103 = .ok (.goto (-67), 3) := by decide +kernel
theorem dX2_reckonRanks_106 : decode cX2_reckonRanks 106 = .ok (.iconst 0, 1) := by decide +kernel
theorem dX2_reckonRanks_107 : decode cX2_reckonRanks 107 = .ok (.istore_n 1, 1) := by decide +kernel
theorem dX2_reckonRanks_108 : decode cX2_reckonRanks 108 = .ok (.iload_n 1, 1) := by decide +kernel
theorem dX2_reckonRanks_109 : decode cX2_reckonRanks 109 = .ok (.aload_n 0, 1) := by decide +kernel
theorem dX2_reckonRanks_110 : decode cX2_reckonRanks 110 = .ok (.getfield 39, 3) := by decide +kernel
theorem dX2_reckonRanks_113 : decode cX2_reckonRanks 113 = .ok (.if_icmp .ge 21, 3) := by decide +kernel
theorem dX2_reckonRanks_116 : decode cX2_reckonRanks 116 = .ok (.aload_n 0, 1) := by decide +kernel
theorem dX2_reckonRanks_117 : decode cX2_reckonRanks 117 = .ok (.getfield 36, 3) := by decide +kernel
theorem dX2_reckonRanks_120 : decode cX2_reckonRanks 120 = .ok (.aload_n 0, 1) := by decide +kernel
theorem dX2_reckonRanks_121 : decode cX2_reckonRanks 121 = .ok (.getfield 33, 3) := by decide +kernel
theorem dX2_reckonRanks_124 : decode cX2_reckonRanks 124 = .ok (.iload_n 1, 1) := by decide +kernel
theorem dX2_reckonRanks_125 : decode cX2_reckonRanks 125 = .ok (.iaload, 1) := by decide +kernel
theorem dX2_reckonRanks_126 : decode cX2_reckonRanks 126 = .ok (.iload_n 1, 1) := by decide +kernel
theorem dX2_reckonRanks_127 : decode cX2_reckonRanks 127 = .ok (.iastore, 1) := by decide +kernel
theorem dX2_reckonRanks_128 : decode cX2_reckonRanks 128 = .ok (.iinc 1 1, 3) := by decide +kernel
theorem dX2_reckonRanks_131 : decode cX2_reckonRanks 131 = .ok (.goto (-23), 3) := by decide +kernel
theorem dX2_reckonRanks_134 : decode cX2_reckonRanks 134 = .ok (.return_, 1) := by decide +kernel
theorem dX2_preyByRanks_0 : decode cX2_preyByRanks 0 = .ok (.aload_n 0, 1) := by decide +kernel
theorem dX2_preyByRanks_1 : decode cX2_preyByRanks 1 = .ok (.getfield 21, 3) := by decide +kernel
theorem dX2_preyByRanks_4 : decode cX2_preyByRanks 4 = .ok (.iload_n 1, 1) := by decide +kernel
theorem dX2_preyByRanks_5 : decode cX2_preyByRanks 5 = .ok (.iaload, 1) := by decide +kernel
theorem dX2_preyByRanks_6 : decode cX2_preyByRanks 6 = .ok (.iconst 1, 1) := by decide +kernel
theorem dX2_preyByRanks_7 : decode cX2_preyByRanks 7 = .ok (.if_icmp .ge 6, 3) := by decide +kernel
theorem dX2_preyByRanks_10 : decode cX2_preyByRanks 10 = .ok (.ldc 81, 2) := by decide +kernel
theorem dX2_preyByRanks_12 : decode cX2_preyByRanks 12 = .ok (.ireturn, 1) := by decide +kernel
theorem dX2_preyByRanks_13 : decode cX2_preyByRanks 13 = .ok (.aload_n 0, 1) := by decide +kernel
theorem dX2_preyByRanks_14 : decode cX2_preyByRanks 14 = .ok (.getfield 33, 3) := by decide +kernel
theorem dX2_preyByRanks_17 : decode cX2_preyByRanks 17 = .ok (.iload_n 1, 1) := by decide +kernel
theorem dX2_preyByRanks_18 : decode cX2_preyByRanks 18 = .ok (.iaload, 1) := by decide +kernel
theorem dX2_preyByRanks_19 : decode cX2_preyByRanks 19 = .ok (.ifCond .ne 7, 3) := by decide +kernel
theorem dX2_preyByRanks_22 : decode cX2_preyByRanks 22 = .ok (.iconst 1, 1) := by decide +kernel
theorem dX2_preyByRanks_23 : decode cX2_preyByRanks 23 = .ok (.goto 4, 3) := by decide +kernel
theorem dX2_preyByRanks_26 : decode cX2_preyByRanks 26 = .ok (.iconst 0, 1) := by decide +kernel
theorem dX2_preyByRanks_27 : decode cX2_preyByRanks 27 = .ok (.istore_n 2, 1) := by decide +kernel
theorem dX2_preyByRanks_28 : decode cX2_preyByRanks 28 = .ok (.aload_n 0, 1) := by decide +kernel
theorem dX2_preyByRanks_29 : decode cX2_preyByRanks 29 = .ok (.getfield 24, 3) := by decide +kernel
theorem dX2_preyByRanks_32 : decode cX2_preyByRanks 32 = .ok (.iload_n 1, 1) := by decide +kernel
theorem dX2_preyByRanks_33 : decode cX2_preyByRanks 33 = .ok (.iaload, 1) := by decide +kernel
theorem dX2_preyByRanks_34 : decode cX2_preyByRanks 34 = .ok (.tableswitch 96 1 3 #[26, 49, 65], 26) := by decide +kernel
theorem dX2_preyByRanks_60 : decode cX2_preyByRanks 60 = .ok (.iload_n 2, 1) := by decide +kernel
theorem dX2_preyByRanks_61 : decode cX2_preyByRanks 61 = .ok (.ifCond .eq 8, 3) := by decide +kernel
theorem dX2_preyByRanks_64 : decode cX2_preyByRanks 64 = .ok (.ldc 81, 2) := by decide +kernel
theorem dX2_preyByRanks_66 : decode cX2_preyByRanks 66 = .ok (.goto 16, 3) := by decide +kernel
theorem dX2_preyByRanks_69 : decode cX2_preyByRanks 69 = .ok (.aload_n 0, 1) := by decide +kernel
theorem dX2_preyByRanks_70 : decode cX2_preyByRanks 70 = .ok (.getfield 36, 3) := by decide +kernel
theorem dX2_preyByRanks_73 : decode cX2_preyByRanks 73 = .ok (.aload_n 0, 1) := by decide +kernel
theorem dX2_preyByRanks_74 : decode cX2_preyByRanks 74 = .ok (.getfield 33, 3) := by decide +kernel
theorem dX2_preyByRanks_77 : decode cX2_preyByRanks 77 = .ok (.iload_n 1, 1) := by decide +kernel
theorem dX2_preyByRanks_78 : decode cX2_preyByRanks 78 = .ok (.iaload, 1) := by decide +kernel
theorem dX2_preyByRanks_79 : decode cX2_preyByRanks 79 = .ok (.iconst 1, 1) := by decide +kernel
theorem dX2_preyByRanks_80 : decode cX2_preyByRanks 80 = .ok (.isub, 1) := by decide +kernel
theorem dX2_preyByRanks_81 : decode cX2_preyByRanks 81 = .ok (.iaload, 1) := by decide +kernel
theorem dX2_preyByRanks_82 : decode cX2_preyByRanks 82 = .ok (.ireturn, 1) := by decide +kernel
theorem dX2_preyByRanks_83 : decode cX2_preyByRanks 83 = .ok (.iload_n 2, 1) := by decide +kernel
theorem dX2_preyByRanks_84 : decode cX2_preyByRanks 84 = .ok (.ifCond .eq 8, 3) := by decide +kernel
theorem dX2_preyByRanks_87 : decode cX2_preyByRanks 87 = .ok (.ldc 81, 2) := by decide +kernel
theorem dX2_preyByRanks_89 : decode cX2_preyByRanks 89 = .ok (.goto 9, 3) := by decide +kernel
theorem dX2_preyByRanks_92 : decode cX2_preyByRanks 92 = .ok (.aload_n 0, 1) := by decide +kernel
theorem dX2_preyByRanks_93 : decode cX2_preyByRanks 93 = .ok (.getfield 36, 3) := by decide +kernel
theorem dX2_preyByRanks_96 : decode cX2_preyByRanks 96 = .ok (.iconst 0, 1) := by decide +kernel
theorem dX2_preyByRanks_97 : decode cX2_preyByRanks 97 = .ok (.iaload, 1) := by decide +kernel
theorem dX2_preyByRanks_98 : decode cX2_preyByRanks 98 = .ok (.ireturn, 1) := by decide +kernel
theorem dX2_preyByRanks_99 : decode cX2_preyByRanks 99 = .ok (.aload_n 0, 1) := by decide +kernel
theorem dX2_preyByRanks_100 : decode cX2_preyByRanks 100 = .ok (.getfield 39, 3) := by decide +kernel
theorem dX2_preyByRanks_103 : decode cX2_preyByRanks 103 = .ok (.iconst 2, 1) := by decide +kernel
theorem dX2_preyByRanks_104 : decode cX2_preyByRanks 104 = .ok (.if_icmp .ge 8, 3) := by decide +kernel
theorem dX2_preyByRanks_107 : decode cX2_preyByRanks 107 = .ok (.ldc 81, 2) := by decide +kernel
theorem dX2_preyByRanks_109 : decode cX2_preyByRanks 109 = .ok (.goto 20, 3) := by decide +kernel
theorem dX2_preyByRanks_112 : decode cX2_preyByRanks 112 = .ok (.iload_n 1, 1) := by decide +kernel
theorem dX2_preyByRanks_113 : decode cX2_preyByRanks 113 = .ok (.iconst 1, 1) := by decide +kernel
theorem dX2_preyByRanks_114 : decode cX2_preyByRanks 114 = .ok (.iadd, 1) := by decide +kernel
theorem dX2_preyByRanks_115 : decode cX2_preyByRanks 115 = .ok (.aload_n 0, 1) := by decide +kernel
theorem dX2_preyByRanks_116 : decode cX2_preyByRanks 116 = .ok (.getfield 39, 3) := by decide +kernel
theorem dX2_preyByRanks_119 : decode cX2_preyByRanks 119 = .ok (.if_icmp .ge 9, 3) := by decide +kernel
theorem dX2_preyByRanks_122 : decode cX2_preyByRanks 122 = .ok (.iload_n 1, 1) := by decide +kernel
theorem dX2_preyByRanks_123 : decode cX2_preyByRanks 123 = .ok (.iconst 1, 1) := by decide +kernel
theorem dX2_preyByRanks_124 : decode cX2_preyByRanks 124 = .ok (.iadd, 1) := by decide +kernel
theorem dX2_preyByRanks_125 : decode cX2_preyByRanks 125 = .ok (.goto 4, 3) := by decide +kernel
theorem dX2_preyByRanks_128 : decode cX2_preyByRanks 128 = .ok (.iconst 0, 1) := by decide +kernel
theorem dX2_preyByRanks_129 : decode cX2_preyByRanks 129 = .ok (.ireturn, 1) := by decide +kernel
theorem dX2_preyByRanks_130 : decode cX2_preyByRanks 130 = .ok (.ldc 81, 2) := by decide +kernel
theorem dX2_preyByRanks_132 : decode cX2_preyByRanks 132 = .ok (.ireturn, 1) := by decide +kernel
theorem dX2_passNight_0 : decode cX2_passNight 0 = .ok (.aload_n 0, 1) := by decide +kernel
theorem dX2_passNight_1 : decode cX2_passNight 1 = .ok (.invokevirtual 65, 3) := by decide +kernel
theorem dX2_passNight_4 : decode cX2_passNight 4 = .ok (.iconst 0, 1) := by decide +kernel
theorem dX2_passNight_5 : decode cX2_passNight 5 = .ok (.istore_n 1, 1) := by decide +kernel
theorem dX2_passNight_6 : decode cX2_passNight 6 = .ok (.iconst 0, 1) := by decide +kernel
theorem dX2_passNight_7 : decode cX2_passNight 7 = .ok (.istore_n 2, 1) := by decide +kernel
theorem dX2_passNight_8 : decode cX2_passNight 8 = .ok (.iload_n 2, 1) := by decide +kernel
theorem dX2_passNight_9 : decode cX2_passNight 9 = .ok (.aload_n 0, 1) := by decide +kernel
theorem dX2_passNight_10 : decode cX2_passNight 10 = .ok (.getfield 39, 3) := by decide +kernel
theorem dX2_passNight_13 : decode cX2_passNight 13 = .ok (.if_icmp .ge 71, 3) := by decide +kernel
theorem dX2_passNight_16 : decode cX2_passNight 16 = .ok (.aload_n 0, 1) := by decide +kernel
theorem dX2_passNight_17 : decode cX2_passNight 17 = .ok (.iload_n 2, 1) := by decide +kernel
theorem dX2_passNight_18 : decode cX2_passNight 18 = .ok (.invokevirtual 68, 3) := by decide +kernel
theorem dX2_passNight_21 : decode cX2_passNight 21 = .ok (.istore_n 3, 1) := by decide +kernel
theorem dX2_passNight_22 : decode cX2_passNight 22 = .ok (.iload_n 3, 1) := by decide +kernel
theorem dX2_passNight_23 : decode cX2_passNight 23 = .ok (.ldc 81, 2) := by decide +kernel
theorem dX2_passNight_25 : decode cX2_passNight 25 = .ok (.if_icmp .ne 6, 3) := by decide +kernel
theorem dX2_passNight_28 : decode cX2_passNight 28 = .ok (.goto 50, 3) := by decide +kernel
theorem dX2_passNight_31 : decode cX2_passNight 31 = .ok (.aload_n 0, 1) := by decide +kernel
theorem dX2_passNight_32 : decode cX2_passNight 32 = .ok (.iload_n 3, 1) := by decide +kernel
theorem dX2_passNight_33 : decode cX2_passNight 33 = .ok (.invokevirtual 82, 3) := by decide +kernel
theorem dX2_passNight_36 : decode cX2_passNight 36 = .ok (.ifCond .eq 26, 3) := by decide +kernel
theorem dX2_passNight_39 : decode cX2_passNight 39 = .ok (.aload_n 0, 1) := by decide +kernel
theorem dX2_passNight_40 : decode cX2_passNight 40 = .ok (.getfield 27, 3) := by decide +kernel
theorem dX2_passNight_43 : decode cX2_passNight 43 = .ok (.iload_n 2, 1) := by decide +kernel
theorem dX2_passNight_44 : decode cX2_passNight 44 = .ok (.dup2, 1) := by decide +kernel
theorem dX2_passNight_45 : decode cX2_passNight 45 = .ok (.iaload, 1) := by decide +kernel
theorem dX2_passNight_46 : decode cX2_passNight 46 = .ok (.iconst 1, 1) := by decide +kernel
theorem dX2_passNight_47 : decode cX2_passNight 47 = .ok (.iadd, 1) := by decide +kernel
theorem dX2_passNight_48 : decode cX2_passNight 48 = .ok (.iastore, 1) := by decide +kernel
theorem dX2_passNight_49 : decode cX2_passNight 49 = .ok (.aload_n 0, 1) := by decide +kernel
theorem dX2_passNight_50 : decode cX2_passNight 50 = .ok (.getfield 21, 3) := by decide +kernel
theorem dX2_passNight_53 : decode cX2_passNight 53 = .ok (.iload_n 2, 1) := by decide +kernel
theorem dX2_passNight_54 : decode cX2_passNight 54 = .ok (.dup2, 1) := by decide +kernel
theorem dX2_passNight_55 : decode cX2_passNight 55 = .ok (.iaload, 1) := by decide +kernel
theorem dX2_passNight_56 : decode cX2_passNight 56 = .ok (.iconst 1, 1) := by decide +kernel
theorem dX2_passNight_57 : decode cX2_passNight 57 = .ok (.isub, 1) := by decide +kernel
theorem dX2_passNight_58 : decode cX2_passNight 58 = .ok (.iastore, 1) := by decide +kernel
theorem dX2_passNight_59 : decode cX2_passNight 59 = .ok (.goto 19, 3) := by decide +kernel
theorem dX2_passNight_62 : decode cX2_passNight 62 = .ok (.aload_n 0, 1) := by decide +kernel
theorem dX2_passNight_63 : decode cX2_passNight 63 = .ok (.iload_n 3, 1) := by decide +kernel
theorem dX2_passNight_64 : decode cX2_passNight 64 = .ok (.aload_n 0, 1) := by decide +kernel
theorem dX2_passNight_65 : decode cX2_passNight 65 = .ok (.getfield 21, 3) := by decide +kernel
theorem dX2_passNight_68 : decode cX2_passNight 68 = .ok (.iload_n 2, 1) := by decide +kernel
theorem dX2_passNight_69 : decode cX2_passNight 69 = .ok (.iaload, 1) := by decide +kernel
theorem dX2_passNight_70 : decode cX2_passNight 70 = .ok (.invokevirtual 86, 3) := by decide +kernel
theorem dX2_passNight_73 : decode cX2_passNight 73 = .ok (.ifCond .eq 5, 3) := by decide +kernel
theorem dX2_passNight_76 : decode cX2_passNight 76 = .ok (.iconst 1, 1) := by decide +kernel
theorem dX2_passNight_77 : decode cX2_passNight 77 = .ok (.istore_n 1, 1) := by decide +kernel
theorem dX2_passNight_78 : decode cX2_passNight 78 = .ok (.iinc 2 1, 3) := by decide +kernel
theorem dX2_passNight_81 : decode cX2_passNight 81 = .ok (.goto (-73), 3) := by decide +kernel
theorem dX2_passNight_84 : decode cX2_passNight 84 = .ok (.aload_n 0, 1) := by decide +kernel
theorem dX2_passNight_85 : decode cX2_passNight 85 = .ok (.dup, 1) := by decide +kernel
theorem dX2_passNight_86 : decode cX2_passNight 86 = .ok (.getfield 43, 3) := by decide +kernel
theorem dX2_passNight_89 : decode cX2_passNight 89 = .ok (.iconst 1, 1) := by decide +kernel
theorem dX2_passNight_90 : decode cX2_passNight 90 = .ok (.iadd, 1) := by decide +kernel
theorem dX2_passNight_91 : decode cX2_passNight 91 = .ok (.putfield 43, 3) := by decide +kernel
theorem dX2_passNight_94 : decode cX2_passNight 94 = .ok (.iload_n 1, 1) := by decide +kernel
theorem dX2_passNight_95 : decode cX2_passNight 95 = .ok (.ireturn, 1) := by decide +kernel
theorem dX2_sawLeg_0 : decode cX2_sawLeg 0 = .ok (.aload_n 0, 1) := by decide +kernel
theorem dX2_sawLeg_1 : decode cX2_sawLeg 1 = .ok (.getfield 9, 3) := by decide +kernel
theorem dX2_sawLeg_4 : decode cX2_sawLeg 4 = .ok (.iload_n 1, 1) := by decide +kernel
theorem dX2_sawLeg_5 : decode cX2_sawLeg 5 = .ok (.iaload, 1) := by decide +kernel
theorem dX2_sawLeg_6 : decode cX2_sawLeg 6 = .ok (.iconst 4, 1) := by decide +kernel
theorem dX2_sawLeg_7 : decode cX2_sawLeg 7 = .ok (.if_icmp .eq 13, 3) := by decide +kernel
theorem dX2_sawLeg_10 : decode cX2_sawLeg 10 = .ok (.aload_n 0, 1) := by decide +kernel
theorem dX2_sawLeg_11 : decode cX2_sawLeg 11 = .ok (.getfield 9, 3) := by decide +kernel
theorem dX2_sawLeg_14 : decode cX2_sawLeg 14 = .ok (.iload_n 1, 1) := by decide +kernel
theorem dX2_sawLeg_15 : decode cX2_sawLeg 15 = .ok (.iaload, 1) := by decide +kernel
theorem dX2_sawLeg_16 : decode cX2_sawLeg 16 = .ok (.iconst 5, 1) := by decide +kernel
theorem dX2_sawLeg_17 : decode cX2_sawLeg 17 = .ok (.if_icmp .ne 7, 3) := by decide +kernel
theorem dX2_sawLeg_20 : decode cX2_sawLeg 20 = .ok (.iconst 1, 1) := by decide +kernel
theorem dX2_sawLeg_21 : decode cX2_sawLeg 21 = .ok (.goto 4, 3) := by decide +kernel
theorem dX2_sawLeg_24 : decode cX2_sawLeg 24 = .ok (.iconst 0, 1) := by decide +kernel
theorem dX2_sawLeg_25 : decode cX2_sawLeg 25 = .ok (.istore_n 3, 1) := by decide +kernel
theorem dX2_sawLeg_26 : decode cX2_sawLeg 26 = .ok (.aload_n 0, 1) := by decide +kernel
theorem dX2_sawLeg_27 : decode cX2_sawLeg 27 = .ok (.getfield 15, 3) := by decide +kernel
theorem dX2_sawLeg_30 : decode cX2_sawLeg 30 = .ok (.iload_n 1, 1) := by decide +kernel
theorem dX2_sawLeg_31 : decode cX2_sawLeg 31 = .ok (.iaload, 1) := by decide +kernel
theorem dX2_sawLeg_32 : decode cX2_sawLeg 32 = .ok (.istore 4, 2) := by decide +kernel
theorem dX2_sawLeg_34 : decode cX2_sawLeg 34 = .ok (.aload_n 0, 1) := by decide +kernel
theorem dX2_sawLeg_35 : decode cX2_sawLeg 35 = .ok (.getfield 15, 3) := by decide +kernel
theorem dX2_sawLeg_38 : decode cX2_sawLeg 38 = .ok (.iload_n 1, 1) := by decide +kernel
theorem dX2_sawLeg_39 : decode cX2_sawLeg 39 = .ok (.iconst 0, 1) := by decide +kernel
theorem dX2_sawLeg_40 : decode cX2_sawLeg 40 = .ok (.iload 4, 2) := by decide +kernel
theorem dX2_sawLeg_42 : decode cX2_sawLeg 42 = .ok (.iload_n 3, 1) := by decide +kernel
theorem dX2_sawLeg_43 : decode cX2_sawLeg 43 = .ok (.ifCond .eq 9, 3) := by decide +kernel
theorem dX2_sawLeg_46 : decode cX2_sawLeg 46 = .ok (.iload_n 2, 1) := by decide +kernel
theorem dX2_sawLeg_47 : decode cX2_sawLeg 47 = .ok (.iconst 2, 1) := by decide +kernel
theorem dX2_sawLeg_48 : decode cX2_sawLeg 48 = .ok (.idiv, 1) := by decide +kernel
theorem dX2_sawLeg_49 : decode cX2_sawLeg 49 = .ok (.goto 4, 3) := by decide +kernel
theorem dX2_sawLeg_52 : decode cX2_sawLeg 52 = .ok (.iload_n 2, 1) := by decide +kernel
theorem dX2_sawLeg_53 : decode cX2_sawLeg 53 = .ok (.isub, 1) := by decide +kernel
theorem dX2_sawLeg_54 : decode cX2_sawLeg 54 = .ok (.invokestatic 90, 3) := by decide +kernel
theorem dX2_sawLeg_57 : decode cX2_sawLeg 57 = .ok (.iastore, 1) := by decide +kernel
theorem dX2_sawLeg_58 : decode cX2_sawLeg 58 = .ok (.aload_n 0, 1) := by decide +kernel
theorem dX2_sawLeg_59 : decode cX2_sawLeg 59 = .ok (.getfield 15, 3) := by decide +kernel
theorem dX2_sawLeg_62 : decode cX2_sawLeg 62 = .ok (.iload_n 1, 1) := by decide +kernel
theorem dX2_sawLeg_63 : decode cX2_sawLeg 63 = .ok (.iaload, 1) := by decide +kernel
theorem dX2_sawLeg_64 : decode cX2_sawLeg 64 = .ok (.iload 4, 2) := by decide +kernel
theorem dX2_sawLeg_66 : decode cX2_sawLeg 66 = .ok (.if_icmp .ge 7, 3) := by decide +kernel
theorem dX2_sawLeg_69 : decode cX2_sawLeg 69 = .ok (.iconst 1, 1) := by decide +kernel
theorem dX2_sawLeg_70 : decode cX2_sawLeg 70 = .ok (.goto 4, 3) := by decide +kernel
theorem dX2_sawLeg_73 : decode cX2_sawLeg 73 = .ok (.iconst 0, 1) := by decide +kernel
theorem dX2_sawLeg_74 : decode cX2_sawLeg 74 = .ok (.ireturn, 1) := by decide +kernel
theorem dX2_passNights_0 : decode cX2_passNights 0 = .ok (.iconst 0, 1) := by decide +kernel
theorem dX2_passNights_1 : decode cX2_passNights 1 = .ok (.istore_n 2, 1) := by decide +kernel
theorem dX2_passNights_2 : decode cX2_passNights 2 = .ok (.iload_n 2, 1) := by decide +kernel
theorem dX2_passNights_3 : decode cX2_passNights 3 = .ok (.iload_n 1, 1) := by decide +kernel
theorem dX2_passNights_4 : decode cX2_passNights 4 = .ok (.if_icmp .ge 17, 3) := by decide +kernel
theorem dX2_passNights_7 : decode cX2_passNights 7 = .ok (.aload_n 0, 1) := by decide +kernel
theorem dX2_passNights_8 : decode cX2_passNights 8 = .ok (.invokevirtual 93, 3) := by decide +kernel
theorem dX2_passNights_11 : decode cX2_passNights 11 = .ok (.ifCond .ne 4, 3) := by decide +kernel
theorem dX2_passNights_14 : decode cX2_passNights 14 = .ok (.return_, 1) := by decide +kernel
theorem dX2_passNights_15 : decode cX2_passNights 15 = .ok (.iinc 2 1, 3) := by decide +kernel
theorem dX2_passNights_18 : decode cX2_passNights 18 = .ok (.goto (-16), 3) := by decide +kernel
theorem dX2_passNights_21 : decode cX2_passNights 21 = .ok (.return_, 1) := by decide +kernel
theorem dX3_init_0 : decode cX3_init 0 = .ok (.aload_n 0, 1) := by decide +kernel
theorem dX3_init_1 : decode cX3_init 1 = .ok (.invokespecial 3, 3) := by decide +kernel
theorem dX3_init_4 : decode cX3_init 4 = .ok (.aload_n 0, 1) := by decide +kernel
theorem dX3_init_5 : decode cX3_init 5 = .ok (.bipush 40, 2) := by decide +kernel
theorem dX3_init_7 : decode cX3_init 7 = .ok (.newarray .int, 2) := by decide +kernel
theorem dX3_init_9 : decode cX3_init 9 = .ok (.putfield 9, 3) := by decide +kernel
theorem dX3_init_12 : decode cX3_init 12 = .ok (.aload_n 0, 1) := by decide +kernel
theorem dX3_init_13 : decode cX3_init 13 = .ok (.iconst (-1), 1) := by decide +kernel
theorem dX3_init_14 : decode cX3_init 14 = .ok (.putfield 15, 3) := by decide +kernel
theorem dX3_init_17 : decode cX3_init 17 = .ok (.return_, 1) := by decide +kernel
theorem dX3_isMissing_0 : decode cX3_isMissing 0 = .ok (.aload_n 0, 1) := by decide +kernel
theorem dX3_isMissing_1 : decode cX3_isMissing 1 = .ok (.getfield 15, 3) := by decide +kernel
theorem dX3_isMissing_4 : decode cX3_isMissing 4 = .ok (.iconst (-1), 1) := by decide +kernel
theorem dX3_isMissing_5 : decode cX3_isMissing 5 = .ok (.if_icmp .ne 7, 3) := by decide +kernel
theorem dX3_isMissing_8 : decode cX3_isMissing 8 = .ok (.iconst 1, 1) := by decide +kernel
theorem dX3_isMissing_9 : decode cX3_isMissing 9 = .ok (.goto 4, 3) := by decide +kernel
theorem dX3_isMissing_12 : decode cX3_isMissing 12 = .ok (.iconst 0, 1) := by decide +kernel
theorem dX3_isMissing_13 : decode cX3_isMissing 13 = .ok (.ireturn, 1) := by decide +kernel
theorem dX3_begin_0 : decode cX3_begin 0 = .ok (.aload_n 0, 1) := by decide +kernel
theorem dX3_begin_1 : decode cX3_begin 1 = .ok (.iload_n 1, 1) := by decide +kernel
theorem dX3_begin_2 : decode cX3_begin 2 = .ok (.putfield 15, 3) := by decide +kernel
theorem dX3_begin_5 : decode cX3_begin 5 = .ok (.aload_n 0, 1) := by decide +kernel
theorem dX3_begin_6 : decode cX3_begin 6 = .ok (.iload_n 2, 1) := by decide +kernel
theorem dX3_begin_7 : decode cX3_begin 7 = .ok (.putfield 19, 3) := by decide +kernel
theorem dX3_begin_10 : decode cX3_begin 10 = .ok (.aload_n 0, 1) := by decide +kernel
theorem dX3_begin_11 : decode cX3_begin 11 = .ok (.getfield 9, 3) := by decide +kernel
theorem dX3_begin_14 : decode cX3_begin 14 = .ok (.iconst 0, 1) := by decide +kernel
theorem dX3_begin_15 : decode cX3_begin 15 = .ok (.invokestatic 22, 3) := by decide +kernel
theorem dX3_begin_18 : decode cX3_begin 18 = .ok (.return_, 1) := by decide +kernel
theorem dX3_end_0 : decode cX3_end 0 = .ok (.aload_n 0, 1) := by decide +kernel
theorem dX3_end_1 : decode cX3_end 1 = .ok (.iconst (-1), 1) := by decide +kernel
theorem dX3_end_2 : decode cX3_end 2 = .ok (.putfield 15, 3) := by decide +kernel
theorem dX3_end_5 : decode cX3_end 5 = .ok (.aload_n 0, 1) := by decide +kernel
theorem dX3_end_6 : decode cX3_end 6 = .ok (.getfield 19, 3) := by decide +kernel
theorem dX3_end_9 : decode cX3_end 9 = .ok (.ireturn, 1) := by decide +kernel
theorem dX3_holds_0 : decode cX3_holds 0 = .ok (.iload_n 1, 1) := by decide +kernel
theorem dX3_holds_1 : decode cX3_holds 1 = .ok (.ifCond .lt 21, 3) := by decide +kernel
theorem dX3_holds_4 : decode cX3_holds 4 = .ok (.iload_n 2, 1) := by decide +kernel
theorem dX3_holds_5 : decode cX3_holds 5 = .ok (.ifCond .lt 17, 3) := by decide +kernel
theorem dX3_holds_8 : decode cX3_holds 8 = .ok (.iload_n 1, 1) := by decide +kernel
theorem dX3_holds_9 : decode cX3_holds 9 = .ok (.aload_n 0, 1) := by decide +kernel
theorem dX3_holds_10 : decode cX3_holds 10 = .ok (.getfield 19, 3) := by decide +kernel
theorem dX3_holds_13 : decode cX3_holds 13 = .ok (.iload_n 2, 1) := by decide +kernel
theorem dX3_holds_14 : decode cX3_holds 14 = .ok (.isub, 1) := by decide +kernel
theorem dX3_holds_15 : decode cX3_holds 15 = .ok (.if_icmp .gt 7, 3) := by decide +kernel
theorem dX3_holds_18 : decode cX3_holds 18 = .ok (.iconst 1, 1) := by decide +kernel
theorem dX3_holds_19 : decode cX3_holds 19 = .ok (.goto 4, 3) := by decide +kernel
theorem dX3_holds_22 : decode cX3_holds 22 = .ok (.iconst 0, 1) := by decide +kernel
theorem dX3_holds_23 : decode cX3_holds 23 = .ok (.ireturn, 1) := by decide +kernel
theorem dX3_put_0 : decode cX3_put 0 = .ok (.aload_n 0, 1) := by decide +kernel
theorem dX3_put_1 : decode cX3_put 1 = .ok (.getfield 9, 3) := by decide +kernel
theorem dX3_put_4 : decode cX3_put 4 = .ok (.iload_n 1, 1) := by decide +kernel
theorem dX3_put_5 : decode cX3_put 5 = .ok (.aload_n 0, 1) := by decide +kernel
theorem dX3_put_6 : decode cX3_put 6 = .ok (.getfield 15, 3) := by decide +kernel
theorem dX3_put_9 : decode cX3_put 9 = .ok (.ifCond .ne 8, 3) := by decide +kernel
theorem dX3_put_12 : decode cX3_put 12 = .ok (.iload_n 2, 1) := by decide +kernel
theorem dX3_put_13 : decode cX3_put 13 = .ok (.i2b, 1) := by decide +kernel
theorem dX3_put_14 : decode cX3_put 14 = .ok (.goto 17, 3) := by decide +kernel
theorem dX3_put_17 : decode cX3_put 17 = .ok (.aload_n 0, 1) := by decide +kernel
theorem dX3_put_18 : decode cX3_put 18 = .ok (.getfield 15, 3) := by decide +kernel
theorem dX3_put_21 : decode cX3_put 21 = .ok (.iconst 1, 1) := by decide +kernel
theorem dX3_put_22 : decode cX3_put 22 = .ok (.if_icmp .ne 8, 3) := by decide +kernel
theorem dX3_put_25 : decode cX3_put 25 = .ok (.iload_n 2, 1) := by decide +kernel
theorem dX3_put_26 : decode cX3_put 26 = .ok (.i2s, 1) := by decide +kernel
theorem dX3_put_27 : decode cX3_put 27 = .ok (.goto 4, 3) := by decide +kernel
theorem dX3_put_30 : decode cX3_put 30 = .ok (.iload_n 2, 1) := by decide +kernel
theorem dX3_put_31 : decode cX3_put 31 = .ok (.iastore, 1) := by decide +kernel
theorem dX3_put_32 : decode cX3_put 32 = .ok (.aload_n 0, 1) := by decide +kernel
theorem dX3_put_33 : decode cX3_put 33 = .ok (.getfield 9, 3) := by decide +kernel
theorem dX3_put_36 : decode cX3_put 36 = .ok (.iload_n 1, 1) := by decide +kernel
theorem dX3_put_37 : decode cX3_put 37 = .ok (.iaload, 1) := by decide +kernel
theorem dX3_put_38 : decode cX3_put 38 = .ok (.ireturn, 1) := by decide +kernel
theorem dX4_init_0 : decode cX4_init 0 = .ok (.aload_n 0, 1) := by decide +kernel
theorem dX4_init_1 : decode cX4_init 1 = .ok (.invokespecial 3, 3) := by decide +kernel
theorem dX4_init_4 : decode cX4_init 4 = .ok (.aload_n 0, 1) := by decide +kernel
theorem dX4_init_5 : decode cX4_init 5 = .ok (.bipush 120, 2) := by decide +kernel
theorem dX4_init_7 : decode cX4_init 7 = .ok (.newarray .int, 2) := by decide +kernel
theorem dX4_init_9 : decode cX4_init 9 = .ok (.putfield 9, 3) := by decide +kernel
theorem dX4_init_12 : decode cX4_init 12 = .ok (.return_, 1) := by decide +kernel
theorem dX4_add_0 : decode cX4_add 0 = .ok (.aload_n 0, 1) := by decide +kernel
theorem dX4_add_1 : decode cX4_add 1 = .ok (.getfield 15, 3) := by decide +kernel
theorem dX4_add_4 : decode cX4_add 4 = .ok (.bipush 120, 2) := by decide +kernel
theorem dX4_add_6 : decode cX4_add 6 = .ok (.if_icmp .lt 5, 3) := by decide +kernel
theorem dX4_add_9 : decode cX4_add 9 = .ok (.iconst 0, 1) := by decide +kernel
theorem dX4_add_10 : decode cX4_add 10 = .ok (.ireturn, 1) := by decide +kernel
theorem dX4_add_11 : decode cX4_add 11 = .ok (.aload_n 0, 1) := by decide +kernel
theorem dX4_add_12 : decode cX4_add 12 = .ok (.getfield 9, 3) := by decide +kernel
theorem dX4_add_15 : decode cX4_add 15 = .ok (.aload_n 0, 1) := by decide +kernel
theorem dX4_add_16 : decode cX4_add 16 = .ok (.getfield 15, 3) := by decide +kernel
theorem dX4_add_19 : decode cX4_add 19 = .ok (.iload_n 1, 1) := by decide +kernel
theorem dX4_add_20 : decode cX4_add 20 = .ok (.iastore, 1) := by decide +kernel
theorem dX4_add_21 : decode cX4_add 21 = .ok (.aload_n 0, 1) := by decide +kernel
theorem dX4_add_22 : decode cX4_add 22 = .ok (.dup, 1) := by decide +kernel
theorem dX4_add_23 : decode cX4_add 23 = .ok (.getfield 15, 3) := by decide +kernel
theorem dX4_add_26 : decode cX4_add 26 = .ok (.iconst 1, 1) := by decide +kernel
theorem dX4_add_27 : decode cX4_add 27 = .ok (.iadd, 1) := by decide +kernel
theorem dX4_add_28 : decode cX4_add 28 = .ok (.putfield 15, 3) := by decide +kernel
theorem dX4_add_31 : decode cX4_add 31 = .ok (.iconst 1, 1) := by decide +kernel
theorem dX4_add_32 : decode cX4_add 32 = .ok (.ireturn, 1) := by decide +kernel
theorem dX4_readInto_0 : decode cX4_readInto 0 = .ok (.aload_n 0, 1) := by decide +kernel
theorem dX4_readInto_1 : decode cX4_readInto 1 = .ok (.iconst 0, 1) := by decide +kernel
theorem dX4_readInto_2 : decode cX4_readInto 2 = .ok (.putfield 19, 3) := by decide +kernel
theorem dX4_readInto_5 : decode cX4_readInto 5 = .ok (.aload_n 0, 1) := by decide +kernel
theorem dX4_readInto_6 : decode cX4_readInto 6 = .ok (.iconst 0, 1) := by decide +kernel
theorem dX4_readInto_7 : decode cX4_readInto 7 = .ok (.putfield 22, 3) := by decide +kernel
theorem dX4_readInto_10 : decode cX4_readInto 10 = .ok (.aload_n 1, 1) := by decide +kernel
theorem dX4_readInto_11 : decode cX4_readInto 11 = .ok (.invokevirtual 25, 3) := by decide +kernel
theorem dX4_readInto_14 : decode cX4_readInto 14 = .ok (.aload_n 0, 1) := by decide +kernel
theorem dX4_readInto_15 : decode cX4_readInto 15 = .ok (.aload_n 1, 1) := by decide +kernel
theorem dX4_readInto_16 : decode cX4_readInto 16 = .ok (.invokevirtual 30, 3) := by decide +kernel
theorem dX4_readInto_19 : decode cX4_readInto 19 = .ok (.iconst 0, 1) := by decide +kernel
theorem dX4_readInto_20 : decode cX4_readInto 20 = .ok (.istore_n 2, 1) := by decide +kernel
theorem dX4_readInto_21 : decode cX4_readInto 21 = .ok (.iload_n 2, 1) := by decide +kernel
theorem dX4_readInto_22 : decode cX4_readInto 22 = .ok (.bipush 6, 2) := by decide +kernel
theorem dX4_readInto_24 : decode cX4_readInto 24 = .ok (.if_icmp .gt 36, 3) := by decide +kernel
theorem dX4_readInto_27 : decode cX4_readInto 27 = .ok (.aload_n 0, 1) := by decide +kernel
theorem dX4_readInto_28 : decode cX4_readInto 28 = .ok (.getfield 22, 3) := by decide +kernel
theorem dX4_readInto_31 : decode cX4_readInto 31 = .ok (.ifCond .ne 29, 3) := by decide +kernel
theorem dX4_readInto_34 : decode cX4_readInto 34 = .ok (.iload_n 2, 1) := by decide +kernel
theorem dX4_readInto_35 : decode cX4_readInto 35 = .ok (.ifCond .eq 14, 3) := by decide +kernel
theorem dX4_readInto_38 : decode cX4_readInto 38 = .ok (.aload_n 0, 1) := by decide +kernel
theorem dX4_readInto_39 : decode cX4_readInto 39 = .ok (.getfield 19, 3) := by decide +kernel
theorem dX4_readInto_42 : decode cX4_readInto 42 = .ok (.aload_n 0, 1) := by decide +kernel
theorem dX4_readInto_43 : decode cX4_readInto 43 = .ok (.getfield 15, 3) := by decide +kernel
theorem dX4_readInto_46 : decode cX4_readInto 46 = .ok (.if_icmp .ge 14, 3) := by decide +kernel
theorem dX4_readInto_49 : decode cX4_readInto 49 = .ok (.aload_n 0, 1) := by decide +kernel
theorem dX4_readInto_50 : decode cX4_readInto 50 = .ok (.aload_n 1, 1) := by decide +kernel
theorem dX4_readInto_51 : decode cX4_readInto 51 = .ok (.invokevirtual 34, 3) := by decide +kernel
theorem dX4_readInto_54 : decode cX4_readInto 54 = .ok (.iinc 2 1, 3) := by decide +kernel
theorem dX4_readInto_57 : decode cX4_readInto 57 = .ok (.goto (-36), 3) := by decide +kernel
theorem dX4_readInto_60 : decode cX4_readInto 60 = .ok (.aload_n 0, 1) := by decide +kernel
theorem dX4_readInto_61 : decode cX4_readInto 61 = .ok (.getfield 22, 3) := by decide +kernel
theorem dX4_readInto_64 : decode cX4_readInto 64 = .ok (.ireturn, 1) := by decide +kernel
theorem dX4_readLaw_0 : decode cX4_readLaw 0 = .ok (.aload_n 0, 1) := by decide +kernel
theorem dX4_readLaw_1 : decode cX4_readLaw 1 = .ok (.bipush 109, 2) := by decide +kernel
theorem dX4_readLaw_3 : decode cX4_readLaw 3 = .ok (.invokevirtual 37, 3) := by decide +kernel
theorem dX4_readLaw_6 : decode cX4_readLaw 6 = .ok (.aload_n 1, 1) := by decide +kernel
theorem dX4_readLaw_7 : decode cX4_readLaw 7 = .ok (.aload_n 0, 1) := by decide +kernel
theorem dX4_readLaw_8 : decode cX4_readLaw 8 = .ok (.iconst 0, 1) := by decide +kernel
theorem dX4_readLaw_9 : decode cX4_readLaw 9 = .ok (.iconst 5, 1) := by decide +kernel
theorem dX4_readLaw_10 : decode cX4_readLaw 10 = .ok (.invokevirtual 41, 3) := by decide +kernel
theorem dX4_readLaw_13 : decode cX4_readLaw 13 = .ok (.putfield 45, 3) := by decide +kernel
theorem dX4_readLaw_16 : decode cX4_readLaw 16 = .ok (.aload_n 0, 1) := by decide +kernel
theorem dX4_readLaw_17 : decode cX4_readLaw 17 = .ok (.bipush 44, 2) := by decide +kernel
theorem dX4_readLaw_19 : decode cX4_readLaw 19 = .ok (.invokevirtual 37, 3) := by decide +kernel
theorem dX4_readLaw_22 : decode cX4_readLaw 22 = .ok (.aload_n 1, 1) := by decide +kernel
theorem dX4_readLaw_23 : decode cX4_readLaw 23 = .ok (.aload_n 0, 1) := by decide +kernel
theorem dX4_readLaw_24 : decode cX4_readLaw 24 = .ok (.iconst 1, 1) := by decide +kernel
theorem dX4_readLaw_25 : decode cX4_readLaw 25 = .ok (.bipush 9, 2) := by decide +kernel
theorem dX4_readLaw_27 : decode cX4_readLaw 27 = .ok (.invokevirtual 41, 3) := by decide +kernel
theorem dX4_readLaw_30 : decode cX4_readLaw 30 = .ok (.putfield 48, 3) := by decide +kernel
theorem dX4_readLaw_33 : decode cX4_readLaw 33 = .ok (.aload_n 0, 1) := by decide +kernel
theorem dX4_readLaw_34 : decode cX4_readLaw 34 = .ok (.bipush 59, 2) := by decide +kernel
theorem dX4_readLaw_36 : decode cX4_readLaw 36 = .ok (.invokevirtual 37, 3) := by decide +kernel
theorem dX4_readLaw_39 : decode cX4_readLaw 39 = .ok (.return_, 1) := by decide +kernel
theorem dX4_readOneChair_0 : decode cX4_readOneChair 0 = .ok (.aload_n 0, 1) := by decide +kernel
theorem dX4_readOneChair_1 : decode cX4_readOneChair 1 = .ok (.getfield 19, 3) := by decide +kernel
theorem dX4_readOneChair_4 : decode cX4_readOneChair 4 = .ok (.aload_n 0, 1) := by decide +kernel
theorem dX4_readOneChair_5 : decode cX4_readOneChair 5 = .ok (.getfield 15, 3) := by decide +kernel
theorem dX4_readOneChair_8 : decode cX4_readOneChair 8 = .ok (.if_icmp .ge 23, 3) := by decide +kernel
theorem dX4_readOneChair_11 : decode cX4_readOneChair 11 = .ok (.ldc 51, 2) := by decide +kernel
theorem dX4_readOneChair_13 : decode cX4_readOneChair 13 = .ok (.aload_n 0, 1) := by decide +kernel
theorem dX4_readOneChair_14 : decode cX4_readOneChair 14 = .ok (.getfield 9, 3) := by decide +kernel
theorem dX4_readOneChair_17 : decode cX4_readOneChair 17 = .ok (.aload_n 0, 1) := by decide +kernel
theorem dX4_readOneChair_18 : decode cX4_readOneChair 18 = .ok (.getfield 19, 3) := by decide +kernel
theorem dX4_readOneChair_21 : decode cX4_readOneChair 21 = .ok (.iaload, 1) := by decide +kernel
theorem dX4_readOneChair_22 : decode cX4_readOneChair 22 = .ok (.i2c, 1) := by decide +kernel
theorem dX4_readOneChair_23 : decode cX4_readOneChair 23 = .ok (.invokevirtual 53, 3) := by decide +kernel
theorem dX4_readOneChair_26 : decode cX4_readOneChair 26 = .ok (.iconst 1, 1) := by decide +kernel
theorem dX4_readOneChair_27 : decode cX4_readOneChair 27 = .ok (.iadd, 1) := by decide +kernel
theorem dX4_readOneChair_28 : decode cX4_readOneChair 28 = .ok (.goto 4, 3) := by decide +kernel
theorem dX4_readOneChair_31 : decode cX4_readOneChair 31 = .ok (.iconst 0, 1) := by decide +kernel
theorem dX4_readOneChair_32 : decode cX4_readOneChair 32 = .ok (.istore_n 2, 1) := by decide +kernel
theorem dX4_readOneChair_33 : decode cX4_readOneChair 33 = .ok (.iload_n 2, 1) := by decide +kernel
theorem dX4_readOneChair_34 : decode cX4_readOneChair 34 = .ok (.ifCond .ne 9, 3) := by decide +kernel
theorem dX4_readOneChair_37 : decode cX4_readOneChair 37 = .ok (.aload_n 0, 1) := by decide +kernel
theorem dX4_readOneChair_38 : decode cX4_readOneChair 38 = .ok (.iconst 1, 1) := by decide +kernel
theorem dX4_readOneChair_39 : decode cX4_readOneChair 39 = .ok (.putfield 22, 3) := by decide +kernel
theorem dX4_readOneChair_42 : decode cX4_readOneChair 42 = .ok (.return_, 1) := by decide +kernel
theorem dX4_readOneChair_43 : decode cX4_readOneChair 43 = .ok (.aload_n 1, 1) := by decide +kernel
theorem dX4_readOneChair_44 : decode cX4_readOneChair 44 = .ok (.getfield 59, 3) := by decide +kernel
theorem dX4_readOneChair_47 : decode cX4_readOneChair 47 = .ok (.bipush 6, 2) := by decide +kernel
theorem dX4_readOneChair_49 : decode cX4_readOneChair 49 = .ok (.if_icmp .lt 9, 3) := by decide +kernel
theorem dX4_readOneChair_52 : decode cX4_readOneChair 52 = .ok (.aload_n 0, 1) := by decide +kernel
theorem dX4_readOneChair_53 : decode cX4_readOneChair 53 = .ok (.iconst 3, 1) := by decide +kernel
theorem dX4_readOneChair_54 : decode cX4_readOneChair 54 = .ok (.putfield 22, 3) := by decide +kernel
theorem dX4_readOneChair_57 : decode cX4_readOneChair 57 = .ok (.return_, 1) := by decide +kernel
theorem dX4_readOneChair_58 : decode cX4_readOneChair 58 = .ok (.aload_n 0, 1) := by decide +kernel
theorem dX4_readOneChair_59 : decode cX4_readOneChair 59 = .ok (.dup, 1) := by decide +kernel
theorem dX4_readOneChair_60 : decode cX4_readOneChair 60 = .ok (.getfield 19, 3) := by decide +kernel
theorem dX4_readOneChair_63 : decode cX4_readOneChair 63 = .ok (.iconst 1, 1) := by decide +kernel
theorem dX4_readOneChair_64 : decode cX4_readOneChair 64 = .ok (.iadd, 1) := by decide +kernel
theorem dX4_readOneChair_65 : decode cX4_readOneChair 65 = .ok (.putfield 19, 3) := by decide +kernel
theorem dX4_readOneChair_68 : decode cX4_readOneChair 68 = .ok (.aload_n 0, 1) := by decide +kernel
theorem dX4_readOneChair_69 : decode cX4_readOneChair 69 = .ok (.iconst 0, 1) := by decide +kernel
theorem dX4_readOneChair_70 : decode cX4_readOneChair 70 = .ok (.bipush 60, 2) := by decide +kernel
theorem dX4_readOneChair_72 : decode cX4_readOneChair 72 = .ok (.invokevirtual 41, 3) := by decide +kernel
theorem dX4_readOneChair_75 : decode cX4_readOneChair 75 = .ok (.istore_n 3, 1) := by decide +kernel
theorem dX4_readOneChair_76 : decode cX4_readOneChair 76 = .ok (.aload_n 0, 1) := by decide +kernel
theorem dX4_readOneChair_77 : decode cX4_readOneChair 77 = .ok (.bipush 44, 2) := by decide +kernel
theorem dX4_readOneChair_79 : decode cX4_readOneChair 79 = .ok (.invokevirtual 37, 3) := by decide +kernel
theorem dX4_readOneChair_82 : decode cX4_readOneChair 82 = .ok (.aload_n 0, 1) := by decide +kernel
theorem dX4_readOneChair_83 : decode cX4_readOneChair 83 = .ok (.iconst 0, 1) := by decide +kernel
theorem dX4_readOneChair_84 : decode cX4_readOneChair 84 = .ok (.bipush 9, 2) := by decide +kernel
theorem dX4_readOneChair_86 : decode cX4_readOneChair 86 = .ok (.invokevirtual 41, 3) := by decide +kernel
theorem dX4_readOneChair_89 : decode cX4_readOneChair 89 = .ok (.istore 4, 2) := by decide +kernel
theorem dX4_readOneChair_91 : decode cX4_readOneChair 91 = .ok (.aload_n 0, 1) := by decide +kernel
theorem dX4_readOneChair_92 : decode cX4_readOneChair 92 = .ok (.bipush 44, 2) := by decide +kernel
theorem dX4_readOneChair_94 : decode cX4_readOneChair 94 = .ok (.invokevirtual 37, 3) := by decide +kernel
theorem dX4_readOneChair_97 : decode cX4_readOneChair 97 = .ok (.aload_n 0, 1) := by decide +kernel
theorem dX4_readOneChair_98 : decode cX4_readOneChair 98 = .ok (.iconst 0, 1) := by decide +kernel
theorem dX4_readOneChair_99 : decode cX4_readOneChair 99 = .ok (.iconst 3, 1) := by decide +kernel
theorem dX4_readOneChair_100 : decode cX4_readOneChair 100 = .ok (.invokevirtual 41, 3) := by decide +kernel
theorem dX4_readOneChair_103 : decode cX4_readOneChair 103 = .ok (.istore 5, 2) := by decide +kernel
theorem dX4_readOneChair_105 : decode cX4_readOneChair 105 = .ok (.aload_n 0, 1) := by decide +kernel
theorem dX4_readOneChair_106 : decode cX4_readOneChair 106 = .ok (.bipush 59, 2) := by decide +kernel
theorem dX4_readOneChair_108 : decode cX4_readOneChair 108 = .ok (.invokevirtual 37, 3) := by decide +kernel
theorem dX4_readOneChair_111 : decode cX4_readOneChair 111 = .ok (.aload_n 0, 1) := by decide +kernel
theorem dX4_readOneChair_112 : decode cX4_readOneChair 112 = .ok (.getfield 22, 3) := by decide +kernel
theorem dX4_readOneChair_115 : decode cX4_readOneChair 115 = .ok (.ifCond .ne 13, 3) := by decide +kernel
theorem dX4_readOneChair_118 : decode cX4_readOneChair 118 = .ok (.aload_n 1, 1) := by decide +kernel
theorem dX4_readOneChair_119 : decode cX4_readOneChair 119 = .ok (.iload_n 2, 1) := by decide +kernel
theorem dX4_readOneChair_120 : decode cX4_readOneChair 120 = .ok (.iload_n 3, 1) := by decide +kernel
theorem dX4_readOneChair_121 : decode cX4_readOneChair 121 = .ok (.iload 4, 2) := by decide +kernel
theorem dX4_readOneChair_123 : decode cX4_readOneChair 123 = .ok (.iload 5, 2) := by decide +kernel
theorem dX4_readOneChair_125 : decode cX4_readOneChair 125 = .ok (.invokevirtual 60, 3) := by decide +kernel
theorem dX4_readOneChair_128 : decode cX4_readOneChair 128 = .ok (.return_, 1) := by decide +kernel
theorem dX4_takeSign_0 : decode cX4_takeSign 0 = .ok (.aload_n 0, 1) := by decide +kernel
theorem dX4_takeSign_1 : decode cX4_takeSign 1 = .ok (.getfield 22, 3) := by decide +kernel
theorem dX4_takeSign_4 : decode cX4_takeSign 4 = .ok (.ifCond .eq 4, 3) := by decide +kernel
theorem dX4_takeSign_7 : decode cX4_takeSign 7 = .ok (.return_, 1) := by decide +kernel
theorem dX4_takeSign_8 : decode cX4_takeSign 8 = .ok (.aload_n 0, 1) := by decide +kernel
theorem dX4_takeSign_9 : decode cX4_takeSign 9 = .ok (.getfield 19, 3) := by decide +kernel
theorem dX4_takeSign_12 : decode cX4_takeSign 12 = .ok (.aload_n 0, 1) := by decide +kernel
theorem dX4_takeSign_13 : decode cX4_takeSign 13 = .ok (.getfield 15, 3) := by decide +kernel
theorem dX4_takeSign_16 : decode cX4_takeSign 16 = .ok (.if_icmp .ge 29, 3) := by decide +kernel
theorem dX4_takeSign_19 : decode cX4_takeSign 19 = .ok (.aload_n 0, 1) := by decide +kernel
theorem dX4_takeSign_20 : decode cX4_takeSign 20 = .ok (.getfield 9, 3) := by decide +kernel
theorem dX4_takeSign_23 : decode cX4_takeSign 23 = .ok (.aload_n 0, 1) := by decide +kernel
theorem dX4_takeSign_24 : decode cX4_takeSign 24 = .ok (.getfield 19, 3) := by decide +kernel
theorem dX4_takeSign_27 : decode cX4_takeSign 27 = .ok (.iaload, 1) := by decide +kernel
theorem dX4_takeSign_28 : decode cX4_takeSign 28 = .ok (.iload_n 1, 1) := by decide +kernel
theorem dX4_takeSign_29 : decode cX4_takeSign 29 = .ok (.if_icmp .ne 16, 3) := by decide +kernel
theorem dX4_takeSign_32 : decode cX4_takeSign 32 = .ok (.aload_n 0, 1) := by decide +kernel
theorem dX4_takeSign_33 : decode cX4_takeSign 33 = .ok (.dup, 1) := by decide +kernel
theorem dX4_takeSign_34 : decode cX4_takeSign 34 = .ok (.getfield 19, 3) := by decide +kernel
theorem dX4_takeSign_37 : decode cX4_takeSign 37 = .ok (.iconst 1, 1) := by decide +kernel
theorem dX4_takeSign_38 : decode cX4_takeSign 38 = .ok (.iadd, 1) := by decide +kernel
theorem dX4_takeSign_39 : decode cX4_takeSign 39 = .ok (.putfield 19, 3) := by decide +kernel
theorem dX4_takeSign_42 : decode cX4_takeSign 42 = .ok (.goto 8, 3) := by decide +kernel
theorem dX4_takeSign_45 : decode cX4_takeSign 45 = .ok (.aload_n 0, 1) := by decide +kernel
theorem dX4_takeSign_46 : decode cX4_takeSign 46 = .ok (.iconst 1, 1) := by decide +kernel
theorem dX4_takeSign_47 : decode cX4_takeSign 47 = .ok (.putfield 22, 3) := by decide +kernel
theorem dX4_takeSign_50 : decode cX4_takeSign 50 = .ok (.return_, 1) := by decide +kernel
theorem dX4_takeNumber_0 : decode cX4_takeNumber 0 = .ok (.aload_n 0, 1) := by decide +kernel
theorem dX4_takeNumber_1 : decode cX4_takeNumber 1 = .ok (.getfield 22, 3) := by decide +kernel
theorem dX4_takeNumber_4 : decode cX4_takeNumber 4 = .ok (.ifCond .eq 5, 3) := by decide +kernel
theorem dX4_takeNumber_7 : decode cX4_takeNumber 7 = .ok (.iconst 0, 1) := by decide +kernel
theorem dX4_takeNumber_8 : decode cX4_takeNumber 8 = .ok (.ireturn, 1) := by decide +kernel
theorem dX4_takeNumber_9 : decode cX4_takeNumber 9 = .ok (.iconst 0, 1) := by decide +kernel
theorem dX4_takeNumber_10 : decode cX4_takeNumber 10 = .ok (.istore_n 3, 1) := by decide +kernel
theorem dX4_takeNumber_11 : decode cX4_takeNumber 11 = .ok (.aload_n 0, 1) := by decide +kernel
theorem dX4_takeNumber_12 : decode cX4_takeNumber 12 = .ok (.getfield 19, 3) := by decide +kernel
theorem dX4_takeNumber_15 : decode cX4_takeNumber 15 = .ok (.istore 4, 2) := by decide +kernel
theorem dX4_takeNumber_17 : decode cX4_takeNumber 17 = .ok (.iload 4, 2) := by decide +kernel
theorem dX4_takeNumber_19 : decode cX4_takeNumber 19 = .ok (.aload_n 0, 1) := by decide +kernel
theorem dX4_takeNumber_20 : decode cX4_takeNumber 20 = .ok (.getfield 15, 3) := by decide +kernel
theorem dX4_takeNumber_23 : decode cX4_takeNumber 23 = .ok (.if_icmp .ge 53, 3) := by decide +kernel
theorem dX4_takeNumber_26 : decode cX4_takeNumber 26 = .ok (.iload 4, 2) := by decide +kernel
theorem dX4_takeNumber_28 : decode cX4_takeNumber 28 = .ok (.aload_n 0, 1) := by decide +kernel
theorem dX4_takeNumber_29 : decode cX4_takeNumber 29 = .ok (.getfield 19, 3) := by decide +kernel
theorem dX4_takeNumber_32 : decode cX4_takeNumber 32 = .ok (.isub, 1) := by decide +kernel
theorem dX4_takeNumber_33 : decode cX4_takeNumber 33 = .ok (.iconst 3, 1) := by decide +kernel
theorem dX4_takeNumber_34 : decode cX4_takeNumber 34 = .ok (.if_icmp .ge 42, 3) := by decide +kernel
theorem dX4_takeNumber_37 : decode cX4_takeNumber 37 = .ok (.aload_n 0, 1) := by decide +kernel
theorem dX4_takeNumber_38 : decode cX4_takeNumber 38 = .ok (.getfield 9, 3) := by decide +kernel
theorem dX4_takeNumber_41 : decode cX4_takeNumber 41 = .ok (.iload 4, 2) := by decide +kernel
theorem dX4_takeNumber_43 : decode cX4_takeNumber 43 = .ok (.iaload, 1) := by decide +kernel
theorem dX4_takeNumber_44 : decode cX4_takeNumber 44 = .ok (.bipush 48, 2) := by decide +kernel
theorem dX4_takeNumber_46 : decode cX4_takeNumber 46 = .ok (.bipush 57, 2) := by decide +kernel
theorem dX4_takeNumber_48 : decode cX4_takeNumber 48 = .ok (.invokestatic 64, 3) := by decide +kernel
theorem dX4_takeNumber_51 : decode cX4_takeNumber 51 = .ok (.ifCond .eq 25, 3) := by decide +kernel
theorem dX4_takeNumber_54 : decode cX4_takeNumber 54 = .ok (.iload_n 3, 1) := by decide +kernel
theorem dX4_takeNumber_55 : decode cX4_takeNumber 55 = .ok (.bipush 10, 2) := by decide +kernel
theorem dX4_takeNumber_57 : decode cX4_takeNumber 57 = .ok (.imul, 1) := by decide +kernel
theorem dX4_takeNumber_58 : decode cX4_takeNumber 58 = .ok (.aload_n 0, 1) := by decide +kernel
theorem dX4_takeNumber_59 : decode cX4_takeNumber 59 = .ok (.getfield 9, 3) := by decide +kernel
theorem dX4_takeNumber_62 : decode cX4_takeNumber 62 = .ok (.iload 4, 2) := by decide +kernel
theorem dX4_takeNumber_64 : decode cX4_takeNumber 64 = .ok (.iaload, 1) := by decide +kernel
theorem dX4_takeNumber_65 : decode cX4_takeNumber 65 = .ok (.iadd, 1) := by decide +kernel
theorem dX4_takeNumber_66 : decode cX4_takeNumber 66 = .ok (.bipush 48, 2) := by decide +kernel
theorem dX4_takeNumber_68 : decode cX4_takeNumber 68 = .ok (.isub, 1) := by decide +kernel
theorem dX4_takeNumber_69 : decode cX4_takeNumber 69 = .ok (.istore_n 3, 1) := by decide +kernel
theorem dX4_takeNumber_70 : decode cX4_takeNumber 70 = .ok (.iinc 4 1, 3) := by decide +kernel
theorem dX4_takeNumber_73 : decode cX4_takeNumber 73 = .ok (.goto (-56), 3) := by decide +kernel
theorem dX4_takeNumber_76 : decode cX4_takeNumber 76 = .ok (.iload 4, 2) := by decide +kernel
theorem dX4_takeNumber_78 : decode cX4_takeNumber 78 = .ok (.aload_n 0, 1) := by decide +kernel
theorem dX4_takeNumber_79 : decode cX4_takeNumber 79 = .ok (.getfield 19, 3) := by decide +kernel
theorem dX4_takeNumber_82 : decode cX4_takeNumber 82 = .ok (.isub, 1) := by decide +kernel
theorem dX4_takeNumber_83 : decode cX4_takeNumber 83 = .ok (.istore 5, 2) := by decide +kernel
theorem dX4_takeNumber_85 : decode cX4_takeNumber 85 = .ok (.iload 5, 2) := by decide +kernel
theorem dX4_takeNumber_87 : decode cX4_takeNumber 87 = .ok (.iconst 1, 1) := by decide +kernel
theorem dX4_takeNumber_88 : decode cX4_takeNumber 88 = .ok (.if_icmp .lt 9, 3) := by decide +kernel
theorem dX4_takeNumber_91 : decode cX4_takeNumber 91 = .ok (.iload 5, 2) := by decide +kernel
theorem dX4_takeNumber_93 : decode cX4_takeNumber 93 = .ok (.iconst 2, 1) := by decide +kernel
theorem dX4_takeNumber_94 : decode cX4_takeNumber 94 = .ok (.if_icmp .le 10, 3) := by decide +kernel
theorem dX4_takeNumber_97 : decode cX4_takeNumber 97 = .ok (.aload_n 0, 1) := by decide +kernel
theorem dX4_takeNumber_98 : decode cX4_takeNumber 98 = .ok (.iconst 1, 1) := by decide +kernel
theorem dX4_takeNumber_99 : decode cX4_takeNumber 99 = .ok (.putfield 22, 3) := by decide +kernel
theorem dX4_takeNumber_102 : decode cX4_takeNumber 102 = .ok (.iconst 0, 1) := by decide +kernel
theorem dX4_takeNumber_103 : decode cX4_takeNumber 103 = .ok (.ireturn, 1) := by decide +kernel
theorem dX4_takeNumber_104 : decode cX4_takeNumber 104 = .ok (.iload_n 3, 1) := by decide +kernel
theorem dX4_takeNumber_105 : decode cX4_takeNumber 105 = .ok (.iload_n 1, 1) := by decide +kernel
theorem dX4_takeNumber_106 : decode cX4_takeNumber 106 = .ok (.iload_n 2, 1) := by decide +kernel
theorem dX4_takeNumber_107 : decode cX4_takeNumber 107 = .ok (.invokestatic 64, 3) := by decide +kernel
theorem dX4_takeNumber_110 : decode cX4_takeNumber 110 = .ok (.ifCond .ne 10, 3) := by decide +kernel
theorem dX4_takeNumber_113 : decode cX4_takeNumber 113 = .ok (.aload_n 0, 1) := by decide +kernel
theorem dX4_takeNumber_114 : decode cX4_takeNumber 114 = .ok (.iconst 2, 1) := by decide +kernel
theorem dX4_takeNumber_115 : decode cX4_takeNumber 115 = .ok (.putfield 22, 3) := by decide +kernel
theorem dX4_takeNumber_118 : decode cX4_takeNumber 118 = .ok (.iconst 0, 1) := by decide +kernel
theorem dX4_takeNumber_119 : decode cX4_takeNumber 119 = .ok (.ireturn, 1) := by decide +kernel
theorem dX4_takeNumber_120 : decode cX4_takeNumber 120 = .ok (.aload_n 0, 1) := by decide +kernel
theorem dX4_takeNumber_121 : decode cX4_takeNumber 121 = .ok (.iload 4, 2) := by decide +kernel
theorem dX4_takeNumber_123 : decode cX4_takeNumber 123 = .ok (.putfield 19, 3) := by decide +kernel
theorem dX4_takeNumber_126 : decode cX4_takeNumber 126 = .ok (.iload_n 3, 1) := by decide +kernel
theorem dX4_takeNumber_127 : decode cX4_takeNumber 127 = .ok (.ireturn, 1) := by decide +kernel
theorem dX5_init_0 : decode cX5_init 0 = .ok (.aload_n 0, 1) := by decide +kernel
theorem dX5_init_1 : decode cX5_init 1 = .ok (.invokespecial 3, 3) := by decide +kernel
theorem dX5_init_4 : decode cX5_init 4 = .ok (.aload_n 0, 1) := by decide +kernel
theorem dX5_init_5 : decode cX5_init 5 = .ok (.bipush 8, 2) := by decide +kernel
theorem dX5_init_7 : decode cX5_init 7 = .ok (.anewarray 9, 3) := by decide +kernel
theorem dX5_init_10 : decode cX5_init 10 = .ok (.putfield 11, 3) := by decide +kernel
theorem dX5_init_13 : decode cX5_init 13 = .ok (.aload_n 0, 1) := by decide +kernel
theorem dX5_init_14 : decode cX5_init 14 = .ok (.new 15, 3) := by decide +kernel
theorem dX5_init_17 : decode cX5_init 17 = .ok (.dup, 1) := by decide +kernel
theorem dX5_init_18 : decode cX5_init 18 = .ok (.invokespecial 17, 3) := by decide +kernel
theorem dX5_init_21 : decode cX5_init 21 = .ok (.putfield 18, 3) := by decide +kernel
theorem dX5_init_24 : decode cX5_init 24 = .ok (.aload_n 0, 1) := by decide +kernel
theorem dX5_init_25 : decode cX5_init 25 = .ok (.new 22, 3) := by decide +kernel
theorem dX5_init_28 : decode cX5_init 28 = .ok (.dup, 1) := by decide +kernel
theorem dX5_init_29 : decode cX5_init 29 = .ok (.invokespecial 24, 3) := by decide +kernel
theorem dX5_init_32 : decode cX5_init 32 = .ok (.putfield 25, 3) := by decide +kernel
theorem dX5_init_35 : decode cX5_init 35 = .ok (.aload_n 0, 1) := by decide +kernel
theorem dX5_init_36 : decode cX5_init 36 = .ok (.new 22, 3) := by decide +kernel
theorem dX5_init_39 : decode cX5_init 39 = .ok (.dup, 1) := by decide +kernel
theorem dX5_init_40 : decode cX5_init 40 = .ok (.invokespecial 24, 3) := by decide +kernel
theorem dX5_init_43 : decode cX5_init 43 = .ok (.putfield 29, 3) := by decide +kernel
theorem dX5_init_46 : decode cX5_init 46 = .ok (.aload_n 0, 1) := by decide +kernel
theorem dX5_init_47 : decode cX5_init 47 = .ok (.bipush 41, 2) := by decide +kernel
theorem dX5_init_49 : decode cX5_init 49 = .ok (.newarray .int, 2) := by decide +kernel
theorem dX5_init_51 : decode cX5_init 51 = .ok (.putfield 32, 3) := by decide +kernel
theorem dX5_init_54 : decode cX5_init 54 = .ok (.aload_n 0, 1) := by decide +kernel
theorem dX5_init_55 : decode cX5_init 55 = .ok (.bipush 6, 2) := by decide +kernel
theorem dX5_init_57 : decode cX5_init 57 = .ok (.newarray .int, 2) := by decide +kernel
theorem dX5_init_59 : decode cX5_init 59 = .ok (.putfield 36, 3) := by decide +kernel
theorem dX5_init_62 : decode cX5_init 62 = .ok (.aload_n 0, 1) := by decide +kernel
theorem dX5_init_63 : decode cX5_init 63 = .ok (.new 39, 3) := by decide +kernel
theorem dX5_init_66 : decode cX5_init 66 = .ok (.dup, 1) := by decide +kernel
theorem dX5_init_67 : decode cX5_init 67 = .ok (.invokespecial 41, 3) := by decide +kernel
theorem dX5_init_70 : decode cX5_init 70 = .ok (.putfield 42, 3) := by decide +kernel
theorem dX5_init_73 : decode cX5_init 73 = .ok (.aload_n 0, 1) := by decide +kernel
theorem dX5_init_74 : decode cX5_init 74 = .ok (.iconst 2, 1) := by decide +kernel
theorem dX5_init_75 : decode cX5_init 75 = .ok (.bipush 41, 2) := by decide +kernel
theorem dX5_init_77 : decode cX5_init 77 = .ok (.multianewarray 46 2, 4) := by decide +kernel
theorem dX5_init_81 : decode cX5_init 81 = .ok (.putfield 48, 3) := by decide +kernel
theorem dX5_init_84 : decode cX5_init 84 = .ok (.aload_n 0, 1) := by decide +kernel
theorem dX5_init_85 : decode cX5_init 85 = .ok (.new 51, 3) := by decide +kernel
theorem dX5_init_88 : decode cX5_init 88 = .ok (.dup, 1) := by decide +kernel
theorem dX5_init_89 : decode cX5_init 89 = .ok (.invokespecial 53, 3) := by decide +kernel
theorem dX5_init_92 : decode cX5_init 92 = .ok (.putfield 54, 3) := by decide +kernel
theorem dX5_init_95 : decode cX5_init 95 = .ok (.iconst 0, 1) := by decide +kernel
theorem dX5_init_96 : decode cX5_init 96 = .ok (.istore_n 1, 1) := by decide +kernel
theorem dX5_init_97 : decode cX5_init 97 = .ok (.iload_n 1, 1) := by decide +kernel
theorem dX5_init_98 : decode cX5_init 98 = .ok (.bipush 8, 2) := by decide +kernel
theorem dX5_init_100 : decode cX5_init 100 = .ok (.if_icmp .ge 22, 3) := by decide +kernel
theorem dX5_init_103 : decode cX5_init 103 = .ok (.aload_n 0, 1) := by decide +kernel
theorem dX5_init_104 : decode cX5_init 104 = .ok (.getfield 11, 3) := by decide +kernel
theorem dX5_init_107 : decode cX5_init 107 = .ok (.iload_n 1, 1) := by decide +kernel
theorem dX5_init_108 : decode cX5_init 108 = .ok (.new 9, 3) := by decide +kernel
theorem dX5_init_111 : decode cX5_init 111 = .ok (.dup, 1) := by decide +kernel
theorem dX5_init_112 : decode cX5_init 112 = .ok (.invokespecial 58, 3) := by decide +kernel
theorem dX5_init_115 : decode cX5_init 115 = .ok (.aastore, 1) := by decide +kernel
theorem dX5_init_116 : decode cX5_init 116 = .ok (.iinc 1 1, 3) := by decide +kernel
theorem dX5_init_119 : decode cX5_init 119 = .ok (.goto (-22), 3) := by decide +kernel
theorem dX5_init_122 : decode cX5_init 122 = .ok (.return_, 1) := by decide +kernel
theorem dX5_row_0 : decode cX5_row 0 = .ok (.iload_n 1, 1) := by decide +kernel
theorem dX5_row_1 : decode cX5_row 1 = .ok (.invokestatic 59, 3) := by decide +kernel
theorem dX5_row_4 : decode cX5_row 4 = .ok (.ifCond .eq 18, 3) := by decide +kernel
theorem dX5_row_7 : decode cX5_row 7 = .ok (.iload_n 2, 1) := by decide +kernel
theorem dX5_row_8 : decode cX5_row 8 = .ok (.iconst 0, 1) := by decide +kernel
theorem dX5_row_9 : decode cX5_row 9 = .ok (.iconst 2, 1) := by decide +kernel
theorem dX5_row_10 : decode cX5_row 10 = .ok (.invokestatic 63, 3) := by decide +kernel
theorem dX5_row_13 : decode cX5_row 13 = .ok (.ifCond .eq 9, 3) := by decide +kernel
theorem dX5_row_16 : decode cX5_row 16 = .ok (.iload_n 3, 1) := by decide +kernel
theorem dX5_row_17 : decode cX5_row 17 = .ok (.bipush 40, 2) := by decide +kernel
theorem dX5_row_19 : decode cX5_row 19 = .ok (.if_icmp .le 6, 3) := by decide +kernel
theorem dX5_row_22 : decode cX5_row 22 = .ok (.ldc 67, 2) := by decide +kernel
theorem dX5_row_24 : decode cX5_row 24 = .ok (.ireturn, 1) := by decide +kernel
theorem dX5_row_25 : decode cX5_row 25 = .ok (.iload_n 3, 1) := by decide +kernel
theorem dX5_row_26 : decode cX5_row 26 = .ok (.ifCond .ge 9, 3) := by decide +kernel
theorem dX5_row_29 : decode cX5_row 29 = .ok (.aload_n 0, 1) := by decide +kernel
theorem dX5_row_30 : decode cX5_row 30 = .ok (.iconst 4, 1) := by decide +kernel
theorem dX5_row_31 : decode cX5_row 31 = .ok (.invokevirtual 68, 3) := by decide +kernel
theorem dX5_row_34 : decode cX5_row 34 = .ok (.ireturn, 1) := by decide +kernel
theorem dX5_row_35 : decode cX5_row 35 = .ok (.aload_n 0, 1) := by decide +kernel
theorem dX5_row_36 : decode cX5_row 36 = .ok (.getfield 11, 3) := by decide +kernel
theorem dX5_row_39 : decode cX5_row 39 = .ok (.iload_n 1, 1) := by decide +kernel
theorem dX5_row_40 : decode cX5_row 40 = .ok (.aaload, 1) := by decide +kernel
theorem dX5_row_41 : decode cX5_row 41 = .ok (.iload_n 2, 1) := by decide +kernel
theorem dX5_row_42 : decode cX5_row 42 = .ok (.iload_n 3, 1) := by decide +kernel
theorem dX5_row_43 : decode cX5_row 43 = .ok (.invokevirtual 72, 3) := by decide +kernel
theorem dX5_row_46 : decode cX5_row 46 = .ok (.aload_n 0, 1) := by decide +kernel
theorem dX5_row_47 : decode cX5_row 47 = .ok (.iload_n 3, 1) := by decide +kernel
theorem dX5_row_48 : decode cX5_row 48 = .ok (.invokevirtual 76, 3) := by decide +kernel
theorem dX5_row_51 : decode cX5_row 51 = .ok (.ireturn, 1) := by decide +kernel
theorem dX5_set_0 : decode cX5_set 0 = .ok (.iload_n 1, 1) := by decide +kernel
theorem dX5_set_1 : decode cX5_set 1 = .ok (.invokestatic 59, 3) := by decide +kernel
theorem dX5_set_4 : decode cX5_set 4 = .ok (.ifCond .ne 6, 3) := by decide +kernel
theorem dX5_set_7 : decode cX5_set 7 = .ok (.ldc 67, 2) := by decide +kernel
theorem dX5_set_9 : decode cX5_set 9 = .ok (.ireturn, 1) := by decide +kernel
theorem dX5_set_10 : decode cX5_set 10 = .ok (.aload_n 0, 1) := by decide +kernel
theorem dX5_set_11 : decode cX5_set 11 = .ok (.iload_n 1, 1) := by decide +kernel
theorem dX5_set_12 : decode cX5_set 12 = .ok (.iload_n 2, 1) := by decide +kernel
theorem dX5_set_13 : decode cX5_set 13 = .ok (.iconst 1, 1) := by decide +kernel
theorem dX5_set_14 : decode cX5_set 14 = .ok (.invokevirtual 79, 3) := by decide +kernel
theorem dX5_set_17 : decode cX5_set 17 = .ok (.istore 4, 2) := by decide +kernel
theorem dX5_set_19 : decode cX5_set 19 = .ok (.iload 4, 2) := by decide +kernel
theorem dX5_set_21 : decode cX5_set 21 = .ok (.ifCond .eq 10, 3) := by decide +kernel
theorem dX5_set_24 : decode cX5_set 24 = .ok (.aload_n 0, 1) := by decide +kernel
theorem dX5_set_25 : decode cX5_set 25 = .ok (.iload 4, 2) := by decide +kernel
theorem dX5_set_27 : decode cX5_set 27 = .ok (.invokevirtual 68, 3) := by decide +kernel
theorem dX5_set_30 : decode cX5_set 30 = .ok (.ireturn, 1) := by decide +kernel
theorem dX5_set_31 : decode cX5_set 31 = .ok (.aload_n 0, 1) := by decide +kernel
theorem dX5_set_32 : decode cX5_set 32 = .ok (.aload_n 0, 1) := by decide +kernel
theorem dX5_set_33 : decode cX5_set 33 = .ok (.getfield 11, 3) := by decide +kernel
theorem dX5_set_36 : decode cX5_set 36 = .ok (.iload_n 1, 1) := by decide +kernel
theorem dX5_set_37 : decode cX5_set 37 = .ok (.aaload, 1) := by decide +kernel
theorem dX5_set_38 : decode cX5_set 38 = .ok (.iload_n 2, 1) := by decide +kernel
theorem dX5_set_39 : decode cX5_set 39 = .ok (.iload_n 3, 1) := by decide +kernel
theorem dX5_set_40 : decode cX5_set 40 = .ok (.invokevirtual 83, 3) := by decide +kernel
theorem dX5_set_43 : decode cX5_set 43 = .ok (.invokevirtual 76, 3) := by decide +kernel
theorem dX5_set_46 : decode cX5_set 46 = .ok (.ireturn, 1) := by decide +kernel
theorem dX5_copy_0 : decode cX5_copy 0 = .ok (.iload_n 1, 1) := by decide +kernel
theorem dX5_copy_1 : decode cX5_copy 1 = .ok (.invokestatic 59, 3) := by decide +kernel
theorem dX5_copy_4 : decode cX5_copy 4 = .ok (.ifCond .eq 10, 3) := by decide +kernel
theorem dX5_copy_7 : decode cX5_copy 7 = .ok (.iload_n 3, 1) := by decide +kernel
theorem dX5_copy_8 : decode cX5_copy 8 = .ok (.invokestatic 59, 3) := by decide +kernel
theorem dX5_copy_11 : decode cX5_copy 11 = .ok (.ifCond .ne 6, 3) := by decide +kernel
theorem dX5_copy_14 : decode cX5_copy 14 = .ok (.ldc 67, 2) := by decide +kernel
theorem dX5_copy_16 : decode cX5_copy 16 = .ok (.ireturn, 1) := by decide +kernel
theorem dX5_copy_17 : decode cX5_copy 17 = .ok (.aload_n 0, 1) := by decide +kernel
theorem dX5_copy_18 : decode cX5_copy 18 = .ok (.getfield 11, 3) := by decide +kernel
theorem dX5_copy_21 : decode cX5_copy 21 = .ok (.iload_n 1, 1) := by decide +kernel
theorem dX5_copy_22 : decode cX5_copy 22 = .ok (.aaload, 1) := by decide +kernel
theorem dX5_copy_23 : decode cX5_copy 23 = .ok (.astore 6, 2) := by decide +kernel
theorem dX5_copy_25 : decode cX5_copy 25 = .ok (.aload_n 0, 1) := by decide +kernel
theorem dX5_copy_26 : decode cX5_copy 26 = .ok (.getfield 11, 3) := by decide +kernel
theorem dX5_copy_29 : decode cX5_copy 29 = .ok (.iload_n 3, 1) := by decide +kernel
theorem dX5_copy_30 : decode cX5_copy 30 = .ok (.aaload, 1) := by decide +kernel
theorem dX5_copy_31 : decode cX5_copy 31 = .ok (.astore 7, 2) := by decide +kernel
theorem dX5_copy_33 : decode cX5_copy 33 = .ok (.aload 6, 2) := by decide +kernel
theorem dX5_copy_35 : decode cX5_copy 35 = .ok (.invokevirtual 87, 3) := by decide +kernel
theorem dX5_copy_38 : decode cX5_copy 38 = .ok (.ifCond .ne 11, 3) := by decide +kernel
theorem dX5_copy_41 : decode cX5_copy 41 = .ok (.aload 7, 2) := by decide +kernel
theorem dX5_copy_43 : decode cX5_copy 43 = .ok (.invokevirtual 87, 3) := by decide +kernel
theorem dX5_copy_46 : decode cX5_copy 46 = .ok (.ifCond .eq 9, 3) := by decide +kernel
theorem dX5_copy_49 : decode cX5_copy 49 = .ok (.aload_n 0, 1) := by decide +kernel
theorem dX5_copy_50 : decode cX5_copy 50 = .ok (.iconst 1, 1) := by decide +kernel
theorem dX5_copy_51 : decode cX5_copy 51 = .ok (.invokevirtual 68, 3) := by decide +kernel
theorem dX5_copy_54 : decode cX5_copy 54 = .ok (.ireturn, 1) := by decide +kernel
theorem dX5_copy_55 : decode cX5_copy 55 = .ok (.aload 6, 2) := by decide +kernel
theorem dX5_copy_57 : decode cX5_copy 57 = .ok (.getfield 91, 3) := by decide +kernel
theorem dX5_copy_60 : decode cX5_copy 60 = .ok (.aload 7, 2) := by decide +kernel
theorem dX5_copy_62 : decode cX5_copy 62 = .ok (.getfield 91, 3) := by decide +kernel
theorem dX5_copy_65 : decode cX5_copy 65 = .ok (.if_icmp .eq 9, 3) := by decide +kernel
theorem dX5_copy_68 : decode cX5_copy 68 = .ok (.aload_n 0, 1) := by decide +kernel
theorem dX5_copy_69 : decode cX5_copy 69 = .ok (.iconst 5, 1) := by decide +kernel
theorem dX5_copy_70 : decode cX5_copy 70 = .ok (.invokevirtual 68, 3) := by decide +kernel
theorem dX5_copy_73 : decode cX5_copy 73 = .ok (.ireturn, 1) := by decide +kernel
theorem dX5_copy_74 : decode cX5_copy 74 = .ok (.aload 6, 2) := by decide +kernel
theorem dX5_copy_76 : decode cX5_copy 76 = .ok (.iload_n 2, 1) := by decide +kernel
theorem dX5_copy_77 : decode cX5_copy 77 = .ok (.iload 5, 2) := by decide +kernel
theorem dX5_copy_79 : decode cX5_copy 79 = .ok (.invokevirtual 95, 3) := by decide +kernel
theorem dX5_copy_82 : decode cX5_copy 82 = .ok (.ifCond .eq 15, 3) := by decide +kernel
theorem dX5_copy_85 : decode cX5_copy 85 = .ok (.aload 7, 2) := by decide +kernel
theorem dX5_copy_87 : decode cX5_copy 87 = .ok (.iload 4, 2) := by decide +kernel
theorem dX5_copy_89 : decode cX5_copy 89 = .ok (.iload 5, 2) := by decide +kernel
theorem dX5_copy_91 : decode cX5_copy 91 = .ok (.invokevirtual 95, 3) := by decide +kernel
theorem dX5_copy_94 : decode cX5_copy 94 = .ok (.ifCond .ne 9, 3) := by decide +kernel
theorem dX5_copy_97 : decode cX5_copy 97 = .ok (.aload_n 0, 1) := by decide +kernel
theorem dX5_copy_98 : decode cX5_copy 98 = .ok (.iconst 2, 1) := by decide +kernel
theorem dX5_copy_99 : decode cX5_copy 99 = .ok (.invokevirtual 68, 3) := by decide +kernel
theorem dX5_copy_102 : decode cX5_copy 102 = .ok (.ireturn, 1) := by decide +kernel
theorem dX5_copy_103 : decode cX5_copy 103 = .ok (.aload 6, 2) := by decide +kernel
theorem dX5_copy_105 : decode cX5_copy 105 = .ok (.getfield 99, 3) := by decide +kernel
theorem dX5_copy_108 : decode cX5_copy 108 = .ok (.iload_n 2, 1) := by decide +kernel
theorem dX5_copy_109 : decode cX5_copy 109 = .ok (.aload 7, 2) := by decide +kernel
theorem dX5_copy_111 : decode cX5_copy 111 = .ok (.getfield 99, 3) := by decide +kernel
theorem dX5_copy_114 : decode cX5_copy 114 = .ok (.iload 4, 2) := by decide +kernel
theorem dX5_copy_116 : decode cX5_copy 116 = .ok (.iload 5, 2) := by decide +kernel
theorem dX5_copy_118 : decode cX5_copy 118 = .ok (.invokestatic 102, 3) := by decide +kernel
theorem dX5_copy_121 : decode cX5_copy 121 = .ok (.aload_n 0, 1) := by decide +kernel
theorem dX5_copy_122 : decode cX5_copy 122 = .ok (.iload 5, 2) := by decide +kernel
theorem dX5_copy_124 : decode cX5_copy 124 = .ok (.invokevirtual 76, 3) := by decide +kernel
theorem dX5_copy_127 : decode cX5_copy 127 = .ok (.ireturn, 1) := by decide +kernel
theorem dX5_drop_0 : decode cX5_drop 0 = .ok (.iload_n 1, 1) := by decide +kernel
theorem dX5_drop_1 : decode cX5_drop 1 = .ok (.invokestatic 59, 3) := by decide +kernel
theorem dX5_drop_4 : decode cX5_drop 4 = .ok (.ifCond .ne 6, 3) := by decide +kernel
theorem dX5_drop_7 : decode cX5_drop 7 = .ok (.ldc 67, 2) := by decide +kernel
theorem dX5_drop_9 : decode cX5_drop 9 = .ok (.ireturn, 1) := by decide +kernel
theorem dX5_drop_10 : decode cX5_drop 10 = .ok (.aload_n 0, 1) := by decide +kernel
theorem dX5_drop_11 : decode cX5_drop 11 = .ok (.getfield 11, 3) := by decide +kernel
theorem dX5_drop_14 : decode cX5_drop 14 = .ok (.iload_n 1, 1) := by decide +kernel
theorem dX5_drop_15 : decode cX5_drop 15 = .ok (.aaload, 1) := by decide +kernel
theorem dX5_drop_16 : decode cX5_drop 16 = .ok (.invokevirtual 87, 3) := by decide +kernel
theorem dX5_drop_19 : decode cX5_drop 19 = .ok (.ifCond .eq 9, 3) := by decide +kernel
theorem dX5_drop_22 : decode cX5_drop 22 = .ok (.aload_n 0, 1) := by decide +kernel
theorem dX5_drop_23 : decode cX5_drop 23 = .ok (.iconst 1, 1) := by decide +kernel
theorem dX5_drop_24 : decode cX5_drop 24 = .ok (.invokevirtual 68, 3) := by decide +kernel
theorem dX5_drop_27 : decode cX5_drop 27 = .ok (.ireturn, 1) := by decide +kernel
theorem dX5_drop_28 : decode cX5_drop 28 = .ok (.aload_n 0, 1) := by decide +kernel
theorem dX5_drop_29 : decode cX5_drop 29 = .ok (.aload_n 0, 1) := by decide +kernel
theorem dX5_drop_30 : decode cX5_drop 30 = .ok (.getfield 11, 3) := by decide +kernel
theorem dX5_drop_33 : decode cX5_drop 33 = .ok (.iload_n 1, 1) := by decide +kernel
theorem dX5_drop_34 : decode cX5_drop 34 = .ok (.aaload, 1) := by decide +kernel
theorem dX5_drop_35 : decode cX5_drop 35 = .ok (.invokevirtual 108, 3) := by decide +kernel
theorem dX5_drop_38 : decode cX5_drop 38 = .ok (.invokevirtual 76, 3) := by decide +kernel
theorem dX5_drop_41 : decode cX5_drop 41 = .ok (.ireturn, 1) := by decide +kernel
theorem dX5_feed_0 : decode cX5_feed 0 = .ok (.iload_n 1, 1) := by decide +kernel
theorem dX5_feed_1 : decode cX5_feed 1 = .ok (.iconst 0, 1) := by decide +kernel
theorem dX5_feed_2 : decode cX5_feed 2 = .ok (.sipush 255, 3) := by decide +kernel
theorem dX5_feed_5 : decode cX5_feed 5 = .ok (.invokestatic 63, 3) := by decide +kernel
theorem dX5_feed_8 : decode cX5_feed 8 = .ok (.ifCond .ne 6, 3) := by decide +kernel
theorem dX5_feed_11 : decode cX5_feed 11 = .ok (.ldc 67, 2) := by decide +kernel
theorem dX5_feed_13 : decode cX5_feed 13 = .ok (.ireturn, 1) := by decide +kernel
theorem dX5_feed_14 : decode cX5_feed 14 = .ok (.aload_n 0, 1) := by decide +kernel
theorem dX5_feed_15 : decode cX5_feed 15 = .ok (.getfield 18, 3) := by decide +kernel
theorem dX5_feed_18 : decode cX5_feed 18 = .ok (.iload_n 1, 1) := by decide +kernel
theorem dX5_feed_19 : decode cX5_feed 19 = .ok (.invokevirtual 112, 3) := by decide +kernel
theorem dX5_feed_22 : decode cX5_feed 22 = .ok (.ifCond .eq 13, 3) := by decide +kernel
theorem dX5_feed_25 : decode cX5_feed 25 = .ok (.aload_n 0, 1) := by decide +kernel
theorem dX5_feed_26 : decode cX5_feed 26 = .ok (.getfield 18, 3) := by decide +kernel
theorem dX5_feed_29 : decode cX5_feed 29 = .ok (.getfield 115, 3) := by decide +kernel
theorem dX5_feed_32 : decode cX5_feed 32 = .ok (.goto 5, 3) := by decide +kernel
theorem dX5_feed_35 : decode cX5_feed 35 = .ok (.ldc 118, 2) := by decide +kernel
theorem dX5_feed_37 : decode cX5_feed 37 = .ok (.ireturn, 1) := by decide +kernel
theorem dX5_ministry_0 : decode cX5_ministry 0 = .ok (.aload_n 0, 1) := by decide +kernel
theorem dX5_ministry_1 : decode cX5_ministry 1 = .ok (.getfield 18, 3) := by decide +kernel
theorem dX5_ministry_4 : decode cX5_ministry 4 = .ok (.aload_n 0, 1) := by decide +kernel
theorem dX5_ministry_5 : decode cX5_ministry 5 = .ok (.getfield 29, 3) := by decide +kernel
theorem dX5_ministry_8 : decode cX5_ministry 8 = .ok (.invokevirtual 119, 3) := by decide +kernel
theorem dX5_ministry_11 : decode cX5_ministry 11 = .ok (.istore_n 1, 1) := by decide +kernel
theorem dX5_ministry_12 : decode cX5_ministry 12 = .ok (.aload_n 0, 1) := by decide +kernel
theorem dX5_ministry_13 : decode cX5_ministry 13 = .ok (.getfield 18, 3) := by decide +kernel
theorem dX5_ministry_16 : decode cX5_ministry 16 = .ok (.iconst 0, 1) := by decide +kernel
theorem dX5_ministry_17 : decode cX5_ministry 17 = .ok (.putfield 115, 3) := by decide +kernel
theorem dX5_ministry_20 : decode cX5_ministry 20 = .ok (.iload_n 1, 1) := by decide +kernel
theorem dX5_ministry_21 : decode cX5_ministry 21 = .ok (.ifCond .eq 19, 3) := by decide +kernel
theorem dX5_ministry_24 : decode cX5_ministry 24 = .ok (.aload_n 0, 1) := by decide +kernel
theorem dX5_ministry_25 : decode cX5_ministry 25 = .ok (.iload_n 1, 1) := by decide +kernel
theorem dX5_ministry_26 : decode cX5_ministry 26 = .ok (.putfield 123, 3) := by decide +kernel
theorem dX5_ministry_29 : decode cX5_ministry 29 = .ok (.ldc 126, 2) := by decide +kernel
theorem dX5_ministry_31 : decode cX5_ministry 31 = .ok (.aload_n 0, 1) := by decide +kernel
theorem dX5_ministry_32 : decode cX5_ministry 32 = .ok (.getfield 18, 3) := by decide +kernel
theorem dX5_ministry_35 : decode cX5_ministry 35 = .ok (.getfield 127, 3) := by decide +kernel
theorem dX5_ministry_38 : decode cX5_ministry 38 = .ok (.isub, 1) := by decide +kernel
theorem dX5_ministry_39 : decode cX5_ministry 39 = .ok (.ireturn, 1) := by decide +kernel
theorem dX5_ministry_40 : decode cX5_ministry 40 = .ok (.aload_n 0, 1) := by decide +kernel
theorem dX5_ministry_41 : decode cX5_ministry 41 = .ok (.getfield 29, 3) := by decide +kernel
theorem dX5_ministry_44 : decode cX5_ministry 44 = .ok (.aload_n 0, 1) := by decide +kernel
theorem dX5_ministry_45 : decode cX5_ministry 45 = .ok (.getfield 32, 3) := by decide +kernel
theorem dX5_ministry_48 : decode cX5_ministry 48 = .ok (.invokevirtual 130, 3) := by decide +kernel
theorem dX5_ministry_51 : decode cX5_ministry 51 = .ok (.aload_n 0, 1) := by decide +kernel
theorem dX5_ministry_52 : decode cX5_ministry 52 = .ok (.getfield 25, 3) := by decide +kernel
theorem dX5_ministry_55 : decode cX5_ministry 55 = .ok (.aload_n 0, 1) := by decide +kernel
theorem dX5_ministry_56 : decode cX5_ministry 56 = .ok (.getfield 32, 3) := by decide +kernel
theorem dX5_ministry_59 : decode cX5_ministry 59 = .ok (.invokevirtual 134, 3) := by decide +kernel
theorem dX5_ministry_62 : decode cX5_ministry 62 = .ok (.aload_n 0, 1) := by decide +kernel
theorem dX5_ministry_63 : decode cX5_ministry 63 = .ok (.getfield 42, 3) := by decide +kernel
theorem dX5_ministry_66 : decode cX5_ministry 66 = .ok (.invokevirtual 137, 3) := by decide +kernel
theorem dX5_ministry_69 : decode cX5_ministry 69 = .ok (.aload_n 0, 1) := by decide +kernel
theorem dX5_ministry_70 : decode cX5_ministry 70 = .ok (.getfield 25, 3) := by decide +kernel
theorem dX5_ministry_73 : decode cX5_ministry 73 = .ok (.getfield 140, 3) := by decide +kernel
theorem dX5_ministry_76 : decode cX5_ministry 76 = .ok (.ireturn, 1) := by decide +kernel
theorem dX5_fault_0 : decode cX5_fault 0 = .ok (.aload_n 0, 1) := by decide +kernel
theorem dX5_fault_1 : decode cX5_fault 1 = .ok (.getfield 123, 3) := by decide +kernel
theorem dX5_fault_4 : decode cX5_fault 4 = .ok (.ireturn, 1) := by decide +kernel
theorem dX5_undo_0 : decode cX5_undo 0 = .ok (.aload_n 0, 1) := by decide +kernel
theorem dX5_undo_1 : decode cX5_undo 1 = .ok (.getfield 42, 3) := by decide +kernel
theorem dX5_undo_4 : decode cX5_undo 4 = .ok (.aload_n 0, 1) := by decide +kernel
theorem dX5_undo_5 : decode cX5_undo 5 = .ok (.getfield 25, 3) := by decide +kernel
theorem dX5_undo_8 : decode cX5_undo 8 = .ok (.invokevirtual 141, 3) := by decide +kernel
theorem dX5_undo_11 : decode cX5_undo 11 = .ok (.ifCond .eq 13, 3) := by decide +kernel
theorem dX5_undo_14 : decode cX5_undo 14 = .ok (.aload_n 0, 1) := by decide +kernel
theorem dX5_undo_15 : decode cX5_undo 15 = .ok (.getfield 42, 3) := by decide +kernel
theorem dX5_undo_18 : decode cX5_undo 18 = .ok (.getfield 145, 3) := by decide +kernel
theorem dX5_undo_21 : decode cX5_undo 21 = .ok (.goto 5, 3) := by decide +kernel
theorem dX5_undo_24 : decode cX5_undo 24 = .ok (.ldc 148, 2) := by decide +kernel
theorem dX5_undo_26 : decode cX5_undo 26 = .ok (.ireturn, 1) := by decide +kernel
theorem dX5_nights_0 : decode cX5_nights 0 = .ok (.aload_n 0, 1) := by decide +kernel
theorem dX5_nights_1 : decode cX5_nights 1 = .ok (.invokevirtual 149, 3) := by decide +kernel
theorem dX5_nights_4 : decode cX5_nights 4 = .ok (.ifCond .eq 6, 3) := by decide +kernel
theorem dX5_nights_7 : decode cX5_nights 7 = .ok (.ldc 148, 2) := by decide +kernel
theorem dX5_nights_9 : decode cX5_nights 9 = .ok (.ireturn, 1) := by decide +kernel
theorem dX5_nights_10 : decode cX5_nights 10 = .ok (.iload_n 1, 1) := by decide +kernel
theorem dX5_nights_11 : decode cX5_nights 11 = .ok (.iconst 1, 1) := by decide +kernel
theorem dX5_nights_12 : decode cX5_nights 12 = .ok (.bipush 24, 2) := by decide +kernel
theorem dX5_nights_14 : decode cX5_nights 14 = .ok (.invokestatic 63, 3) := by decide +kernel
theorem dX5_nights_17 : decode cX5_nights 17 = .ok (.ifCond .ne 6, 3) := by decide +kernel
theorem dX5_nights_20 : decode cX5_nights 20 = .ok (.ldc 67, 2) := by decide +kernel
theorem dX5_nights_22 : decode cX5_nights 22 = .ok (.ireturn, 1) := by decide +kernel
theorem dX5_nights_23 : decode cX5_nights 23 = .ok (.aload_n 0, 1) := by decide +kernel
theorem dX5_nights_24 : decode cX5_nights 24 = .ok (.getfield 25, 3) := by decide +kernel
theorem dX5_nights_27 : decode cX5_nights 27 = .ok (.getfield 152, 3) := by decide +kernel
theorem dX5_nights_30 : decode cX5_nights 30 = .ok (.iload_n 1, 1) := by decide +kernel
theorem dX5_nights_31 : decode cX5_nights 31 = .ok (.iadd, 1) := by decide +kernel
theorem dX5_nights_32 : decode cX5_nights 32 = .ok (.sipush 999, 3) := by decide +kernel
theorem dX5_nights_35 : decode cX5_nights 35 = .ok (.if_icmp .le 6, 3) := by decide +kernel
theorem dX5_nights_38 : decode cX5_nights 38 = .ok (.ldc 118, 2) := by decide +kernel
theorem dX5_nights_40 : decode cX5_nights 40 = .ok (.ireturn, 1) := by decide +kernel
theorem dX5_nights_41 : decode cX5_nights 41 = .ok (.iconst 0, 1) := by decide +kernel
theorem dX5_nights_42 : decode cX5_nights 42 = .ok (.istore_n 2, 1) := by decide +kernel
theorem dX5_nights_43 : decode cX5_nights 43 = .ok (.iload_n 2, 1) := by decide +kernel
theorem dX5_nights_44 : decode cX5_nights 44 = .ok (.iload_n 1, 1) := by decide +kernel
theorem dX5_nights_45 : decode cX5_nights 45 = .ok (.if_icmp .ge 28, 3) := by decide +kernel
theorem dX5_nights_48 : decode cX5_nights 48 = .ok (.aload_n 0, 1) := by decide +kernel
theorem dX5_nights_49 : decode cX5_nights 49 = .ok (.getfield 42, 3) := by decide +kernel
theorem dX5_nights_52 : decode cX5_nights 52 = .ok (.aload_n 0, 1) := by decide +kernel
theorem dX5_nights_53 : decode cX5_nights 53 = .ok (.getfield 25, 3) := by decide +kernel
theorem dX5_nights_56 : decode cX5_nights 56 = .ok (.invokevirtual 155, 3) := by decide +kernel
theorem dX5_nights_59 : decode cX5_nights 59 = .ok (.aload_n 0, 1) := by decide +kernel
theorem dX5_nights_60 : decode cX5_nights 60 = .ok (.getfield 25, 3) := by decide +kernel
theorem dX5_nights_63 : decode cX5_nights 63 = .ok (.invokevirtual 159, 3) := by decide +kernel
theorem dX5_nights_66 : decode cX5_nights 66 = .ok (.pop, 1) := by decide +kernel
theorem dX5_nights_67 : decode cX5_nights 67 = .ok (.iinc 2 1, 3) := by decide +kernel
theorem dX5_nights_70 : decode cX5_nights 70 = .ok (.goto (-27), 3) := by decide +kernel
theorem dX5_nights_73 : decode cX5_nights 73 = .ok (.aload_n 0, 1) := by decide +kernel
theorem dX5_nights_74 : decode cX5_nights 74 = .ok (.getfield 25, 3) := by decide +kernel
theorem dX5_nights_77 : decode cX5_nights 77 = .ok (.iconst 0, 1) := by decide +kernel
theorem dX5_nights_78 : decode cX5_nights 78 = .ok (.invokevirtual 162, 3) := by decide +kernel
theorem dX5_nights_81 : decode cX5_nights 81 = .ok (.ireturn, 1) := by decide +kernel
theorem dX5_cushions_0 : decode cX5_cushions 0 = .ok (.aload_n 0, 1) := by decide +kernel
theorem dX5_cushions_1 : decode cX5_cushions 1 = .ok (.iload_n 1, 1) := by decide +kernel
theorem dX5_cushions_2 : decode cX5_cushions 2 = .ok (.invokevirtual 165, 3) := by decide +kernel
theorem dX5_cushions_5 : decode cX5_cushions 5 = .ok (.ifCond .eq 13, 3) := by decide +kernel
theorem dX5_cushions_8 : decode cX5_cushions 8 = .ok (.iload_n 2, 1) := by decide +kernel
theorem dX5_cushions_9 : decode cX5_cushions 9 = .ok (.iconst 0, 1) := by decide +kernel
theorem dX5_cushions_10 : decode cX5_cushions 10 = .ok (.bipush 20, 2) := by decide +kernel
theorem dX5_cushions_12 : decode cX5_cushions 12 = .ok (.invokestatic 63, 3) := by decide +kernel
theorem dX5_cushions_15 : decode cX5_cushions 15 = .ok (.ifCond .ne 6, 3) := by decide +kernel
theorem dX5_cushions_18 : decode cX5_cushions 18 = .ok (.ldc 67, 2) := by decide +kernel
theorem dX5_cushions_20 : decode cX5_cushions 20 = .ok (.ireturn, 1) := by decide +kernel
theorem dX5_cushions_21 : decode cX5_cushions 21 = .ok (.aload_n 0, 1) := by decide +kernel
theorem dX5_cushions_22 : decode cX5_cushions 22 = .ok (.getfield 42, 3) := by decide +kernel
theorem dX5_cushions_25 : decode cX5_cushions 25 = .ok (.aload_n 0, 1) := by decide +kernel
theorem dX5_cushions_26 : decode cX5_cushions 26 = .ok (.getfield 25, 3) := by decide +kernel
theorem dX5_cushions_29 : decode cX5_cushions 29 = .ok (.invokevirtual 155, 3) := by decide +kernel
theorem dX5_cushions_32 : decode cX5_cushions 32 = .ok (.aload_n 0, 1) := by decide +kernel
theorem dX5_cushions_33 : decode cX5_cushions 33 = .ok (.getfield 25, 3) := by decide +kernel
theorem dX5_cushions_36 : decode cX5_cushions 36 = .ok (.getfield 168, 3) := by decide +kernel
theorem dX5_cushions_39 : decode cX5_cushions 39 = .ok (.iload_n 1, 1) := by decide +kernel
theorem dX5_cushions_40 : decode cX5_cushions 40 = .ok (.iaload, 1) := by decide +kernel
theorem dX5_cushions_41 : decode cX5_cushions 41 = .ok (.istore_n 3, 1) := by decide +kernel
theorem dX5_cushions_42 : decode cX5_cushions 42 = .ok (.aload_n 0, 1) := by decide +kernel
theorem dX5_cushions_43 : decode cX5_cushions 43 = .ok (.getfield 25, 3) := by decide +kernel
theorem dX5_cushions_46 : decode cX5_cushions 46 = .ok (.getfield 168, 3) := by decide +kernel
theorem dX5_cushions_49 : decode cX5_cushions 49 = .ok (.iload_n 1, 1) := by decide +kernel
theorem dX5_cushions_50 : decode cX5_cushions 50 = .ok (.iload_n 2, 1) := by decide +kernel
theorem dX5_cushions_51 : decode cX5_cushions 51 = .ok (.iastore, 1) := by decide +kernel
theorem dX5_cushions_52 : decode cX5_cushions 52 = .ok (.iload_n 3, 1) := by decide +kernel
theorem dX5_cushions_53 : decode cX5_cushions 53 = .ok (.ireturn, 1) := by decide +kernel
theorem dX5_mend_0 : decode cX5_mend 0 = .ok (.aload_n 0, 1) := by decide +kernel
theorem dX5_mend_1 : decode cX5_mend 1 = .ok (.iload_n 1, 1) := by decide +kernel
theorem dX5_mend_2 : decode cX5_mend 2 = .ok (.invokevirtual 165, 3) := by decide +kernel
theorem dX5_mend_5 : decode cX5_mend 5 = .ok (.ifCond .ne 6, 3) := by decide +kernel
theorem dX5_mend_8 : decode cX5_mend 8 = .ok (.ldc 67, 2) := by decide +kernel
theorem dX5_mend_10 : decode cX5_mend 10 = .ok (.ireturn, 1) := by decide +kernel
theorem dX5_mend_11 : decode cX5_mend 11 = .ok (.aload_n 0, 1) := by decide +kernel
theorem dX5_mend_12 : decode cX5_mend 12 = .ok (.getfield 25, 3) := by decide +kernel
theorem dX5_mend_15 : decode cX5_mend 15 = .ok (.getfield 171, 3) := by decide +kernel
theorem dX5_mend_18 : decode cX5_mend 18 = .ok (.iload_n 1, 1) := by decide +kernel
theorem dX5_mend_19 : decode cX5_mend 19 = .ok (.iaload, 1) := by decide +kernel
theorem dX5_mend_20 : decode cX5_mend 20 = .ok (.bipush 60, 2) := by decide +kernel
theorem dX5_mend_22 : decode cX5_mend 22 = .ok (.if_icmp .lt 6, 3) := by decide +kernel
theorem dX5_mend_25 : decode cX5_mend 25 = .ok (.ldc 118, 2) := by decide +kernel
theorem dX5_mend_27 : decode cX5_mend 27 = .ok (.ireturn, 1) := by decide +kernel
theorem dX5_mend_28 : decode cX5_mend 28 = .ok (.aload_n 0, 1) := by decide +kernel
theorem dX5_mend_29 : decode cX5_mend 29 = .ok (.getfield 42, 3) := by decide +kernel
theorem dX5_mend_32 : decode cX5_mend 32 = .ok (.aload_n 0, 1) := by decide +kernel
theorem dX5_mend_33 : decode cX5_mend 33 = .ok (.getfield 25, 3) := by decide +kernel
theorem dX5_mend_36 : decode cX5_mend 36 = .ok (.invokevirtual 155, 3) := by decide +kernel
theorem dX5_mend_39 : decode cX5_mend 39 = .ok (.aload_n 0, 1) := by decide +kernel
theorem dX5_mend_40 : decode cX5_mend 40 = .ok (.getfield 25, 3) := by decide +kernel
theorem dX5_mend_43 : decode cX5_mend 43 = .ok (.iload_n 1, 1) := by decide +kernel
theorem dX5_mend_44 : decode cX5_mend 44 = .ok (.invokevirtual 174, 3) := by decide +kernel
theorem dX5_mend_47 : decode cX5_mend 47 = .ok (.aload_n 0, 1) := by decide +kernel
theorem dX5_mend_48 : decode cX5_mend 48 = .ok (.getfield 25, 3) := by decide +kernel
theorem dX5_mend_51 : decode cX5_mend 51 = .ok (.getfield 171, 3) := by decide +kernel
theorem dX5_mend_54 : decode cX5_mend 54 = .ok (.iload_n 1, 1) := by decide +kernel
theorem dX5_mend_55 : decode cX5_mend 55 = .ok (.iaload, 1) := by decide +kernel
theorem dX5_mend_56 : decode cX5_mend 56 = .ok (.ireturn, 1) := by decide +kernel
theorem dX5_watch_0 : decode cX5_watch 0 = .ok (.aload_n 0, 1) := by decide +kernel
theorem dX5_watch_1 : decode cX5_watch 1 = .ok (.iload_n 1, 1) := by decide +kernel
theorem dX5_watch_2 : decode cX5_watch 2 = .ok (.invokevirtual 165, 3) := by decide +kernel
theorem dX5_watch_5 : decode cX5_watch 5 = .ok (.ifCond .eq 12, 3) := by decide +kernel
theorem dX5_watch_8 : decode cX5_watch 8 = .ok (.iload_n 2, 1) := by decide +kernel
theorem dX5_watch_9 : decode cX5_watch 9 = .ok (.iconst 0, 1) := by decide +kernel
theorem dX5_watch_10 : decode cX5_watch 10 = .ok (.iconst 1, 1) := by decide +kernel
theorem dX5_watch_11 : decode cX5_watch 11 = .ok (.invokestatic 63, 3) := by decide +kernel
theorem dX5_watch_14 : decode cX5_watch 14 = .ok (.ifCond .ne 6, 3) := by decide +kernel
theorem dX5_watch_17 : decode cX5_watch 17 = .ok (.ldc 67, 2) := by decide +kernel
theorem dX5_watch_19 : decode cX5_watch 19 = .ok (.ireturn, 1) := by decide +kernel
theorem dX5_watch_20 : decode cX5_watch 20 = .ok (.aload_n 0, 1) := by decide +kernel
theorem dX5_watch_21 : decode cX5_watch 21 = .ok (.getfield 25, 3) := by decide +kernel
theorem dX5_watch_24 : decode cX5_watch 24 = .ok (.iload_n 1, 1) := by decide +kernel
theorem dX5_watch_25 : decode cX5_watch 25 = .ok (.invokevirtual 178, 3) := by decide +kernel
theorem dX5_watch_28 : decode cX5_watch 28 = .ok (.iload_n 2, 1) := by decide +kernel
theorem dX5_watch_29 : decode cX5_watch 29 = .ok (.iconst 1, 1) := by decide +kernel
theorem dX5_watch_30 : decode cX5_watch 30 = .ok (.if_icmp .ne 7, 3) := by decide +kernel
theorem dX5_watch_33 : decode cX5_watch 33 = .ok (.iconst 1, 1) := by decide +kernel
theorem dX5_watch_34 : decode cX5_watch 34 = .ok (.goto 4, 3) := by decide +kernel
theorem dX5_watch_37 : decode cX5_watch 37 = .ok (.iconst 0, 1) := by decide +kernel
theorem dX5_watch_38 : decode cX5_watch 38 = .ok (.if_icmp .ne 6, 3) := by decide +kernel
theorem dX5_watch_41 : decode cX5_watch 41 = .ok (.ldc 148, 2) := by decide +kernel
theorem dX5_watch_43 : decode cX5_watch 43 = .ok (.ireturn, 1) := by decide +kernel
theorem dX5_watch_44 : decode cX5_watch 44 = .ok (.iload_n 2, 1) := by decide +kernel
theorem dX5_watch_45 : decode cX5_watch 45 = .ok (.iconst 1, 1) := by decide +kernel
theorem dX5_watch_46 : decode cX5_watch 46 = .ok (.if_icmp .ne 26, 3) := by decide +kernel
theorem dX5_watch_49 : decode cX5_watch 49 = .ok (.aload_n 0, 1) := by decide +kernel
theorem dX5_watch_50 : decode cX5_watch 50 = .ok (.getfield 25, 3) := by decide +kernel
theorem dX5_watch_53 : decode cX5_watch 53 = .ok (.getfield 181, 3) := by decide +kernel
theorem dX5_watch_56 : decode cX5_watch 56 = .ok (.invokestatic 184, 3) := by decide +kernel
theorem dX5_watch_59 : decode cX5_watch 59 = .ok (.aload_n 0, 1) := by decide +kernel
theorem dX5_watch_60 : decode cX5_watch 60 = .ok (.getfield 25, 3) := by decide +kernel
theorem dX5_watch_63 : decode cX5_watch 63 = .ok (.getfield 189, 3) := by decide +kernel
theorem dX5_watch_66 : decode cX5_watch 66 = .ok (.if_icmp .lt 6, 3) := by decide +kernel
theorem dX5_watch_69 : decode cX5_watch 69 = .ok (.ldc 118, 2) := by decide +kernel
theorem dX5_watch_71 : decode cX5_watch 71 = .ok (.ireturn, 1) := by decide +kernel
theorem dX5_watch_72 : decode cX5_watch 72 = .ok (.aload_n 0, 1) := by decide +kernel
theorem dX5_watch_73 : decode cX5_watch 73 = .ok (.getfield 42, 3) := by decide +kernel
theorem dX5_watch_76 : decode cX5_watch 76 = .ok (.aload_n 0, 1) := by decide +kernel
theorem dX5_watch_77 : decode cX5_watch 77 = .ok (.getfield 25, 3) := by decide +kernel
theorem dX5_watch_80 : decode cX5_watch 80 = .ok (.invokevirtual 155, 3) := by decide +kernel
theorem dX5_watch_83 : decode cX5_watch 83 = .ok (.aload_n 0, 1) := by decide +kernel
theorem dX5_watch_84 : decode cX5_watch 84 = .ok (.getfield 25, 3) := by decide +kernel
theorem dX5_watch_87 : decode cX5_watch 87 = .ok (.dup, 1) := by decide +kernel
theorem dX5_watch_88 : decode cX5_watch 88 = .ok (.getfield 181, 3) := by decide +kernel
theorem dX5_watch_91 : decode cX5_watch 91 = .ok (.iconst 1, 1) := by decide +kernel
theorem dX5_watch_92 : decode cX5_watch 92 = .ok (.iload_n 1, 1) := by decide +kernel
theorem dX5_watch_93 : decode cX5_watch 93 = .ok (.ishl, 1) := by decide +kernel
theorem dX5_watch_94 : decode cX5_watch 94 = .ok (.ixor, 1) := by decide +kernel
theorem dX5_watch_95 : decode cX5_watch 95 = .ok (.putfield 181, 3) := by decide +kernel
theorem dX5_watch_98 : decode cX5_watch 98 = .ok (.aload_n 0, 1) := by decide +kernel
theorem dX5_watch_99 : decode cX5_watch 99 = .ok (.getfield 25, 3) := by decide +kernel
theorem dX5_watch_102 : decode cX5_watch 102 = .ok (.getfield 181, 3) := by decide +kernel
theorem dX5_watch_105 : decode cX5_watch 105 = .ok (.ireturn, 1) := by decide +kernel
theorem dX5_change_0 : decode cX5_change 0 = .ok (.aload_n 0, 1) := by decide +kernel
theorem dX5_change_1 : decode cX5_change 1 = .ok (.iload_n 1, 1) := by decide +kernel
theorem dX5_change_2 : decode cX5_change 2 = .ok (.invokevirtual 165, 3) := by decide +kernel
theorem dX5_change_5 : decode cX5_change 5 = .ok (.ifCond .eq 16, 3) := by decide +kernel
theorem dX5_change_8 : decode cX5_change 8 = .ok (.aload_n 0, 1) := by decide +kernel
theorem dX5_change_9 : decode cX5_change 9 = .ok (.iload_n 2, 1) := by decide +kernel
theorem dX5_change_10 : decode cX5_change 10 = .ok (.invokevirtual 165, 3) := by decide +kernel
theorem dX5_change_13 : decode cX5_change 13 = .ok (.ifCond .eq 8, 3) := by decide +kernel
theorem dX5_change_16 : decode cX5_change 16 = .ok (.iload_n 1, 1) := by decide +kernel
theorem dX5_change_17 : decode cX5_change 17 = .ok (.iload_n 2, 1) := by decide +kernel
theorem dX5_change_18 : decode cX5_change 18 = .ok (.if_icmp .ne 6, 3) := by decide +kernel
theorem dX5_change_21 : decode cX5_change 21 = .ok (.ldc 67, 2) := by decide +kernel
theorem dX5_change_23 : decode cX5_change 23 = .ok (.ireturn, 1) := by decide +kernel
theorem dX5_change_24 : decode cX5_change 24 = .ok (.aload_n 0, 1) := by decide +kernel
theorem dX5_change_25 : decode cX5_change 25 = .ok (.getfield 42, 3) := by decide +kernel
theorem dX5_change_28 : decode cX5_change 28 = .ok (.aload_n 0, 1) := by decide +kernel
theorem dX5_change_29 : decode cX5_change 29 = .ok (.getfield 25, 3) := by decide +kernel
theorem dX5_change_32 : decode cX5_change 32 = .ok (.invokevirtual 155, 3) := by decide +kernel
theorem dX5_change_35 : decode cX5_change 35 = .ok (.aload_n 0, 1) := by decide +kernel
theorem dX5_change_36 : decode cX5_change 36 = .ok (.getfield 25, 3) := by decide +kernel
theorem dX5_change_39 : decode cX5_change 39 = .ok (.iload_n 1, 1) := by decide +kernel
theorem dX5_change_40 : decode cX5_change 40 = .ok (.iload_n 2, 1) := by decide +kernel
theorem dX5_change_41 : decode cX5_change 41 = .ok (.invokevirtual 192, 3) := by decide +kernel
theorem dX5_change_44 : decode cX5_change 44 = .ok (.aload_n 0, 1) := by decide +kernel
theorem dX5_change_45 : decode cX5_change 45 = .ok (.getfield 25, 3) := by decide +kernel
theorem dX5_change_48 : decode cX5_change 48 = .ok (.iload_n 1, 1) := by decide +kernel
theorem dX5_change_49 : decode cX5_change 49 = .ok (.invokevirtual 195, 3) := by decide +kernel
theorem dX5_change_52 : decode cX5_change 52 = .ok (.ireturn, 1) := by decide +kernel
theorem dX5_saw_0 : decode cX5_saw 0 = .ok (.aload_n 0, 1) := by decide +kernel
theorem dX5_saw_1 : decode cX5_saw 1 = .ok (.iload_n 1, 1) := by decide +kernel
theorem dX5_saw_2 : decode cX5_saw 2 = .ok (.invokevirtual 165, 3) := by decide +kernel
theorem dX5_saw_5 : decode cX5_saw 5 = .ok (.ifCond .eq 13, 3) := by decide +kernel
theorem dX5_saw_8 : decode cX5_saw 8 = .ok (.iload_n 2, 1) := by decide +kernel
theorem dX5_saw_9 : decode cX5_saw 9 = .ok (.iconst 0, 1) := by decide +kernel
theorem dX5_saw_10 : decode cX5_saw 10 = .ok (.bipush 9, 2) := by decide +kernel
theorem dX5_saw_12 : decode cX5_saw 12 = .ok (.invokestatic 63, 3) := by decide +kernel
theorem dX5_saw_15 : decode cX5_saw 15 = .ok (.ifCond .ne 6, 3) := by decide +kernel
theorem dX5_saw_18 : decode cX5_saw 18 = .ok (.ldc 67, 2) := by decide +kernel
theorem dX5_saw_20 : decode cX5_saw 20 = .ok (.ireturn, 1) := by decide +kernel
theorem dX5_saw_21 : decode cX5_saw 21 = .ok (.aload_n 0, 1) := by decide +kernel
theorem dX5_saw_22 : decode cX5_saw 22 = .ok (.getfield 42, 3) := by decide +kernel
theorem dX5_saw_25 : decode cX5_saw 25 = .ok (.aload_n 0, 1) := by decide +kernel
theorem dX5_saw_26 : decode cX5_saw 26 = .ok (.getfield 25, 3) := by decide +kernel
theorem dX5_saw_29 : decode cX5_saw 29 = .ok (.invokevirtual 155, 3) := by decide +kernel
theorem dX5_saw_32 : decode cX5_saw 32 = .ok (.aload_n 0, 1) := by decide +kernel
theorem dX5_saw_33 : decode cX5_saw 33 = .ok (.getfield 25, 3) := by decide +kernel
theorem dX5_saw_36 : decode cX5_saw 36 = .ok (.getfield 198, 3) := by decide +kernel
theorem dX5_saw_39 : decode cX5_saw 39 = .ok (.iload_n 1, 1) := by decide +kernel
theorem dX5_saw_40 : decode cX5_saw 40 = .ok (.iaload, 1) := by decide +kernel
theorem dX5_saw_41 : decode cX5_saw 41 = .ok (.istore_n 3, 1) := by decide +kernel
theorem dX5_saw_42 : decode cX5_saw 42 = .ok (.aload_n 0, 1) := by decide +kernel
theorem dX5_saw_43 : decode cX5_saw 43 = .ok (.getfield 25, 3) := by decide +kernel
theorem dX5_saw_46 : decode cX5_saw 46 = .ok (.getfield 198, 3) := by decide +kernel
theorem dX5_saw_49 : decode cX5_saw 49 = .ok (.iload_n 1, 1) := by decide +kernel
theorem dX5_saw_50 : decode cX5_saw 50 = .ok (.iload_n 2, 1) := by decide +kernel
theorem dX5_saw_51 : decode cX5_saw 51 = .ok (.iastore, 1) := by decide +kernel
theorem dX5_saw_52 : decode cX5_saw 52 = .ok (.iload_n 3, 1) := by decide +kernel
theorem dX5_saw_53 : decode cX5_saw 53 = .ok (.ireturn, 1) := by decide +kernel
theorem dX5_chair_0 : decode cX5_chair 0 = .ok (.aload_n 0, 1) := by decide +kernel
theorem dX5_chair_1 : decode cX5_chair 1 = .ok (.iload_n 1, 1) := by decide +kernel
theorem dX5_chair_2 : decode cX5_chair 2 = .ok (.invokevirtual 165, 3) := by decide +kernel
theorem dX5_chair_5 : decode cX5_chair 5 = .ok (.ifCond .ne 6, 3) := by decide +kernel
theorem dX5_chair_8 : decode cX5_chair 8 = .ok (.ldc 67, 2) := by decide +kernel
theorem dX5_chair_10 : decode cX5_chair 10 = .ok (.ireturn, 1) := by decide +kernel
theorem dX5_chair_11 : decode cX5_chair 11 = .ok (.iload_n 2, 1) := by decide +kernel
theorem dX5_chair_12 : decode cX5_chair 12 = .ok (.tableswitch 146 0 8 #[52, 62, 72, 81, 90, 107, 117, 127, 136], 52) := by decide +kernel
theorem dX5_chair_64 : decode cX5_chair 64 = .ok (.aload_n 0, 1) := by decide +kernel
theorem dX5_chair_65 : decode cX5_chair 65 = .ok (.getfield 25, 3) := by decide +kernel
theorem dX5_chair_68 : decode cX5_chair 68 = .ok (.getfield 171, 3) := by decide +kernel
theorem dX5_chair_71 : decode cX5_chair 71 = .ok (.iload_n 1, 1) := by decide +kernel
theorem dX5_chair_72 : decode cX5_chair 72 = .ok (.iaload, 1) := by decide +kernel
theorem dX5_chair_73 : decode cX5_chair 73 = .ok (.ireturn, 1) := by decide +kernel
theorem dX5_chair_74 : decode cX5_chair 74 = .ok (.aload_n 0, 1) := by decide +kernel
theorem dX5_chair_75 : decode cX5_chair 75 = .ok (.getfield 25, 3) := by decide +kernel
theorem dX5_chair_78 : decode cX5_chair 78 = .ok (.getfield 168, 3) := by decide +kernel
theorem dX5_chair_81 : decode cX5_chair 81 = .ok (.iload_n 1, 1) := by decide +kernel
theorem dX5_chair_82 : decode cX5_chair 82 = .ok (.iaload, 1) := by decide +kernel
theorem dX5_chair_83 : decode cX5_chair 83 = .ok (.ireturn, 1) := by decide +kernel
theorem dX5_chair_84 : decode cX5_chair 84 = .ok (.aload_n 0, 1) := by decide +kernel
theorem dX5_chair_85 : decode cX5_chair 85 = .ok (.getfield 25, 3) := by decide +kernel
theorem dX5_chair_88 : decode cX5_chair 88 = .ok (.iload_n 1, 1) := by decide +kernel
theorem dX5_chair_89 : decode cX5_chair 89 = .ok (.invokevirtual 201, 3) := by decide +kernel
theorem dX5_chair_92 : decode cX5_chair 92 = .ok (.ireturn, 1) := by decide +kernel
theorem dX5_chair_93 : decode cX5_chair 93 = .ok (.aload_n 0, 1) := by decide +kernel
theorem dX5_chair_94 : decode cX5_chair 94 = .ok (.getfield 25, 3) := by decide +kernel
theorem dX5_chair_97 : decode cX5_chair 97 = .ok (.iload_n 1, 1) := by decide +kernel
theorem dX5_chair_98 : decode cX5_chair 98 = .ok (.invokevirtual 204, 3) := by decide +kernel
theorem dX5_chair_101 : decode cX5_chair 101 = .ok (.ireturn, 1) := by decide +kernel
theorem dX5_chair_102 : decode cX5_chair 102 = .ok (.aload_n 0, 1) := by decide +kernel
theorem dX5_chair_103 : decode cX5_chair 103 = .ok (.getfield 25, 3) := by decide +kernel
theorem dX5_chair_106 : decode cX5_chair 106 = .ok (.iload_n 1, 1) := by decide +kernel
theorem dX5_chair_107 : decode cX5_chair 107 = .ok (.invokevirtual 178, 3) := by decide +kernel
theorem dX5_chair_110 : decode cX5_chair 110 = .ok (.ifCond .eq 7, 3) := by decide +kernel
theorem dX5_chair_113 : decode cX5_chair 113 = .ok (.iconst 1, 1) := by decide +kernel
theorem dX5_chair_114 : decode cX5_chair 114 = .ok (.goto 4, 3) := by decide +kernel
theorem dX5_chair_117 : decode cX5_chair 117 = .ok (.iconst 0, 1) := by decide +kernel
theorem dX5_chair_118 : decode cX5_chair 118 = .ok (.ireturn, 1) := by decide +kernel
theorem dX5_chair_119 : decode cX5_chair 119 = .ok (.aload_n 0, 1) := by decide +kernel
theorem dX5_chair_120 : decode cX5_chair 120 = .ok (.getfield 25, 3) := by decide +kernel
theorem dX5_chair_123 : decode cX5_chair 123 = .ok (.getfield 198, 3) := by decide +kernel
theorem dX5_chair_126 : decode cX5_chair 126 = .ok (.iload_n 1, 1) := by decide +kernel
theorem dX5_chair_127 : decode cX5_chair 127 = .ok (.iaload, 1) := by decide +kernel
theorem dX5_chair_128 : decode cX5_chair 128 = .ok (.ireturn, 1) := by decide +kernel
theorem dX5_chair_129 : decode cX5_chair 129 = .ok (.aload_n 0, 1) := by decide +kernel
theorem dX5_chair_130 : decode cX5_chair 130 = .ok (.getfield 25, 3) := by decide +kernel
theorem dX5_chair_133 : decode cX5_chair 133 = .ok (.getfield 207, 3) := by decide +kernel
theorem dX5_chair_136 : decode cX5_chair 136 = .ok (.iload_n 1, 1) := by decide +kernel
theorem dX5_chair_137 : decode cX5_chair 137 = .ok (.iaload, 1) := by decide +kernel
theorem dX5_chair_138 : decode cX5_chair 138 = .ok (.ireturn, 1) := by decide +kernel
theorem dX5_chair_139 : decode cX5_chair 139 = .ok (.aload_n 0, 1) := by decide +kernel
theorem dX5_chair_140 : decode cX5_chair 140 = .ok (.getfield 25, 3) := by decide +kernel
theorem dX5_chair_143 : decode cX5_chair 143 = .ok (.iload_n 1, 1) := by decide +kernel
theorem dX5_chair_144 : decode cX5_chair 144 = .ok (.invokevirtual 195, 3) := by decide +kernel
theorem dX5_chair_147 : decode cX5_chair 147 = .ok (.ireturn, 1) := by decide +kernel
theorem dX5_chair_148 : decode cX5_chair 148 = .ok (.aload_n 0, 1) := by decide +kernel
theorem dX5_chair_149 : decode cX5_chair 149 = .ok (.getfield 25, 3) := by decide +kernel
theorem dX5_chair_152 : decode cX5_chair 152 = .ok (.getfield 210, 3) := by decide +kernel
theorem dX5_chair_155 : decode cX5_chair 155 = .ok (.iload_n 1, 1) := by decide +kernel
theorem dX5_chair_156 : decode cX5_chair 156 = .ok (.iaload, 1) := by decide +kernel
theorem dX5_chair_157 : decode cX5_chair 157 = .ok (.ireturn, 1) := by decide +kernel
theorem dX5_chair_158 : decode cX5_chair 158 = .ok (.ldc 67, 2) := by decide +kernel
theorem dX5_chair_160 : decode cX5_chair 160 = .ok (.ireturn, 1) := by decide +kernel
theorem dX5_ranked_0 : decode cX5_ranked 0 = .ok (.aload_n 0, 1) := by decide +kernel
theorem dX5_ranked_1 : decode cX5_ranked 1 = .ok (.iload_n 1, 1) := by decide +kernel
theorem dX5_ranked_2 : decode cX5_ranked 2 = .ok (.invokevirtual 165, 3) := by decide +kernel
theorem dX5_ranked_5 : decode cX5_ranked 5 = .ok (.ifCond .eq 14, 3) := by decide +kernel
theorem dX5_ranked_8 : decode cX5_ranked 8 = .ok (.aload_n 0, 1) := by decide +kernel
theorem dX5_ranked_9 : decode cX5_ranked 9 = .ok (.getfield 25, 3) := by decide +kernel
theorem dX5_ranked_12 : decode cX5_ranked 12 = .ok (.iload_n 1, 1) := by decide +kernel
theorem dX5_ranked_13 : decode cX5_ranked 13 = .ok (.invokevirtual 162, 3) := by decide +kernel
theorem dX5_ranked_16 : decode cX5_ranked 16 = .ok (.goto 5, 3) := by decide +kernel
theorem dX5_ranked_19 : decode cX5_ranked 19 = .ok (.ldc 67, 2) := by decide +kernel
theorem dX5_ranked_21 : decode cX5_ranked 21 = .ok (.ireturn, 1) := by decide +kernel
theorem dX5_ahead_0 : decode cX5_ahead 0 = .ok (.aload_n 0, 1) := by decide +kernel
theorem dX5_ahead_1 : decode cX5_ahead 1 = .ok (.iload_n 1, 1) := by decide +kernel
theorem dX5_ahead_2 : decode cX5_ahead 2 = .ok (.invokevirtual 165, 3) := by decide +kernel
theorem dX5_ahead_5 : decode cX5_ahead 5 = .ok (.ifCond .eq 22, 3) := by decide +kernel
theorem dX5_ahead_8 : decode cX5_ahead 8 = .ok (.iload_n 2, 1) := by decide +kernel
theorem dX5_ahead_9 : decode cX5_ahead 9 = .ok (.iconst 0, 1) := by decide +kernel
theorem dX5_ahead_10 : decode cX5_ahead 10 = .ok (.bipush 60, 2) := by decide +kernel
theorem dX5_ahead_12 : decode cX5_ahead 12 = .ok (.invokestatic 63, 3) := by decide +kernel
theorem dX5_ahead_15 : decode cX5_ahead 15 = .ok (.ifCond .eq 12, 3) := by decide +kernel
theorem dX5_ahead_18 : decode cX5_ahead 18 = .ok (.iload_n 3, 1) := by decide +kernel
theorem dX5_ahead_19 : decode cX5_ahead 19 = .ok (.iconst 0, 1) := by decide +kernel
theorem dX5_ahead_20 : decode cX5_ahead 20 = .ok (.iconst 2, 1) := by decide +kernel
theorem dX5_ahead_21 : decode cX5_ahead 21 = .ok (.invokestatic 63, 3) := by decide +kernel
theorem dX5_ahead_24 : decode cX5_ahead 24 = .ok (.ifCond .ne 6, 3) := by decide +kernel
theorem dX5_ahead_27 : decode cX5_ahead 27 = .ok (.ldc 67, 2) := by decide +kernel
theorem dX5_ahead_29 : decode cX5_ahead 29 = .ok (.ireturn, 1) := by decide +kernel
theorem dX5_ahead_30 : decode cX5_ahead 30 = .ok (.aload_n 0, 1) := by decide +kernel
theorem dX5_ahead_31 : decode cX5_ahead 31 = .ok (.invokevirtual 213, 3) := by decide +kernel
theorem dX5_ahead_34 : decode cX5_ahead 34 = .ok (.aload_n 0, 1) := by decide +kernel
theorem dX5_ahead_35 : decode cX5_ahead 35 = .ok (.getfield 29, 3) := by decide +kernel
theorem dX5_ahead_38 : decode cX5_ahead 38 = .ok (.iload_n 2, 1) := by decide +kernel
theorem dX5_ahead_39 : decode cX5_ahead 39 = .ok (.invokevirtual 216, 3) := by decide +kernel
theorem dX5_ahead_42 : decode cX5_ahead 42 = .ok (.iload_n 3, 1) := by decide +kernel
theorem dX5_ahead_43 : decode cX5_ahead 43 = .ok (.ifCond .ne 12, 3) := by decide +kernel
theorem dX5_ahead_46 : decode cX5_ahead 46 = .ok (.aload_n 0, 1) := by decide +kernel
theorem dX5_ahead_47 : decode cX5_ahead 47 = .ok (.getfield 29, 3) := by decide +kernel
theorem dX5_ahead_50 : decode cX5_ahead 50 = .ok (.iload_n 1, 1) := by decide +kernel
theorem dX5_ahead_51 : decode cX5_ahead 51 = .ok (.invokevirtual 201, 3) := by decide +kernel
theorem dX5_ahead_54 : decode cX5_ahead 54 = .ok (.ireturn, 1) := by decide +kernel
theorem dX5_ahead_55 : decode cX5_ahead 55 = .ok (.iload_n 3, 1) := by decide +kernel
theorem dX5_ahead_56 : decode cX5_ahead 56 = .ok (.iconst 1, 1) := by decide +kernel
theorem dX5_ahead_57 : decode cX5_ahead 57 = .ok (.if_icmp .ne 14, 3) := by decide +kernel
theorem dX5_ahead_60 : decode cX5_ahead 60 = .ok (.aload_n 0, 1) := by decide +kernel
theorem dX5_ahead_61 : decode cX5_ahead 61 = .ok (.getfield 29, 3) := by decide +kernel
theorem dX5_ahead_64 : decode cX5_ahead 64 = .ok (.iload_n 1, 1) := by decide +kernel
theorem dX5_ahead_65 : decode cX5_ahead 65 = .ok (.invokevirtual 204, 3) := by decide +kernel
theorem dX5_ahead_68 : decode cX5_ahead 68 = .ok (.goto 12, 3) := by decide +kernel
theorem dX5_ahead_71 : decode cX5_ahead 71 = .ok (.aload_n 0, 1) := by decide +kernel
theorem dX5_ahead_72 : decode cX5_ahead 72 = .ok (.getfield 29, 3) := by decide +kernel
theorem dX5_ahead_75 : decode cX5_ahead 75 = .ok (.getfield 171, 3) := by decide +kernel
theorem dX5_ahead_78 : decode cX5_ahead 78 = .ok (.iload_n 1, 1) := by decide +kernel
theorem dX5_ahead_79 : decode cX5_ahead 79 = .ok (.iaload, 1) := by decide +kernel
theorem dX5_ahead_80 : decode cX5_ahead 80 = .ok (.ireturn, 1) := by decide +kernel
theorem dX5_minister_0 : decode cX5_minister 0 = .ok (.aload_n 0, 1) := by decide +kernel
theorem dX5_minister_1 : decode cX5_minister 1 = .ok (.invokevirtual 149, 3) := by decide +kernel
theorem dX5_minister_4 : decode cX5_minister 4 = .ok (.ifCond .eq 6, 3) := by decide +kernel
theorem dX5_minister_7 : decode cX5_minister 7 = .ok (.ldc 148, 2) := by decide +kernel
theorem dX5_minister_9 : decode cX5_minister 9 = .ok (.ireturn, 1) := by decide +kernel
theorem dX5_minister_10 : decode cX5_minister 10 = .ok (.iload_n 1, 1) := by decide +kernel
theorem dX5_minister_11 : decode cX5_minister 11 = .ok (.iconst 0, 1) := by decide +kernel
theorem dX5_minister_12 : decode cX5_minister 12 = .ok (.bipush 60, 2) := by decide +kernel
theorem dX5_minister_14 : decode cX5_minister 14 = .ok (.invokestatic 63, 3) := by decide +kernel
theorem dX5_minister_17 : decode cX5_minister 17 = .ok (.ifCond .ne 6, 3) := by decide +kernel
theorem dX5_minister_20 : decode cX5_minister 20 = .ok (.ldc 67, 2) := by decide +kernel
theorem dX5_minister_22 : decode cX5_minister 22 = .ok (.ireturn, 1) := by decide +kernel
theorem dX5_minister_23 : decode cX5_minister 23 = .ok (.aload_n 0, 1) := by decide +kernel
theorem dX5_minister_24 : decode cX5_minister 24 = .ok (.invokevirtual 213, 3) := by decide +kernel
theorem dX5_minister_27 : decode cX5_minister 27 = .ok (.aload_n 0, 1) := by decide +kernel
theorem dX5_minister_28 : decode cX5_minister 28 = .ok (.getfield 29, 3) := by decide +kernel
theorem dX5_minister_31 : decode cX5_minister 31 = .ok (.iload_n 1, 1) := by decide +kernel
theorem dX5_minister_32 : decode cX5_minister 32 = .ok (.invokevirtual 216, 3) := by decide +kernel
theorem dX5_minister_35 : decode cX5_minister 35 = .ok (.aload_n 0, 1) := by decide +kernel
theorem dX5_minister_36 : decode cX5_minister 36 = .ok (.getfield 29, 3) := by decide +kernel
theorem dX5_minister_39 : decode cX5_minister 39 = .ok (.iconst 0, 1) := by decide +kernel
theorem dX5_minister_40 : decode cX5_minister 40 = .ok (.invokevirtual 162, 3) := by decide +kernel
theorem dX5_minister_43 : decode cX5_minister 43 = .ok (.ireturn, 1) := by decide +kernel
theorem dX5_floor_0 : decode cX5_floor 0 = .ok (.aload_n 0, 1) := by decide +kernel
theorem dX5_floor_1 : decode cX5_floor 1 = .ok (.iload_n 1, 1) := by decide +kernel
theorem dX5_floor_2 : decode cX5_floor 2 = .ok (.invokevirtual 165, 3) := by decide +kernel
theorem dX5_floor_5 : decode cX5_floor 5 = .ok (.ifCond .ne 6, 3) := by decide +kernel
theorem dX5_floor_8 : decode cX5_floor 8 = .ok (.ldc 67, 2) := by decide +kernel
theorem dX5_floor_10 : decode cX5_floor 10 = .ok (.ireturn, 1) := by decide +kernel
theorem dX5_floor_11 : decode cX5_floor 11 = .ok (.aload_n 0, 1) := by decide +kernel
theorem dX5_floor_12 : decode cX5_floor 12 = .ok (.invokevirtual 213, 3) := by decide +kernel
theorem dX5_floor_15 : decode cX5_floor 15 = .ok (.iconst 0, 1) := by decide +kernel
theorem dX5_floor_16 : decode cX5_floor 16 = .ok (.istore_n 2, 1) := by decide +kernel
theorem dX5_floor_17 : decode cX5_floor 17 = .ok (.iload_n 2, 1) := by decide +kernel
theorem dX5_floor_18 : decode cX5_floor 18 = .ok (.bipush 60, 2) := by decide +kernel
theorem dX5_floor_20 : decode cX5_floor 20 = .ok (.if_icmp .gt 36, 3) := by decide +kernel
theorem dX5_floor_23 : decode cX5_floor 23 = .ok (.aload_n 0, 1) := by decide +kernel
theorem dX5_floor_24 : decode cX5_floor 24 = .ok (.getfield 29, 3) := by decide +kernel
theorem dX5_floor_27 : decode cX5_floor 27 = .ok (.getfield 171, 3) := by decide +kernel
theorem dX5_floor_30 : decode cX5_floor 30 = .ok (.iload_n 1, 1) := by decide +kernel
theorem dX5_floor_31 : decode cX5_floor 31 = .ok (.iaload, 1) := by decide +kernel
theorem dX5_floor_32 : decode cX5_floor 32 = .ok (.ifCond .ne 5, 3) := by decide +kernel
theorem dX5_floor_35 : decode cX5_floor 35 = .ok (.iload_n 2, 1) := by decide +kernel
theorem dX5_floor_36 : decode cX5_floor 36 = .ok (.ireturn, 1) := by decide +kernel
theorem dX5_floor_37 : decode cX5_floor 37 = .ok (.aload_n 0, 1) := by decide +kernel
theorem dX5_floor_38 : decode cX5_floor 38 = .ok (.getfield 29, 3) := by decide +kernel
theorem dX5_floor_41 : decode cX5_floor 41 = .ok (.invokevirtual 159, 3) := by decide +kernel
theorem dX5_floor_44 : decode cX5_floor 44 = .ok (.ifCond .ne 6, 3) := by decide +kernel
theorem dX5_floor_47 : decode cX5_floor 47 = .ok (.ldc 219, 2) := by decide +kernel
theorem dX5_floor_49 : decode cX5_floor 49 = .ok (.ireturn, 1) := by decide +kernel
theorem dX5_floor_50 : decode cX5_floor 50 = .ok (.iinc 2 1, 3) := by decide +kernel
theorem dX5_floor_53 : decode cX5_floor 53 = .ok (.goto (-36), 3) := by decide +kernel
theorem dX5_floor_56 : decode cX5_floor 56 = .ok (.ldc 219, 2) := by decide +kernel
theorem dX5_floor_58 : decode cX5_floor 58 = .ok (.ireturn, 1) := by decide +kernel
theorem dX5_rises_0 : decode cX5_rises 0 = .ok (.aload_n 0, 1) := by decide +kernel
theorem dX5_rises_1 : decode cX5_rises 1 = .ok (.iload_n 1, 1) := by decide +kernel
theorem dX5_rises_2 : decode cX5_rises 2 = .ok (.invokevirtual 165, 3) := by decide +kernel
theorem dX5_rises_5 : decode cX5_rises 5 = .ok (.ifCond .eq 12, 3) := by decide +kernel
theorem dX5_rises_8 : decode cX5_rises 8 = .ok (.iload_n 2, 1) := by decide +kernel
theorem dX5_rises_9 : decode cX5_rises 9 = .ok (.iconst 0, 1) := by decide +kernel
theorem dX5_rises_10 : decode cX5_rises 10 = .ok (.iconst 5, 1) := by decide +kernel
theorem dX5_rises_11 : decode cX5_rises 11 = .ok (.invokestatic 63, 3) := by decide +kernel
theorem dX5_rises_14 : decode cX5_rises 14 = .ok (.ifCond .ne 6, 3) := by decide +kernel
theorem dX5_rises_17 : decode cX5_rises 17 = .ok (.ldc 67, 2) := by decide +kernel
theorem dX5_rises_19 : decode cX5_rises 19 = .ok (.ireturn, 1) := by decide +kernel
theorem dX5_rises_20 : decode cX5_rises 20 = .ok (.aload_n 0, 1) := by decide +kernel
theorem dX5_rises_21 : decode cX5_rises 21 = .ok (.invokevirtual 213, 3) := by decide +kernel
theorem dX5_rises_24 : decode cX5_rises 24 = .ok (.iconst 0, 1) := by decide +kernel
theorem dX5_rises_25 : decode cX5_rises 25 = .ok (.istore_n 3, 1) := by decide +kernel
theorem dX5_rises_26 : decode cX5_rises 26 = .ok (.iload_n 3, 1) := by decide +kernel
theorem dX5_rises_27 : decode cX5_rises 27 = .ok (.bipush 60, 2) := by decide +kernel
theorem dX5_rises_29 : decode cX5_rises 29 = .ok (.if_icmp .gt 36, 3) := by decide +kernel
theorem dX5_rises_32 : decode cX5_rises 32 = .ok (.aload_n 0, 1) := by decide +kernel
theorem dX5_rises_33 : decode cX5_rises 33 = .ok (.getfield 29, 3) := by decide +kernel
theorem dX5_rises_36 : decode cX5_rises 36 = .ok (.iload_n 1, 1) := by decide +kernel
theorem dX5_rises_37 : decode cX5_rises 37 = .ok (.invokevirtual 204, 3) := by decide +kernel
theorem dX5_rises_40 : decode cX5_rises 40 = .ok (.iload_n 2, 1) := by decide +kernel
theorem dX5_rises_41 : decode cX5_rises 41 = .ok (.if_icmp .gt 5, 3) := by decide +kernel
theorem dX5_rises_44 : decode cX5_rises 44 = .ok (.iload_n 3, 1) := by decide +kernel
theorem dX5_rises_45 : decode cX5_rises 45 = .ok (.ireturn, 1) := by decide +kernel
theorem dX5_rises_46 : decode cX5_rises 46 = .ok (.aload_n 0, 1) := by decide +kernel
theorem dX5_rises_47 : decode cX5_rises 47 = .ok (.getfield 29, 3) := by decide +kernel
theorem dX5_rises_50 : decode cX5_rises 50 = .ok (.invokevirtual 159, 3) := by decide +kernel
theorem dX5_rises_53 : decode cX5_rises 53 = .ok (.ifCond .ne 6, 3) := by decide +kernel
theorem dX5_rises_56 : decode cX5_rises 56 = .ok (.ldc 219, 2) := by decide +kernel
theorem dX5_rises_58 : decode cX5_rises 58 = .ok (.ireturn, 1) := by decide +kernel
theorem dX5_rises_59 : decode cX5_rises 59 = .ok (.iinc 3 1, 3) := by decide +kernel
theorem dX5_rises_62 : decode cX5_rises 62 = .ok (.goto (-36), 3) := by decide +kernel
theorem dX5_rises_65 : decode cX5_rises 65 = .ok (.ldc 219, 2) := by decide +kernel
theorem dX5_rises_67 : decode cX5_rises 67 = .ok (.ireturn, 1) := by decide +kernel
theorem dX5_calm_0 : decode cX5_calm 0 = .ok (.aload_n 0, 1) := by decide +kernel
theorem dX5_calm_1 : decode cX5_calm 1 = .ok (.invokevirtual 149, 3) := by decide +kernel
theorem dX5_calm_4 : decode cX5_calm 4 = .ok (.ifCond .eq 6, 3) := by decide +kernel
theorem dX5_calm_7 : decode cX5_calm 7 = .ok (.ldc 148, 2) := by decide +kernel
theorem dX5_calm_9 : decode cX5_calm 9 = .ok (.ireturn, 1) := by decide +kernel
theorem dX5_calm_10 : decode cX5_calm 10 = .ok (.aload_n 0, 1) := by decide +kernel
theorem dX5_calm_11 : decode cX5_calm 11 = .ok (.invokevirtual 213, 3) := by decide +kernel
theorem dX5_calm_14 : decode cX5_calm 14 = .ok (.iconst 0, 1) := by decide +kernel
theorem dX5_calm_15 : decode cX5_calm 15 = .ok (.istore_n 1, 1) := by decide +kernel
theorem dX5_calm_16 : decode cX5_calm 16 = .ok (.iload_n 1, 1) := by decide +kernel
theorem dX5_calm_17 : decode cX5_calm 17 = .ok (.bipush 60, 2) := by decide +kernel
theorem dX5_calm_19 : decode cX5_calm 19 = .ok (.if_icmp .gt 21, 3) := by decide +kernel
theorem dX5_calm_22 : decode cX5_calm 22 = .ok (.aload_n 0, 1) := by decide +kernel
theorem dX5_calm_23 : decode cX5_calm 23 = .ok (.getfield 29, 3) := by decide +kernel
theorem dX5_calm_26 : decode cX5_calm 26 = .ok (.invokevirtual 159, 3) := by decide +kernel
theorem dX5_calm_29 : decode cX5_calm 29 = .ok (.ifCond .ne 5, 3) := by decide +kernel
theorem dX5_calm_32 : decode cX5_calm 32 = .ok (.iload_n 1, 1) := by decide +kernel
theorem dX5_calm_33 : decode cX5_calm 33 = .ok (.ireturn, 1) := by decide +kernel
theorem dX5_calm_34 : decode cX5_calm 34 = .ok (.iinc 1 1, 3) := by decide +kernel
theorem dX5_calm_37 : decode cX5_calm 37 = .ok (.goto (-21), 3) := by decide +kernel
theorem dX5_calm_40 : decode cX5_calm 40 = .ok (.ldc 219, 2) := by decide +kernel
theorem dX5_calm_42 : decode cX5_calm 42 = .ok (.ireturn, 1) := by decide +kernel
theorem dX5_cushionFor_0 : decode cX5_cushionFor 0 = .ok (.aload_n 0, 1) := by decide +kernel
theorem dX5_cushionFor_1 : decode cX5_cushionFor 1 = .ok (.iload_n 1, 1) := by decide +kernel
theorem dX5_cushionFor_2 : decode cX5_cushionFor 2 = .ok (.invokevirtual 165, 3) := by decide +kernel
theorem dX5_cushionFor_5 : decode cX5_cushionFor 5 = .ok (.ifCond .eq 22, 3) := by decide +kernel
theorem dX5_cushionFor_8 : decode cX5_cushionFor 8 = .ok (.iload_n 2, 1) := by decide +kernel
theorem dX5_cushionFor_9 : decode cX5_cushionFor 9 = .ok (.iconst 0, 1) := by decide +kernel
theorem dX5_cushionFor_10 : decode cX5_cushionFor 10 = .ok (.iconst 5, 1) := by decide +kernel
theorem dX5_cushionFor_11 : decode cX5_cushionFor 11 = .ok (.invokestatic 63, 3) := by decide +kernel
theorem dX5_cushionFor_14 : decode cX5_cushionFor 14 = .ok (.ifCond .eq 13, 3) := by decide +kernel
theorem dX5_cushionFor_17 : decode cX5_cushionFor 17 = .ok (.iload_n 3, 1) := by decide +kernel
theorem dX5_cushionFor_18 : decode cX5_cushionFor 18 = .ok (.iconst 0, 1) := by decide +kernel
theorem dX5_cushionFor_19 : decode cX5_cushionFor 19 = .ok (.bipush 30, 2) := by decide +kernel
theorem dX5_cushionFor_21 : decode cX5_cushionFor 21 = .ok (.invokestatic 63, 3) := by decide +kernel
theorem dX5_cushionFor_24 : decode cX5_cushionFor 24 = .ok (.ifCond .ne 6, 3) := by decide +kernel
theorem dX5_cushionFor_27 : decode cX5_cushionFor 27 = .ok (.ldc 67, 2) := by decide +kernel
theorem dX5_cushionFor_29 : decode cX5_cushionFor 29 = .ok (.ireturn, 1) := by decide +kernel
theorem dX5_cushionFor_30 : decode cX5_cushionFor 30 = .ok (.iconst 0, 1) := by decide +kernel
theorem dX5_cushionFor_31 : decode cX5_cushionFor 31 = .ok (.istore 4, 2) := by decide +kernel
theorem dX5_cushionFor_33 : decode cX5_cushionFor 33 = .ok (.iload 4, 2) := by decide +kernel
theorem dX5_cushionFor_35 : decode cX5_cushionFor 35 = .ok (.bipush 20, 2) := by decide +kernel
theorem dX5_cushionFor_37 : decode cX5_cushionFor 37 = .ok (.if_icmp .gt 47, 3) := by decide +kernel
theorem dX5_cushionFor_40 : decode cX5_cushionFor 40 = .ok (.aload_n 0, 1) := by decide +kernel
theorem dX5_cushionFor_41 : decode cX5_cushionFor 41 = .ok (.invokevirtual 213, 3) := by decide +kernel
theorem dX5_cushionFor_44 : decode cX5_cushionFor 44 = .ok (.aload_n 0, 1) := by decide +kernel
theorem dX5_cushionFor_45 : decode cX5_cushionFor 45 = .ok (.getfield 29, 3) := by decide +kernel
theorem dX5_cushionFor_48 : decode cX5_cushionFor 48 = .ok (.getfield 168, 3) := by decide +kernel
theorem dX5_cushionFor_51 : decode cX5_cushionFor 51 = .ok (.iload_n 1, 1) := by decide +kernel
theorem dX5_cushionFor_52 : decode cX5_cushionFor 52 = .ok (.iload 4, 2) := by decide +kernel
theorem dX5_cushionFor_54 : decode cX5_cushionFor 54 = .ok (.iastore, 1) := by decide +kernel
theorem dX5_cushionFor_55 : decode cX5_cushionFor 55 = .ok (.aload_n 0, 1) := by decide +kernel
theorem dX5_cushionFor_56 : decode cX5_cushionFor 56 = .ok (.getfield 29, 3) := by decide +kernel
theorem dX5_cushionFor_59 : decode cX5_cushionFor 59 = .ok (.iload_n 3, 1) := by decide +kernel
theorem dX5_cushionFor_60 : decode cX5_cushionFor 60 = .ok (.invokevirtual 216, 3) := by decide +kernel
theorem dX5_cushionFor_63 : decode cX5_cushionFor 63 = .ok (.aload_n 0, 1) := by decide +kernel
theorem dX5_cushionFor_64 : decode cX5_cushionFor 64 = .ok (.getfield 29, 3) := by decide +kernel
theorem dX5_cushionFor_67 : decode cX5_cushionFor 67 = .ok (.iload_n 1, 1) := by decide +kernel
theorem dX5_cushionFor_68 : decode cX5_cushionFor 68 = .ok (.invokevirtual 204, 3) := by decide +kernel
theorem dX5_cushionFor_71 : decode cX5_cushionFor 71 = .ok (.iload_n 2, 1) := by decide +kernel
theorem dX5_cushionFor_72 : decode cX5_cushionFor 72 = .ok (.if_icmp .gt 6, 3) := by decide +kernel
theorem dX5_cushionFor_75 : decode cX5_cushionFor 75 = .ok (.iload 4, 2) := by decide +kernel
theorem dX5_cushionFor_77 : decode cX5_cushionFor 77 = .ok (.ireturn, 1) := by decide +kernel
theorem dX5_cushionFor_78 : decode cX5_cushionFor 78 = .ok (.iinc 4 1, 3) := by decide +kernel
theorem dX5_cushionFor_81 : decode cX5_cushionFor 81 = .ok (.goto (-48), 3) := by decide +kernel
theorem dX5_cushionFor_84 : decode cX5_cushionFor 84 = .ok (.ldc 219, 2) := by decide +kernel
theorem dX5_cushionFor_86 : decode cX5_cushionFor 86 = .ok (.ireturn, 1) := by decide +kernel
theorem dX5_guard_0 : decode cX5_guard 0 = .ok (.aload_n 0, 1) := by decide +kernel
theorem dX5_guard_1 : decode cX5_guard 1 = .ok (.iload_n 1, 1) := by decide +kernel
theorem dX5_guard_2 : decode cX5_guard 2 = .ok (.invokevirtual 165, 3) := by decide +kernel
theorem dX5_guard_5 : decode cX5_guard 5 = .ok (.ifCond .eq 32, 3) := by decide +kernel
theorem dX5_guard_8 : decode cX5_guard 8 = .ok (.iload_n 2, 1) := by decide +kernel
theorem dX5_guard_9 : decode cX5_guard 9 = .ok (.iconst 0, 1) := by decide +kernel
theorem dX5_guard_10 : decode cX5_guard 10 = .ok (.iconst 5, 1) := by decide +kernel
theorem dX5_guard_11 : decode cX5_guard 11 = .ok (.invokestatic 63, 3) := by decide +kernel
theorem dX5_guard_14 : decode cX5_guard 14 = .ok (.ifCond .eq 23, 3) := by decide +kernel
theorem dX5_guard_17 : decode cX5_guard 17 = .ok (.iload_n 3, 1) := by decide +kernel
theorem dX5_guard_18 : decode cX5_guard 18 = .ok (.iconst 0, 1) := by decide +kernel
theorem dX5_guard_19 : decode cX5_guard 19 = .ok (.bipush 30, 2) := by decide +kernel
theorem dX5_guard_21 : decode cX5_guard 21 = .ok (.invokestatic 63, 3) := by decide +kernel
theorem dX5_guard_24 : decode cX5_guard 24 = .ok (.ifCond .eq 13, 3) := by decide +kernel
theorem dX5_guard_27 : decode cX5_guard 27 = .ok (.iload 4, 2) := by decide +kernel
theorem dX5_guard_29 : decode cX5_guard 29 = .ok (.iconst 0, 1) := by decide +kernel
theorem dX5_guard_30 : decode cX5_guard 30 = .ok (.iconst 1, 1) := by decide +kernel
theorem dX5_guard_31 : decode cX5_guard 31 = .ok (.invokestatic 63, 3) := by decide +kernel
theorem dX5_guard_34 : decode cX5_guard 34 = .ok (.ifCond .ne 6, 3) := by decide +kernel
theorem dX5_guard_37 : decode cX5_guard 37 = .ok (.ldc 67, 2) := by decide +kernel
theorem dX5_guard_39 : decode cX5_guard 39 = .ok (.ireturn, 1) := by decide +kernel
theorem dX5_guard_40 : decode cX5_guard 40 = .ok (.aload_n 0, 1) := by decide +kernel
theorem dX5_guard_41 : decode cX5_guard 41 = .ok (.iload_n 1, 1) := by decide +kernel
theorem dX5_guard_42 : decode cX5_guard 42 = .ok (.iload_n 2, 1) := by decide +kernel
theorem dX5_guard_43 : decode cX5_guard 43 = .ok (.iload_n 3, 1) := by decide +kernel
theorem dX5_guard_44 : decode cX5_guard 44 = .ok (.invokevirtual 220, 3) := by decide +kernel
theorem dX5_guard_47 : decode cX5_guard 47 = .ok (.istore 5, 2) := by decide +kernel
theorem dX5_guard_49 : decode cX5_guard 49 = .ok (.iload 5, 2) := by decide +kernel
theorem dX5_guard_51 : decode cX5_guard 51 = .ok (.ldc 219, 2) := by decide +kernel
theorem dX5_guard_53 : decode cX5_guard 53 = .ok (.if_icmp .eq 9, 3) := by decide +kernel
theorem dX5_guard_56 : decode cX5_guard 56 = .ok (.iload 4, 2) := by decide +kernel
theorem dX5_guard_58 : decode cX5_guard 58 = .ok (.iconst 1, 1) := by decide +kernel
theorem dX5_guard_59 : decode cX5_guard 59 = .ok (.if_icmp .ne 8, 3) := by decide +kernel
theorem dX5_guard_62 : decode cX5_guard 62 = .ok (.iload 5, 2) := by decide +kernel
theorem dX5_guard_64 : decode cX5_guard 64 = .ok (.goto 8, 3) := by decide +kernel
theorem dX5_guard_67 : decode cX5_guard 67 = .ok (.iload 5, 2) := by decide +kernel
theorem dX5_guard_69 : decode cX5_guard 69 = .ok (.invokestatic 184, 3) := by decide +kernel
theorem dX5_guard_72 : decode cX5_guard 72 = .ok (.ireturn, 1) := by decide +kernel
theorem dX5_bestWatch_0 : decode cX5_bestWatch 0 = .ok (.aload_n 0, 1) := by decide +kernel
theorem dX5_bestWatch_1 : decode cX5_bestWatch 1 = .ok (.invokevirtual 149, 3) := by decide +kernel
theorem dX5_bestWatch_4 : decode cX5_bestWatch 4 = .ok (.ifCond .eq 6, 3) := by decide +kernel
theorem dX5_bestWatch_7 : decode cX5_bestWatch 7 = .ok (.ldc 148, 2) := by decide +kernel
theorem dX5_bestWatch_9 : decode cX5_bestWatch 9 = .ok (.ireturn, 1) := by decide +kernel
theorem dX5_bestWatch_10 : decode cX5_bestWatch 10 = .ok (.iload_n 1, 1) := by decide +kernel
theorem dX5_bestWatch_11 : decode cX5_bestWatch 11 = .ok (.iconst 1, 1) := by decide +kernel
theorem dX5_bestWatch_12 : decode cX5_bestWatch 12 = .ok (.bipush 30, 2) := by decide +kernel
theorem dX5_bestWatch_14 : decode cX5_bestWatch 14 = .ok (.invokestatic 63, 3) := by decide +kernel
theorem dX5_bestWatch_17 : decode cX5_bestWatch 17 = .ok (.ifCond .eq 12, 3) := by decide +kernel
theorem dX5_bestWatch_20 : decode cX5_bestWatch 20 = .ok (.iload_n 2, 1) := by decide +kernel
theorem dX5_bestWatch_21 : decode cX5_bestWatch 21 = .ok (.iconst 0, 1) := by decide +kernel
theorem dX5_bestWatch_22 : decode cX5_bestWatch 22 = .ok (.iconst 1, 1) := by decide +kernel
theorem dX5_bestWatch_23 : decode cX5_bestWatch 23 = .ok (.invokestatic 63, 3) := by decide +kernel
theorem dX5_bestWatch_26 : decode cX5_bestWatch 26 = .ok (.ifCond .ne 6, 3) := by decide +kernel
theorem dX5_bestWatch_29 : decode cX5_bestWatch 29 = .ok (.ldc 67, 2) := by decide +kernel
theorem dX5_bestWatch_31 : decode cX5_bestWatch 31 = .ok (.ireturn, 1) := by decide +kernel
theorem dX5_bestWatch_32 : decode cX5_bestWatch 32 = .ok (.iconst (-1), 1) := by decide +kernel
theorem dX5_bestWatch_33 : decode cX5_bestWatch 33 = .ok (.istore_n 3, 1) := by decide +kernel
theorem dX5_bestWatch_34 : decode cX5_bestWatch 34 = .ok (.ldc 219, 2) := by decide +kernel
theorem dX5_bestWatch_36 : decode cX5_bestWatch 36 = .ok (.istore 4, 2) := by decide +kernel
theorem dX5_bestWatch_38 : decode cX5_bestWatch 38 = .ok (.iconst 0, 1) := by decide +kernel
theorem dX5_bestWatch_39 : decode cX5_bestWatch 39 = .ok (.istore 5, 2) := by decide +kernel
theorem dX5_bestWatch_41 : decode cX5_bestWatch 41 = .ok (.iload 5, 2) := by decide +kernel
theorem dX5_bestWatch_43 : decode cX5_bestWatch 43 = .ok (.aload_n 0, 1) := by decide +kernel
theorem dX5_bestWatch_44 : decode cX5_bestWatch 44 = .ok (.getfield 25, 3) := by decide +kernel
theorem dX5_bestWatch_47 : decode cX5_bestWatch 47 = .ok (.getfield 140, 3) := by decide +kernel
theorem dX5_bestWatch_50 : decode cX5_bestWatch 50 = .ok (.if_icmp .ge 40, 3) := by decide +kernel
theorem dX5_bestWatch_53 : decode cX5_bestWatch 53 = .ok (.aload_n 0, 1) := by decide +kernel
theorem dX5_bestWatch_54 : decode cX5_bestWatch 54 = .ok (.iload_n 1, 1) := by decide +kernel
theorem dX5_bestWatch_55 : decode cX5_bestWatch 55 = .ok (.iconst 1, 1) := by decide +kernel
theorem dX5_bestWatch_56 : decode cX5_bestWatch 56 = .ok (.iload 5, 2) := by decide +kernel
theorem dX5_bestWatch_58 : decode cX5_bestWatch 58 = .ok (.ishl, 1) := by decide +kernel
theorem dX5_bestWatch_59 : decode cX5_bestWatch 59 = .ok (.invokevirtual 223, 3) := by decide +kernel
theorem dX5_bestWatch_62 : decode cX5_bestWatch 62 = .ok (.aload_n 0, 1) := by decide +kernel
theorem dX5_bestWatch_63 : decode cX5_bestWatch 63 = .ok (.getfield 29, 3) := by decide +kernel
theorem dX5_bestWatch_66 : decode cX5_bestWatch 66 = .ok (.invokevirtual 226, 3) := by decide +kernel
theorem dX5_bestWatch_69 : decode cX5_bestWatch 69 = .ok (.istore 6, 2) := by decide +kernel
theorem dX5_bestWatch_71 : decode cX5_bestWatch 71 = .ok (.iload 6, 2) := by decide +kernel
theorem dX5_bestWatch_73 : decode cX5_bestWatch 73 = .ok (.iload_n 3, 1) := by decide +kernel
theorem dX5_bestWatch_74 : decode cX5_bestWatch 74 = .ok (.if_icmp .le 10, 3) := by decide +kernel
theorem dX5_bestWatch_77 : decode cX5_bestWatch 77 = .ok (.iload 6, 2) := by decide +kernel
theorem dX5_bestWatch_79 : decode cX5_bestWatch 79 = .ok (.istore_n 3, 1) := by decide +kernel
theorem dX5_bestWatch_80 : decode cX5_bestWatch 80 = .ok (.iload 5, 2) := by decide +kernel
theorem dX5_bestWatch_82 : decode cX5_bestWatch 82 = .ok (.istore 4, 2) := by decide +kernel
theorem dX5_bestWatch_84 : decode cX5_bestWatch 84 = .ok (.iinc 5 1, 3) := by decide +kernel
theorem dX5_bestWatch_87 : decode cX5_bestWatch 87 = .ok (.goto (-46), 3) := by decide +kernel
theorem dX5_bestWatch_90 : decode cX5_bestWatch 90 = .ok (.iload_n 2, 1) := by decide +kernel
theorem dX5_bestWatch_91 : decode cX5_bestWatch 91 = .ok (.ifCond .ne 8, 3) := by decide +kernel
theorem dX5_bestWatch_94 : decode cX5_bestWatch 94 = .ok (.iload 4, 2) := by decide +kernel
theorem dX5_bestWatch_96 : decode cX5_bestWatch 96 = .ok (.goto 4, 3) := by decide +kernel
theorem dX5_bestWatch_99 : decode cX5_bestWatch 99 = .ok (.iload_n 3, 1) := by decide +kernel
theorem dX5_bestWatch_100 : decode cX5_bestWatch 100 = .ok (.ireturn, 1) := by decide +kernel
theorem dX5_sawdust_0 : decode cX5_sawdust 0 = .ok (.aload_n 0, 1) := by decide +kernel
theorem dX5_sawdust_1 : decode cX5_sawdust 1 = .ok (.invokevirtual 149, 3) := by decide +kernel
theorem dX5_sawdust_4 : decode cX5_sawdust 4 = .ok (.ifCond .eq 6, 3) := by decide +kernel
theorem dX5_sawdust_7 : decode cX5_sawdust 7 = .ok (.ldc 148, 2) := by decide +kernel
theorem dX5_sawdust_9 : decode cX5_sawdust 9 = .ok (.ireturn, 1) := by decide +kernel
theorem dX5_sawdust_10 : decode cX5_sawdust 10 = .ok (.iload_n 1, 1) := by decide +kernel
theorem dX5_sawdust_11 : decode cX5_sawdust 11 = .ok (.invokestatic 59, 3) := by decide +kernel
theorem dX5_sawdust_14 : decode cX5_sawdust 14 = .ok (.ifCond .ne 6, 3) := by decide +kernel
theorem dX5_sawdust_17 : decode cX5_sawdust 17 = .ok (.ldc 67, 2) := by decide +kernel
theorem dX5_sawdust_19 : decode cX5_sawdust 19 = .ok (.ireturn, 1) := by decide +kernel
theorem dX5_sawdust_20 : decode cX5_sawdust 20 = .ok (.aload_n 0, 1) := by decide +kernel
theorem dX5_sawdust_21 : decode cX5_sawdust 21 = .ok (.iload_n 1, 1) := by decide +kernel
theorem dX5_sawdust_22 : decode cX5_sawdust 22 = .ok (.iload_n 2, 1) := by decide +kernel
theorem dX5_sawdust_23 : decode cX5_sawdust 23 = .ok (.invokevirtual 229, 3) := by decide +kernel
theorem dX5_sawdust_26 : decode cX5_sawdust 26 = .ok (.istore_n 3, 1) := by decide +kernel
theorem dX5_sawdust_27 : decode cX5_sawdust 27 = .ok (.iload_n 3, 1) := by decide +kernel
theorem dX5_sawdust_28 : decode cX5_sawdust 28 = .ok (.ifCond .eq 11, 3) := by decide +kernel
theorem dX5_sawdust_31 : decode cX5_sawdust 31 = .ok (.aload_n 0, 1) := by decide +kernel
theorem dX5_sawdust_32 : decode cX5_sawdust 32 = .ok (.iload_n 3, 1) := by decide +kernel
theorem dX5_sawdust_33 : decode cX5_sawdust 33 = .ok (.invokevirtual 68, 3) := by decide +kernel
theorem dX5_sawdust_36 : decode cX5_sawdust 36 = .ok (.goto 11, 3) := by decide +kernel
theorem dX5_sawdust_39 : decode cX5_sawdust 39 = .ok (.aload_n 0, 1) := by decide +kernel
theorem dX5_sawdust_40 : decode cX5_sawdust 40 = .ok (.aload_n 0, 1) := by decide +kernel
theorem dX5_sawdust_41 : decode cX5_sawdust 41 = .ok (.invokevirtual 232, 3) := by decide +kernel
theorem dX5_sawdust_44 : decode cX5_sawdust 44 = .ok (.invokevirtual 76, 3) := by decide +kernel
theorem dX5_sawdust_47 : decode cX5_sawdust 47 = .ok (.ireturn, 1) := by decide +kernel
theorem dX5_pile_0 : decode cX5_pile 0 = .ok (.aload_n 0, 1) := by decide +kernel
theorem dX5_pile_1 : decode cX5_pile 1 = .ok (.invokevirtual 149, 3) := by decide +kernel
theorem dX5_pile_4 : decode cX5_pile 4 = .ok (.ifCond .eq 6, 3) := by decide +kernel
theorem dX5_pile_7 : decode cX5_pile 7 = .ok (.ldc 148, 2) := by decide +kernel
theorem dX5_pile_9 : decode cX5_pile 9 = .ok (.ireturn, 1) := by decide +kernel
theorem dX5_pile_10 : decode cX5_pile 10 = .ok (.iload_n 1, 1) := by decide +kernel
theorem dX5_pile_11 : decode cX5_pile 11 = .ok (.invokestatic 59, 3) := by decide +kernel
theorem dX5_pile_14 : decode cX5_pile 14 = .ok (.ifCond .ne 6, 3) := by decide +kernel
theorem dX5_pile_17 : decode cX5_pile 17 = .ok (.ldc 67, 2) := by decide +kernel
theorem dX5_pile_19 : decode cX5_pile 19 = .ok (.ireturn, 1) := by decide +kernel
theorem dX5_pile_20 : decode cX5_pile 20 = .ok (.aload_n 0, 1) := by decide +kernel
theorem dX5_pile_21 : decode cX5_pile 21 = .ok (.iload_n 1, 1) := by decide +kernel
theorem dX5_pile_22 : decode cX5_pile 22 = .ok (.iload_n 2, 1) := by decide +kernel
theorem dX5_pile_23 : decode cX5_pile 23 = .ok (.invokevirtual 229, 3) := by decide +kernel
theorem dX5_pile_26 : decode cX5_pile 26 = .ok (.istore_n 3, 1) := by decide +kernel
theorem dX5_pile_27 : decode cX5_pile 27 = .ok (.iload_n 3, 1) := by decide +kernel
theorem dX5_pile_28 : decode cX5_pile 28 = .ok (.ifCond .eq 11, 3) := by decide +kernel
theorem dX5_pile_31 : decode cX5_pile 31 = .ok (.aload_n 0, 1) := by decide +kernel
theorem dX5_pile_32 : decode cX5_pile 32 = .ok (.iload_n 3, 1) := by decide +kernel
theorem dX5_pile_33 : decode cX5_pile 33 = .ok (.invokevirtual 68, 3) := by decide +kernel
theorem dX5_pile_36 : decode cX5_pile 36 = .ok (.goto 11, 3) := by decide +kernel
theorem dX5_pile_39 : decode cX5_pile 39 = .ok (.aload_n 0, 1) := by decide +kernel
theorem dX5_pile_40 : decode cX5_pile 40 = .ok (.aload_n 0, 1) := by decide +kernel
theorem dX5_pile_41 : decode cX5_pile 41 = .ok (.invokevirtual 235, 3) := by decide +kernel
theorem dX5_pile_44 : decode cX5_pile 44 = .ok (.invokevirtual 76, 3) := by decide +kernel
theorem dX5_pile_47 : decode cX5_pile 47 = .ok (.ireturn, 1) := by decide +kernel
theorem dX5_climb_0 : decode cX5_climb 0 = .ok (.aload_n 0, 1) := by decide +kernel
theorem dX5_climb_1 : decode cX5_climb 1 = .ok (.iload_n 1, 1) := by decide +kernel
theorem dX5_climb_2 : decode cX5_climb 2 = .ok (.invokevirtual 165, 3) := by decide +kernel
theorem dX5_climb_5 : decode cX5_climb 5 = .ok (.ifCond .ne 6, 3) := by decide +kernel
theorem dX5_climb_8 : decode cX5_climb 8 = .ok (.ldc 67, 2) := by decide +kernel
theorem dX5_climb_10 : decode cX5_climb 10 = .ok (.ireturn, 1) := by decide +kernel
theorem dX5_climb_11 : decode cX5_climb 11 = .ok (.aload_n 0, 1) := by decide +kernel
theorem dX5_climb_12 : decode cX5_climb 12 = .ok (.getfield 25, 3) := by decide +kernel
theorem dX5_climb_15 : decode cX5_climb 15 = .ok (.iconst 0, 1) := by decide +kernel
theorem dX5_climb_16 : decode cX5_climb 16 = .ok (.invokevirtual 162, 3) := by decide +kernel
theorem dX5_climb_19 : decode cX5_climb 19 = .ok (.istore_n 2, 1) := by decide +kernel
theorem dX5_climb_20 : decode cX5_climb 20 = .ok (.aload_n 0, 1) := by decide +kernel
theorem dX5_climb_21 : decode cX5_climb 21 = .ok (.getfield 25, 3) := by decide +kernel
theorem dX5_climb_24 : decode cX5_climb 24 = .ok (.iload_n 2, 1) := by decide +kernel
theorem dX5_climb_25 : decode cX5_climb 25 = .ok (.invokevirtual 201, 3) := by decide +kernel
theorem dX5_climb_28 : decode cX5_climb 28 = .ok (.aload_n 0, 1) := by decide +kernel
theorem dX5_climb_29 : decode cX5_climb 29 = .ok (.getfield 25, 3) := by decide +kernel
theorem dX5_climb_32 : decode cX5_climb 32 = .ok (.iload_n 1, 1) := by decide +kernel
theorem dX5_climb_33 : decode cX5_climb 33 = .ok (.invokevirtual 201, 3) := by decide +kernel
theorem dX5_climb_36 : decode cX5_climb 36 = .ok (.isub, 1) := by decide +kernel
theorem dX5_climb_37 : decode cX5_climb 37 = .ok (.istore_n 3, 1) := by decide +kernel
theorem dX5_climb_38 : decode cX5_climb 38 = .ok (.iload_n 2, 1) := by decide +kernel
theorem dX5_climb_39 : decode cX5_climb 39 = .ok (.iload_n 1, 1) := by decide +kernel
theorem dX5_climb_40 : decode cX5_climb 40 = .ok (.if_icmp .ge 9, 3) := by decide +kernel
theorem dX5_climb_43 : decode cX5_climb 43 = .ok (.iload_n 3, 1) := by decide +kernel
theorem dX5_climb_44 : decode cX5_climb 44 = .ok (.iconst 1, 1) := by decide +kernel
theorem dX5_climb_45 : decode cX5_climb 45 = .ok (.iadd, 1) := by decide +kernel
theorem dX5_climb_46 : decode cX5_climb 46 = .ok (.goto 4, 3) := by decide +kernel
theorem dX5_climb_49 : decode cX5_climb 49 = .ok (.iload_n 3, 1) := by decide +kernel
theorem dX5_climb_50 : decode cX5_climb 50 = .ok (.ireturn, 1) := by decide +kernel
theorem dX5_coalition_0 : decode cX5_coalition 0 = .ok (.aload_n 0, 1) := by decide +kernel
theorem dX5_coalition_1 : decode cX5_coalition 1 = .ok (.invokevirtual 149, 3) := by decide +kernel
theorem dX5_coalition_4 : decode cX5_coalition 4 = .ok (.ifCond .eq 6, 3) := by decide +kernel
theorem dX5_coalition_7 : decode cX5_coalition 7 = .ok (.ldc 148, 2) := by decide +kernel
theorem dX5_coalition_9 : decode cX5_coalition 9 = .ok (.ireturn, 1) := by decide +kernel
theorem dX5_coalition_10 : decode cX5_coalition 10 = .ok (.iload_n 1, 1) := by decide +kernel
theorem dX5_coalition_11 : decode cX5_coalition 11 = .ok (.iconst 0, 1) := by decide +kernel
theorem dX5_coalition_12 : decode cX5_coalition 12 = .ok (.iconst 1, 1) := by decide +kernel
theorem dX5_coalition_13 : decode cX5_coalition 13 = .ok (.invokestatic 63, 3) := by decide +kernel
theorem dX5_coalition_16 : decode cX5_coalition 16 = .ok (.ifCond .ne 6, 3) := by decide +kernel
theorem dX5_coalition_19 : decode cX5_coalition 19 = .ok (.ldc 67, 2) := by decide +kernel
theorem dX5_coalition_21 : decode cX5_coalition 21 = .ok (.ireturn, 1) := by decide +kernel
theorem dX5_coalition_22 : decode cX5_coalition 22 = .ok (.aload_n 0, 1) := by decide +kernel
theorem dX5_coalition_23 : decode cX5_coalition 23 = .ok (.invokevirtual 238, 3) := by decide +kernel
theorem dX5_coalition_26 : decode cX5_coalition 26 = .ok (.istore_n 2, 1) := by decide +kernel
theorem dX5_coalition_27 : decode cX5_coalition 27 = .ok (.iload_n 2, 1) := by decide +kernel
theorem dX5_coalition_28 : decode cX5_coalition 28 = .ok (.ldc 219, 2) := by decide +kernel
theorem dX5_coalition_30 : decode cX5_coalition 30 = .ok (.if_icmp .eq 8, 3) := by decide +kernel
theorem dX5_coalition_33 : decode cX5_coalition 33 = .ok (.iload_n 1, 1) := by decide +kernel
theorem dX5_coalition_34 : decode cX5_coalition 34 = .ok (.iconst 1, 1) := by decide +kernel
theorem dX5_coalition_35 : decode cX5_coalition 35 = .ok (.if_icmp .ne 7, 3) := by decide +kernel
theorem dX5_coalition_38 : decode cX5_coalition 38 = .ok (.iload_n 2, 1) := by decide +kernel
theorem dX5_coalition_39 : decode cX5_coalition 39 = .ok (.goto 7, 3) := by decide +kernel
theorem dX5_coalition_42 : decode cX5_coalition 42 = .ok (.iload_n 2, 1) := by decide +kernel
theorem dX5_coalition_43 : decode cX5_coalition 43 = .ok (.invokestatic 184, 3) := by decide +kernel
theorem dX5_coalition_46 : decode cX5_coalition 46 = .ok (.ireturn, 1) := by decide +kernel
theorem dX5_sawnBy_0 : decode cX5_sawnBy 0 = .ok (.aload_n 0, 1) := by decide +kernel
theorem dX5_sawnBy_1 : decode cX5_sawnBy 1 = .ok (.iload_n 1, 1) := by decide +kernel
theorem dX5_sawnBy_2 : decode cX5_sawnBy 2 = .ok (.invokevirtual 165, 3) := by decide +kernel
theorem dX5_sawnBy_5 : decode cX5_sawnBy 5 = .ok (.ifCond .ne 6, 3) := by decide +kernel
theorem dX5_sawnBy_8 : decode cX5_sawnBy 8 = .ok (.ldc 67, 2) := by decide +kernel
theorem dX5_sawnBy_10 : decode cX5_sawnBy 10 = .ok (.ireturn, 1) := by decide +kernel
theorem dX5_sawnBy_11 : decode cX5_sawnBy 11 = .ok (.iconst 0, 1) := by decide +kernel
theorem dX5_sawnBy_12 : decode cX5_sawnBy 12 = .ok (.istore_n 2, 1) := by decide +kernel
theorem dX5_sawnBy_13 : decode cX5_sawnBy 13 = .ok (.iconst 0, 1) := by decide +kernel
theorem dX5_sawnBy_14 : decode cX5_sawnBy 14 = .ok (.istore_n 3, 1) := by decide +kernel
theorem dX5_sawnBy_15 : decode cX5_sawnBy 15 = .ok (.iload_n 3, 1) := by decide +kernel
theorem dX5_sawnBy_16 : decode cX5_sawnBy 16 = .ok (.aload_n 0, 1) := by decide +kernel
theorem dX5_sawnBy_17 : decode cX5_sawnBy 17 = .ok (.getfield 25, 3) := by decide +kernel
theorem dX5_sawnBy_20 : decode cX5_sawnBy 20 = .ok (.getfield 140, 3) := by decide +kernel
theorem dX5_sawnBy_23 : decode cX5_sawnBy 23 = .ok (.if_icmp .ge 27, 3) := by decide +kernel
theorem dX5_sawnBy_26 : decode cX5_sawnBy 26 = .ok (.aload_n 0, 1) := by decide +kernel
theorem dX5_sawnBy_27 : decode cX5_sawnBy 27 = .ok (.getfield 25, 3) := by decide +kernel
theorem dX5_sawnBy_30 : decode cX5_sawnBy 30 = .ok (.iload_n 3, 1) := by decide +kernel
theorem dX5_sawnBy_31 : decode cX5_sawnBy 31 = .ok (.invokevirtual 195, 3) := by decide +kernel
theorem dX5_sawnBy_34 : decode cX5_sawnBy 34 = .ok (.iload_n 1, 1) := by decide +kernel
theorem dX5_sawnBy_35 : decode cX5_sawnBy 35 = .ok (.if_icmp .ne 9, 3) := by decide +kernel
theorem dX5_sawnBy_38 : decode cX5_sawnBy 38 = .ok (.iload_n 2, 1) := by decide +kernel
theorem dX5_sawnBy_39 : decode cX5_sawnBy 39 = .ok (.iconst 1, 1) := by decide +kernel
theorem dX5_sawnBy_40 : decode cX5_sawnBy 40 = .ok (.iload_n 3, 1) := by decide +kernel
theorem dX5_sawnBy_41 : decode cX5_sawnBy 41 = .ok (.ishl, 1) := by decide +kernel
theorem dX5_sawnBy_42 : decode cX5_sawnBy 42 = .ok (.ior, 1) := by decide +kernel
theorem dX5_sawnBy_43 : decode cX5_sawnBy 43 = .ok (.istore_n 2, 1) := by decide +kernel
theorem dX5_sawnBy_44 : decode cX5_sawnBy 44 = .ok (.iinc 3 1, 3) := by decide +kernel
theorem dX5_sawnBy_47 : decode cX5_sawnBy 47 = .ok (.goto (-32), 3) := by decide +kernel
theorem dX5_sawnBy_50 : decode cX5_sawnBy 50 = .ok (.iload_n 2, 1) := by decide +kernel
theorem dX5_sawnBy_51 : decode cX5_sawnBy 51 = .ok (.ireturn, 1) := by decide +kernel
theorem dX5_round_0 : decode cX5_round 0 = .ok (.aload_n 0, 1) := by decide +kernel
theorem dX5_round_1 : decode cX5_round 1 = .ok (.invokevirtual 149, 3) := by decide +kernel
theorem dX5_round_4 : decode cX5_round 4 = .ok (.ifCond .eq 6, 3) := by decide +kernel
theorem dX5_round_7 : decode cX5_round 7 = .ok (.ldc 148, 2) := by decide +kernel
theorem dX5_round_9 : decode cX5_round 9 = .ok (.ireturn, 1) := by decide +kernel
theorem dX5_round_10 : decode cX5_round 10 = .ok (.iconst 0, 1) := by decide +kernel
theorem dX5_round_11 : decode cX5_round 11 = .ok (.istore_n 1, 1) := by decide +kernel
theorem dX5_round_12 : decode cX5_round 12 = .ok (.iconst 0, 1) := by decide +kernel
theorem dX5_round_13 : decode cX5_round 13 = .ok (.istore_n 2, 1) := by decide +kernel
theorem dX5_round_14 : decode cX5_round 14 = .ok (.iload_n 2, 1) := by decide +kernel
theorem dX5_round_15 : decode cX5_round 15 = .ok (.aload_n 0, 1) := by decide +kernel
theorem dX5_round_16 : decode cX5_round 16 = .ok (.getfield 25, 3) := by decide +kernel
theorem dX5_round_19 : decode cX5_round 19 = .ok (.getfield 140, 3) := by decide +kernel
theorem dX5_round_22 : decode cX5_round 22 = .ok (.if_icmp .ge 42, 3) := by decide +kernel
theorem dX5_round_25 : decode cX5_round 25 = .ok (.aload_n 0, 1) := by decide +kernel
theorem dX5_round_26 : decode cX5_round 26 = .ok (.getfield 25, 3) := by decide +kernel
theorem dX5_round_29 : decode cX5_round 29 = .ok (.iload_n 2, 1) := by decide +kernel
theorem dX5_round_30 : decode cX5_round 30 = .ok (.invokevirtual 195, 3) := by decide +kernel
theorem dX5_round_33 : decode cX5_round 33 = .ok (.istore_n 3, 1) := by decide +kernel
theorem dX5_round_34 : decode cX5_round 34 = .ok (.iload_n 3, 1) := by decide +kernel
theorem dX5_round_35 : decode cX5_round 35 = .ok (.ldc 219, 2) := by decide +kernel
theorem dX5_round_37 : decode cX5_round 37 = .ok (.if_icmp .eq 21, 3) := by decide +kernel
theorem dX5_round_40 : decode cX5_round 40 = .ok (.aload_n 0, 1) := by decide +kernel
theorem dX5_round_41 : decode cX5_round 41 = .ok (.getfield 25, 3) := by decide +kernel
theorem dX5_round_44 : decode cX5_round 44 = .ok (.iload_n 3, 1) := by decide +kernel
theorem dX5_round_45 : decode cX5_round 45 = .ok (.invokevirtual 195, 3) := by decide +kernel
theorem dX5_round_48 : decode cX5_round 48 = .ok (.iload_n 2, 1) := by decide +kernel
theorem dX5_round_49 : decode cX5_round 49 = .ok (.if_icmp .ne 9, 3) := by decide +kernel
theorem dX5_round_52 : decode cX5_round 52 = .ok (.iload_n 1, 1) := by decide +kernel
theorem dX5_round_53 : decode cX5_round 53 = .ok (.iconst 1, 1) := by decide +kernel
theorem dX5_round_54 : decode cX5_round 54 = .ok (.iload_n 2, 1) := by decide +kernel
theorem dX5_round_55 : decode cX5_round 55 = .ok (.ishl, 1) := by decide +kernel
theorem dX5_round_56 : decode cX5_round 56 = .ok (.ior, 1) := by decide +kernel
theorem dX5_round_57 : decode cX5_round 57 = .ok (.istore_n 1, 1) := by decide +kernel
theorem dX5_round_58 : decode cX5_round 58 = .ok (.iinc 2 1, 3) := by decide +kernel
theorem dX5_round_61 : decode cX5_round 61 = .ok (.goto (-47), 3) := by decide +kernel
theorem dX5_round_64 : decode cX5_round 64 = .ok (.iload_n 1, 1) := by decide +kernel
theorem dX5_round_65 : decode cX5_round 65 = .ok (.ireturn, 1) := by decide +kernel
theorem dX5_enemy_0 : decode cX5_enemy 0 = .ok (.aload_n 0, 1) := by decide +kernel
theorem dX5_enemy_1 : decode cX5_enemy 1 = .ok (.iload_n 1, 1) := by decide +kernel
theorem dX5_enemy_2 : decode cX5_enemy 2 = .ok (.invokevirtual 165, 3) := by decide +kernel
theorem dX5_enemy_5 : decode cX5_enemy 5 = .ok (.ifCond .eq 22, 3) := by decide +kernel
theorem dX5_enemy_8 : decode cX5_enemy 8 = .ok (.iload_n 2, 1) := by decide +kernel
theorem dX5_enemy_9 : decode cX5_enemy 9 = .ok (.iconst 1, 1) := by decide +kernel
theorem dX5_enemy_10 : decode cX5_enemy 10 = .ok (.bipush 30, 2) := by decide +kernel
theorem dX5_enemy_12 : decode cX5_enemy 12 = .ok (.invokestatic 63, 3) := by decide +kernel
theorem dX5_enemy_15 : decode cX5_enemy 15 = .ok (.ifCond .eq 12, 3) := by decide +kernel
theorem dX5_enemy_18 : decode cX5_enemy 18 = .ok (.iload_n 3, 1) := by decide +kernel
theorem dX5_enemy_19 : decode cX5_enemy 19 = .ok (.iconst 0, 1) := by decide +kernel
theorem dX5_enemy_20 : decode cX5_enemy 20 = .ok (.iconst 1, 1) := by decide +kernel
theorem dX5_enemy_21 : decode cX5_enemy 21 = .ok (.invokestatic 63, 3) := by decide +kernel
theorem dX5_enemy_24 : decode cX5_enemy 24 = .ok (.ifCond .ne 6, 3) := by decide +kernel
theorem dX5_enemy_27 : decode cX5_enemy 27 = .ok (.ldc 67, 2) := by decide +kernel
theorem dX5_enemy_29 : decode cX5_enemy 29 = .ok (.ireturn, 1) := by decide +kernel
theorem dX5_enemy_30 : decode cX5_enemy 30 = .ok (.iconst (-1), 1) := by decide +kernel
theorem dX5_enemy_31 : decode cX5_enemy 31 = .ok (.istore 4, 2) := by decide +kernel
theorem dX5_enemy_33 : decode cX5_enemy 33 = .ok (.ldc 219, 2) := by decide +kernel
theorem dX5_enemy_35 : decode cX5_enemy 35 = .ok (.istore 5, 2) := by decide +kernel
theorem dX5_enemy_37 : decode cX5_enemy 37 = .ok (.iconst 0, 1) := by decide +kernel
theorem dX5_enemy_38 : decode cX5_enemy 38 = .ok (.istore 6, 2) := by decide +kernel
theorem dX5_enemy_40 : decode cX5_enemy 40 = .ok (.iload 6, 2) := by decide +kernel
theorem dX5_enemy_42 : decode cX5_enemy 42 = .ok (.aload_n 0, 1) := by decide +kernel
theorem dX5_enemy_43 : decode cX5_enemy 43 = .ok (.getfield 25, 3) := by decide +kernel
theorem dX5_enemy_46 : decode cX5_enemy 46 = .ok (.getfield 140, 3) := by decide +kernel
theorem dX5_enemy_49 : decode cX5_enemy 49 = .ok (.if_icmp .ge 57, 3) := by decide +kernel
theorem dX5_enemy_52 : decode cX5_enemy 52 = .ok (.aload_n 0, 1) := by decide +kernel
theorem dX5_enemy_53 : decode cX5_enemy 53 = .ok (.invokevirtual 213, 3) := by decide +kernel
theorem dX5_enemy_56 : decode cX5_enemy 56 = .ok (.aload_n 0, 1) := by decide +kernel
theorem dX5_enemy_57 : decode cX5_enemy 57 = .ok (.getfield 29, 3) := by decide +kernel
theorem dX5_enemy_60 : decode cX5_enemy 60 = .ok (.getfield 198, 3) := by decide +kernel
theorem dX5_enemy_63 : decode cX5_enemy 63 = .ok (.iload 6, 2) := by decide +kernel
theorem dX5_enemy_65 : decode cX5_enemy 65 = .ok (.iconst 0, 1) := by decide +kernel
theorem dX5_enemy_66 : decode cX5_enemy 66 = .ok (.iastore, 1) := by decide +kernel
theorem dX5_enemy_67 : decode cX5_enemy 67 = .ok (.aload_n 0, 1) := by decide +kernel
theorem dX5_enemy_68 : decode cX5_enemy 68 = .ok (.getfield 29, 3) := by decide +kernel
theorem dX5_enemy_71 : decode cX5_enemy 71 = .ok (.iload_n 2, 1) := by decide +kernel
theorem dX5_enemy_72 : decode cX5_enemy 72 = .ok (.invokevirtual 216, 3) := by decide +kernel
theorem dX5_enemy_75 : decode cX5_enemy 75 = .ok (.aload_n 0, 1) := by decide +kernel
theorem dX5_enemy_76 : decode cX5_enemy 76 = .ok (.getfield 29, 3) := by decide +kernel
theorem dX5_enemy_79 : decode cX5_enemy 79 = .ok (.iload_n 1, 1) := by decide +kernel
theorem dX5_enemy_80 : decode cX5_enemy 80 = .ok (.invokevirtual 201, 3) := by decide +kernel
theorem dX5_enemy_83 : decode cX5_enemy 83 = .ok (.istore 7, 2) := by decide +kernel
theorem dX5_enemy_85 : decode cX5_enemy 85 = .ok (.iload 7, 2) := by decide +kernel
theorem dX5_enemy_87 : decode cX5_enemy 87 = .ok (.iload 4, 2) := by decide +kernel
theorem dX5_enemy_89 : decode cX5_enemy 89 = .ok (.if_icmp .le 11, 3) := by decide +kernel
theorem dX5_enemy_92 : decode cX5_enemy 92 = .ok (.iload 7, 2) := by decide +kernel
theorem dX5_enemy_94 : decode cX5_enemy 94 = .ok (.istore 4, 2) := by decide +kernel
theorem dX5_enemy_96 : decode cX5_enemy 96 = .ok (.iload 6, 2) := by decide +kernel
theorem dX5_enemy_98 : decode cX5_enemy 98 = .ok (.istore 5, 2) := by decide +kernel
theorem dX5_enemy_100 : decode cX5_enemy 100 = .ok (.iinc 6 1, 3) := by decide +kernel
theorem dX5_enemy_103 : decode cX5_enemy 103 = .ok (.goto (-63), 3) := by decide +kernel
theorem dX5_enemy_106 : decode cX5_enemy 106 = .ok (.iload_n 3, 1) := by decide +kernel
theorem dX5_enemy_107 : decode cX5_enemy 107 = .ok (.ifCond .ne 8, 3) := by decide +kernel
theorem dX5_enemy_110 : decode cX5_enemy 110 = .ok (.iload 5, 2) := by decide +kernel
theorem dX5_enemy_112 : decode cX5_enemy 112 = .ok (.goto 5, 3) := by decide +kernel
theorem dX5_enemy_115 : decode cX5_enemy 115 = .ok (.iload 4, 2) := by decide +kernel
theorem dX5_enemy_117 : decode cX5_enemy 117 = .ok (.ireturn, 1) := by decide +kernel
theorem dX5_who_0 : decode cX5_who 0 = .ok (.aload_n 0, 1) := by decide +kernel
theorem dX5_who_1 : decode cX5_who 1 = .ok (.iload_n 1, 1) := by decide +kernel
theorem dX5_who_2 : decode cX5_who 2 = .ok (.invokevirtual 165, 3) := by decide +kernel
theorem dX5_who_5 : decode cX5_who 5 = .ok (.ifCond .eq 39, 3) := by decide +kernel
theorem dX5_who_8 : decode cX5_who 8 = .ok (.iload_n 2, 1) := by decide +kernel
theorem dX5_who_9 : decode cX5_who 9 = .ok (.iconst 0, 1) := by decide +kernel
theorem dX5_who_10 : decode cX5_who 10 = .ok (.iconst 2, 1) := by decide +kernel
theorem dX5_who_11 : decode cX5_who 11 = .ok (.invokestatic 63, 3) := by decide +kernel
theorem dX5_who_14 : decode cX5_who 14 = .ok (.ifCond .eq 30, 3) := by decide +kernel
theorem dX5_who_17 : decode cX5_who 17 = .ok (.aload_n 0, 1) := by decide +kernel
theorem dX5_who_18 : decode cX5_who 18 = .ok (.iload_n 3, 1) := by decide +kernel
theorem dX5_who_19 : decode cX5_who 19 = .ok (.invokevirtual 165, 3) := by decide +kernel
theorem dX5_who_22 : decode cX5_who 22 = .ok (.ifCond .eq 22, 3) := by decide +kernel
theorem dX5_who_25 : decode cX5_who 25 = .ok (.iload 4, 2) := by decide +kernel
theorem dX5_who_27 : decode cX5_who 27 = .ok (.invokestatic 59, 3) := by decide +kernel
theorem dX5_who_30 : decode cX5_who 30 = .ok (.ifCond .eq 14, 3) := by decide +kernel
theorem dX5_who_33 : decode cX5_who 33 = .ok (.iload 6, 2) := by decide +kernel
theorem dX5_who_35 : decode cX5_who 35 = .ok (.iconst 1, 1) := by decide +kernel
theorem dX5_who_36 : decode cX5_who 36 = .ok (.bipush 12, 2) := by decide +kernel
theorem dX5_who_38 : decode cX5_who 38 = .ok (.invokestatic 63, 3) := by decide +kernel
theorem dX5_who_41 : decode cX5_who 41 = .ok (.ifCond .ne 6, 3) := by decide +kernel
theorem dX5_who_44 : decode cX5_who 44 = .ok (.ldc 67, 2) := by decide +kernel
theorem dX5_who_46 : decode cX5_who 46 = .ok (.ireturn, 1) := by decide +kernel
theorem dX5_who_47 : decode cX5_who 47 = .ok (.aload_n 0, 1) := by decide +kernel
theorem dX5_who_48 : decode cX5_who 48 = .ok (.iload 4, 2) := by decide +kernel
theorem dX5_who_50 : decode cX5_who 50 = .ok (.iload 5, 2) := by decide +kernel
theorem dX5_who_52 : decode cX5_who 52 = .ok (.iload 6, 2) := by decide +kernel
theorem dX5_who_54 : decode cX5_who 54 = .ok (.invokevirtual 79, 3) := by decide +kernel
theorem dX5_who_57 : decode cX5_who 57 = .ok (.istore 7, 2) := by decide +kernel
theorem dX5_who_59 : decode cX5_who 59 = .ok (.iload 7, 2) := by decide +kernel
theorem dX5_who_61 : decode cX5_who 61 = .ok (.ifCond .eq 10, 3) := by decide +kernel
theorem dX5_who_64 : decode cX5_who 64 = .ok (.aload_n 0, 1) := by decide +kernel
theorem dX5_who_65 : decode cX5_who 65 = .ok (.iload 7, 2) := by decide +kernel
theorem dX5_who_67 : decode cX5_who 67 = .ok (.invokevirtual 68, 3) := by decide +kernel
theorem dX5_who_70 : decode cX5_who 70 = .ok (.ireturn, 1) := by decide +kernel
theorem dX5_who_71 : decode cX5_who 71 = .ok (.iconst 0, 1) := by decide +kernel
theorem dX5_who_72 : decode cX5_who 72 = .ok (.istore 8, 2) := by decide +kernel
theorem dX5_who_74 : decode cX5_who 74 = .ok (.iload_n 2, 1) := by decide +kernel
theorem dX5_who_75 : decode cX5_who 75 = .ok (.invokestatic 241, 3) := by decide +kernel
theorem dX5_who_78 : decode cX5_who 78 = .ok (.istore 9, 2) := by decide +kernel
theorem dX5_who_80 : decode cX5_who 80 = .ok (.iload 9, 2) := by decide +kernel
theorem dX5_who_82 : decode cX5_who 82 = .ok (.iload_n 2, 1) := by decide +kernel
theorem dX5_who_83 : decode cX5_who 83 = .ok (.invokestatic 244, 3) := by decide +kernel
theorem dX5_who_86 : decode cX5_who 86 = .ok (.if_icmp .gt 49, 3) := by decide +kernel
theorem dX5_who_89 : decode cX5_who 89 = .ok (.aload_n 0, 1) := by decide +kernel
theorem dX5_who_90 : decode cX5_who 90 = .ok (.invokevirtual 213, 3) := by decide +kernel
theorem dX5_who_93 : decode cX5_who 93 = .ok (.aload_n 0, 1) := by decide +kernel
theorem dX5_who_94 : decode cX5_who 94 = .ok (.iload_n 1, 1) := by decide +kernel
theorem dX5_who_95 : decode cX5_who 95 = .ok (.iload_n 2, 1) := by decide +kernel
theorem dX5_who_96 : decode cX5_who 96 = .ok (.iload 9, 2) := by decide +kernel
theorem dX5_who_98 : decode cX5_who 98 = .ok (.invokevirtual 247, 3) := by decide +kernel
theorem dX5_who_101 : decode cX5_who 101 = .ok (.aload_n 0, 1) := by decide +kernel
theorem dX5_who_102 : decode cX5_who 102 = .ok (.iload_n 3, 1) := by decide +kernel
theorem dX5_who_103 : decode cX5_who 103 = .ok (.aload_n 0, 1) := by decide +kernel
theorem dX5_who_104 : decode cX5_who 104 = .ok (.getfield 11, 3) := by decide +kernel
theorem dX5_who_107 : decode cX5_who 107 = .ok (.iload 4, 2) := by decide +kernel
theorem dX5_who_109 : decode cX5_who 109 = .ok (.aaload, 1) := by decide +kernel
theorem dX5_who_110 : decode cX5_who 110 = .ok (.iload 5, 2) := by decide +kernel
theorem dX5_who_112 : decode cX5_who 112 = .ok (.iload 6, 2) := by decide +kernel
theorem dX5_who_114 : decode cX5_who 114 = .ok (.invokevirtual 251, 3) := by decide +kernel
theorem dX5_who_117 : decode cX5_who 117 = .ok (.ifCond .eq 12, 3) := by decide +kernel
theorem dX5_who_120 : decode cX5_who 120 = .ok (.iload 8, 2) := by decide +kernel
theorem dX5_who_122 : decode cX5_who 122 = .ok (.iconst 1, 1) := by decide +kernel
theorem dX5_who_123 : decode cX5_who 123 = .ok (.iload 9, 2) := by decide +kernel
theorem dX5_who_125 : decode cX5_who 125 = .ok (.ishl, 1) := by decide +kernel
theorem dX5_who_126 : decode cX5_who 126 = .ok (.ior, 1) := by decide +kernel
theorem dX5_who_127 : decode cX5_who 127 = .ok (.istore 8, 2) := by decide +kernel
theorem dX5_who_129 : decode cX5_who 129 = .ok (.iinc 9 1, 3) := by decide +kernel
theorem dX5_who_132 : decode cX5_who 132 = .ok (.goto (-52), 3) := by decide +kernel
theorem dX5_who_135 : decode cX5_who 135 = .ok (.aload_n 0, 1) := by decide +kernel
theorem dX5_who_136 : decode cX5_who 136 = .ok (.iload 8, 2) := by decide +kernel
theorem dX5_who_138 : decode cX5_who 138 = .ok (.invokevirtual 76, 3) := by decide +kernel
theorem dX5_who_141 : decode cX5_who 141 = .ok (.ireturn, 1) := by decide +kernel
theorem dX5_guarded_0 : decode cX5_guarded 0 = .ok (.aload_n 0, 1) := by decide +kernel
theorem dX5_guarded_1 : decode cX5_guarded 1 = .ok (.iload_n 1, 1) := by decide +kernel
theorem dX5_guarded_2 : decode cX5_guarded 2 = .ok (.invokevirtual 165, 3) := by decide +kernel
theorem dX5_guarded_5 : decode cX5_guarded 5 = .ok (.ifCond .eq 21, 3) := by decide +kernel
theorem dX5_guarded_8 : decode cX5_guarded 8 = .ok (.iload_n 2, 1) := by decide +kernel
theorem dX5_guarded_9 : decode cX5_guarded 9 = .ok (.invokestatic 59, 3) := by decide +kernel
theorem dX5_guarded_12 : decode cX5_guarded 12 = .ok (.ifCond .eq 14, 3) := by decide +kernel
theorem dX5_guarded_15 : decode cX5_guarded 15 = .ok (.iload 4, 2) := by decide +kernel
theorem dX5_guarded_17 : decode cX5_guarded 17 = .ok (.iconst 1, 1) := by decide +kernel
theorem dX5_guarded_18 : decode cX5_guarded 18 = .ok (.bipush 12, 2) := by decide +kernel
theorem dX5_guarded_20 : decode cX5_guarded 20 = .ok (.invokestatic 63, 3) := by decide +kernel
theorem dX5_guarded_23 : decode cX5_guarded 23 = .ok (.ifCond .ne 6, 3) := by decide +kernel
theorem dX5_guarded_26 : decode cX5_guarded 26 = .ok (.ldc 67, 2) := by decide +kernel
theorem dX5_guarded_28 : decode cX5_guarded 28 = .ok (.ireturn, 1) := by decide +kernel
theorem dX5_guarded_29 : decode cX5_guarded 29 = .ok (.aload_n 0, 1) := by decide +kernel
theorem dX5_guarded_30 : decode cX5_guarded 30 = .ok (.iload_n 2, 1) := by decide +kernel
theorem dX5_guarded_31 : decode cX5_guarded 31 = .ok (.iload_n 3, 1) := by decide +kernel
theorem dX5_guarded_32 : decode cX5_guarded 32 = .ok (.iload 4, 2) := by decide +kernel
theorem dX5_guarded_34 : decode cX5_guarded 34 = .ok (.invokevirtual 79, 3) := by decide +kernel
theorem dX5_guarded_37 : decode cX5_guarded 37 = .ok (.istore 5, 2) := by decide +kernel
theorem dX5_guarded_39 : decode cX5_guarded 39 = .ok (.iload 5, 2) := by decide +kernel
theorem dX5_guarded_41 : decode cX5_guarded 41 = .ok (.ifCond .eq 10, 3) := by decide +kernel
theorem dX5_guarded_44 : decode cX5_guarded 44 = .ok (.aload_n 0, 1) := by decide +kernel
theorem dX5_guarded_45 : decode cX5_guarded 45 = .ok (.iload 5, 2) := by decide +kernel
theorem dX5_guarded_47 : decode cX5_guarded 47 = .ok (.invokevirtual 68, 3) := by decide +kernel
theorem dX5_guarded_50 : decode cX5_guarded 50 = .ok (.ireturn, 1) := by decide +kernel
theorem dX5_guarded_51 : decode cX5_guarded 51 = .ok (.aload_n 0, 1) := by decide +kernel
theorem dX5_guarded_52 : decode cX5_guarded 52 = .ok (.invokevirtual 213, 3) := by decide +kernel
theorem dX5_guarded_55 : decode cX5_guarded 55 = .ok (.aload_n 0, 1) := by decide +kernel
theorem dX5_guarded_56 : decode cX5_guarded 56 = .ok (.iload_n 1, 1) := by decide +kernel
theorem dX5_guarded_57 : decode cX5_guarded 57 = .ok (.aload_n 0, 1) := by decide +kernel
theorem dX5_guarded_58 : decode cX5_guarded 58 = .ok (.getfield 11, 3) := by decide +kernel
theorem dX5_guarded_61 : decode cX5_guarded 61 = .ok (.iload_n 2, 1) := by decide +kernel
theorem dX5_guarded_62 : decode cX5_guarded 62 = .ok (.aaload, 1) := by decide +kernel
theorem dX5_guarded_63 : decode cX5_guarded 63 = .ok (.iload_n 3, 1) := by decide +kernel
theorem dX5_guarded_64 : decode cX5_guarded 64 = .ok (.iload 4, 2) := by decide +kernel
theorem dX5_guarded_66 : decode cX5_guarded 66 = .ok (.invokevirtual 251, 3) := by decide +kernel
theorem dX5_guarded_69 : decode cX5_guarded 69 = .ok (.ifCond .eq 8, 3) := by decide +kernel
theorem dX5_guarded_72 : decode cX5_guarded 72 = .ok (.bipush 64, 2) := by decide +kernel
theorem dX5_guarded_74 : decode cX5_guarded 74 = .ok (.goto 4, 3) := by decide +kernel
theorem dX5_guarded_77 : decode cX5_guarded 77 = .ok (.iconst 0, 1) := by decide +kernel
theorem dX5_guarded_78 : decode cX5_guarded 78 = .ok (.istore 6, 2) := by decide +kernel
theorem dX5_guarded_80 : decode cX5_guarded 80 = .ok (.iconst 0, 1) := by decide +kernel
theorem dX5_guarded_81 : decode cX5_guarded 81 = .ok (.istore 7, 2) := by decide +kernel
theorem dX5_guarded_83 : decode cX5_guarded 83 = .ok (.iload 7, 2) := by decide +kernel
theorem dX5_guarded_85 : decode cX5_guarded 85 = .ok (.aload_n 0, 1) := by decide +kernel
theorem dX5_guarded_86 : decode cX5_guarded 86 = .ok (.getfield 25, 3) := by decide +kernel
theorem dX5_guarded_89 : decode cX5_guarded 89 = .ok (.getfield 140, 3) := by decide +kernel
theorem dX5_guarded_92 : decode cX5_guarded 92 = .ok (.if_icmp .ge 70, 3) := by decide +kernel
theorem dX5_guarded_95 : decode cX5_guarded 95 = .ok (.aload_n 0, 1) := by decide +kernel
theorem dX5_guarded_96 : decode cX5_guarded 96 = .ok (.getfield 25, 3) := by decide +kernel
theorem dX5_guarded_99 : decode cX5_guarded 99 = .ok (.iload 7, 2) := by decide +kernel
theorem dX5_guarded_101 : decode cX5_guarded 101 = .ok (.invokevirtual 178, 3) := by decide +kernel
theorem dX5_guarded_104 : decode cX5_guarded 104 = .ok (.ifCond .eq 6, 3) := by decide +kernel
theorem dX5_guarded_107 : decode cX5_guarded 107 = .ok (.goto 49, 3) := by decide +kernel
theorem dX5_guarded_110 : decode cX5_guarded 110 = .ok (.aload_n 0, 1) := by decide +kernel
theorem dX5_guarded_111 : decode cX5_guarded 111 = .ok (.invokevirtual 213, 3) := by decide +kernel
theorem dX5_guarded_114 : decode cX5_guarded 114 = .ok (.aload_n 0, 1) := by decide +kernel
theorem dX5_guarded_115 : decode cX5_guarded 115 = .ok (.getfield 29, 3) := by decide +kernel
theorem dX5_guarded_118 : decode cX5_guarded 118 = .ok (.dup, 1) := by decide +kernel
theorem dX5_guarded_119 : decode cX5_guarded 119 = .ok (.getfield 181, 3) := by decide +kernel
theorem dX5_guarded_122 : decode cX5_guarded 122 = .ok (.iconst 1, 1) := by decide +kernel
theorem dX5_guarded_123 : decode cX5_guarded 123 = .ok (.iload 7, 2) := by decide +kernel
theorem dX5_guarded_125 : decode cX5_guarded 125 = .ok (.ishl, 1) := by decide +kernel
theorem dX5_guarded_126 : decode cX5_guarded 126 = .ok (.ior, 1) := by decide +kernel
theorem dX5_guarded_127 : decode cX5_guarded 127 = .ok (.putfield 181, 3) := by decide +kernel
theorem dX5_guarded_130 : decode cX5_guarded 130 = .ok (.aload_n 0, 1) := by decide +kernel
theorem dX5_guarded_131 : decode cX5_guarded 131 = .ok (.iload_n 1, 1) := by decide +kernel
theorem dX5_guarded_132 : decode cX5_guarded 132 = .ok (.aload_n 0, 1) := by decide +kernel
theorem dX5_guarded_133 : decode cX5_guarded 133 = .ok (.getfield 11, 3) := by decide +kernel
theorem dX5_guarded_136 : decode cX5_guarded 136 = .ok (.iload_n 2, 1) := by decide +kernel
theorem dX5_guarded_137 : decode cX5_guarded 137 = .ok (.aaload, 1) := by decide +kernel
theorem dX5_guarded_138 : decode cX5_guarded 138 = .ok (.iload_n 3, 1) := by decide +kernel
theorem dX5_guarded_139 : decode cX5_guarded 139 = .ok (.iload 4, 2) := by decide +kernel
theorem dX5_guarded_141 : decode cX5_guarded 141 = .ok (.invokevirtual 251, 3) := by decide +kernel
theorem dX5_guarded_144 : decode cX5_guarded 144 = .ok (.ifCond .eq 12, 3) := by decide +kernel
theorem dX5_guarded_147 : decode cX5_guarded 147 = .ok (.iload 6, 2) := by decide +kernel
theorem dX5_guarded_149 : decode cX5_guarded 149 = .ok (.iconst 1, 1) := by decide +kernel
theorem dX5_guarded_150 : decode cX5_guarded 150 = .ok (.iload 7, 2) := by decide +kernel
theorem dX5_guarded_152 : decode cX5_guarded 152 = .ok (.ishl, 1) := by decide +kernel
theorem dX5_guarded_153 : decode cX5_guarded 153 = .ok (.ior, 1) := by decide +kernel
theorem dX5_guarded_154 : decode cX5_guarded 154 = .ok (.istore 6, 2) := by decide +kernel
theorem dX5_guarded_156 : decode cX5_guarded 156 = .ok (.iinc 7 1, 3) := by decide +kernel
theorem dX5_guarded_159 : decode cX5_guarded 159 = .ok (.goto (-76), 3) := by decide +kernel
theorem dX5_guarded_162 : decode cX5_guarded 162 = .ok (.aload_n 0, 1) := by decide +kernel
theorem dX5_guarded_163 : decode cX5_guarded 163 = .ok (.iload 6, 2) := by decide +kernel
theorem dX5_guarded_165 : decode cX5_guarded 165 = .ok (.invokevirtual 76, 3) := by decide +kernel
theorem dX5_guarded_168 : decode cX5_guarded 168 = .ok (.ireturn, 1) := by decide +kernel
theorem dX5_doze_0 : decode cX5_doze 0 = .ok (.aload_n 0, 1) := by decide +kernel
theorem dX5_doze_1 : decode cX5_doze 1 = .ok (.iload_n 1, 1) := by decide +kernel
theorem dX5_doze_2 : decode cX5_doze 2 = .ok (.invokevirtual 165, 3) := by decide +kernel
theorem dX5_doze_5 : decode cX5_doze 5 = .ok (.ifCond .eq 43, 3) := by decide +kernel
theorem dX5_doze_8 : decode cX5_doze 8 = .ok (.iload_n 2, 1) := by decide +kernel
theorem dX5_doze_9 : decode cX5_doze 9 = .ok (.iconst 0, 1) := by decide +kernel
theorem dX5_doze_10 : decode cX5_doze 10 = .ok (.iconst 5, 1) := by decide +kernel
theorem dX5_doze_11 : decode cX5_doze 11 = .ok (.invokestatic 63, 3) := by decide +kernel
theorem dX5_doze_14 : decode cX5_doze 14 = .ok (.ifCond .eq 34, 3) := by decide +kernel
theorem dX5_doze_17 : decode cX5_doze 17 = .ok (.iload_n 3, 1) := by decide +kernel
theorem dX5_doze_18 : decode cX5_doze 18 = .ok (.iconst 0, 1) := by decide +kernel
theorem dX5_doze_19 : decode cX5_doze 19 = .ok (.bipush 30, 2) := by decide +kernel
theorem dX5_doze_21 : decode cX5_doze 21 = .ok (.invokestatic 63, 3) := by decide +kernel
theorem dX5_doze_24 : decode cX5_doze 24 = .ok (.ifCond .eq 24, 3) := by decide +kernel
theorem dX5_doze_27 : decode cX5_doze 27 = .ok (.iload 4, 2) := by decide +kernel
theorem dX5_doze_29 : decode cX5_doze 29 = .ok (.iconst 0, 1) := by decide +kernel
theorem dX5_doze_30 : decode cX5_doze 30 = .ok (.bipush 10, 2) := by decide +kernel
theorem dX5_doze_32 : decode cX5_doze 32 = .ok (.invokestatic 63, 3) := by decide +kernel
theorem dX5_doze_35 : decode cX5_doze 35 = .ok (.ifCond .eq 13, 3) := by decide +kernel
theorem dX5_doze_38 : decode cX5_doze 38 = .ok (.iload 5, 2) := by decide +kernel
theorem dX5_doze_40 : decode cX5_doze 40 = .ok (.iconst 0, 1) := by decide +kernel
theorem dX5_doze_41 : decode cX5_doze 41 = .ok (.iconst 1, 1) := by decide +kernel
theorem dX5_doze_42 : decode cX5_doze 42 = .ok (.invokestatic 63, 3) := by decide +kernel
theorem dX5_doze_45 : decode cX5_doze 45 = .ok (.ifCond .ne 7, 3) := by decide +kernel
theorem dX5_doze_48 : decode cX5_doze 48 = .ok (.ldc2_w 255, 3) := by decide +kernel
theorem dX5_doze_51 : decode cX5_doze 51 = .ok (.lreturn, 1) := by decide +kernel
theorem dX5_doze_52 : decode cX5_doze 52 = .ok (.lconst 0, 1) := by decide +kernel
theorem dX5_doze_53 : decode cX5_doze 53 = .ok (.lstore 6, 2) := by decide +kernel
theorem dX5_doze_55 : decode cX5_doze 55 = .ok (.lconst 0, 1) := by decide +kernel
theorem dX5_doze_56 : decode cX5_doze 56 = .ok (.lstore 8, 2) := by decide +kernel
theorem dX5_doze_58 : decode cX5_doze 58 = .ok (.iconst 0, 1) := by decide +kernel
theorem dX5_doze_59 : decode cX5_doze 59 = .ok (.istore 10, 2) := by decide +kernel
theorem dX5_doze_61 : decode cX5_doze 61 = .ok (.iload 10, 2) := by decide +kernel
theorem dX5_doze_63 : decode cX5_doze 63 = .ok (.iconst 1, 1) := by decide +kernel
theorem dX5_doze_64 : decode cX5_doze 64 = .ok (.aload_n 0, 1) := by decide +kernel
theorem dX5_doze_65 : decode cX5_doze 65 = .ok (.getfield 25, 3) := by decide +kernel
theorem dX5_doze_68 : decode cX5_doze 68 = .ok (.getfield 140, 3) := by decide +kernel
theorem dX5_doze_71 : decode cX5_doze 71 = .ok (.ishl, 1) := by decide +kernel
theorem dX5_doze_72 : decode cX5_doze 72 = .ok (.if_icmp .ge 70, 3) := by decide +kernel
theorem dX5_doze_75 : decode cX5_doze 75 = .ok (.iload 10, 2) := by decide +kernel
theorem dX5_doze_77 : decode cX5_doze 77 = .ok (.aload_n 0, 1) := by decide +kernel
theorem dX5_doze_78 : decode cX5_doze 78 = .ok (.getfield 25, 3) := by decide +kernel
theorem dX5_doze_81 : decode cX5_doze 81 = .ok (.getfield 181, 3) := by decide +kernel
theorem dX5_doze_84 : decode cX5_doze 84 = .ok (.iconst (-1), 1) := by decide +kernel
theorem dX5_doze_85 : decode cX5_doze 85 = .ok (.ixor, 1) := by decide +kernel
theorem dX5_doze_86 : decode cX5_doze 86 = .ok (.iand, 1) := by decide +kernel
theorem dX5_doze_87 : decode cX5_doze 87 = .ok (.ifCond .eq 6, 3) := by decide +kernel
theorem dX5_doze_90 : decode cX5_doze 90 = .ok (.goto 46, 3) := by decide +kernel
theorem dX5_doze_93 : decode cX5_doze 93 = .ok (.aload_n 0, 1) := by decide +kernel
theorem dX5_doze_94 : decode cX5_doze 94 = .ok (.iload 10, 2) := by decide +kernel
theorem dX5_doze_96 : decode cX5_doze 96 = .ok (.iload 4, 2) := by decide +kernel
theorem dX5_doze_98 : decode cX5_doze 98 = .ok (.invokevirtual 257, 3) := by decide +kernel
theorem dX5_doze_101 : decode cX5_doze 101 = .ok (.lstore 11, 2) := by decide +kernel
theorem dX5_doze_103 : decode cX5_doze 103 = .ok (.lload 8, 2) := by decide +kernel
theorem dX5_doze_105 : decode cX5_doze 105 = .ok (.lload 11, 2) := by decide +kernel
theorem dX5_doze_107 : decode cX5_doze 107 = .ok (.ladd, 1) := by decide +kernel
theorem dX5_doze_108 : decode cX5_doze 108 = .ok (.lstore 8, 2) := by decide +kernel
theorem dX5_doze_110 : decode cX5_doze 110 = .ok (.lload 11, 2) := by decide +kernel
theorem dX5_doze_112 : decode cX5_doze 112 = .ok (.lconst 0, 1) := by decide +kernel
theorem dX5_doze_113 : decode cX5_doze 113 = .ok (.lcmp, 1) := by decide +kernel
theorem dX5_doze_114 : decode cX5_doze 114 = .ok (.ifCond .le 22, 3) := by decide +kernel
theorem dX5_doze_117 : decode cX5_doze 117 = .ok (.aload_n 0, 1) := by decide +kernel
theorem dX5_doze_118 : decode cX5_doze 118 = .ok (.iload_n 1, 1) := by decide +kernel
theorem dX5_doze_119 : decode cX5_doze 119 = .ok (.iload_n 3, 1) := by decide +kernel
theorem dX5_doze_120 : decode cX5_doze 120 = .ok (.iload 10, 2) := by decide +kernel
theorem dX5_doze_122 : decode cX5_doze 122 = .ok (.invokevirtual 261, 3) := by decide +kernel
theorem dX5_doze_125 : decode cX5_doze 125 = .ok (.iload_n 2, 1) := by decide +kernel
theorem dX5_doze_126 : decode cX5_doze 126 = .ok (.if_icmp .gt 10, 3) := by decide +kernel
theorem dX5_doze_129 : decode cX5_doze 129 = .ok (.lload 6, 2) := by decide +kernel
theorem dX5_doze_131 : decode cX5_doze 131 = .ok (.lload 11, 2) := by decide +kernel
theorem dX5_doze_133 : decode cX5_doze 133 = .ok (.ladd, 1) := by decide +kernel
theorem dX5_doze_134 : decode cX5_doze 134 = .ok (.lstore 6, 2) := by decide +kernel
theorem dX5_doze_136 : decode cX5_doze 136 = .ok (.iinc 10 1, 3) := by decide +kernel
theorem dX5_doze_139 : decode cX5_doze 139 = .ok (.goto (-78), 3) := by decide +kernel
theorem dX5_doze_142 : decode cX5_doze 142 = .ok (.lload 6, 2) := by decide +kernel
theorem dX5_doze_144 : decode cX5_doze 144 = .ok (.lload 8, 2) := by decide +kernel
theorem dX5_doze_146 : decode cX5_doze 146 = .ok (.invokestatic 264, 3) := by decide +kernel
theorem dX5_doze_149 : decode cX5_doze 149 = .ok (.lstore 10, 2) := by decide +kernel
theorem dX5_doze_151 : decode cX5_doze 151 = .ok (.lload 10, 2) := by decide +kernel
theorem dX5_doze_153 : decode cX5_doze 153 = .ok (.lconst 0, 1) := by decide +kernel
theorem dX5_doze_154 : decode cX5_doze 154 = .ok (.lcmp, 1) := by decide +kernel
theorem dX5_doze_155 : decode cX5_doze 155 = .ok (.ifCond .ne 7, 3) := by decide +kernel
theorem dX5_doze_158 : decode cX5_doze 158 = .ok (.iload 5, 2) := by decide +kernel
theorem dX5_doze_160 : decode cX5_doze 160 = .ok (.i2l, 1) := by decide +kernel
theorem dX5_doze_161 : decode cX5_doze 161 = .ok (.lreturn, 1) := by decide +kernel
theorem dX5_doze_162 : decode cX5_doze 162 = .ok (.iload 5, 2) := by decide +kernel
theorem dX5_doze_164 : decode cX5_doze 164 = .ok (.ifCond .ne 11, 3) := by decide +kernel
theorem dX5_doze_167 : decode cX5_doze 167 = .ok (.lload 6, 2) := by decide +kernel
theorem dX5_doze_169 : decode cX5_doze 169 = .ok (.lload 10, 2) := by decide +kernel
theorem dX5_doze_171 : decode cX5_doze 171 = .ok (.ldiv, 1) := by decide +kernel
theorem dX5_doze_172 : decode cX5_doze 172 = .ok (.goto 8, 3) := by decide +kernel
theorem dX5_doze_175 : decode cX5_doze 175 = .ok (.lload 8, 2) := by decide +kernel
theorem dX5_doze_177 : decode cX5_doze 177 = .ok (.lload 10, 2) := by decide +kernel
theorem dX5_doze_179 : decode cX5_doze 179 = .ok (.ldiv, 1) := by decide +kernel
theorem dX5_doze_180 : decode cX5_doze 180 = .ok (.lreturn, 1) := by decide +kernel
theorem dX5_drawn_0 : decode cX5_drawn 0 = .ok (.aload_n 0, 1) := by decide +kernel
theorem dX5_drawn_1 : decode cX5_drawn 1 = .ok (.invokevirtual 149, 3) := by decide +kernel
theorem dX5_drawn_4 : decode cX5_drawn 4 = .ok (.ifCond .eq 6, 3) := by decide +kernel
theorem dX5_drawn_7 : decode cX5_drawn 7 = .ok (.ldc 148, 2) := by decide +kernel
theorem dX5_drawn_9 : decode cX5_drawn 9 = .ok (.ireturn, 1) := by decide +kernel
theorem dX5_drawn_10 : decode cX5_drawn 10 = .ok (.iload_n 1, 1) := by decide +kernel
theorem dX5_drawn_11 : decode cX5_drawn 11 = .ok (.iconst 0, 1) := by decide +kernel
theorem dX5_drawn_12 : decode cX5_drawn 12 = .ok (.bipush 60, 2) := by decide +kernel
theorem dX5_drawn_14 : decode cX5_drawn 14 = .ok (.invokestatic 63, 3) := by decide +kernel
theorem dX5_drawn_17 : decode cX5_drawn 17 = .ok (.ifCond .eq 23, 3) := by decide +kernel
theorem dX5_drawn_20 : decode cX5_drawn 20 = .ok (.iload_n 2, 1) := by decide +kernel
theorem dX5_drawn_21 : decode cX5_drawn 21 = .ok (.iconst 1, 1) := by decide +kernel
theorem dX5_drawn_22 : decode cX5_drawn 22 = .ok (.ldc_w 268, 3) := by decide +kernel
theorem dX5_drawn_25 : decode cX5_drawn 25 = .ok (.invokestatic 63, 3) := by decide +kernel
theorem dX5_drawn_28 : decode cX5_drawn 28 = .ok (.ifCond .eq 12, 3) := by decide +kernel
theorem dX5_drawn_31 : decode cX5_drawn 31 = .ok (.iload_n 3, 1) := by decide +kernel
theorem dX5_drawn_32 : decode cX5_drawn 32 = .ok (.iconst 0, 1) := by decide +kernel
theorem dX5_drawn_33 : decode cX5_drawn 33 = .ok (.iconst 1, 1) := by decide +kernel
theorem dX5_drawn_34 : decode cX5_drawn 34 = .ok (.invokestatic 63, 3) := by decide +kernel
theorem dX5_drawn_37 : decode cX5_drawn 37 = .ok (.ifCond .ne 6, 3) := by decide +kernel
theorem dX5_drawn_40 : decode cX5_drawn 40 = .ok (.ldc 67, 2) := by decide +kernel
theorem dX5_drawn_42 : decode cX5_drawn 42 = .ok (.ireturn, 1) := by decide +kernel
theorem dX5_drawn_43 : decode cX5_drawn 43 = .ok (.aload_n 0, 1) := by decide +kernel
theorem dX5_drawn_44 : decode cX5_drawn 44 = .ok (.invokevirtual 213, 3) := by decide +kernel
theorem dX5_drawn_47 : decode cX5_drawn 47 = .ok (.iload_n 2, 1) := by decide +kernel
theorem dX5_drawn_48 : decode cX5_drawn 48 = .ok (.i2l, 1) := by decide +kernel
theorem dX5_drawn_49 : decode cX5_drawn 49 = .ok (.lstore 4, 2) := by decide +kernel
theorem dX5_drawn_51 : decode cX5_drawn 51 = .ok (.iconst 0, 1) := by decide +kernel
theorem dX5_drawn_52 : decode cX5_drawn 52 = .ok (.istore 6, 2) := by decide +kernel
theorem dX5_drawn_54 : decode cX5_drawn 54 = .ok (.iload 6, 2) := by decide +kernel
theorem dX5_drawn_56 : decode cX5_drawn 56 = .ok (.iload_n 1, 1) := by decide +kernel
theorem dX5_drawn_57 : decode cX5_drawn 57 = .ok (.if_icmp .ge 74, 3) := by decide +kernel
theorem dX5_drawn_60 : decode cX5_drawn 60 = .ok (.lload 4, 2) := by decide +kernel
theorem dX5_drawn_62 : decode cX5_drawn 62 = .ok (.ldc2_w 269, 3) := by decide +kernel
theorem dX5_drawn_65 : decode cX5_drawn 65 = .ok (.lmul, 1) := by decide +kernel
theorem dX5_drawn_66 : decode cX5_drawn 66 = .ok (.ldc2_w 271, 3) := by decide +kernel
theorem dX5_drawn_69 : decode cX5_drawn 69 = .ok (.lrem, 1) := by decide +kernel
theorem dX5_drawn_70 : decode cX5_drawn 70 = .ok (.lstore 4, 2) := by decide +kernel
theorem dX5_drawn_72 : decode cX5_drawn 72 = .ok (.lload 4, 2) := by decide +kernel
theorem dX5_drawn_74 : decode cX5_drawn 74 = .ok (.aload_n 0, 1) := by decide +kernel
theorem dX5_drawn_75 : decode cX5_drawn 75 = .ok (.getfield 25, 3) := by decide +kernel
theorem dX5_drawn_78 : decode cX5_drawn 78 = .ok (.getfield 140, 3) := by decide +kernel
theorem dX5_drawn_81 : decode cX5_drawn 81 = .ok (.i2l, 1) := by decide +kernel
theorem dX5_drawn_82 : decode cX5_drawn 82 = .ok (.lrem, 1) := by decide +kernel
theorem dX5_drawn_83 : decode cX5_drawn 83 = .ok (.l2i, 1) := by decide +kernel
theorem dX5_drawn_84 : decode cX5_drawn 84 = .ok (.istore 7, 2) := by decide +kernel
theorem dX5_drawn_86 : decode cX5_drawn 86 = .ok (.aload_n 0, 1) := by decide +kernel
theorem dX5_drawn_87 : decode cX5_drawn 87 = .ok (.getfield 29, 3) := by decide +kernel
theorem dX5_drawn_90 : decode cX5_drawn 90 = .ok (.iconst 1, 1) := by decide +kernel
theorem dX5_drawn_91 : decode cX5_drawn 91 = .ok (.iload 7, 2) := by decide +kernel
theorem dX5_drawn_93 : decode cX5_drawn 93 = .ok (.ishl, 1) := by decide +kernel
theorem dX5_drawn_94 : decode cX5_drawn 94 = .ok (.putfield 181, 3) := by decide +kernel
theorem dX5_drawn_97 : decode cX5_drawn 97 = .ok (.lload 4, 2) := by decide +kernel
theorem dX5_drawn_99 : decode cX5_drawn 99 = .ok (.ldc2_w 273, 3) := by decide +kernel
theorem dX5_drawn_102 : decode cX5_drawn 102 = .ok (.lrem, 1) := by decide +kernel
theorem dX5_drawn_103 : decode cX5_drawn 103 = .ok (.lconst 0, 1) := by decide +kernel
theorem dX5_drawn_104 : decode cX5_drawn 104 = .ok (.lcmp, 1) := by decide +kernel
theorem dX5_drawn_105 : decode cX5_drawn 105 = .ok (.ifCond .ne 12, 3) := by decide +kernel
theorem dX5_drawn_108 : decode cX5_drawn 108 = .ok (.aload_n 0, 1) := by decide +kernel
theorem dX5_drawn_109 : decode cX5_drawn 109 = .ok (.getfield 29, 3) := by decide +kernel
theorem dX5_drawn_112 : decode cX5_drawn 112 = .ok (.iload 7, 2) := by decide +kernel
theorem dX5_drawn_114 : decode cX5_drawn 114 = .ok (.invokevirtual 174, 3) := by decide +kernel
theorem dX5_drawn_117 : decode cX5_drawn 117 = .ok (.aload_n 0, 1) := by decide +kernel
theorem dX5_drawn_118 : decode cX5_drawn 118 = .ok (.getfield 29, 3) := by decide +kernel
theorem dX5_drawn_121 : decode cX5_drawn 121 = .ok (.invokevirtual 159, 3) := by decide +kernel
theorem dX5_drawn_124 : decode cX5_drawn 124 = .ok (.pop, 1) := by decide +kernel
theorem dX5_drawn_125 : decode cX5_drawn 125 = .ok (.iinc 6 1, 3) := by decide +kernel
theorem dX5_drawn_128 : decode cX5_drawn 128 = .ok (.goto (-74), 3) := by decide +kernel
theorem dX5_drawn_131 : decode cX5_drawn 131 = .ok (.iload_n 3, 1) := by decide +kernel
theorem dX5_drawn_132 : decode cX5_drawn 132 = .ok (.ifCond .ne 14, 3) := by decide +kernel
theorem dX5_drawn_135 : decode cX5_drawn 135 = .ok (.aload_n 0, 1) := by decide +kernel
theorem dX5_drawn_136 : decode cX5_drawn 136 = .ok (.getfield 29, 3) := by decide +kernel
theorem dX5_drawn_139 : decode cX5_drawn 139 = .ok (.iconst 0, 1) := by decide +kernel
theorem dX5_drawn_140 : decode cX5_drawn 140 = .ok (.invokevirtual 162, 3) := by decide +kernel
theorem dX5_drawn_143 : decode cX5_drawn 143 = .ok (.goto 10, 3) := by decide +kernel
theorem dX5_drawn_146 : decode cX5_drawn 146 = .ok (.aload_n 0, 1) := by decide +kernel
theorem dX5_drawn_147 : decode cX5_drawn 147 = .ok (.getfield 29, 3) := by decide +kernel
theorem dX5_drawn_150 : decode cX5_drawn 150 = .ok (.invokevirtual 226, 3) := by decide +kernel
theorem dX5_drawn_153 : decode cX5_drawn 153 = .ok (.ireturn, 1) := by decide +kernel
theorem dX5_image_0 : decode cX5_image 0 = .ok (.iload_n 1, 1) := by decide +kernel
theorem dX5_image_1 : decode cX5_image 1 = .ok (.iconst 0, 1) := by decide +kernel
theorem dX5_image_2 : decode cX5_image 2 = .ok (.iconst 1, 1) := by decide +kernel
theorem dX5_image_3 : decode cX5_image 3 = .ok (.invokestatic 63, 3) := by decide +kernel
theorem dX5_image_6 : decode cX5_image 6 = .ok (.ifCond .ne 6, 3) := by decide +kernel
theorem dX5_image_9 : decode cX5_image 9 = .ok (.ldc 67, 2) := by decide +kernel
theorem dX5_image_11 : decode cX5_image 11 = .ok (.ireturn, 1) := by decide +kernel
theorem dX5_image_12 : decode cX5_image 12 = .ok (.aload_n 0, 1) := by decide +kernel
theorem dX5_image_13 : decode cX5_image 13 = .ok (.invokevirtual 149, 3) := by decide +kernel
theorem dX5_image_16 : decode cX5_image 16 = .ok (.ifCond .eq 6, 3) := by decide +kernel
theorem dX5_image_19 : decode cX5_image 19 = .ok (.ldc 148, 2) := by decide +kernel
theorem dX5_image_21 : decode cX5_image 21 = .ok (.ireturn, 1) := by decide +kernel
theorem dX5_image_22 : decode cX5_image 22 = .ok (.aload_n 0, 1) := by decide +kernel
theorem dX5_image_23 : decode cX5_image 23 = .ok (.getfield 25, 3) := by decide +kernel
theorem dX5_image_26 : decode cX5_image 26 = .ok (.aload_n 0, 1) := by decide +kernel
theorem dX5_image_27 : decode cX5_image 27 = .ok (.getfield 48, 3) := by decide +kernel
theorem dX5_image_30 : decode cX5_image 30 = .ok (.iload_n 1, 1) := by decide +kernel
theorem dX5_image_31 : decode cX5_image 31 = .ok (.aaload, 1) := by decide +kernel
theorem dX5_image_32 : decode cX5_image 32 = .ok (.invokevirtual 130, 3) := by decide +kernel
theorem dX5_image_35 : decode cX5_image 35 = .ok (.aload_n 0, 1) := by decide +kernel
theorem dX5_image_36 : decode cX5_image 36 = .ok (.dup, 1) := by decide +kernel
theorem dX5_image_37 : decode cX5_image 37 = .ok (.getfield 275, 3) := by decide +kernel
theorem dX5_image_40 : decode cX5_image 40 = .ok (.iconst 1, 1) := by decide +kernel
theorem dX5_image_41 : decode cX5_image 41 = .ok (.iload_n 1, 1) := by decide +kernel
theorem dX5_image_42 : decode cX5_image 42 = .ok (.ishl, 1) := by decide +kernel
theorem dX5_image_43 : decode cX5_image 43 = .ok (.ior, 1) := by decide +kernel
theorem dX5_image_44 : decode cX5_image 44 = .ok (.putfield 275, 3) := by decide +kernel
theorem dX5_image_47 : decode cX5_image 47 = .ok (.iconst 1, 1) := by decide +kernel
theorem dX5_image_48 : decode cX5_image 48 = .ok (.ireturn, 1) := by decide +kernel
theorem dX5_restore_0 : decode cX5_restore 0 = .ok (.iload_n 1, 1) := by decide +kernel
theorem dX5_restore_1 : decode cX5_restore 1 = .ok (.iconst 0, 1) := by decide +kernel
theorem dX5_restore_2 : decode cX5_restore 2 = .ok (.iconst 1, 1) := by decide +kernel
theorem dX5_restore_3 : decode cX5_restore 3 = .ok (.invokestatic 63, 3) := by decide +kernel
theorem dX5_restore_6 : decode cX5_restore 6 = .ok (.ifCond .ne 6, 3) := by decide +kernel
theorem dX5_restore_9 : decode cX5_restore 9 = .ok (.ldc 67, 2) := by decide +kernel
theorem dX5_restore_11 : decode cX5_restore 11 = .ok (.ireturn, 1) := by decide +kernel
theorem dX5_restore_12 : decode cX5_restore 12 = .ok (.aload_n 0, 1) := by decide +kernel
theorem dX5_restore_13 : decode cX5_restore 13 = .ok (.getfield 275, 3) := by decide +kernel
theorem dX5_restore_16 : decode cX5_restore 16 = .ok (.iload_n 1, 1) := by decide +kernel
theorem dX5_restore_17 : decode cX5_restore 17 = .ok (.ishr, 1) := by decide +kernel
theorem dX5_restore_18 : decode cX5_restore 18 = .ok (.iconst 1, 1) := by decide +kernel
theorem dX5_restore_19 : decode cX5_restore 19 = .ok (.iand, 1) := by decide +kernel
theorem dX5_restore_20 : decode cX5_restore 20 = .ok (.ifCond .ne 6, 3) := by decide +kernel
theorem dX5_restore_23 : decode cX5_restore 23 = .ok (.ldc 148, 2) := by decide +kernel
theorem dX5_restore_25 : decode cX5_restore 25 = .ok (.ireturn, 1) := by decide +kernel
theorem dX5_restore_26 : decode cX5_restore 26 = .ok (.aload_n 0, 1) := by decide +kernel
theorem dX5_restore_27 : decode cX5_restore 27 = .ok (.getfield 25, 3) := by decide +kernel
theorem dX5_restore_30 : decode cX5_restore 30 = .ok (.aload_n 0, 1) := by decide +kernel
theorem dX5_restore_31 : decode cX5_restore 31 = .ok (.getfield 48, 3) := by decide +kernel
theorem dX5_restore_34 : decode cX5_restore 34 = .ok (.iload_n 1, 1) := by decide +kernel
theorem dX5_restore_35 : decode cX5_restore 35 = .ok (.aaload, 1) := by decide +kernel
theorem dX5_restore_36 : decode cX5_restore 36 = .ok (.invokevirtual 134, 3) := by decide +kernel
theorem dX5_restore_39 : decode cX5_restore 39 = .ok (.aload_n 0, 1) := by decide +kernel
theorem dX5_restore_40 : decode cX5_restore 40 = .ok (.getfield 42, 3) := by decide +kernel
theorem dX5_restore_43 : decode cX5_restore 43 = .ok (.invokevirtual 137, 3) := by decide +kernel
theorem dX5_restore_46 : decode cX5_restore 46 = .ok (.iconst 1, 1) := by decide +kernel
theorem dX5_restore_47 : decode cX5_restore 47 = .ok (.ireturn, 1) := by decide +kernel
theorem dX5_kind_0 : decode cX5_kind 0 = .ok (.aload_n 0, 1) := by decide +kernel
theorem dX5_kind_1 : decode cX5_kind 1 = .ok (.iload_n 1, 1) := by decide +kernel
theorem dX5_kind_2 : decode cX5_kind 2 = .ok (.invokevirtual 165, 3) := by decide +kernel
theorem dX5_kind_5 : decode cX5_kind 5 = .ok (.ifCond .eq 15, 3) := by decide +kernel
theorem dX5_kind_8 : decode cX5_kind 8 = .ok (.aload_n 0, 1) := by decide +kernel
theorem dX5_kind_9 : decode cX5_kind 9 = .ok (.getfield 25, 3) := by decide +kernel
theorem dX5_kind_12 : decode cX5_kind 12 = .ok (.getfield 278, 3) := by decide +kernel
theorem dX5_kind_15 : decode cX5_kind 15 = .ok (.iload_n 1, 1) := by decide +kernel
theorem dX5_kind_16 : decode cX5_kind 16 = .ok (.iaload, 1) := by decide +kernel
theorem dX5_kind_17 : decode cX5_kind 17 = .ok (.goto 5, 3) := by decide +kernel
theorem dX5_kind_20 : decode cX5_kind 20 = .ok (.ldc 67, 2) := by decide +kernel
theorem dX5_kind_22 : decode cX5_kind 22 = .ok (.ireturn, 1) := by decide +kernel
theorem dX5_as_0 : decode cX5_as 0 = .ok (.aload_n 0, 1) := by decide +kernel
theorem dX5_as_1 : decode cX5_as 1 = .ok (.iload_n 1, 1) := by decide +kernel
theorem dX5_as_2 : decode cX5_as 2 = .ok (.invokevirtual 165, 3) := by decide +kernel
theorem dX5_as_5 : decode cX5_as 5 = .ok (.ifCond .eq 12, 3) := by decide +kernel
theorem dX5_as_8 : decode cX5_as 8 = .ok (.iload_n 2, 1) := by decide +kernel
theorem dX5_as_9 : decode cX5_as 9 = .ok (.iconst 0, 1) := by decide +kernel
theorem dX5_as_10 : decode cX5_as 10 = .ok (.iconst 5, 1) := by decide +kernel
theorem dX5_as_11 : decode cX5_as 11 = .ok (.invokestatic 63, 3) := by decide +kernel
theorem dX5_as_14 : decode cX5_as 14 = .ok (.ifCond .ne 6, 3) := by decide +kernel
theorem dX5_as_17 : decode cX5_as 17 = .ok (.ldc 67, 2) := by decide +kernel
theorem dX5_as_19 : decode cX5_as 19 = .ok (.ireturn, 1) := by decide +kernel
theorem dX5_as_20 : decode cX5_as 20 = .ok (.aload_n 0, 1) := by decide +kernel
theorem dX5_as_21 : decode cX5_as 21 = .ok (.getfield 25, 3) := by decide +kernel
theorem dX5_as_24 : decode cX5_as 24 = .ok (.getfield 278, 3) := by decide +kernel
theorem dX5_as_27 : decode cX5_as 27 = .ok (.iload_n 1, 1) := by decide +kernel
theorem dX5_as_28 : decode cX5_as 28 = .ok (.iaload, 1) := by decide +kernel
theorem dX5_as_29 : decode cX5_as 29 = .ok (.iload_n 2, 1) := by decide +kernel
theorem dX5_as_30 : decode cX5_as 30 = .ok (.invokestatic 281, 3) := by decide +kernel
theorem dX5_as_33 : decode cX5_as 33 = .ok (.ifCond .eq 11, 3) := by decide +kernel
theorem dX5_as_36 : decode cX5_as 36 = .ok (.aload_n 0, 1) := by decide +kernel
theorem dX5_as_37 : decode cX5_as 37 = .ok (.iload_n 1, 1) := by decide +kernel
theorem dX5_as_38 : decode cX5_as 38 = .ok (.invokevirtual 76, 3) := by decide +kernel
theorem dX5_as_41 : decode cX5_as 41 = .ok (.goto 8, 3) := by decide +kernel
theorem dX5_as_44 : decode cX5_as 44 = .ok (.aload_n 0, 1) := by decide +kernel
theorem dX5_as_45 : decode cX5_as 45 = .ok (.iconst 3, 1) := by decide +kernel
theorem dX5_as_46 : decode cX5_as 46 = .ok (.invokevirtual 68, 3) := by decide +kernel
theorem dX5_as_49 : decode cX5_as 49 = .ok (.ireturn, 1) := by decide +kernel
theorem dX5_ask_0 : decode cX5_ask 0 = .ok (.aload_n 0, 1) := by decide +kernel
theorem dX5_ask_1 : decode cX5_ask 1 = .ok (.iload_n 1, 1) := by decide +kernel
theorem dX5_ask_2 : decode cX5_ask 2 = .ok (.invokevirtual 165, 3) := by decide +kernel
theorem dX5_ask_5 : decode cX5_ask 5 = .ok (.ifCond .eq 12, 3) := by decide +kernel
theorem dX5_ask_8 : decode cX5_ask 8 = .ok (.iload_n 2, 1) := by decide +kernel
theorem dX5_ask_9 : decode cX5_ask 9 = .ok (.iconst 0, 1) := by decide +kernel
theorem dX5_ask_10 : decode cX5_ask 10 = .ok (.iconst 1, 1) := by decide +kernel
theorem dX5_ask_11 : decode cX5_ask 11 = .ok (.invokestatic 63, 3) := by decide +kernel
theorem dX5_ask_14 : decode cX5_ask 14 = .ok (.ifCond .ne 6, 3) := by decide +kernel
theorem dX5_ask_17 : decode cX5_ask 17 = .ok (.ldc 67, 2) := by decide +kernel
theorem dX5_ask_19 : decode cX5_ask 19 = .ok (.ireturn, 1) := by decide +kernel
theorem dX5_ask_20 : decode cX5_ask 20 = .ok (.aload_n 0, 1) := by decide +kernel
theorem dX5_ask_21 : decode cX5_ask 21 = .ok (.getfield 54, 3) := by decide +kernel
theorem dX5_ask_24 : decode cX5_ask 24 = .ok (.iconst 0, 1) := by decide +kernel
theorem dX5_ask_25 : decode cX5_ask 25 = .ok (.putfield 284, 3) := by decide +kernel
theorem dX5_ask_28 : decode cX5_ask 28 = .ok (.iload_n 2, 1) := by decide +kernel
theorem dX5_ask_29 : decode cX5_ask 29 = .ok (.ifCond .ne 19, 3) := by decide +kernel
theorem dX5_ask_32 : decode cX5_ask 32 = .ok (.aload_n 0, 1) := by decide +kernel
theorem dX5_ask_33 : decode cX5_ask 33 = .ok (.getfield 54, 3) := by decide +kernel
theorem dX5_ask_36 : decode cX5_ask 36 = .ok (.aload_n 0, 1) := by decide +kernel
theorem dX5_ask_37 : decode cX5_ask 37 = .ok (.getfield 25, 3) := by decide +kernel
theorem dX5_ask_40 : decode cX5_ask 40 = .ok (.iload_n 1, 1) := by decide +kernel
theorem dX5_ask_41 : decode cX5_ask 41 = .ok (.iconst 0, 1) := by decide +kernel
theorem dX5_ask_42 : decode cX5_ask 42 = .ok (.invokevirtual 285, 3) := by decide +kernel
theorem dX5_ask_45 : decode cX5_ask 45 = .ok (.goto 16, 3) := by decide +kernel
theorem dX5_ask_48 : decode cX5_ask 48 = .ok (.aload_n 0, 1) := by decide +kernel
theorem dX5_ask_49 : decode cX5_ask 49 = .ok (.getfield 54, 3) := by decide +kernel
theorem dX5_ask_52 : decode cX5_ask 52 = .ok (.aload_n 0, 1) := by decide +kernel
theorem dX5_ask_53 : decode cX5_ask 53 = .ok (.getfield 25, 3) := by decide +kernel
theorem dX5_ask_56 : decode cX5_ask 56 = .ok (.iload_n 1, 1) := by decide +kernel
theorem dX5_ask_57 : decode cX5_ask 57 = .ok (.iconst 0, 1) := by decide +kernel
theorem dX5_ask_58 : decode cX5_ask 58 = .ok (.invokevirtual 289, 3) := by decide +kernel
theorem dX5_ask_61 : decode cX5_ask 61 = .ok (.ireturn, 1) := by decide +kernel
theorem dX5_trace_0 : decode cX5_trace 0 = .ok (.iload_n 1, 1) := by decide +kernel
theorem dX5_trace_1 : decode cX5_trace 1 = .ok (.ifCond .lt 26, 3) := by decide +kernel
theorem dX5_trace_4 : decode cX5_trace 4 = .ok (.iload_n 1, 1) := by decide +kernel
theorem dX5_trace_5 : decode cX5_trace 5 = .ok (.aload_n 0, 1) := by decide +kernel
theorem dX5_trace_6 : decode cX5_trace 6 = .ok (.getfield 54, 3) := by decide +kernel
theorem dX5_trace_9 : decode cX5_trace 9 = .ok (.getfield 284, 3) := by decide +kernel
theorem dX5_trace_12 : decode cX5_trace 12 = .ok (.if_icmp .ge 15, 3) := by decide +kernel
theorem dX5_trace_15 : decode cX5_trace 15 = .ok (.aload_n 0, 1) := by decide +kernel
theorem dX5_trace_16 : decode cX5_trace 16 = .ok (.getfield 54, 3) := by decide +kernel
theorem dX5_trace_19 : decode cX5_trace 19 = .ok (.getfield 292, 3) := by decide +kernel
theorem dX5_trace_22 : decode cX5_trace 22 = .ok (.iload_n 1, 1) := by decide +kernel
theorem dX5_trace_23 : decode cX5_trace 23 = .ok (.iaload, 1) := by decide +kernel
theorem dX5_trace_24 : decode cX5_trace 24 = .ok (.goto 5, 3) := by decide +kernel
theorem dX5_trace_27 : decode cX5_trace 27 = .ok (.ldc 219, 2) := by decide +kernel
theorem dX5_trace_29 : decode cX5_trace 29 = .ok (.ireturn, 1) := by decide +kernel
theorem dX5_count_0 : decode cX5_count 0 = .ok (.iload_n 1, 1) := by decide +kernel
theorem dX5_count_1 : decode cX5_count 1 = .ok (.tableswitch 108 0 7 #[47, 52, 60, 68, 76, 84, 92, 100], 47) := by decide +kernel
theorem dX5_count_48 : decode cX5_count 48 = .ok (.aload_n 0, 1) := by decide +kernel
theorem dX5_count_49 : decode cX5_count 49 = .ok (.invokevirtual 295, 3) := by decide +kernel
theorem dX5_count_52 : decode cX5_count 52 = .ok (.ireturn, 1) := by decide +kernel
theorem dX5_count_53 : decode cX5_count 53 = .ok (.aload_n 0, 1) := by decide +kernel
theorem dX5_count_54 : decode cX5_count 54 = .ok (.getfield 25, 3) := by decide +kernel
theorem dX5_count_57 : decode cX5_count 57 = .ok (.getfield 140, 3) := by decide +kernel
theorem dX5_count_60 : decode cX5_count 60 = .ok (.ireturn, 1) := by decide +kernel
theorem dX5_count_61 : decode cX5_count 61 = .ok (.aload_n 0, 1) := by decide +kernel
theorem dX5_count_62 : decode cX5_count 62 = .ok (.getfield 25, 3) := by decide +kernel
theorem dX5_count_65 : decode cX5_count 65 = .ok (.getfield 152, 3) := by decide +kernel
theorem dX5_count_68 : decode cX5_count 68 = .ok (.ireturn, 1) := by decide +kernel
theorem dX5_count_69 : decode cX5_count 69 = .ok (.aload_n 0, 1) := by decide +kernel
theorem dX5_count_70 : decode cX5_count 70 = .ok (.getfield 25, 3) := by decide +kernel
theorem dX5_count_73 : decode cX5_count 73 = .ok (.getfield 181, 3) := by decide +kernel
theorem dX5_count_76 : decode cX5_count 76 = .ok (.ireturn, 1) := by decide +kernel
theorem dX5_count_77 : decode cX5_count 77 = .ok (.aload_n 0, 1) := by decide +kernel
theorem dX5_count_78 : decode cX5_count 78 = .ok (.getfield 25, 3) := by decide +kernel
theorem dX5_count_81 : decode cX5_count 81 = .ok (.invokevirtual 226, 3) := by decide +kernel
theorem dX5_count_84 : decode cX5_count 84 = .ok (.ireturn, 1) := by decide +kernel
theorem dX5_count_85 : decode cX5_count 85 = .ok (.aload_n 0, 1) := by decide +kernel
theorem dX5_count_86 : decode cX5_count 86 = .ok (.getfield 25, 3) := by decide +kernel
theorem dX5_count_89 : decode cX5_count 89 = .ok (.invokevirtual 298, 3) := by decide +kernel
theorem dX5_count_92 : decode cX5_count 92 = .ok (.ireturn, 1) := by decide +kernel
theorem dX5_count_93 : decode cX5_count 93 = .ok (.aload_n 0, 1) := by decide +kernel
theorem dX5_count_94 : decode cX5_count 94 = .ok (.getfield 42, 3) := by decide +kernel
theorem dX5_count_97 : decode cX5_count 97 = .ok (.getfield 145, 3) := by decide +kernel
theorem dX5_count_100 : decode cX5_count 100 = .ok (.ireturn, 1) := by decide +kernel
theorem dX5_count_101 : decode cX5_count 101 = .ok (.aload_n 0, 1) := by decide +kernel
theorem dX5_count_102 : decode cX5_count 102 = .ok (.getfield 18, 3) := by decide +kernel
theorem dX5_count_105 : decode cX5_count 105 = .ok (.getfield 115, 3) := by decide +kernel
theorem dX5_count_108 : decode cX5_count 108 = .ok (.ireturn, 1) := by decide +kernel
theorem dX5_count_109 : decode cX5_count 109 = .ok (.ldc 67, 2) := by decide +kernel
theorem dX5_count_111 : decode cX5_count 111 = .ok (.ireturn, 1) := by decide +kernel
theorem dX5_status_0 : decode cX5_status 0 = .ok (.aload_n 0, 1) := by decide +kernel
theorem dX5_status_1 : decode cX5_status 1 = .ok (.getfield 301, 3) := by decide +kernel
theorem dX5_status_4 : decode cX5_status 4 = .ok (.ireturn, 1) := by decide +kernel
theorem dX5_within_0 : decode cX5_within 0 = .ok (.iload_n 0, 1) := by decide +kernel
theorem dX5_within_1 : decode cX5_within 1 = .ok (.iload_n 1, 1) := by decide +kernel
theorem dX5_within_2 : decode cX5_within 2 = .ok (.if_icmp .lt 12, 3) := by decide +kernel
theorem dX5_within_5 : decode cX5_within 5 = .ok (.iload_n 0, 1) := by decide +kernel
theorem dX5_within_6 : decode cX5_within 6 = .ok (.iload_n 2, 1) := by decide +kernel
theorem dX5_within_7 : decode cX5_within 7 = .ok (.if_icmp .gt 7, 3) := by decide +kernel
theorem dX5_within_10 : decode cX5_within 10 = .ok (.iconst 1, 1) := by decide +kernel
theorem dX5_within_11 : decode cX5_within 11 = .ok (.goto 4, 3) := by decide +kernel
theorem dX5_within_14 : decode cX5_within 14 = .ok (.iconst 0, 1) := by decide +kernel
theorem dX5_within_15 : decode cX5_within 15 = .ok (.ireturn, 1) := by decide +kernel
theorem dX5_isRow_0 : decode cX5_isRow 0 = .ok (.iload_n 0, 1) := by decide +kernel
theorem dX5_isRow_1 : decode cX5_isRow 1 = .ok (.iconst 0, 1) := by decide +kernel
theorem dX5_isRow_2 : decode cX5_isRow 2 = .ok (.bipush 7, 2) := by decide +kernel
theorem dX5_isRow_4 : decode cX5_isRow 4 = .ok (.invokestatic 63, 3) := by decide +kernel
theorem dX5_isRow_7 : decode cX5_isRow 7 = .ok (.ireturn, 1) := by decide +kernel
theorem dX5_isChair_0 : decode cX5_isChair 0 = .ok (.iload_n 1, 1) := by decide +kernel
theorem dX5_isChair_1 : decode cX5_isChair 1 = .ok (.iconst 0, 1) := by decide +kernel
theorem dX5_isChair_2 : decode cX5_isChair 2 = .ok (.aload_n 0, 1) := by decide +kernel
theorem dX5_isChair_3 : decode cX5_isChair 3 = .ok (.getfield 25, 3) := by decide +kernel
theorem dX5_isChair_6 : decode cX5_isChair 6 = .ok (.getfield 140, 3) := by decide +kernel
theorem dX5_isChair_9 : decode cX5_isChair 9 = .ok (.iconst 1, 1) := by decide +kernel
theorem dX5_isChair_10 : decode cX5_isChair 10 = .ok (.isub, 1) := by decide +kernel
theorem dX5_isChair_11 : decode cX5_isChair 11 = .ok (.invokestatic 63, 3) := by decide +kernel
theorem dX5_isChair_14 : decode cX5_isChair 14 = .ok (.ireturn, 1) := by decide +kernel
theorem dX5_isEmpty_0 : decode cX5_isEmpty 0 = .ok (.aload_n 0, 1) := by decide +kernel
theorem dX5_isEmpty_1 : decode cX5_isEmpty 1 = .ok (.getfield 25, 3) := by decide +kernel
theorem dX5_isEmpty_4 : decode cX5_isEmpty 4 = .ok (.getfield 140, 3) := by decide +kernel
theorem dX5_isEmpty_7 : decode cX5_isEmpty 7 = .ok (.iconst 1, 1) := by decide +kernel
theorem dX5_isEmpty_8 : decode cX5_isEmpty 8 = .ok (.if_icmp .ge 7, 3) := by decide +kernel
theorem dX5_isEmpty_11 : decode cX5_isEmpty 11 = .ok (.iconst 1, 1) := by decide +kernel
theorem dX5_isEmpty_12 : decode cX5_isEmpty 12 = .ok (.goto 4, 3) := by decide +kernel
theorem dX5_isEmpty_15 : decode cX5_isEmpty 15 = .ok (.iconst 0, 1) := by decide +kernel
theorem dX5_isEmpty_16 : decode cX5_isEmpty 16 = .ok (.ireturn, 1) := by decide +kernel
theorem dX5_found_0 : decode cX5_found 0 = .ok (.aload_n 0, 1) := by decide +kernel
theorem dX5_found_1 : decode cX5_found 1 = .ok (.iload_n 1, 1) := by decide +kernel
theorem dX5_found_2 : decode cX5_found 2 = .ok (.putfield 301, 3) := by decide +kernel
theorem dX5_found_5 : decode cX5_found 5 = .ok (.ldc_w 304, 3) := by decide +kernel
theorem dX5_found_8 : decode cX5_found 8 = .ok (.iload_n 1, 1) := by decide +kernel
theorem dX5_found_9 : decode cX5_found 9 = .ok (.isub, 1) := by decide +kernel
theorem dX5_found_10 : decode cX5_found 10 = .ok (.ireturn, 1) := by decide +kernel
theorem dX5_nothingFound_0 : decode cX5_nothingFound 0 = .ok (.aload_n 0, 1) := by decide +kernel
theorem dX5_nothingFound_1 : decode cX5_nothingFound 1 = .ok (.iconst 0, 1) := by decide +kernel
theorem dX5_nothingFound_2 : decode cX5_nothingFound 2 = .ok (.putfield 301, 3) := by decide +kernel
theorem dX5_nothingFound_5 : decode cX5_nothingFound 5 = .ok (.iload_n 1, 1) := by decide +kernel
theorem dX5_nothingFound_6 : decode cX5_nothingFound 6 = .ok (.ireturn, 1) := by decide +kernel
theorem dX5_findingOfItems_0 : decode cX5_findingOfItems 0 = .ok (.aload_n 0, 1) := by decide +kernel
theorem dX5_findingOfItems_1 : decode cX5_findingOfItems 1 = .ok (.getfield 11, 3) := by decide +kernel
theorem dX5_findingOfItems_4 : decode cX5_findingOfItems 4 = .ok (.iload_n 1, 1) := by decide +kernel
theorem dX5_findingOfItems_5 : decode cX5_findingOfItems 5 = .ok (.aaload, 1) := by decide +kernel
theorem dX5_findingOfItems_6 : decode cX5_findingOfItems 6 = .ok (.invokevirtual 87, 3) := by decide +kernel
theorem dX5_findingOfItems_9 : decode cX5_findingOfItems 9 = .ok (.ifCond .eq 5, 3) := by decide +kernel
theorem dX5_findingOfItems_12 : decode cX5_findingOfItems 12 = .ok (.iconst 1, 1) := by decide +kernel
theorem dX5_findingOfItems_13 : decode cX5_findingOfItems 13 = .ok (.ireturn, 1) := by decide +kernel
theorem dX5_findingOfItems_14 : decode cX5_findingOfItems 14 = .ok (.aload_n 0, 1) := by decide +kernel
theorem dX5_findingOfItems_15 : decode cX5_findingOfItems 15 = .ok (.getfield 11, 3) := by decide +kernel
theorem dX5_findingOfItems_18 : decode cX5_findingOfItems 18 = .ok (.iload_n 1, 1) := by decide +kernel
theorem dX5_findingOfItems_19 : decode cX5_findingOfItems 19 = .ok (.aaload, 1) := by decide +kernel
theorem dX5_findingOfItems_20 : decode cX5_findingOfItems 20 = .ok (.iload_n 2, 1) := by decide +kernel
theorem dX5_findingOfItems_21 : decode cX5_findingOfItems 21 = .ok (.iload_n 3, 1) := by decide +kernel
theorem dX5_findingOfItems_22 : decode cX5_findingOfItems 22 = .ok (.invokevirtual 95, 3) := by decide +kernel
theorem dX5_findingOfItems_25 : decode cX5_findingOfItems 25 = .ok (.ifCond .eq 7, 3) := by decide +kernel
theorem dX5_findingOfItems_28 : decode cX5_findingOfItems 28 = .ok (.iconst 0, 1) := by decide +kernel
theorem dX5_findingOfItems_29 : decode cX5_findingOfItems 29 = .ok (.goto 4, 3) := by decide +kernel
theorem dX5_findingOfItems_32 : decode cX5_findingOfItems 32 = .ok (.iconst 2, 1) := by decide +kernel
theorem dX5_findingOfItems_33 : decode cX5_findingOfItems 33 = .ok (.ireturn, 1) := by decide +kernel
theorem dX5_findingOfOrder_0 : decode cX5_findingOfOrder 0 = .ok (.aload_n 0, 1) := by decide +kernel
theorem dX5_findingOfOrder_1 : decode cX5_findingOfOrder 1 = .ok (.iload_n 1, 1) := by decide +kernel
theorem dX5_findingOfOrder_2 : decode cX5_findingOfOrder 2 = .ok (.iload_n 2, 1) := by decide +kernel
theorem dX5_findingOfOrder_3 : decode cX5_findingOfOrder 3 = .ok (.aload_n 0, 1) := by decide +kernel
theorem dX5_findingOfOrder_4 : decode cX5_findingOfOrder 4 = .ok (.getfield 25, 3) := by decide +kernel
theorem dX5_findingOfOrder_7 : decode cX5_findingOfOrder 7 = .ok (.getfield 140, 3) := by decide +kernel
theorem dX5_findingOfOrder_10 : decode cX5_findingOfOrder 10 = .ok (.invokevirtual 79, 3) := by decide +kernel
theorem dX5_findingOfOrder_13 : decode cX5_findingOfOrder 13 = .ok (.istore_n 3, 1) := by decide +kernel
theorem dX5_findingOfOrder_14 : decode cX5_findingOfOrder 14 = .ok (.iload_n 3, 1) := by decide +kernel
theorem dX5_findingOfOrder_15 : decode cX5_findingOfOrder 15 = .ok (.ifCond .eq 5, 3) := by decide +kernel
theorem dX5_findingOfOrder_18 : decode cX5_findingOfOrder 18 = .ok (.iload_n 3, 1) := by decide +kernel
theorem dX5_findingOfOrder_19 : decode cX5_findingOfOrder 19 = .ok (.ireturn, 1) := by decide +kernel
theorem dX5_findingOfOrder_20 : decode cX5_findingOfOrder 20 = .ok (.iconst 0, 1) := by decide +kernel
theorem dX5_findingOfOrder_21 : decode cX5_findingOfOrder 21 = .ok (.istore 4, 2) := by decide +kernel
theorem dX5_findingOfOrder_23 : decode cX5_findingOfOrder 23 = .ok (.iconst 0, 1) := by decide +kernel
theorem dX5_findingOfOrder_24 : decode cX5_findingOfOrder 24 = .ok (.istore 5, 2) := by decide +kernel
theorem dX5_findingOfOrder_26 : decode cX5_findingOfOrder 26 = .ok (.iload 5, 2) := by decide +kernel
theorem dX5_findingOfOrder_28 : decode cX5_findingOfOrder 28 = .ok (.aload_n 0, 1) := by decide +kernel
theorem dX5_findingOfOrder_29 : decode cX5_findingOfOrder 29 = .ok (.getfield 25, 3) := by decide +kernel
theorem dX5_findingOfOrder_32 : decode cX5_findingOfOrder 32 = .ok (.getfield 140, 3) := by decide +kernel
theorem dX5_findingOfOrder_35 : decode cX5_findingOfOrder 35 = .ok (.if_icmp .ge 64, 3) := by decide +kernel
theorem dX5_findingOfOrder_38 : decode cX5_findingOfOrder 38 = .ok (.aload_n 0, 1) := by decide +kernel
theorem dX5_findingOfOrder_39 : decode cX5_findingOfOrder 39 = .ok (.getfield 11, 3) := by decide +kernel
theorem dX5_findingOfOrder_42 : decode cX5_findingOfOrder 42 = .ok (.iload_n 1, 1) := by decide +kernel
theorem dX5_findingOfOrder_43 : decode cX5_findingOfOrder 43 = .ok (.aaload, 1) := by decide +kernel
theorem dX5_findingOfOrder_44 : decode cX5_findingOfOrder 44 = .ok (.getfield 99, 3) := by decide +kernel
theorem dX5_findingOfOrder_47 : decode cX5_findingOfOrder 47 = .ok (.iload_n 2, 1) := by decide +kernel
theorem dX5_findingOfOrder_48 : decode cX5_findingOfOrder 48 = .ok (.iload 5, 2) := by decide +kernel
theorem dX5_findingOfOrder_50 : decode cX5_findingOfOrder 50 = .ok (.iadd, 1) := by decide +kernel
theorem dX5_findingOfOrder_51 : decode cX5_findingOfOrder 51 = .ok (.iaload, 1) := by decide +kernel
theorem dX5_findingOfOrder_52 : decode cX5_findingOfOrder 52 = .ok (.istore 6, 2) := by decide +kernel
theorem dX5_findingOfOrder_54 : decode cX5_findingOfOrder 54 = .ok (.aload_n 0, 1) := by decide +kernel
theorem dX5_findingOfOrder_55 : decode cX5_findingOfOrder 55 = .ok (.iload 6, 2) := by decide +kernel
theorem dX5_findingOfOrder_57 : decode cX5_findingOfOrder 57 = .ok (.invokevirtual 165, 3) := by decide +kernel
theorem dX5_findingOfOrder_60 : decode cX5_findingOfOrder 60 = .ok (.ifCond .eq 13, 3) := by decide +kernel
theorem dX5_findingOfOrder_63 : decode cX5_findingOfOrder 63 = .ok (.iload 4, 2) := by decide +kernel
theorem dX5_findingOfOrder_65 : decode cX5_findingOfOrder 65 = .ok (.iload 6, 2) := by decide +kernel
theorem dX5_findingOfOrder_67 : decode cX5_findingOfOrder 67 = .ok (.ishr, 1) := by decide +kernel
theorem dX5_findingOfOrder_68 : decode cX5_findingOfOrder 68 = .ok (.iconst 1, 1) := by decide +kernel
theorem dX5_findingOfOrder_69 : decode cX5_findingOfOrder 69 = .ok (.iand, 1) := by decide +kernel
theorem dX5_findingOfOrder_70 : decode cX5_findingOfOrder 70 = .ok (.ifCond .eq 5, 3) := by decide +kernel
theorem dX5_findingOfOrder_73 : decode cX5_findingOfOrder 73 = .ok (.iconst 3, 1) := by decide +kernel
theorem dX5_findingOfOrder_74 : decode cX5_findingOfOrder 74 = .ok (.ireturn, 1) := by decide +kernel
theorem dX5_findingOfOrder_75 : decode cX5_findingOfOrder 75 = .ok (.iload 4, 2) := by decide +kernel
theorem dX5_findingOfOrder_77 : decode cX5_findingOfOrder 77 = .ok (.iconst 1, 1) := by decide +kernel
theorem dX5_findingOfOrder_78 : decode cX5_findingOfOrder 78 = .ok (.iload 6, 2) := by decide +kernel
theorem dX5_findingOfOrder_80 : decode cX5_findingOfOrder 80 = .ok (.ishl, 1) := by decide +kernel
theorem dX5_findingOfOrder_81 : decode cX5_findingOfOrder 81 = .ok (.ior, 1) := by decide +kernel
theorem dX5_findingOfOrder_82 : decode cX5_findingOfOrder 82 = .ok (.istore 4, 2) := by decide +kernel
theorem dX5_findingOfOrder_84 : decode cX5_findingOfOrder 84 = .ok (.aload_n 0, 1) := by decide +kernel
theorem dX5_findingOfOrder_85 : decode cX5_findingOfOrder 85 = .ok (.getfield 36, 3) := by decide +kernel
theorem dX5_findingOfOrder_88 : decode cX5_findingOfOrder 88 = .ok (.iload 5, 2) := by decide +kernel
theorem dX5_findingOfOrder_90 : decode cX5_findingOfOrder 90 = .ok (.iload 6, 2) := by decide +kernel
theorem dX5_findingOfOrder_92 : decode cX5_findingOfOrder 92 = .ok (.iastore, 1) := by decide +kernel
theorem dX5_findingOfOrder_93 : decode cX5_findingOfOrder 93 = .ok (.iinc 5 1, 3) := by decide +kernel
theorem dX5_findingOfOrder_96 : decode cX5_findingOfOrder 96 = .ok (.goto (-70), 3) := by decide +kernel
theorem dX5_findingOfOrder_99 : decode cX5_findingOfOrder 99 = .ok (.iconst 0, 1) := by decide +kernel
theorem dX5_findingOfOrder_100 : decode cX5_findingOfOrder 100 = .ok (.ireturn, 1) := by decide +kernel
theorem dX5_rowsThere_0 : decode cX5_rowsThere 0 = .ok (.iconst 0, 1) := by decide +kernel
theorem dX5_rowsThere_1 : decode cX5_rowsThere 1 = .ok (.istore_n 1, 1) := by decide +kernel
theorem dX5_rowsThere_2 : decode cX5_rowsThere 2 = .ok (.iconst 0, 1) := by decide +kernel
theorem dX5_rowsThere_3 : decode cX5_rowsThere 3 = .ok (.istore_n 2, 1) := by decide +kernel
theorem dX5_rowsThere_4 : decode cX5_rowsThere 4 = .ok (.iload_n 2, 1) := by decide +kernel
theorem dX5_rowsThere_5 : decode cX5_rowsThere 5 = .ok (.bipush 8, 2) := by decide +kernel
theorem dX5_rowsThere_7 : decode cX5_rowsThere 7 = .ok (.if_icmp .ge 24, 3) := by decide +kernel
theorem dX5_rowsThere_10 : decode cX5_rowsThere 10 = .ok (.aload_n 0, 1) := by decide +kernel
theorem dX5_rowsThere_11 : decode cX5_rowsThere 11 = .ok (.getfield 11, 3) := by decide +kernel
theorem dX5_rowsThere_14 : decode cX5_rowsThere 14 = .ok (.iload_n 2, 1) := by decide +kernel
theorem dX5_rowsThere_15 : decode cX5_rowsThere 15 = .ok (.aaload, 1) := by decide +kernel
theorem dX5_rowsThere_16 : decode cX5_rowsThere 16 = .ok (.invokevirtual 87, 3) := by decide +kernel
theorem dX5_rowsThere_19 : decode cX5_rowsThere 19 = .ok (.ifCond .ne 6, 3) := by decide +kernel
theorem dX5_rowsThere_22 : decode cX5_rowsThere 22 = .ok (.iinc 1 1, 3) := by decide +kernel
theorem dX5_rowsThere_25 : decode cX5_rowsThere 25 = .ok (.iinc 2 1, 3) := by decide +kernel
theorem dX5_rowsThere_28 : decode cX5_rowsThere 28 = .ok (.goto (-24), 3) := by decide +kernel
theorem dX5_rowsThere_31 : decode cX5_rowsThere 31 = .ok (.iload_n 1, 1) := by decide +kernel
theorem dX5_rowsThere_32 : decode cX5_rowsThere 32 = .ok (.ireturn, 1) := by decide +kernel
theorem dX5_isOfKind_0 : decode cX5_isOfKind 0 = .ok (.iload_n 0, 1) := by decide +kernel
theorem dX5_isOfKind_1 : decode cX5_isOfKind 1 = .ok (.istore_n 2, 1) := by decide +kernel
theorem dX5_isOfKind_2 : decode cX5_isOfKind 2 = .ok (.iconst 0, 1) := by decide +kernel
theorem dX5_isOfKind_3 : decode cX5_isOfKind 3 = .ok (.istore_n 3, 1) := by decide +kernel
theorem dX5_isOfKind_4 : decode cX5_isOfKind 4 = .ok (.iload_n 3, 1) := by decide +kernel
theorem dX5_isOfKind_5 : decode cX5_isOfKind 5 = .ok (.getstatic 305, 3) := by decide +kernel
theorem dX5_isOfKind_8 : decode cX5_isOfKind 8 = .ok (.arraylength, 1) := by decide +kernel
theorem dX5_isOfKind_9 : decode cX5_isOfKind 9 = .ok (.if_icmp .ge 36, 3) := by decide +kernel
theorem dX5_isOfKind_12 : decode cX5_isOfKind 12 = .ok (.iload_n 2, 1) := by decide +kernel
theorem dX5_isOfKind_13 : decode cX5_isOfKind 13 = .ok (.iconst 0, 1) := by decide +kernel
theorem dX5_isOfKind_14 : decode cX5_isOfKind 14 = .ok (.getstatic 305, 3) := by decide +kernel
theorem dX5_isOfKind_17 : decode cX5_isOfKind 17 = .ok (.arraylength, 1) := by decide +kernel
theorem dX5_isOfKind_18 : decode cX5_isOfKind 18 = .ok (.iconst 1, 1) := by decide +kernel
theorem dX5_isOfKind_19 : decode cX5_isOfKind 19 = .ok (.isub, 1) := by decide +kernel
theorem dX5_isOfKind_20 : decode cX5_isOfKind 20 = .ok (.invokestatic 63, 3) := by decide +kernel
theorem dX5_isOfKind_23 : decode cX5_isOfKind 23 = .ok (.ifCond .eq 22, 3) := by decide +kernel
theorem dX5_isOfKind_26 : decode cX5_isOfKind 26 = .ok (.iload_n 2, 1) := by decide +kernel
theorem dX5_isOfKind_27 : decode cX5_isOfKind 27 = .ok (.iload_n 1, 1) := by decide +kernel
theorem dX5_isOfKind_28 : decode cX5_isOfKind 28 = .ok (.if_icmp .ne 5, 3) := by decide +kernel
theorem dX5_isOfKind_31 : decode cX5_isOfKind 31 = .ok (.iconst 1, 1) := by decide +kernel
theorem dX5_isOfKind_32 : decode cX5_isOfKind 32 = .ok (.ireturn, 1) := by decide +kernel
theorem dX5_isOfKind_33 : decode cX5_isOfKind 33 = .ok (.getstatic 305, 3) := by decide +kernel
theorem dX5_isOfKind_36 : decode cX5_isOfKind 36 = .ok (.iload_n 2, 1) := by decide +kernel
theorem dX5_isOfKind_37 : decode cX5_isOfKind 37 = .ok (.iaload, 1) := by decide +kernel
theorem dX5_isOfKind_38 : decode cX5_isOfKind 38 = .ok (.istore_n 2, 1) := by decide +kernel
theorem dX5_isOfKind_39 : decode cX5_isOfKind 39 = .ok (.iinc 3 1, 3) := by decide +kernel
theorem dX5_isOfKind_42 : decode cX5_isOfKind 42 = .ok (.goto (-38), 3) := by decide +kernel
theorem dX5_isOfKind_45 : decode cX5_isOfKind 45 = .ok (.iconst 0, 1) := by decide +kernel
theorem dX5_isOfKind_46 : decode cX5_isOfKind 46 = .ok (.ireturn, 1) := by decide +kernel
theorem dX5_foresee_0 : decode cX5_foresee 0 = .ok (.aload_n 0, 1) := by decide +kernel
theorem dX5_foresee_1 : decode cX5_foresee 1 = .ok (.getfield 25, 3) := by decide +kernel
theorem dX5_foresee_4 : decode cX5_foresee 4 = .ok (.aload_n 0, 1) := by decide +kernel
theorem dX5_foresee_5 : decode cX5_foresee 5 = .ok (.getfield 32, 3) := by decide +kernel
theorem dX5_foresee_8 : decode cX5_foresee 8 = .ok (.invokevirtual 130, 3) := by decide +kernel
theorem dX5_foresee_11 : decode cX5_foresee 11 = .ok (.aload_n 0, 1) := by decide +kernel
theorem dX5_foresee_12 : decode cX5_foresee 12 = .ok (.getfield 29, 3) := by decide +kernel
theorem dX5_foresee_15 : decode cX5_foresee 15 = .ok (.aload_n 0, 1) := by decide +kernel
theorem dX5_foresee_16 : decode cX5_foresee 16 = .ok (.getfield 32, 3) := by decide +kernel
theorem dX5_foresee_19 : decode cX5_foresee 19 = .ok (.invokevirtual 134, 3) := by decide +kernel
theorem dX5_foresee_22 : decode cX5_foresee 22 = .ok (.return_, 1) := by decide +kernel
theorem dX5_passWatched_0 : decode cX5_passWatched 0 = .ok (.aload_n 0, 1) := by decide +kernel
theorem dX5_passWatched_1 : decode cX5_passWatched 1 = .ok (.invokevirtual 213, 3) := by decide +kernel
theorem dX5_passWatched_4 : decode cX5_passWatched 4 = .ok (.aload_n 0, 1) := by decide +kernel
theorem dX5_passWatched_5 : decode cX5_passWatched 5 = .ok (.getfield 29, 3) := by decide +kernel
theorem dX5_passWatched_8 : decode cX5_passWatched 8 = .ok (.iload_n 2, 1) := by decide +kernel
theorem dX5_passWatched_9 : decode cX5_passWatched 9 = .ok (.putfield 181, 3) := by decide +kernel
theorem dX5_passWatched_12 : decode cX5_passWatched 12 = .ok (.aload_n 0, 1) := by decide +kernel
theorem dX5_passWatched_13 : decode cX5_passWatched 13 = .ok (.getfield 29, 3) := by decide +kernel
theorem dX5_passWatched_16 : decode cX5_passWatched 16 = .ok (.iload_n 1, 1) := by decide +kernel
theorem dX5_passWatched_17 : decode cX5_passWatched 17 = .ok (.invokevirtual 216, 3) := by decide +kernel
theorem dX5_passWatched_20 : decode cX5_passWatched 20 = .ok (.return_, 1) := by decide +kernel
theorem dX5_rankIfWatched_0 : decode cX5_rankIfWatched 0 = .ok (.aload_n 0, 1) := by decide +kernel
theorem dX5_rankIfWatched_1 : decode cX5_rankIfWatched 1 = .ok (.iload_n 2, 1) := by decide +kernel
theorem dX5_rankIfWatched_2 : decode cX5_rankIfWatched 2 = .ok (.iload_n 3, 1) := by decide +kernel
theorem dX5_rankIfWatched_3 : decode cX5_rankIfWatched 3 = .ok (.invokevirtual 223, 3) := by decide +kernel
theorem dX5_rankIfWatched_6 : decode cX5_rankIfWatched 6 = .ok (.aload_n 0, 1) := by decide +kernel
theorem dX5_rankIfWatched_7 : decode cX5_rankIfWatched 7 = .ok (.getfield 29, 3) := by decide +kernel
theorem dX5_rankIfWatched_10 : decode cX5_rankIfWatched 10 = .ok (.iload_n 1, 1) := by decide +kernel
theorem dX5_rankIfWatched_11 : decode cX5_rankIfWatched 11 = .ok (.invokevirtual 204, 3) := by decide +kernel
theorem dX5_rankIfWatched_14 : decode cX5_rankIfWatched 14 = .ok (.ireturn, 1) := by decide +kernel
theorem dX5_leastSawdust_0 : decode cX5_leastSawdust 0 = .ok (.aload_n 0, 1) := by decide +kernel
theorem dX5_leastSawdust_1 : decode cX5_leastSawdust 1 = .ok (.invokevirtual 213, 3) := by decide +kernel
theorem dX5_leastSawdust_4 : decode cX5_leastSawdust 4 = .ok (.iconst 0, 1) := by decide +kernel
theorem dX5_leastSawdust_5 : decode cX5_leastSawdust 5 = .ok (.istore_n 1, 1) := by decide +kernel
theorem dX5_leastSawdust_6 : decode cX5_leastSawdust 6 = .ok (.iconst 1, 1) := by decide +kernel
theorem dX5_leastSawdust_7 : decode cX5_leastSawdust 7 = .ok (.istore_n 2, 1) := by decide +kernel
theorem dX5_leastSawdust_8 : decode cX5_leastSawdust 8 = .ok (.iload_n 2, 1) := by decide +kernel
theorem dX5_leastSawdust_9 : decode cX5_leastSawdust 9 = .ok (.aload_n 0, 1) := by decide +kernel
theorem dX5_leastSawdust_10 : decode cX5_leastSawdust 10 = .ok (.getfield 25, 3) := by decide +kernel
theorem dX5_leastSawdust_13 : decode cX5_leastSawdust 13 = .ok (.getfield 140, 3) := by decide +kernel
theorem dX5_leastSawdust_16 : decode cX5_leastSawdust 16 = .ok (.if_icmp .ge 88, 3) := by decide +kernel
theorem dX5_leastSawdust_19 : decode cX5_leastSawdust 19 = .ok (.aload_n 0, 1) := by decide +kernel
theorem dX5_leastSawdust_20 : decode cX5_leastSawdust 20 = .ok (.getfield 36, 3) := by decide +kernel
theorem dX5_leastSawdust_23 : decode cX5_leastSawdust 23 = .ok (.iload_n 2, 1) := by decide +kernel
theorem dX5_leastSawdust_24 : decode cX5_leastSawdust 24 = .ok (.iaload, 1) := by decide +kernel
theorem dX5_leastSawdust_25 : decode cX5_leastSawdust 25 = .ok (.istore_n 3, 1) := by decide +kernel
theorem dX5_leastSawdust_26 : decode cX5_leastSawdust 26 = .ok (.aload_n 0, 1) := by decide +kernel
theorem dX5_leastSawdust_27 : decode cX5_leastSawdust 27 = .ok (.getfield 29, 3) := by decide +kernel
theorem dX5_leastSawdust_30 : decode cX5_leastSawdust 30 = .ok (.getfield 171, 3) := by decide +kernel
theorem dX5_leastSawdust_33 : decode cX5_leastSawdust 33 = .ok (.iload_n 3, 1) := by decide +kernel
theorem dX5_leastSawdust_34 : decode cX5_leastSawdust 34 = .ok (.iaload, 1) := by decide +kernel
theorem dX5_leastSawdust_35 : decode cX5_leastSawdust 35 = .ok (.ifCond .le 41, 3) := by decide +kernel
theorem dX5_leastSawdust_38 : decode cX5_leastSawdust 38 = .ok (.aload_n 0, 1) := by decide +kernel
theorem dX5_leastSawdust_39 : decode cX5_leastSawdust 39 = .ok (.getfield 29, 3) := by decide +kernel
theorem dX5_leastSawdust_42 : decode cX5_leastSawdust 42 = .ok (.aload_n 0, 1) := by decide +kernel
theorem dX5_leastSawdust_43 : decode cX5_leastSawdust 43 = .ok (.getfield 36, 3) := by decide +kernel
theorem dX5_leastSawdust_46 : decode cX5_leastSawdust 46 = .ok (.iload_n 2, 1) := by decide +kernel
theorem dX5_leastSawdust_47 : decode cX5_leastSawdust 47 = .ok (.iconst 1, 1) := by decide +kernel
theorem dX5_leastSawdust_48 : decode cX5_leastSawdust 48 = .ok (.isub, 1) := by decide +kernel
theorem dX5_leastSawdust_49 : decode cX5_leastSawdust 49 = .ok (.iaload, 1) := by decide +kernel
theorem dX5_leastSawdust_50 : decode cX5_leastSawdust 50 = .ok (.iload_n 3, 1) := by decide +kernel
theorem dX5_leastSawdust_51 : decode cX5_leastSawdust 51 = .ok (.invokevirtual 308, 3) := by decide +kernel
theorem dX5_leastSawdust_54 : decode cX5_leastSawdust 54 = .ok (.ifCond .ne 22, 3) := by decide +kernel
theorem dX5_leastSawdust_57 : decode cX5_leastSawdust 57 = .ok (.aload_n 0, 1) := by decide +kernel
theorem dX5_leastSawdust_58 : decode cX5_leastSawdust 58 = .ok (.getfield 29, 3) := by decide +kernel
theorem dX5_leastSawdust_61 : decode cX5_leastSawdust 61 = .ok (.getfield 171, 3) := by decide +kernel
theorem dX5_leastSawdust_64 : decode cX5_leastSawdust 64 = .ok (.iload_n 3, 1) := by decide +kernel
theorem dX5_leastSawdust_65 : decode cX5_leastSawdust 65 = .ok (.dup2, 1) := by decide +kernel
theorem dX5_leastSawdust_66 : decode cX5_leastSawdust 66 = .ok (.iaload, 1) := by decide +kernel
theorem dX5_leastSawdust_67 : decode cX5_leastSawdust 67 = .ok (.iconst 1, 1) := by decide +kernel
theorem dX5_leastSawdust_68 : decode cX5_leastSawdust 68 = .ok (.isub, 1) := by decide +kernel
theorem dX5_leastSawdust_69 : decode cX5_leastSawdust 69 = .ok (.iastore, 1) := by decide +kernel
theorem dX5_leastSawdust_70 : decode cX5_leastSawdust 70 = .ok (.iinc 1 1, 3) := by decide +kernel
theorem dX5_leastSawdust_73 : decode cX5_leastSawdust 73 = .ok (.goto (-47), 3) := by decide +kernel
theorem dX5_leastSawdust_76 : decode cX5_leastSawdust 76 = .ok (.aload_n 0, 1) := by decide +kernel
theorem dX5_leastSawdust_77 : decode cX5_leastSawdust 77 = .ok (.getfield 29, 3) := by decide +kernel
theorem dX5_leastSawdust_80 : decode cX5_leastSawdust 80 = .ok (.aload_n 0, 1) := by decide +kernel
theorem dX5_leastSawdust_81 : decode cX5_leastSawdust 81 = .ok (.getfield 36, 3) := by decide +kernel
theorem dX5_leastSawdust_84 : decode cX5_leastSawdust 84 = .ok (.iload_n 2, 1) := by decide +kernel
theorem dX5_leastSawdust_85 : decode cX5_leastSawdust 85 = .ok (.iconst 1, 1) := by decide +kernel
theorem dX5_leastSawdust_86 : decode cX5_leastSawdust 86 = .ok (.isub, 1) := by decide +kernel
theorem dX5_leastSawdust_87 : decode cX5_leastSawdust 87 = .ok (.iaload, 1) := by decide +kernel
theorem dX5_leastSawdust_88 : decode cX5_leastSawdust 88 = .ok (.iload_n 3, 1) := by decide +kernel
theorem dX5_leastSawdust_89 : decode cX5_leastSawdust 89 = .ok (.invokevirtual 308, 3) := by decide +kernel
theorem dX5_leastSawdust_92 : decode cX5_leastSawdust 92 = .ok (.ifCond .ne 6, 3) := by decide +kernel
theorem dX5_leastSawdust_95 : decode cX5_leastSawdust 95 = .ok (.ldc 219, 2) := by decide +kernel
theorem dX5_leastSawdust_97 : decode cX5_leastSawdust 97 = .ok (.ireturn, 1) := by decide +kernel
theorem dX5_leastSawdust_98 : decode cX5_leastSawdust 98 = .ok (.iinc 2 1, 3) := by decide +kernel
theorem dX5_leastSawdust_101 : decode cX5_leastSawdust 101 = .ok (.goto (-93), 3) := by decide +kernel
theorem dX5_leastSawdust_104 : decode cX5_leastSawdust 104 = .ok (.iload_n 1, 1) := by decide +kernel
theorem dX5_leastSawdust_105 : decode cX5_leastSawdust 105 = .ok (.ireturn, 1) := by decide +kernel
theorem dX5_fewestCushions_0 : decode cX5_fewestCushions 0 = .ok (.aload_n 0, 1) := by decide +kernel
theorem dX5_fewestCushions_1 : decode cX5_fewestCushions 1 = .ok (.invokevirtual 213, 3) := by decide +kernel
theorem dX5_fewestCushions_4 : decode cX5_fewestCushions 4 = .ok (.iconst 0, 1) := by decide +kernel
theorem dX5_fewestCushions_5 : decode cX5_fewestCushions 5 = .ok (.istore_n 1, 1) := by decide +kernel
theorem dX5_fewestCushions_6 : decode cX5_fewestCushions 6 = .ok (.aload_n 0, 1) := by decide +kernel
theorem dX5_fewestCushions_7 : decode cX5_fewestCushions 7 = .ok (.getfield 25, 3) := by decide +kernel
theorem dX5_fewestCushions_10 : decode cX5_fewestCushions 10 = .ok (.getfield 140, 3) := by decide +kernel
theorem dX5_fewestCushions_13 : decode cX5_fewestCushions 13 = .ok (.iconst 2, 1) := by decide +kernel
theorem dX5_fewestCushions_14 : decode cX5_fewestCushions 14 = .ok (.isub, 1) := by decide +kernel
theorem dX5_fewestCushions_15 : decode cX5_fewestCushions 15 = .ok (.istore_n 2, 1) := by decide +kernel
theorem dX5_fewestCushions_16 : decode cX5_fewestCushions 16 = .ok (.iload_n 2, 1) := by decide +kernel
theorem dX5_fewestCushions_17 : decode cX5_fewestCushions 17 = .ok (.ifCond .lt 90, 3) := by decide +kernel
theorem dX5_fewestCushions_20 : decode cX5_fewestCushions 20 = .ok (.aload_n 0, 1) := by decide +kernel
theorem dX5_fewestCushions_21 : decode cX5_fewestCushions 21 = .ok (.getfield 36, 3) := by decide +kernel
theorem dX5_fewestCushions_24 : decode cX5_fewestCushions 24 = .ok (.iload_n 2, 1) := by decide +kernel
theorem dX5_fewestCushions_25 : decode cX5_fewestCushions 25 = .ok (.iaload, 1) := by decide +kernel
theorem dX5_fewestCushions_26 : decode cX5_fewestCushions 26 = .ok (.istore_n 3, 1) := by decide +kernel
theorem dX5_fewestCushions_27 : decode cX5_fewestCushions 27 = .ok (.aload_n 0, 1) := by decide +kernel
theorem dX5_fewestCushions_28 : decode cX5_fewestCushions 28 = .ok (.getfield 29, 3) := by decide +kernel
theorem dX5_fewestCushions_31 : decode cX5_fewestCushions 31 = .ok (.getfield 168, 3) := by decide +kernel
theorem dX5_fewestCushions_34 : decode cX5_fewestCushions 34 = .ok (.iload_n 3, 1) := by decide +kernel
theorem dX5_fewestCushions_35 : decode cX5_fewestCushions 35 = .ok (.iaload, 1) := by decide +kernel
theorem dX5_fewestCushions_36 : decode cX5_fewestCushions 36 = .ok (.bipush 20, 2) := by decide +kernel
theorem dX5_fewestCushions_38 : decode cX5_fewestCushions 38 = .ok (.if_icmp .ge 41, 3) := by decide +kernel
theorem dX5_fewestCushions_41 : decode cX5_fewestCushions 41 = .ok (.aload_n 0, 1) := by decide +kernel
theorem dX5_fewestCushions_42 : decode cX5_fewestCushions 42 = .ok (.getfield 29, 3) := by decide +kernel
theorem dX5_fewestCushions_45 : decode cX5_fewestCushions 45 = .ok (.iload_n 3, 1) := by decide +kernel
theorem dX5_fewestCushions_46 : decode cX5_fewestCushions 46 = .ok (.aload_n 0, 1) := by decide +kernel
theorem dX5_fewestCushions_47 : decode cX5_fewestCushions 47 = .ok (.getfield 36, 3) := by decide +kernel
theorem dX5_fewestCushions_50 : decode cX5_fewestCushions 50 = .ok (.iload_n 2, 1) := by decide +kernel
theorem dX5_fewestCushions_51 : decode cX5_fewestCushions 51 = .ok (.iconst 1, 1) := by decide +kernel
theorem dX5_fewestCushions_52 : decode cX5_fewestCushions 52 = .ok (.iadd, 1) := by decide +kernel
theorem dX5_fewestCushions_53 : decode cX5_fewestCushions 53 = .ok (.iaload, 1) := by decide +kernel
theorem dX5_fewestCushions_54 : decode cX5_fewestCushions 54 = .ok (.invokevirtual 308, 3) := by decide +kernel
theorem dX5_fewestCushions_57 : decode cX5_fewestCushions 57 = .ok (.ifCond .ne 22, 3) := by decide +kernel
theorem dX5_fewestCushions_60 : decode cX5_fewestCushions 60 = .ok (.aload_n 0, 1) := by decide +kernel
theorem dX5_fewestCushions_61 : decode cX5_fewestCushions 61 = .ok (.getfield 29, 3) := by decide +kernel
theorem dX5_fewestCushions_64 : decode cX5_fewestCushions 64 = .ok (.getfield 168, 3) := by decide +kernel
theorem dX5_fewestCushions_67 : decode cX5_fewestCushions 67 = .ok (.iload_n 3, 1) := by decide +kernel
theorem dX5_fewestCushions_68 : decode cX5_fewestCushions 68 = .ok (.dup2, 1) := by decide +kernel
theorem dX5_fewestCushions_69 : decode cX5_fewestCushions 69 = .ok (.iaload, 1) := by decide +kernel
theorem dX5_fewestCushions_70 : decode cX5_fewestCushions 70 = .ok (.iconst 1, 1) := by decide +kernel
theorem dX5_fewestCushions_71 : decode cX5_fewestCushions 71 = .ok (.iadd, 1) := by decide +kernel
theorem dX5_fewestCushions_72 : decode cX5_fewestCushions 72 = .ok (.iastore, 1) := by decide +kernel
theorem dX5_fewestCushions_73 : decode cX5_fewestCushions 73 = .ok (.iinc 1 1, 3) := by decide +kernel
theorem dX5_fewestCushions_76 : decode cX5_fewestCushions 76 = .ok (.goto (-49), 3) := by decide +kernel
theorem dX5_fewestCushions_79 : decode cX5_fewestCushions 79 = .ok (.aload_n 0, 1) := by decide +kernel
theorem dX5_fewestCushions_80 : decode cX5_fewestCushions 80 = .ok (.getfield 29, 3) := by decide +kernel
theorem dX5_fewestCushions_83 : decode cX5_fewestCushions 83 = .ok (.iload_n 3, 1) := by decide +kernel
theorem dX5_fewestCushions_84 : decode cX5_fewestCushions 84 = .ok (.aload_n 0, 1) := by decide +kernel
theorem dX5_fewestCushions_85 : decode cX5_fewestCushions 85 = .ok (.getfield 36, 3) := by decide +kernel
theorem dX5_fewestCushions_88 : decode cX5_fewestCushions 88 = .ok (.iload_n 2, 1) := by decide +kernel
theorem dX5_fewestCushions_89 : decode cX5_fewestCushions 89 = .ok (.iconst 1, 1) := by decide +kernel
theorem dX5_fewestCushions_90 : decode cX5_fewestCushions 90 = .ok (.iadd, 1) := by decide +kernel
theorem dX5_fewestCushions_91 : decode cX5_fewestCushions 91 = .ok (.iaload, 1) := by decide +kernel
theorem dX5_fewestCushions_92 : decode cX5_fewestCushions 92 = .ok (.invokevirtual 308, 3) := by decide +kernel
theorem dX5_fewestCushions_95 : decode cX5_fewestCushions 95 = .ok (.ifCond .ne 6, 3) := by decide +kernel
theorem dX5_fewestCushions_98 : decode cX5_fewestCushions 98 = .ok (.ldc 219, 2) := by decide +kernel
theorem dX5_fewestCushions_100 : decode cX5_fewestCushions 100 = .ok (.ireturn, 1) := by decide +kernel
theorem dX5_fewestCushions_101 : decode cX5_fewestCushions 101 = .ok (.iinc 2 (-1), 3) := by decide +kernel
theorem dX5_fewestCushions_104 : decode cX5_fewestCushions 104 = .ok (.goto (-88), 3) := by decide +kernel
theorem dX5_fewestCushions_107 : decode cX5_fewestCushions 107 = .ok (.iload_n 1, 1) := by decide +kernel
theorem dX5_fewestCushions_108 : decode cX5_fewestCushions 108 = .ok (.ireturn, 1) := by decide +kernel
theorem dX5_fewestToWatch_0 : decode cX5_fewestToWatch 0 = .ok (.iconst 0, 1) := by decide +kernel
theorem dX5_fewestToWatch_1 : decode cX5_fewestToWatch 1 = .ok (.istore 4, 2) := by decide +kernel
theorem dX5_fewestToWatch_3 : decode cX5_fewestToWatch 3 = .ok (.iload 4, 2) := by decide +kernel
theorem dX5_fewestToWatch_5 : decode cX5_fewestToWatch 5 = .ok (.aload_n 0, 1) := by decide +kernel
theorem dX5_fewestToWatch_6 : decode cX5_fewestToWatch 6 = .ok (.getfield 25, 3) := by decide +kernel
theorem dX5_fewestToWatch_9 : decode cX5_fewestToWatch 9 = .ok (.getfield 140, 3) := by decide +kernel
theorem dX5_fewestToWatch_12 : decode cX5_fewestToWatch 12 = .ok (.if_icmp .gt 57, 3) := by decide +kernel
theorem dX5_fewestToWatch_15 : decode cX5_fewestToWatch 15 = .ok (.iconst 0, 1) := by decide +kernel
theorem dX5_fewestToWatch_16 : decode cX5_fewestToWatch 16 = .ok (.istore 5, 2) := by decide +kernel
theorem dX5_fewestToWatch_18 : decode cX5_fewestToWatch 18 = .ok (.iload 5, 2) := by decide +kernel
theorem dX5_fewestToWatch_20 : decode cX5_fewestToWatch 20 = .ok (.iconst 1, 1) := by decide +kernel
theorem dX5_fewestToWatch_21 : decode cX5_fewestToWatch 21 = .ok (.aload_n 0, 1) := by decide +kernel
theorem dX5_fewestToWatch_22 : decode cX5_fewestToWatch 22 = .ok (.getfield 25, 3) := by decide +kernel
theorem dX5_fewestToWatch_25 : decode cX5_fewestToWatch 25 = .ok (.getfield 140, 3) := by decide +kernel
theorem dX5_fewestToWatch_28 : decode cX5_fewestToWatch 28 = .ok (.ishl, 1) := by decide +kernel
theorem dX5_fewestToWatch_29 : decode cX5_fewestToWatch 29 = .ok (.if_icmp .ge 34, 3) := by decide +kernel
theorem dX5_fewestToWatch_32 : decode cX5_fewestToWatch 32 = .ok (.iload 5, 2) := by decide +kernel
theorem dX5_fewestToWatch_34 : decode cX5_fewestToWatch 34 = .ok (.invokestatic 184, 3) := by decide +kernel
theorem dX5_fewestToWatch_37 : decode cX5_fewestToWatch 37 = .ok (.iload 4, 2) := by decide +kernel
theorem dX5_fewestToWatch_39 : decode cX5_fewestToWatch 39 = .ok (.if_icmp .ne 18, 3) := by decide +kernel
theorem dX5_fewestToWatch_42 : decode cX5_fewestToWatch 42 = .ok (.aload_n 0, 1) := by decide +kernel
theorem dX5_fewestToWatch_43 : decode cX5_fewestToWatch 43 = .ok (.iload_n 1, 1) := by decide +kernel
theorem dX5_fewestToWatch_44 : decode cX5_fewestToWatch 44 = .ok (.iload_n 3, 1) := by decide +kernel
theorem dX5_fewestToWatch_45 : decode cX5_fewestToWatch 45 = .ok (.iload 5, 2) := by decide +kernel
theorem dX5_fewestToWatch_47 : decode cX5_fewestToWatch 47 = .ok (.invokevirtual 261, 3) := by decide +kernel
theorem dX5_fewestToWatch_50 : decode cX5_fewestToWatch 50 = .ok (.iload_n 2, 1) := by decide +kernel
theorem dX5_fewestToWatch_51 : decode cX5_fewestToWatch 51 = .ok (.if_icmp .gt 6, 3) := by decide +kernel
theorem dX5_fewestToWatch_54 : decode cX5_fewestToWatch 54 = .ok (.iload 5, 2) := by decide +kernel
theorem dX5_fewestToWatch_56 : decode cX5_fewestToWatch 56 = .ok (.ireturn, 1) := by decide +kernel
theorem dX5_fewestToWatch_57 : decode cX5_fewestToWatch 57 = .ok (.iinc 5 1, 3) := by decide +kernel
theorem dX5_fewestToWatch_60 : decode cX5_fewestToWatch 60 = .ok (.goto (-42), 3) := by decide +kernel
theorem dX5_fewestToWatch_63 : decode cX5_fewestToWatch 63 = .ok (.iinc 4 1, 3) := by decide +kernel
theorem dX5_fewestToWatch_66 : decode cX5_fewestToWatch 66 = .ok (.goto (-63), 3) := by decide +kernel
theorem dX5_fewestToWatch_69 : decode cX5_fewestToWatch 69 = .ok (.ldc 219, 2) := by decide +kernel
theorem dX5_fewestToWatch_71 : decode cX5_fewestToWatch 71 = .ok (.ireturn, 1) := by decide +kernel
theorem dX5_fewestAboveHalf_0 : decode cX5_fewestAboveHalf 0 = .ok (.aload_n 0, 1) := by decide +kernel
theorem dX5_fewestAboveHalf_1 : decode cX5_fewestAboveHalf 1 = .ok (.iconst 1, 1) := by decide +kernel
theorem dX5_fewestAboveHalf_2 : decode cX5_fewestAboveHalf 2 = .ok (.aload_n 0, 1) := by decide +kernel
theorem dX5_fewestAboveHalf_3 : decode cX5_fewestAboveHalf 3 = .ok (.getfield 25, 3) := by decide +kernel
theorem dX5_fewestAboveHalf_6 : decode cX5_fewestAboveHalf 6 = .ok (.getfield 140, 3) := by decide +kernel
theorem dX5_fewestAboveHalf_9 : decode cX5_fewestAboveHalf 9 = .ok (.ishl, 1) := by decide +kernel
theorem dX5_fewestAboveHalf_10 : decode cX5_fewestAboveHalf 10 = .ok (.iconst 1, 1) := by decide +kernel
theorem dX5_fewestAboveHalf_11 : decode cX5_fewestAboveHalf 11 = .ok (.isub, 1) := by decide +kernel
theorem dX5_fewestAboveHalf_12 : decode cX5_fewestAboveHalf 12 = .ok (.invokevirtual 311, 3) := by decide +kernel
theorem dX5_fewestAboveHalf_15 : decode cX5_fewestAboveHalf 15 = .ok (.istore_n 1, 1) := by decide +kernel
theorem dX5_fewestAboveHalf_16 : decode cX5_fewestAboveHalf 16 = .ok (.iconst 0, 1) := by decide +kernel
theorem dX5_fewestAboveHalf_17 : decode cX5_fewestAboveHalf 17 = .ok (.istore_n 2, 1) := by decide +kernel
theorem dX5_fewestAboveHalf_18 : decode cX5_fewestAboveHalf 18 = .ok (.iload_n 2, 1) := by decide +kernel
theorem dX5_fewestAboveHalf_19 : decode cX5_fewestAboveHalf 19 = .ok (.aload_n 0, 1) := by decide +kernel
theorem dX5_fewestAboveHalf_20 : decode cX5_fewestAboveHalf 20 = .ok (.getfield 25, 3) := by decide +kernel
theorem dX5_fewestAboveHalf_23 : decode cX5_fewestAboveHalf 23 = .ok (.getfield 140, 3) := by decide +kernel
theorem dX5_fewestAboveHalf_26 : decode cX5_fewestAboveHalf 26 = .ok (.if_icmp .gt 51, 3) := by decide +kernel
theorem dX5_fewestAboveHalf_29 : decode cX5_fewestAboveHalf 29 = .ok (.iconst 0, 1) := by decide +kernel
theorem dX5_fewestAboveHalf_30 : decode cX5_fewestAboveHalf 30 = .ok (.istore_n 3, 1) := by decide +kernel
theorem dX5_fewestAboveHalf_31 : decode cX5_fewestAboveHalf 31 = .ok (.iload_n 3, 1) := by decide +kernel
theorem dX5_fewestAboveHalf_32 : decode cX5_fewestAboveHalf 32 = .ok (.iconst 1, 1) := by decide +kernel
theorem dX5_fewestAboveHalf_33 : decode cX5_fewestAboveHalf 33 = .ok (.aload_n 0, 1) := by decide +kernel
theorem dX5_fewestAboveHalf_34 : decode cX5_fewestAboveHalf 34 = .ok (.getfield 25, 3) := by decide +kernel
theorem dX5_fewestAboveHalf_37 : decode cX5_fewestAboveHalf 37 = .ok (.getfield 140, 3) := by decide +kernel
theorem dX5_fewestAboveHalf_40 : decode cX5_fewestAboveHalf 40 = .ok (.ishl, 1) := by decide +kernel
theorem dX5_fewestAboveHalf_41 : decode cX5_fewestAboveHalf 41 = .ok (.if_icmp .ge 30, 3) := by decide +kernel
theorem dX5_fewestAboveHalf_44 : decode cX5_fewestAboveHalf 44 = .ok (.iload_n 3, 1) := by decide +kernel
theorem dX5_fewestAboveHalf_45 : decode cX5_fewestAboveHalf 45 = .ok (.invokestatic 184, 3) := by decide +kernel
theorem dX5_fewestAboveHalf_48 : decode cX5_fewestAboveHalf 48 = .ok (.iload_n 2, 1) := by decide +kernel
theorem dX5_fewestAboveHalf_49 : decode cX5_fewestAboveHalf 49 = .ok (.if_icmp .ne 16, 3) := by decide +kernel
theorem dX5_fewestAboveHalf_52 : decode cX5_fewestAboveHalf 52 = .ok (.iconst 2, 1) := by decide +kernel
theorem dX5_fewestAboveHalf_53 : decode cX5_fewestAboveHalf 53 = .ok (.aload_n 0, 1) := by decide +kernel
theorem dX5_fewestAboveHalf_54 : decode cX5_fewestAboveHalf 54 = .ok (.iload_n 3, 1) := by decide +kernel
theorem dX5_fewestAboveHalf_55 : decode cX5_fewestAboveHalf 55 = .ok (.invokevirtual 311, 3) := by decide +kernel
theorem dX5_fewestAboveHalf_58 : decode cX5_fewestAboveHalf 58 = .ok (.imul, 1) := by decide +kernel
theorem dX5_fewestAboveHalf_59 : decode cX5_fewestAboveHalf 59 = .ok (.iload_n 1, 1) := by decide +kernel
theorem dX5_fewestAboveHalf_60 : decode cX5_fewestAboveHalf 60 = .ok (.if_icmp .le 5, 3) := by decide +kernel
theorem dX5_fewestAboveHalf_63 : decode cX5_fewestAboveHalf 63 = .ok (.iload_n 3, 1) := by decide +kernel
theorem dX5_fewestAboveHalf_64 : decode cX5_fewestAboveHalf 64 = .ok (.ireturn, 1) := by decide +kernel
theorem dX5_fewestAboveHalf_65 : decode cX5_fewestAboveHalf 65 = .ok (.iinc 3 1, 3) := by decide +kernel
theorem dX5_fewestAboveHalf_68 : decode cX5_fewestAboveHalf 68 = .ok (.goto (-37), 3) := by decide +kernel
theorem dX5_fewestAboveHalf_71 : decode cX5_fewestAboveHalf 71 = .ok (.iinc 2 1, 3) := by decide +kernel
theorem dX5_fewestAboveHalf_74 : decode cX5_fewestAboveHalf 74 = .ok (.goto (-56), 3) := by decide +kernel
theorem dX5_fewestAboveHalf_77 : decode cX5_fewestAboveHalf 77 = .ok (.ldc 219, 2) := by decide +kernel
theorem dX5_fewestAboveHalf_79 : decode cX5_fewestAboveHalf 79 = .ok (.ireturn, 1) := by decide +kernel
theorem dX5_highTogether_0 : decode cX5_highTogether 0 = .ok (.iconst 0, 1) := by decide +kernel
theorem dX5_highTogether_1 : decode cX5_highTogether 1 = .ok (.istore_n 2, 1) := by decide +kernel
theorem dX5_highTogether_2 : decode cX5_highTogether 2 = .ok (.iconst 0, 1) := by decide +kernel
theorem dX5_highTogether_3 : decode cX5_highTogether 3 = .ok (.istore_n 3, 1) := by decide +kernel
theorem dX5_highTogether_4 : decode cX5_highTogether 4 = .ok (.iload_n 3, 1) := by decide +kernel
theorem dX5_highTogether_5 : decode cX5_highTogether 5 = .ok (.aload_n 0, 1) := by decide +kernel
theorem dX5_highTogether_6 : decode cX5_highTogether 6 = .ok (.getfield 25, 3) := by decide +kernel
theorem dX5_highTogether_9 : decode cX5_highTogether 9 = .ok (.getfield 140, 3) := by decide +kernel
theorem dX5_highTogether_12 : decode cX5_highTogether 12 = .ok (.if_icmp .ge 28, 3) := by decide +kernel
theorem dX5_highTogether_15 : decode cX5_highTogether 15 = .ok (.iload_n 1, 1) := by decide +kernel
theorem dX5_highTogether_16 : decode cX5_highTogether 16 = .ok (.iload_n 3, 1) := by decide +kernel
theorem dX5_highTogether_17 : decode cX5_highTogether 17 = .ok (.ishr, 1) := by decide +kernel
theorem dX5_highTogether_18 : decode cX5_highTogether 18 = .ok (.iconst 1, 1) := by decide +kernel
theorem dX5_highTogether_19 : decode cX5_highTogether 19 = .ok (.iand, 1) := by decide +kernel
theorem dX5_highTogether_20 : decode cX5_highTogether 20 = .ok (.ifCond .eq 14, 3) := by decide +kernel
theorem dX5_highTogether_23 : decode cX5_highTogether 23 = .ok (.iload_n 2, 1) := by decide +kernel
theorem dX5_highTogether_24 : decode cX5_highTogether 24 = .ok (.aload_n 0, 1) := by decide +kernel
theorem dX5_highTogether_25 : decode cX5_highTogether 25 = .ok (.getfield 25, 3) := by decide +kernel
theorem dX5_highTogether_28 : decode cX5_highTogether 28 = .ok (.iload_n 3, 1) := by decide +kernel
theorem dX5_highTogether_29 : decode cX5_highTogether 29 = .ok (.invokevirtual 201, 3) := by decide +kernel
theorem dX5_highTogether_32 : decode cX5_highTogether 32 = .ok (.iadd, 1) := by decide +kernel
theorem dX5_highTogether_33 : decode cX5_highTogether 33 = .ok (.istore_n 2, 1) := by decide +kernel
theorem dX5_highTogether_34 : decode cX5_highTogether 34 = .ok (.iinc 3 1, 3) := by decide +kernel
theorem dX5_highTogether_37 : decode cX5_highTogether 37 = .ok (.goto (-33), 3) := by decide +kernel
theorem dX5_highTogether_40 : decode cX5_highTogether 40 = .ok (.iload_n 2, 1) := by decide +kernel
theorem dX5_highTogether_41 : decode cX5_highTogether 41 = .ok (.ireturn, 1) := by decide +kernel
theorem dX5_leastOf_0 : decode cX5_leastOf 0 = .ok (.iload_n 0, 1) := by decide +kernel
theorem dX5_leastOf_1 : decode cX5_leastOf 1 = .ok (.ifCond .ne 7, 3) := by decide +kernel
theorem dX5_leastOf_4 : decode cX5_leastOf 4 = .ok (.iconst 1, 1) := by decide +kernel
theorem dX5_leastOf_5 : decode cX5_leastOf 5 = .ok (.goto 4, 3) := by decide +kernel
theorem dX5_leastOf_8 : decode cX5_leastOf 8 = .ok (.iconst 0, 1) := by decide +kernel
theorem dX5_leastOf_9 : decode cX5_leastOf 9 = .ok (.ireturn, 1) := by decide +kernel
theorem dX5_mostOf_0 : decode cX5_mostOf 0 = .ok (.iload_n 0, 1) := by decide +kernel
theorem dX5_mostOf_1 : decode cX5_mostOf 1 = .ok (.ifCond .ne 5, 3) := by decide +kernel
theorem dX5_mostOf_4 : decode cX5_mostOf 4 = .ok (.iconst 5, 1) := by decide +kernel
theorem dX5_mostOf_5 : decode cX5_mostOf 5 = .ok (.ireturn, 1) := by decide +kernel
theorem dX5_mostOf_6 : decode cX5_mostOf 6 = .ok (.iload_n 0, 1) := by decide +kernel
theorem dX5_mostOf_7 : decode cX5_mostOf 7 = .ok (.iconst 1, 1) := by decide +kernel
theorem dX5_mostOf_8 : decode cX5_mostOf 8 = .ok (.if_icmp .ne 8, 3) := by decide +kernel
theorem dX5_mostOf_11 : decode cX5_mostOf 11 = .ok (.bipush 9, 2) := by decide +kernel
theorem dX5_mostOf_13 : decode cX5_mostOf 13 = .ok (.goto 4, 3) := by decide +kernel
theorem dX5_mostOf_16 : decode cX5_mostOf 16 = .ok (.iconst 3, 1) := by decide +kernel
theorem dX5_mostOf_17 : decode cX5_mostOf 17 = .ok (.ireturn, 1) := by decide +kernel
theorem dX5_suppose_0 : decode cX5_suppose 0 = .ok (.iload_n 2, 1) := by decide +kernel
theorem dX5_suppose_1 : decode cX5_suppose 1 = .ok (.ifCond .ne 16, 3) := by decide +kernel
theorem dX5_suppose_4 : decode cX5_suppose 4 = .ok (.aload_n 0, 1) := by decide +kernel
theorem dX5_suppose_5 : decode cX5_suppose 5 = .ok (.getfield 29, 3) := by decide +kernel
theorem dX5_suppose_8 : decode cX5_suppose 8 = .ok (.getfield 278, 3) := by decide +kernel
theorem dX5_suppose_11 : decode cX5_suppose 11 = .ok (.iload_n 1, 1) := by decide +kernel
theorem dX5_suppose_12 : decode cX5_suppose 12 = .ok (.iload_n 3, 1) := by decide +kernel
theorem dX5_suppose_13 : decode cX5_suppose 13 = .ok (.iastore, 1) := by decide +kernel
theorem dX5_suppose_14 : decode cX5_suppose 14 = .ok (.goto 31, 3) := by decide +kernel
theorem dX5_suppose_17 : decode cX5_suppose 17 = .ok (.iload_n 2, 1) := by decide +kernel
theorem dX5_suppose_18 : decode cX5_suppose 18 = .ok (.iconst 1, 1) := by decide +kernel
theorem dX5_suppose_19 : decode cX5_suppose 19 = .ok (.if_icmp .ne 16, 3) := by decide +kernel
theorem dX5_suppose_22 : decode cX5_suppose 22 = .ok (.aload_n 0, 1) := by decide +kernel
theorem dX5_suppose_23 : decode cX5_suppose 23 = .ok (.getfield 29, 3) := by decide +kernel
theorem dX5_suppose_26 : decode cX5_suppose 26 = .ok (.getfield 198, 3) := by decide +kernel
theorem dX5_suppose_29 : decode cX5_suppose 29 = .ok (.iload_n 1, 1) := by decide +kernel
theorem dX5_suppose_30 : decode cX5_suppose 30 = .ok (.iload_n 3, 1) := by decide +kernel
theorem dX5_suppose_31 : decode cX5_suppose 31 = .ok (.iastore, 1) := by decide +kernel
theorem dX5_suppose_32 : decode cX5_suppose 32 = .ok (.goto 13, 3) := by decide +kernel
theorem dX5_suppose_35 : decode cX5_suppose 35 = .ok (.aload_n 0, 1) := by decide +kernel
theorem dX5_suppose_36 : decode cX5_suppose 36 = .ok (.getfield 29, 3) := by decide +kernel
theorem dX5_suppose_39 : decode cX5_suppose 39 = .ok (.getfield 207, 3) := by decide +kernel
theorem dX5_suppose_42 : decode cX5_suppose 42 = .ok (.iload_n 1, 1) := by decide +kernel
theorem dX5_suppose_43 : decode cX5_suppose 43 = .ok (.iload_n 3, 1) := by decide +kernel
theorem dX5_suppose_44 : decode cX5_suppose 44 = .ok (.iastore, 1) := by decide +kernel
theorem dX5_suppose_45 : decode cX5_suppose 45 = .ok (.return_, 1) := by decide +kernel
theorem dX5_comesTrue_0 : decode cX5_comesTrue 0 = .ok (.iconst 0, 1) := by decide +kernel
theorem dX5_comesTrue_1 : decode cX5_comesTrue 1 = .ok (.istore 5, 2) := by decide +kernel
theorem dX5_comesTrue_3 : decode cX5_comesTrue 3 = .ok (.iload 5, 2) := by decide +kernel
theorem dX5_comesTrue_5 : decode cX5_comesTrue 5 = .ok (.iload 4, 2) := by decide +kernel
theorem dX5_comesTrue_7 : decode cX5_comesTrue 7 = .ok (.if_icmp .ge 39, 3) := by decide +kernel
theorem dX5_comesTrue_10 : decode cX5_comesTrue 10 = .ok (.aload_n 0, 1) := by decide +kernel
theorem dX5_comesTrue_11 : decode cX5_comesTrue 11 = .ok (.getfield 29, 3) := by decide +kernel
theorem dX5_comesTrue_14 : decode cX5_comesTrue 14 = .ok (.invokevirtual 159, 3) := by decide +kernel
theorem dX5_comesTrue_17 : decode cX5_comesTrue 17 = .ok (.pop, 1) := by decide +kernel
theorem dX5_comesTrue_18 : decode cX5_comesTrue 18 = .ok (.aload_n 0, 1) := by decide +kernel
theorem dX5_comesTrue_19 : decode cX5_comesTrue 19 = .ok (.getfield 29, 3) := by decide +kernel
theorem dX5_comesTrue_22 : decode cX5_comesTrue 22 = .ok (.iload_n 1, 1) := by decide +kernel
theorem dX5_comesTrue_23 : decode cX5_comesTrue 23 = .ok (.invokevirtual 201, 3) := by decide +kernel
theorem dX5_comesTrue_26 : decode cX5_comesTrue 26 = .ok (.aload_n 2, 1) := by decide +kernel
theorem dX5_comesTrue_27 : decode cX5_comesTrue 27 = .ok (.getfield 99, 3) := by decide +kernel
theorem dX5_comesTrue_30 : decode cX5_comesTrue 30 = .ok (.iload_n 3, 1) := by decide +kernel
theorem dX5_comesTrue_31 : decode cX5_comesTrue 31 = .ok (.iload 5, 2) := by decide +kernel
theorem dX5_comesTrue_33 : decode cX5_comesTrue 33 = .ok (.iadd, 1) := by decide +kernel
theorem dX5_comesTrue_34 : decode cX5_comesTrue 34 = .ok (.iaload, 1) := by decide +kernel
theorem dX5_comesTrue_35 : decode cX5_comesTrue 35 = .ok (.if_icmp .eq 5, 3) := by decide +kernel
theorem dX5_comesTrue_38 : decode cX5_comesTrue 38 = .ok (.iconst 0, 1) := by decide +kernel
theorem dX5_comesTrue_39 : decode cX5_comesTrue 39 = .ok (.ireturn, 1) := by decide +kernel
theorem dX5_comesTrue_40 : decode cX5_comesTrue 40 = .ok (.iinc 5 1, 3) := by decide +kernel
theorem dX5_comesTrue_43 : decode cX5_comesTrue 43 = .ok (.goto (-40), 3) := by decide +kernel
theorem dX5_comesTrue_46 : decode cX5_comesTrue 46 = .ok (.iconst 1, 1) := by decide +kernel
theorem dX5_comesTrue_47 : decode cX5_comesTrue 47 = .ok (.ireturn, 1) := by decide +kernel
theorem dX5_weightOf_0 : decode cX5_weightOf 0 = .ok (.lconst 1, 1) := by decide +kernel
theorem dX5_weightOf_1 : decode cX5_weightOf 1 = .ok (.lstore_n 3, 1) := by decide +kernel
theorem dX5_weightOf_2 : decode cX5_weightOf 2 = .ok (.iconst 0, 1) := by decide +kernel
theorem dX5_weightOf_3 : decode cX5_weightOf 3 = .ok (.istore 5, 2) := by decide +kernel
theorem dX5_weightOf_5 : decode cX5_weightOf 5 = .ok (.iload 5, 2) := by decide +kernel
theorem dX5_weightOf_7 : decode cX5_weightOf 7 = .ok (.aload_n 0, 1) := by decide +kernel
theorem dX5_weightOf_8 : decode cX5_weightOf 8 = .ok (.getfield 25, 3) := by decide +kernel
theorem dX5_weightOf_11 : decode cX5_weightOf 11 = .ok (.getfield 140, 3) := by decide +kernel
theorem dX5_weightOf_14 : decode cX5_weightOf 14 = .ok (.if_icmp .ge 43, 3) := by decide +kernel
theorem dX5_weightOf_17 : decode cX5_weightOf 17 = .ok (.aload_n 0, 1) := by decide +kernel
theorem dX5_weightOf_18 : decode cX5_weightOf 18 = .ok (.getfield 25, 3) := by decide +kernel
theorem dX5_weightOf_21 : decode cX5_weightOf 21 = .ok (.iload 5, 2) := by decide +kernel
theorem dX5_weightOf_23 : decode cX5_weightOf 23 = .ok (.invokevirtual 178, 3) := by decide +kernel
theorem dX5_weightOf_26 : decode cX5_weightOf 26 = .ok (.ifCond .eq 25, 3) := by decide +kernel
theorem dX5_weightOf_29 : decode cX5_weightOf 29 = .ok (.lload_n 3, 1) := by decide +kernel
theorem dX5_weightOf_30 : decode cX5_weightOf 30 = .ok (.iload_n 1, 1) := by decide +kernel
theorem dX5_weightOf_31 : decode cX5_weightOf 31 = .ok (.iload 5, 2) := by decide +kernel
theorem dX5_weightOf_33 : decode cX5_weightOf 33 = .ok (.ishr, 1) := by decide +kernel
theorem dX5_weightOf_34 : decode cX5_weightOf 34 = .ok (.iconst 1, 1) := by decide +kernel
theorem dX5_weightOf_35 : decode cX5_weightOf 35 = .ok (.iand, 1) := by decide +kernel
theorem dX5_weightOf_36 : decode cX5_weightOf 36 = .ok (.ifCond .eq 11, 3) := by decide +kernel
theorem dX5_weightOf_39 : decode cX5_weightOf 39 = .ok (.bipush 10, 2) := by decide +kernel
theorem dX5_weightOf_41 : decode cX5_weightOf 41 = .ok (.iload_n 2, 1) := by decide +kernel
theorem dX5_weightOf_42 : decode cX5_weightOf 42 = .ok (.isub, 1) := by decide +kernel
theorem dX5_weightOf_43 : decode cX5_weightOf 43 = .ok (.i2l, 1) := by decide +kernel
theorem dX5_weightOf_44 : decode cX5_weightOf 44 = .ok (.goto 5, 3) := by decide +kernel
theorem dX5_weightOf_47 : decode cX5_weightOf 47 = .ok (.iload_n 2, 1) := by decide +kernel
theorem dX5_weightOf_48 : decode cX5_weightOf 48 = .ok (.i2l, 1) := by decide +kernel
theorem dX5_weightOf_49 : decode cX5_weightOf 49 = .ok (.lmul, 1) := by decide +kernel
theorem dX5_weightOf_50 : decode cX5_weightOf 50 = .ok (.lstore_n 3, 1) := by decide +kernel
theorem dX5_weightOf_51 : decode cX5_weightOf 51 = .ok (.iinc 5 1, 3) := by decide +kernel
theorem dX5_weightOf_54 : decode cX5_weightOf 54 = .ok (.goto (-49), 3) := by decide +kernel
theorem dX5_weightOf_57 : decode cX5_weightOf 57 = .ok (.lload_n 3, 1) := by decide +kernel
theorem dX5_weightOf_58 : decode cX5_weightOf 58 = .ok (.lreturn, 1) := by decide +kernel
theorem dX5_commonDivisor_0 : decode cX5_commonDivisor 0 = .ok (.lload_n 0, 1) := by decide +kernel
theorem dX5_commonDivisor_1 : decode cX5_commonDivisor 1 = .ok (.lstore 4, 2) := by decide +kernel
theorem dX5_commonDivisor_3 : decode cX5_commonDivisor 3 = .ok (.lload_n 2, 1) := by decide +kernel
theorem dX5_commonDivisor_4 : decode cX5_commonDivisor 4 = .ok (.lstore 6, 2) := by decide +kernel
theorem dX5_commonDivisor_6 : decode cX5_commonDivisor 6 = .ok (.iconst 0, 1) := by decide +kernel
theorem dX5_commonDivisor_7 : decode cX5_commonDivisor 7 = .ok (.istore 8, 2) := by decide +kernel
theorem dX5_commonDivisor_9 : decode cX5_commonDivisor 9 = .ok (.iload 8, 2) := by decide +kernel
theorem dX5_commonDivisor_11 : decode cX5_commonDivisor 11 = .ok (.bipush 100, 2) := by decide +kernel
theorem dX5_commonDivisor_13 : decode cX5_commonDivisor 13 = .ok (.if_icmp .ge 31, 3) := by decide +kernel
theorem dX5_commonDivisor_16 : decode cX5_commonDivisor 16 = .ok (.lload 6, 2) := by decide +kernel
theorem dX5_commonDivisor_18 : decode cX5_commonDivisor 18 = .ok (.lconst 0, 1) := by decide +kernel
theorem dX5_commonDivisor_19 : decode cX5_commonDivisor 19 = .ok (.lcmp, 1) := by decide +kernel
theorem dX5_commonDivisor_20 : decode cX5_commonDivisor 20 = .ok (.ifCond .eq 24, 3) := by decide +kernel
theorem dX5_commonDivisor_23 : decode cX5_commonDivisor 23 = .ok (.lload 4, 2) := by decide +kernel
theorem dX5_commonDivisor_25 : decode cX5_commonDivisor 25 = .ok (.lload 6, 2) := by decide +kernel
theorem dX5_commonDivisor_27 : decode cX5_commonDivisor 27 = .ok (.lrem, 1) := by decide +kernel
theorem dX5_commonDivisor_28 : decode cX5_commonDivisor 28 = .ok (.lstore 9, 2) := by decide +kernel
theorem dX5_commonDivisor_30 : decode cX5_commonDivisor 30 = .ok (.lload 6, 2) := by decide +kernel
theorem dX5_commonDivisor_32 : decode cX5_commonDivisor 32 = .ok (.lstore 4, 2) := by decide +kernel
theorem dX5_commonDivisor_34 : decode cX5_commonDivisor 34 = .ok (.lload 9, 2) := by decide +kernel
theorem dX5_commonDivisor_36 : decode cX5_commonDivisor 36 = .ok (.lstore 6, 2) := by decide +kernel
theorem dX5_commonDivisor_38 : decode cX5_commonDivisor 38 = .ok (.iinc 8 1, 3) := by decide +kernel
theorem dX5_commonDivisor_41 : decode cX5_commonDivisor 41 = .ok (.goto (-32), 3) := by decide +kernel
theorem dX5_commonDivisor_44 : decode cX5_commonDivisor 44 = .ok (.lload 4, 2) := by decide +kernel
theorem dX5_commonDivisor_46 : decode cX5_commonDivisor 46 = .ok (.lreturn, 1) := by decide +kernel
end
section
theorem dX6_init_0 : decode cX6_init 0 = .ok (.aload_n 0, 1) := by decide +kernel
theorem dX6_init_1 : decode cX6_init 1 = .ok (.invokespecial 1, 3) := by decide +kernel
theorem dX6_init_4 : decode cX6_init 4 = .ok (.aload_n 0, 1) := by decide +kernel
theorem dX6_init_5 : decode cX6_init 5 = .ok (.bipush 8, 2) := by decide +kernel
theorem dX6_init_7 : decode cX6_init 7 = .ok (.newarray .int, 2) := by decide +kernel
theorem dX6_init_9 : decode cX6_init 9 = .ok (.putfield 7, 3) := by decide +kernel
theorem dX6_init_12 : decode cX6_init 12 = .ok (.aload_n 0, 1) := by decide +kernel
theorem dX6_init_13 : decode cX6_init 13 = .ok (.bipush 8, 2) := by decide +kernel
theorem dX6_init_15 : decode cX6_init 15 = .ok (.newarray .int, 2) := by decide +kernel
theorem dX6_init_17 : decode cX6_init 17 = .ok (.putfield 13, 3) := by decide +kernel
theorem dX6_init_20 : decode cX6_init 20 = .ok (.aload_n 0, 1) := by decide +kernel
theorem dX6_init_21 : decode cX6_init 21 = .ok (.sipush 320, 3) := by decide +kernel
theorem dX6_init_24 : decode cX6_init 24 = .ok (.newarray .int, 2) := by decide +kernel
theorem dX6_init_26 : decode cX6_init 26 = .ok (.putfield 16, 3) := by decide +kernel
theorem dX6_init_29 : decode cX6_init 29 = .ok (.aload_n 0, 1) := by decide +kernel
theorem dX6_init_30 : decode cX6_init 30 = .ok (.bipush 41, 2) := by decide +kernel
theorem dX6_init_32 : decode cX6_init 32 = .ok (.newarray .int, 2) := by decide +kernel
theorem dX6_init_34 : decode cX6_init 34 = .ok (.putfield 19, 3) := by decide +kernel
theorem dX6_init_37 : decode cX6_init 37 = .ok (.aload_n 0, 1) := by decide +kernel
theorem dX6_init_38 : decode cX6_init 38 = .ok (.bipush 40, 2) := by decide +kernel
theorem dX6_init_40 : decode cX6_init 40 = .ok (.newarray .int, 2) := by decide +kernel
theorem dX6_init_42 : decode cX6_init 42 = .ok (.putfield 22, 3) := by decide +kernel
theorem dX6_init_45 : decode cX6_init 45 = .ok (.aload_n 0, 1) := by decide +kernel
theorem dX6_init_46 : decode cX6_init 46 = .ok (.bipush 120, 2) := by decide +kernel
theorem dX6_init_48 : decode cX6_init 48 = .ok (.newarray .int, 2) := by decide +kernel
theorem dX6_init_50 : decode cX6_init 50 = .ok (.putfield 25, 3) := by decide +kernel
theorem dX6_init_53 : decode cX6_init 53 = .ok (.aload_n 0, 1) := by decide +kernel
theorem dX6_init_54 : decode cX6_init 54 = .ok (.bipush 41, 2) := by decide +kernel
theorem dX6_init_56 : decode cX6_init 56 = .ok (.newarray .int, 2) := by decide +kernel
theorem dX6_init_58 : decode cX6_init 58 = .ok (.putfield 28, 3) := by decide +kernel
theorem dX6_init_61 : decode cX6_init 61 = .ok (.aload_n 0, 1) := by decide +kernel
theorem dX6_init_62 : decode cX6_init 62 = .ok (.bipush 6, 2) := by decide +kernel
theorem dX6_init_64 : decode cX6_init 64 = .ok (.newarray .int, 2) := by decide +kernel
theorem dX6_init_66 : decode cX6_init 66 = .ok (.putfield 31, 3) := by decide +kernel
theorem dX6_init_69 : decode cX6_init 69 = .ok (.aload_n 0, 1) := by decide +kernel
theorem dX6_init_70 : decode cX6_init 70 = .ok (.sipush 984, 3) := by decide +kernel
theorem dX6_init_73 : decode cX6_init 73 = .ok (.newarray .int, 2) := by decide +kernel
theorem dX6_init_75 : decode cX6_init 75 = .ok (.putfield 34, 3) := by decide +kernel
theorem dX6_init_78 : decode cX6_init 78 = .ok (.aload_n 0, 1) := by decide +kernel
theorem dX6_init_79 : decode cX6_init 79 = .ok (.bipush 41, 2) := by decide +kernel
theorem dX6_init_81 : decode cX6_init 81 = .ok (.newarray .int, 2) := by decide +kernel
theorem dX6_init_83 : decode cX6_init 83 = .ok (.putfield 37, 3) := by decide +kernel
theorem dX6_init_86 : decode cX6_init 86 = .ok (.aload_n 0, 1) := by decide +kernel
theorem dX6_init_87 : decode cX6_init 87 = .ok (.iconst 2, 1) := by decide +kernel
theorem dX6_init_88 : decode cX6_init 88 = .ok (.newarray .boolean, 2) := by decide +kernel
theorem dX6_init_90 : decode cX6_init 90 = .ok (.putfield 40, 3) := by decide +kernel
theorem dX6_init_93 : decode cX6_init 93 = .ok (.aload_n 0, 1) := by decide +kernel
theorem dX6_init_94 : decode cX6_init 94 = .ok (.bipush 82, 2) := by decide +kernel
theorem dX6_init_96 : decode cX6_init 96 = .ok (.newarray .int, 2) := by decide +kernel
theorem dX6_init_98 : decode cX6_init 98 = .ok (.putfield 44, 3) := by decide +kernel
theorem dX6_init_101 : decode cX6_init 101 = .ok (.aload_n 0, 1) := by decide +kernel
theorem dX6_init_102 : decode cX6_init 102 = .ok (.bipush 16, 2) := by decide +kernel
theorem dX6_init_104 : decode cX6_init 104 = .ok (.newarray .int, 2) := by decide +kernel
theorem dX6_init_106 : decode cX6_init 106 = .ok (.putfield 47, 3) := by decide +kernel
theorem dX6_init_109 : decode cX6_init 109 = .ok (.iconst 0, 1) := by decide +kernel
theorem dX6_init_110 : decode cX6_init 110 = .ok (.istore_n 1, 1) := by decide +kernel
theorem dX6_init_111 : decode cX6_init 111 = .ok (.iload_n 1, 1) := by decide +kernel
theorem dX6_init_112 : decode cX6_init 112 = .ok (.bipush 8, 2) := by decide +kernel
theorem dX6_init_114 : decode cX6_init 114 = .ok (.if_icmp .ge 16, 3) := by decide +kernel
theorem dX6_init_117 : decode cX6_init 117 = .ok (.aload_n 0, 1) := by decide +kernel
theorem dX6_init_118 : decode cX6_init 118 = .ok (.getfield 13, 3) := by decide +kernel
theorem dX6_init_121 : decode cX6_init 121 = .ok (.iload_n 1, 1) := by decide +kernel
theorem dX6_init_122 : decode cX6_init 122 = .ok (.iconst (-1), 1) := by decide +kernel
theorem dX6_init_123 : decode cX6_init 123 = .ok (.iastore, 1) := by decide +kernel
theorem dX6_init_124 : decode cX6_init 124 = .ok (.iinc 1 1, 3) := by decide +kernel
theorem dX6_init_127 : decode cX6_init 127 = .ok (.goto (-16), 3) := by decide +kernel
theorem dX6_init_130 : decode cX6_init 130 = .ok (.return_, 1) := by decide +kernel
theorem dX6_in_0 : decode cX6_in 0 = .ok (.lload_n 0, 1) := by decide +kernel
theorem dX6_in_1 : decode cX6_in 1 = .ok (.lload_n 2, 1) := by decide +kernel
theorem dX6_in_2 : decode cX6_in 2 = .ok (.lcmp, 1) := by decide +kernel
theorem dX6_in_3 : decode cX6_in 3 = .ok (.ifCond .lt 14, 3) := by decide +kernel
theorem dX6_in_6 : decode cX6_in 6 = .ok (.lload_n 0, 1) := by decide +kernel
theorem dX6_in_7 : decode cX6_in 7 = .ok (.lload 4, 2) := by decide +kernel
theorem dX6_in_9 : decode cX6_in 9 = .ok (.lcmp, 1) := by decide +kernel
theorem dX6_in_10 : decode cX6_in 10 = .ok (.ifCond .gt 7, 3) := by decide +kernel
theorem dX6_in_13 : decode cX6_in 13 = .ok (.iconst 1, 1) := by decide +kernel
theorem dX6_in_14 : decode cX6_in 14 = .ok (.goto 4, 3) := by decide +kernel
theorem dX6_in_17 : decode cX6_in 17 = .ok (.iconst 0, 1) := by decide +kernel
theorem dX6_in_18 : decode cX6_in 18 = .ok (.ireturn, 1) := by decide +kernel
theorem dX6_has_0 : decode cX6_has 0 = .ok (.iload_n 0, 1) := by decide +kernel
theorem dX6_has_1 : decode cX6_has 1 = .ok (.iload_n 1, 1) := by decide +kernel
theorem dX6_has_2 : decode cX6_has 2 = .ok (.ishr, 1) := by decide +kernel
theorem dX6_has_3 : decode cX6_has 3 = .ok (.iconst 1, 1) := by decide +kernel
theorem dX6_has_4 : decode cX6_has 4 = .ok (.iand, 1) := by decide +kernel
theorem dX6_has_5 : decode cX6_has 5 = .ok (.iconst 1, 1) := by decide +kernel
theorem dX6_has_6 : decode cX6_has 6 = .ok (.if_icmp .ne 7, 3) := by decide +kernel
theorem dX6_has_9 : decode cX6_has 9 = .ok (.iconst 1, 1) := by decide +kernel
theorem dX6_has_10 : decode cX6_has 10 = .ok (.goto 4, 3) := by decide +kernel
theorem dX6_has_13 : decode cX6_has 13 = .ok (.iconst 0, 1) := by decide +kernel
theorem dX6_has_14 : decode cX6_has 14 = .ok (.ireturn, 1) := by decide +kernel
theorem dX6_ones_0 : decode cX6_ones 0 = .ok (.iconst 0, 1) := by decide +kernel
theorem dX6_ones_1 : decode cX6_ones 1 = .ok (.istore_n 1, 1) := by decide +kernel
theorem dX6_ones_2 : decode cX6_ones 2 = .ok (.iload_n 0, 1) := by decide +kernel
theorem dX6_ones_3 : decode cX6_ones 3 = .ok (.istore_n 2, 1) := by decide +kernel
theorem dX6_ones_4 : decode cX6_ones 4 = .ok (.iload_n 2, 1) := by decide +kernel
theorem dX6_ones_5 : decode cX6_ones 5 = .ok (.ifCond .eq 15, 3) := by decide +kernel
theorem dX6_ones_8 : decode cX6_ones 8 = .ok (.iinc 1 1, 3) := by decide +kernel
theorem dX6_ones_11 : decode cX6_ones 11 = .ok (.iload_n 2, 1) := by decide +kernel
theorem dX6_ones_12 : decode cX6_ones 12 = .ok (.iload_n 2, 1) := by decide +kernel
theorem dX6_ones_13 : decode cX6_ones 13 = .ok (.iconst 1, 1) := by decide +kernel
theorem dX6_ones_14 : decode cX6_ones 14 = .ok (.isub, 1) := by decide +kernel
theorem dX6_ones_15 : decode cX6_ones 15 = .ok (.iand, 1) := by decide +kernel
theorem dX6_ones_16 : decode cX6_ones 16 = .ok (.istore_n 2, 1) := by decide +kernel
theorem dX6_ones_17 : decode cX6_ones 17 = .ok (.goto (-13), 3) := by decide +kernel
theorem dX6_ones_20 : decode cX6_ones 20 = .ok (.iload_n 1, 1) := by decide +kernel
theorem dX6_ones_21 : decode cX6_ones 21 = .ok (.ireturn, 1) := by decide +kernel
theorem dX6_find_0 : decode cX6_find 0 = .ok (.aload_n 0, 1) := by decide +kernel
theorem dX6_find_1 : decode cX6_find 1 = .ok (.iload_n 1, 1) := by decide +kernel
theorem dX6_find_2 : decode cX6_find 2 = .ok (.putfield 50, 3) := by decide +kernel
theorem dX6_find_5 : decode cX6_find 5 = .ok (.ldc 54, 2) := by decide +kernel
theorem dX6_find_7 : decode cX6_find 7 = .ok (.iload_n 1, 1) := by decide +kernel
theorem dX6_find_8 : decode cX6_find 8 = .ok (.isub, 1) := by decide +kernel
theorem dX6_find_9 : decode cX6_find 9 = .ok (.ireturn, 1) := by decide +kernel
theorem dX6_well_0 : decode cX6_well 0 = .ok (.aload_n 0, 1) := by decide +kernel
theorem dX6_well_1 : decode cX6_well 1 = .ok (.iconst 0, 1) := by decide +kernel
theorem dX6_well_2 : decode cX6_well 2 = .ok (.putfield 50, 3) := by decide +kernel
theorem dX6_well_5 : decode cX6_well 5 = .ok (.iload_n 1, 1) := by decide +kernel
theorem dX6_well_6 : decode cX6_well 6 = .ok (.ireturn, 1) := by decide +kernel
theorem dX6_isRow_0 : decode cX6_isRow 0 = .ok (.iload_n 0, 1) := by decide +kernel
theorem dX6_isRow_1 : decode cX6_isRow 1 = .ok (.i2l, 1) := by decide +kernel
theorem dX6_isRow_2 : decode cX6_isRow 2 = .ok (.lconst 0, 1) := by decide +kernel
theorem dX6_isRow_3 : decode cX6_isRow 3 = .ok (.ldc2_w 55, 3) := by decide +kernel
theorem dX6_isRow_6 : decode cX6_isRow 6 = .ok (.invokestatic 57, 3) := by decide +kernel
theorem dX6_isRow_9 : decode cX6_isRow 9 = .ok (.ireturn, 1) := by decide +kernel
theorem dX6_row_0 : decode cX6_row 0 = .ok (.iload_n 1, 1) := by decide +kernel
theorem dX6_row_1 : decode cX6_row 1 = .ok (.invokestatic 61, 3) := by decide +kernel
theorem dX6_row_4 : decode cX6_row 4 = .ok (.ifCond .eq 21, 3) := by decide +kernel
theorem dX6_row_7 : decode cX6_row 7 = .ok (.iload_n 2, 1) := by decide +kernel
theorem dX6_row_8 : decode cX6_row 8 = .ok (.i2l, 1) := by decide +kernel
theorem dX6_row_9 : decode cX6_row 9 = .ok (.lconst 0, 1) := by decide +kernel
theorem dX6_row_10 : decode cX6_row 10 = .ok (.ldc2_w 65, 3) := by decide +kernel
theorem dX6_row_13 : decode cX6_row 13 = .ok (.invokestatic 57, 3) := by decide +kernel
theorem dX6_row_16 : decode cX6_row 16 = .ok (.ifCond .eq 9, 3) := by decide +kernel
theorem dX6_row_19 : decode cX6_row 19 = .ok (.iload_n 3, 1) := by decide +kernel
theorem dX6_row_20 : decode cX6_row 20 = .ok (.bipush 40, 2) := by decide +kernel
theorem dX6_row_22 : decode cX6_row 22 = .ok (.if_icmp .le 6, 3) := by decide +kernel
theorem dX6_row_25 : decode cX6_row 25 = .ok (.ldc 67, 2) := by decide +kernel
theorem dX6_row_27 : decode cX6_row 27 = .ok (.ireturn, 1) := by decide +kernel
theorem dX6_row_28 : decode cX6_row 28 = .ok (.iload_n 3, 1) := by decide +kernel
theorem dX6_row_29 : decode cX6_row 29 = .ok (.ifCond .ge 9, 3) := by decide +kernel
theorem dX6_row_32 : decode cX6_row 32 = .ok (.aload_n 0, 1) := by decide +kernel
theorem dX6_row_33 : decode cX6_row 33 = .ok (.iconst 4, 1) := by decide +kernel
theorem dX6_row_34 : decode cX6_row 34 = .ok (.invokevirtual 68, 3) := by decide +kernel
theorem dX6_row_37 : decode cX6_row 37 = .ok (.ireturn, 1) := by decide +kernel
theorem dX6_row_38 : decode cX6_row 38 = .ok (.aload_n 0, 1) := by decide +kernel
theorem dX6_row_39 : decode cX6_row 39 = .ok (.getfield 7, 3) := by decide +kernel
theorem dX6_row_42 : decode cX6_row 42 = .ok (.iload_n 1, 1) := by decide +kernel
theorem dX6_row_43 : decode cX6_row 43 = .ok (.iload_n 2, 1) := by decide +kernel
theorem dX6_row_44 : decode cX6_row 44 = .ok (.iastore, 1) := by decide +kernel
theorem dX6_row_45 : decode cX6_row 45 = .ok (.aload_n 0, 1) := by decide +kernel
theorem dX6_row_46 : decode cX6_row 46 = .ok (.getfield 13, 3) := by decide +kernel
theorem dX6_row_49 : decode cX6_row 49 = .ok (.iload_n 1, 1) := by decide +kernel
theorem dX6_row_50 : decode cX6_row 50 = .ok (.iload_n 3, 1) := by decide +kernel
theorem dX6_row_51 : decode cX6_row 51 = .ok (.iastore, 1) := by decide +kernel
theorem dX6_row_52 : decode cX6_row 52 = .ok (.iconst 0, 1) := by decide +kernel
theorem dX6_row_53 : decode cX6_row 53 = .ok (.istore 4, 2) := by decide +kernel
theorem dX6_row_55 : decode cX6_row 55 = .ok (.iload 4, 2) := by decide +kernel
theorem dX6_row_57 : decode cX6_row 57 = .ok (.bipush 40, 2) := by decide +kernel
theorem dX6_row_59 : decode cX6_row 59 = .ok (.if_icmp .ge 22, 3) := by decide +kernel
theorem dX6_row_62 : decode cX6_row 62 = .ok (.aload_n 0, 1) := by decide +kernel
theorem dX6_row_63 : decode cX6_row 63 = .ok (.getfield 16, 3) := by decide +kernel
theorem dX6_row_66 : decode cX6_row 66 = .ok (.bipush 40, 2) := by decide +kernel
theorem dX6_row_68 : decode cX6_row 68 = .ok (.iload_n 1, 1) := by decide +kernel
theorem dX6_row_69 : decode cX6_row 69 = .ok (.imul, 1) := by decide +kernel
theorem dX6_row_70 : decode cX6_row 70 = .ok (.iload 4, 2) := by decide +kernel
theorem dX6_row_72 : decode cX6_row 72 = .ok (.iadd, 1) := by decide +kernel
theorem dX6_row_73 : decode cX6_row 73 = .ok (.iconst 0, 1) := by decide +kernel
theorem dX6_row_74 : decode cX6_row 74 = .ok (.iastore, 1) := by decide +kernel
theorem dX6_row_75 : decode cX6_row 75 = .ok (.iinc 4 1, 3) := by decide +kernel
theorem dX6_row_78 : decode cX6_row 78 = .ok (.goto (-23), 3) := by decide +kernel
theorem dX6_row_81 : decode cX6_row 81 = .ok (.aload_n 0, 1) := by decide +kernel
theorem dX6_row_82 : decode cX6_row 82 = .ok (.iload_n 3, 1) := by decide +kernel
theorem dX6_row_83 : decode cX6_row 83 = .ok (.invokevirtual 72, 3) := by decide +kernel
theorem dX6_row_86 : decode cX6_row 86 = .ok (.ireturn, 1) := by decide +kernel
theorem dX6_asLane_0 : decode cX6_asLane 0 = .ok (.iload_n 0, 1) := by decide +kernel
theorem dX6_asLane_1 : decode cX6_asLane 1 = .ok (.ifCond .ne 13, 3) := by decide +kernel
theorem dX6_asLane_4 : decode cX6_asLane 4 = .ok (.iload_n 1, 1) := by decide +kernel
theorem dX6_asLane_5 : decode cX6_asLane 5 = .ok (.bipush 24, 2) := by decide +kernel
theorem dX6_asLane_7 : decode cX6_asLane 7 = .ok (.ishl, 1) := by decide +kernel
theorem dX6_asLane_8 : decode cX6_asLane 8 = .ok (.bipush 24, 2) := by decide +kernel
theorem dX6_asLane_10 : decode cX6_asLane 10 = .ok (.ishr, 1) := by decide +kernel
theorem dX6_asLane_11 : decode cX6_asLane 11 = .ok (.goto 19, 3) := by decide +kernel
theorem dX6_asLane_14 : decode cX6_asLane 14 = .ok (.iload_n 0, 1) := by decide +kernel
theorem dX6_asLane_15 : decode cX6_asLane 15 = .ok (.iconst 1, 1) := by decide +kernel
theorem dX6_asLane_16 : decode cX6_asLane 16 = .ok (.if_icmp .ne 13, 3) := by decide +kernel
theorem dX6_asLane_19 : decode cX6_asLane 19 = .ok (.iload_n 1, 1) := by decide +kernel
theorem dX6_asLane_20 : decode cX6_asLane 20 = .ok (.bipush 16, 2) := by decide +kernel
theorem dX6_asLane_22 : decode cX6_asLane 22 = .ok (.ishl, 1) := by decide +kernel
theorem dX6_asLane_23 : decode cX6_asLane 23 = .ok (.bipush 16, 2) := by decide +kernel
theorem dX6_asLane_25 : decode cX6_asLane 25 = .ok (.ishr, 1) := by decide +kernel
theorem dX6_asLane_26 : decode cX6_asLane 26 = .ok (.goto 4, 3) := by decide +kernel
theorem dX6_asLane_29 : decode cX6_asLane 29 = .ok (.iload_n 1, 1) := by decide +kernel
theorem dX6_asLane_30 : decode cX6_asLane 30 = .ok (.ireturn, 1) := by decide +kernel
theorem dX6_set_0 : decode cX6_set 0 = .ok (.iload_n 1, 1) := by decide +kernel
theorem dX6_set_1 : decode cX6_set 1 = .ok (.invokestatic 61, 3) := by decide +kernel
theorem dX6_set_4 : decode cX6_set 4 = .ok (.ifCond .ne 6, 3) := by decide +kernel
theorem dX6_set_7 : decode cX6_set 7 = .ok (.ldc 67, 2) := by decide +kernel
theorem dX6_set_9 : decode cX6_set 9 = .ok (.ireturn, 1) := by decide +kernel
theorem dX6_set_10 : decode cX6_set 10 = .ok (.aload_n 0, 1) := by decide +kernel
theorem dX6_set_11 : decode cX6_set 11 = .ok (.getfield 13, 3) := by decide +kernel
theorem dX6_set_14 : decode cX6_set 14 = .ok (.iload_n 1, 1) := by decide +kernel
theorem dX6_set_15 : decode cX6_set 15 = .ok (.iaload, 1) := by decide +kernel
theorem dX6_set_16 : decode cX6_set 16 = .ok (.ifCond .ge 9, 3) := by decide +kernel
theorem dX6_set_19 : decode cX6_set 19 = .ok (.aload_n 0, 1) := by decide +kernel
theorem dX6_set_20 : decode cX6_set 20 = .ok (.iconst 1, 1) := by decide +kernel
theorem dX6_set_21 : decode cX6_set 21 = .ok (.invokevirtual 68, 3) := by decide +kernel
theorem dX6_set_24 : decode cX6_set 24 = .ok (.ireturn, 1) := by decide +kernel
theorem dX6_set_25 : decode cX6_set 25 = .ok (.iload_n 2, 1) := by decide +kernel
theorem dX6_set_26 : decode cX6_set 26 = .ok (.i2l, 1) := by decide +kernel
theorem dX6_set_27 : decode cX6_set 27 = .ok (.lconst 0, 1) := by decide +kernel
theorem dX6_set_28 : decode cX6_set 28 = .ok (.aload_n 0, 1) := by decide +kernel
theorem dX6_set_29 : decode cX6_set 29 = .ok (.getfield 13, 3) := by decide +kernel
theorem dX6_set_32 : decode cX6_set 32 = .ok (.iload_n 1, 1) := by decide +kernel
theorem dX6_set_33 : decode cX6_set 33 = .ok (.iaload, 1) := by decide +kernel
theorem dX6_set_34 : decode cX6_set 34 = .ok (.iconst 1, 1) := by decide +kernel
theorem dX6_set_35 : decode cX6_set 35 = .ok (.isub, 1) := by decide +kernel
theorem dX6_set_36 : decode cX6_set 36 = .ok (.i2l, 1) := by decide +kernel
theorem dX6_set_37 : decode cX6_set 37 = .ok (.invokestatic 57, 3) := by decide +kernel
theorem dX6_set_40 : decode cX6_set 40 = .ok (.ifCond .ne 9, 3) := by decide +kernel
theorem dX6_set_43 : decode cX6_set 43 = .ok (.aload_n 0, 1) := by decide +kernel
theorem dX6_set_44 : decode cX6_set 44 = .ok (.iconst 2, 1) := by decide +kernel
theorem dX6_set_45 : decode cX6_set 45 = .ok (.invokevirtual 68, 3) := by decide +kernel
theorem dX6_set_48 : decode cX6_set 48 = .ok (.ireturn, 1) := by decide +kernel
theorem dX6_set_49 : decode cX6_set 49 = .ok (.aload_n 0, 1) := by decide +kernel
theorem dX6_set_50 : decode cX6_set 50 = .ok (.getfield 16, 3) := by decide +kernel
theorem dX6_set_53 : decode cX6_set 53 = .ok (.bipush 40, 2) := by decide +kernel
theorem dX6_set_55 : decode cX6_set 55 = .ok (.iload_n 1, 1) := by decide +kernel
theorem dX6_set_56 : decode cX6_set 56 = .ok (.imul, 1) := by decide +kernel
theorem dX6_set_57 : decode cX6_set 57 = .ok (.iload_n 2, 1) := by decide +kernel
theorem dX6_set_58 : decode cX6_set 58 = .ok (.iadd, 1) := by decide +kernel
theorem dX6_set_59 : decode cX6_set 59 = .ok (.aload_n 0, 1) := by decide +kernel
theorem dX6_set_60 : decode cX6_set 60 = .ok (.getfield 7, 3) := by decide +kernel
theorem dX6_set_63 : decode cX6_set 63 = .ok (.iload_n 1, 1) := by decide +kernel
theorem dX6_set_64 : decode cX6_set 64 = .ok (.iaload, 1) := by decide +kernel
theorem dX6_set_65 : decode cX6_set 65 = .ok (.iload_n 3, 1) := by decide +kernel
theorem dX6_set_66 : decode cX6_set 66 = .ok (.invokestatic 75, 3) := by decide +kernel
theorem dX6_set_69 : decode cX6_set 69 = .ok (.iastore, 1) := by decide +kernel
theorem dX6_set_70 : decode cX6_set 70 = .ok (.aload_n 0, 1) := by decide +kernel
theorem dX6_set_71 : decode cX6_set 71 = .ok (.aload_n 0, 1) := by decide +kernel
theorem dX6_set_72 : decode cX6_set 72 = .ok (.getfield 16, 3) := by decide +kernel
theorem dX6_set_75 : decode cX6_set 75 = .ok (.bipush 40, 2) := by decide +kernel
theorem dX6_set_77 : decode cX6_set 77 = .ok (.iload_n 1, 1) := by decide +kernel
theorem dX6_set_78 : decode cX6_set 78 = .ok (.imul, 1) := by decide +kernel
theorem dX6_set_79 : decode cX6_set 79 = .ok (.iload_n 2, 1) := by decide +kernel
theorem dX6_set_80 : decode cX6_set 80 = .ok (.iadd, 1) := by decide +kernel
theorem dX6_set_81 : decode cX6_set 81 = .ok (.iaload, 1) := by decide +kernel
theorem dX6_set_82 : decode cX6_set 82 = .ok (.invokevirtual 72, 3) := by decide +kernel
theorem dX6_set_85 : decode cX6_set 85 = .ok (.ireturn, 1) := by decide +kernel
theorem dX6_copy_0 : decode cX6_copy 0 = .ok (.iload_n 1, 1) := by decide +kernel
theorem dX6_copy_1 : decode cX6_copy 1 = .ok (.invokestatic 61, 3) := by decide +kernel
theorem dX6_copy_4 : decode cX6_copy 4 = .ok (.ifCond .eq 10, 3) := by decide +kernel
theorem dX6_copy_7 : decode cX6_copy 7 = .ok (.iload_n 3, 1) := by decide +kernel
theorem dX6_copy_8 : decode cX6_copy 8 = .ok (.invokestatic 61, 3) := by decide +kernel
theorem dX6_copy_11 : decode cX6_copy 11 = .ok (.ifCond .ne 6, 3) := by decide +kernel
theorem dX6_copy_14 : decode cX6_copy 14 = .ok (.ldc 67, 2) := by decide +kernel
theorem dX6_copy_16 : decode cX6_copy 16 = .ok (.ireturn, 1) := by decide +kernel
theorem dX6_copy_17 : decode cX6_copy 17 = .ok (.aload_n 0, 1) := by decide +kernel
theorem dX6_copy_18 : decode cX6_copy 18 = .ok (.getfield 13, 3) := by decide +kernel
theorem dX6_copy_21 : decode cX6_copy 21 = .ok (.iload_n 1, 1) := by decide +kernel
theorem dX6_copy_22 : decode cX6_copy 22 = .ok (.iaload, 1) := by decide +kernel
theorem dX6_copy_23 : decode cX6_copy 23 = .ok (.ifCond .lt 12, 3) := by decide +kernel
theorem dX6_copy_26 : decode cX6_copy 26 = .ok (.aload_n 0, 1) := by decide +kernel
theorem dX6_copy_27 : decode cX6_copy 27 = .ok (.getfield 13, 3) := by decide +kernel
theorem dX6_copy_30 : decode cX6_copy 30 = .ok (.iload_n 3, 1) := by decide +kernel
theorem dX6_copy_31 : decode cX6_copy 31 = .ok (.iaload, 1) := by decide +kernel
theorem dX6_copy_32 : decode cX6_copy 32 = .ok (.ifCond .ge 9, 3) := by decide +kernel
theorem dX6_copy_35 : decode cX6_copy 35 = .ok (.aload_n 0, 1) := by decide +kernel
theorem dX6_copy_36 : decode cX6_copy 36 = .ok (.iconst 1, 1) := by decide +kernel
theorem dX6_copy_37 : decode cX6_copy 37 = .ok (.invokevirtual 68, 3) := by decide +kernel
theorem dX6_copy_40 : decode cX6_copy 40 = .ok (.ireturn, 1) := by decide +kernel
theorem dX6_copy_41 : decode cX6_copy 41 = .ok (.aload_n 0, 1) := by decide +kernel
theorem dX6_copy_42 : decode cX6_copy 42 = .ok (.getfield 7, 3) := by decide +kernel
theorem dX6_copy_45 : decode cX6_copy 45 = .ok (.iload_n 1, 1) := by decide +kernel
theorem dX6_copy_46 : decode cX6_copy 46 = .ok (.iaload, 1) := by decide +kernel
theorem dX6_copy_47 : decode cX6_copy 47 = .ok (.aload_n 0, 1) := by decide +kernel
theorem dX6_copy_48 : decode cX6_copy 48 = .ok (.getfield 7, 3) := by decide +kernel
theorem dX6_copy_51 : decode cX6_copy 51 = .ok (.iload_n 3, 1) := by decide +kernel
theorem dX6_copy_52 : decode cX6_copy 52 = .ok (.iaload, 1) := by decide +kernel
theorem dX6_copy_53 : decode cX6_copy 53 = .ok (.if_icmp .eq 9, 3) := by decide +kernel
theorem dX6_copy_56 : decode cX6_copy 56 = .ok (.aload_n 0, 1) := by decide +kernel
theorem dX6_copy_57 : decode cX6_copy 57 = .ok (.iconst 5, 1) := by decide +kernel
theorem dX6_copy_58 : decode cX6_copy 58 = .ok (.invokevirtual 68, 3) := by decide +kernel
theorem dX6_copy_61 : decode cX6_copy 61 = .ok (.ireturn, 1) := by decide +kernel
theorem dX6_copy_62 : decode cX6_copy 62 = .ok (.iload 5, 2) := by decide +kernel
theorem dX6_copy_64 : decode cX6_copy 64 = .ok (.ifCond .lt 44, 3) := by decide +kernel
theorem dX6_copy_67 : decode cX6_copy 67 = .ok (.iload_n 2, 1) := by decide +kernel
theorem dX6_copy_68 : decode cX6_copy 68 = .ok (.i2l, 1) := by decide +kernel
theorem dX6_copy_69 : decode cX6_copy 69 = .ok (.lconst 0, 1) := by decide +kernel
theorem dX6_copy_70 : decode cX6_copy 70 = .ok (.aload_n 0, 1) := by decide +kernel
theorem dX6_copy_71 : decode cX6_copy 71 = .ok (.getfield 13, 3) := by decide +kernel
theorem dX6_copy_74 : decode cX6_copy 74 = .ok (.iload_n 1, 1) := by decide +kernel
theorem dX6_copy_75 : decode cX6_copy 75 = .ok (.iaload, 1) := by decide +kernel
theorem dX6_copy_76 : decode cX6_copy 76 = .ok (.i2l, 1) := by decide +kernel
theorem dX6_copy_77 : decode cX6_copy 77 = .ok (.iload 5, 2) := by decide +kernel
theorem dX6_copy_79 : decode cX6_copy 79 = .ok (.i2l, 1) := by decide +kernel
theorem dX6_copy_80 : decode cX6_copy 80 = .ok (.lsub, 1) := by decide +kernel
theorem dX6_copy_81 : decode cX6_copy 81 = .ok (.invokestatic 57, 3) := by decide +kernel
theorem dX6_copy_84 : decode cX6_copy 84 = .ok (.ifCond .eq 24, 3) := by decide +kernel
theorem dX6_copy_87 : decode cX6_copy 87 = .ok (.iload 4, 2) := by decide +kernel
theorem dX6_copy_89 : decode cX6_copy 89 = .ok (.i2l, 1) := by decide +kernel
theorem dX6_copy_90 : decode cX6_copy 90 = .ok (.lconst 0, 1) := by decide +kernel
theorem dX6_copy_91 : decode cX6_copy 91 = .ok (.aload_n 0, 1) := by decide +kernel
theorem dX6_copy_92 : decode cX6_copy 92 = .ok (.getfield 13, 3) := by decide +kernel
theorem dX6_copy_95 : decode cX6_copy 95 = .ok (.iload_n 3, 1) := by decide +kernel
theorem dX6_copy_96 : decode cX6_copy 96 = .ok (.iaload, 1) := by decide +kernel
theorem dX6_copy_97 : decode cX6_copy 97 = .ok (.i2l, 1) := by decide +kernel
theorem dX6_copy_98 : decode cX6_copy 98 = .ok (.iload 5, 2) := by decide +kernel
theorem dX6_copy_100 : decode cX6_copy 100 = .ok (.i2l, 1) := by decide +kernel
theorem dX6_copy_101 : decode cX6_copy 101 = .ok (.lsub, 1) := by decide +kernel
theorem dX6_copy_102 : decode cX6_copy 102 = .ok (.invokestatic 57, 3) := by decide +kernel
theorem dX6_copy_105 : decode cX6_copy 105 = .ok (.ifCond .ne 9, 3) := by decide +kernel
theorem dX6_copy_108 : decode cX6_copy 108 = .ok (.aload_n 0, 1) := by decide +kernel
theorem dX6_copy_109 : decode cX6_copy 109 = .ok (.iconst 2, 1) := by decide +kernel
theorem dX6_copy_110 : decode cX6_copy 110 = .ok (.invokevirtual 68, 3) := by decide +kernel
theorem dX6_copy_113 : decode cX6_copy 113 = .ok (.ireturn, 1) := by decide +kernel
theorem dX6_copy_114 : decode cX6_copy 114 = .ok (.iconst 0, 1) := by decide +kernel
theorem dX6_copy_115 : decode cX6_copy 115 = .ok (.istore 6, 2) := by decide +kernel
theorem dX6_copy_117 : decode cX6_copy 117 = .ok (.iload 6, 2) := by decide +kernel
theorem dX6_copy_119 : decode cX6_copy 119 = .ok (.iload 5, 2) := by decide +kernel
theorem dX6_copy_121 : decode cX6_copy 121 = .ok (.if_icmp .ge 30, 3) := by decide +kernel
theorem dX6_copy_124 : decode cX6_copy 124 = .ok (.aload_n 0, 1) := by decide +kernel
theorem dX6_copy_125 : decode cX6_copy 125 = .ok (.getfield 22, 3) := by decide +kernel
theorem dX6_copy_128 : decode cX6_copy 128 = .ok (.iload 6, 2) := by decide +kernel
theorem dX6_copy_130 : decode cX6_copy 130 = .ok (.aload_n 0, 1) := by decide +kernel
theorem dX6_copy_131 : decode cX6_copy 131 = .ok (.getfield 16, 3) := by decide +kernel
theorem dX6_copy_134 : decode cX6_copy 134 = .ok (.bipush 40, 2) := by decide +kernel
theorem dX6_copy_136 : decode cX6_copy 136 = .ok (.iload_n 1, 1) := by decide +kernel
theorem dX6_copy_137 : decode cX6_copy 137 = .ok (.imul, 1) := by decide +kernel
theorem dX6_copy_138 : decode cX6_copy 138 = .ok (.iload_n 2, 1) := by decide +kernel
theorem dX6_copy_139 : decode cX6_copy 139 = .ok (.iadd, 1) := by decide +kernel
theorem dX6_copy_140 : decode cX6_copy 140 = .ok (.iload 6, 2) := by decide +kernel
theorem dX6_copy_142 : decode cX6_copy 142 = .ok (.iadd, 1) := by decide +kernel
theorem dX6_copy_143 : decode cX6_copy 143 = .ok (.iaload, 1) := by decide +kernel
theorem dX6_copy_144 : decode cX6_copy 144 = .ok (.iastore, 1) := by decide +kernel
theorem dX6_copy_145 : decode cX6_copy 145 = .ok (.iinc 6 1, 3) := by decide +kernel
theorem dX6_copy_148 : decode cX6_copy 148 = .ok (.goto (-31), 3) := by decide +kernel
theorem dX6_copy_151 : decode cX6_copy 151 = .ok (.iconst 0, 1) := by decide +kernel
theorem dX6_copy_152 : decode cX6_copy 152 = .ok (.istore 6, 2) := by decide +kernel
theorem dX6_copy_154 : decode cX6_copy 154 = .ok (.iload 6, 2) := by decide +kernel
theorem dX6_copy_156 : decode cX6_copy 156 = .ok (.iload 5, 2) := by decide +kernel
theorem dX6_copy_158 : decode cX6_copy 158 = .ok (.if_icmp .ge 31, 3) := by decide +kernel
theorem dX6_copy_161 : decode cX6_copy 161 = .ok (.aload_n 0, 1) := by decide +kernel
theorem dX6_copy_162 : decode cX6_copy 162 = .ok (.getfield 16, 3) := by decide +kernel
theorem dX6_copy_165 : decode cX6_copy 165 = .ok (.bipush 40, 2) := by decide +kernel
theorem dX6_copy_167 : decode cX6_copy 167 = .ok (.iload_n 3, 1) := by decide +kernel
theorem dX6_copy_168 : decode cX6_copy 168 = .ok (.imul, 1) := by decide +kernel
theorem dX6_copy_169 : decode cX6_copy 169 = .ok (.iload 4, 2) := by decide +kernel
theorem dX6_copy_171 : decode cX6_copy 171 = .ok (.iadd, 1) := by decide +kernel
theorem dX6_copy_172 : decode cX6_copy 172 = .ok (.iload 6, 2) := by decide +kernel
theorem dX6_copy_174 : decode cX6_copy 174 = .ok (.iadd, 1) := by decide +kernel
theorem dX6_copy_175 : decode cX6_copy 175 = .ok (.aload_n 0, 1) := by decide +kernel
theorem dX6_copy_176 : decode cX6_copy 176 = .ok (.getfield 22, 3) := by decide +kernel
theorem dX6_copy_179 : decode cX6_copy 179 = .ok (.iload 6, 2) := by decide +kernel
theorem dX6_copy_181 : decode cX6_copy 181 = .ok (.iaload, 1) := by decide +kernel
theorem dX6_copy_182 : decode cX6_copy 182 = .ok (.iastore, 1) := by decide +kernel
theorem dX6_copy_183 : decode cX6_copy 183 = .ok (.iinc 6 1, 3) := by decide +kernel
theorem dX6_copy_186 : decode cX6_copy 186 = .ok (.goto (-32), 3) := by decide +kernel
theorem dX6_copy_189 : decode cX6_copy 189 = .ok (.aload_n 0, 1) := by decide +kernel
theorem dX6_copy_190 : decode cX6_copy 190 = .ok (.iload 5, 2) := by decide +kernel
theorem dX6_copy_192 : decode cX6_copy 192 = .ok (.invokevirtual 72, 3) := by decide +kernel
theorem dX6_copy_195 : decode cX6_copy 195 = .ok (.ireturn, 1) := by decide +kernel
theorem dX6_drop_0 : decode cX6_drop 0 = .ok (.iload_n 1, 1) := by decide +kernel
theorem dX6_drop_1 : decode cX6_drop 1 = .ok (.invokestatic 61, 3) := by decide +kernel
theorem dX6_drop_4 : decode cX6_drop 4 = .ok (.ifCond .ne 6, 3) := by decide +kernel
theorem dX6_drop_7 : decode cX6_drop 7 = .ok (.ldc 67, 2) := by decide +kernel
theorem dX6_drop_9 : decode cX6_drop 9 = .ok (.ireturn, 1) := by decide +kernel
theorem dX6_drop_10 : decode cX6_drop 10 = .ok (.aload_n 0, 1) := by decide +kernel
theorem dX6_drop_11 : decode cX6_drop 11 = .ok (.getfield 13, 3) := by decide +kernel
theorem dX6_drop_14 : decode cX6_drop 14 = .ok (.iload_n 1, 1) := by decide +kernel
theorem dX6_drop_15 : decode cX6_drop 15 = .ok (.iaload, 1) := by decide +kernel
theorem dX6_drop_16 : decode cX6_drop 16 = .ok (.ifCond .ge 9, 3) := by decide +kernel
theorem dX6_drop_19 : decode cX6_drop 19 = .ok (.aload_n 0, 1) := by decide +kernel
theorem dX6_drop_20 : decode cX6_drop 20 = .ok (.iconst 1, 1) := by decide +kernel
theorem dX6_drop_21 : decode cX6_drop 21 = .ok (.invokevirtual 68, 3) := by decide +kernel
theorem dX6_drop_24 : decode cX6_drop 24 = .ok (.ireturn, 1) := by decide +kernel
theorem dX6_drop_25 : decode cX6_drop 25 = .ok (.aload_n 0, 1) := by decide +kernel
theorem dX6_drop_26 : decode cX6_drop 26 = .ok (.getfield 13, 3) := by decide +kernel
theorem dX6_drop_29 : decode cX6_drop 29 = .ok (.iload_n 1, 1) := by decide +kernel
theorem dX6_drop_30 : decode cX6_drop 30 = .ok (.iaload, 1) := by decide +kernel
theorem dX6_drop_31 : decode cX6_drop 31 = .ok (.istore_n 2, 1) := by decide +kernel
theorem dX6_drop_32 : decode cX6_drop 32 = .ok (.aload_n 0, 1) := by decide +kernel
theorem dX6_drop_33 : decode cX6_drop 33 = .ok (.getfield 13, 3) := by decide +kernel
theorem dX6_drop_36 : decode cX6_drop 36 = .ok (.iload_n 1, 1) := by decide +kernel
theorem dX6_drop_37 : decode cX6_drop 37 = .ok (.iconst (-1), 1) := by decide +kernel
theorem dX6_drop_38 : decode cX6_drop 38 = .ok (.iastore, 1) := by decide +kernel
theorem dX6_drop_39 : decode cX6_drop 39 = .ok (.aload_n 0, 1) := by decide +kernel
theorem dX6_drop_40 : decode cX6_drop 40 = .ok (.iload_n 2, 1) := by decide +kernel
theorem dX6_drop_41 : decode cX6_drop 41 = .ok (.invokevirtual 72, 3) := by decide +kernel
theorem dX6_drop_44 : decode cX6_drop 44 = .ok (.ireturn, 1) := by decide +kernel
theorem dX6_feed_0 : decode cX6_feed 0 = .ok (.iload_n 1, 1) := by decide +kernel
theorem dX6_feed_1 : decode cX6_feed 1 = .ok (.i2l, 1) := by decide +kernel
theorem dX6_feed_2 : decode cX6_feed 2 = .ok (.lconst 0, 1) := by decide +kernel
theorem dX6_feed_3 : decode cX6_feed 3 = .ok (.ldc2_w 79, 3) := by decide +kernel
theorem dX6_feed_6 : decode cX6_feed 6 = .ok (.invokestatic 57, 3) := by decide +kernel
theorem dX6_feed_9 : decode cX6_feed 9 = .ok (.ifCond .ne 6, 3) := by decide +kernel
theorem dX6_feed_12 : decode cX6_feed 12 = .ok (.ldc 67, 2) := by decide +kernel
theorem dX6_feed_14 : decode cX6_feed 14 = .ok (.ireturn, 1) := by decide +kernel
theorem dX6_feed_15 : decode cX6_feed 15 = .ok (.aload_n 0, 1) := by decide +kernel
theorem dX6_feed_16 : decode cX6_feed 16 = .ok (.getfield 81, 3) := by decide +kernel
theorem dX6_feed_19 : decode cX6_feed 19 = .ok (.bipush 120, 2) := by decide +kernel
theorem dX6_feed_21 : decode cX6_feed 21 = .ok (.if_icmp .ne 6, 3) := by decide +kernel
theorem dX6_feed_24 : decode cX6_feed 24 = .ok (.ldc 84, 2) := by decide +kernel
theorem dX6_feed_26 : decode cX6_feed 26 = .ok (.ireturn, 1) := by decide +kernel
theorem dX6_feed_27 : decode cX6_feed 27 = .ok (.aload_n 0, 1) := by decide +kernel
theorem dX6_feed_28 : decode cX6_feed 28 = .ok (.getfield 25, 3) := by decide +kernel
theorem dX6_feed_31 : decode cX6_feed 31 = .ok (.aload_n 0, 1) := by decide +kernel
theorem dX6_feed_32 : decode cX6_feed 32 = .ok (.getfield 81, 3) := by decide +kernel
theorem dX6_feed_35 : decode cX6_feed 35 = .ok (.iload_n 1, 1) := by decide +kernel
theorem dX6_feed_36 : decode cX6_feed 36 = .ok (.iastore, 1) := by decide +kernel
theorem dX6_feed_37 : decode cX6_feed 37 = .ok (.aload_n 0, 1) := by decide +kernel
theorem dX6_feed_38 : decode cX6_feed 38 = .ok (.dup, 1) := by decide +kernel
theorem dX6_feed_39 : decode cX6_feed 39 = .ok (.getfield 81, 3) := by decide +kernel
theorem dX6_feed_42 : decode cX6_feed 42 = .ok (.iconst 1, 1) := by decide +kernel
theorem dX6_feed_43 : decode cX6_feed 43 = .ok (.iadd, 1) := by decide +kernel
theorem dX6_feed_44 : decode cX6_feed 44 = .ok (.putfield 81, 3) := by decide +kernel
theorem dX6_feed_47 : decode cX6_feed 47 = .ok (.aload_n 0, 1) := by decide +kernel
theorem dX6_feed_48 : decode cX6_feed 48 = .ok (.getfield 81, 3) := by decide +kernel
theorem dX6_feed_51 : decode cX6_feed 51 = .ok (.ireturn, 1) := by decide +kernel
theorem dX6_nextToken_0 : decode cX6_nextToken 0 = .ok (.aload_n 0, 1) := by decide +kernel
theorem dX6_nextToken_1 : decode cX6_nextToken 1 = .ok (.aload_n 0, 1) := by decide +kernel
theorem dX6_nextToken_2 : decode cX6_nextToken 2 = .ok (.getfield 85, 3) := by decide +kernel
theorem dX6_nextToken_5 : decode cX6_nextToken 5 = .ok (.putfield 88, 3) := by decide +kernel
theorem dX6_nextToken_8 : decode cX6_nextToken 8 = .ok (.aload_n 0, 1) := by decide +kernel
theorem dX6_nextToken_9 : decode cX6_nextToken 9 = .ok (.aload_n 0, 1) := by decide +kernel
theorem dX6_nextToken_10 : decode cX6_nextToken 10 = .ok (.getfield 85, 3) := by decide +kernel
theorem dX6_nextToken_13 : decode cX6_nextToken 13 = .ok (.aload_n 0, 1) := by decide +kernel
theorem dX6_nextToken_14 : decode cX6_nextToken 14 = .ok (.getfield 81, 3) := by decide +kernel
theorem dX6_nextToken_17 : decode cX6_nextToken 17 = .ok (.if_icmp .ne 7, 3) := by decide +kernel
theorem dX6_nextToken_20 : decode cX6_nextToken 20 = .ok (.iconst 3, 1) := by decide +kernel
theorem dX6_nextToken_21 : decode cX6_nextToken 21 = .ok (.goto 4, 3) := by decide +kernel
theorem dX6_nextToken_24 : decode cX6_nextToken 24 = .ok (.iconst 0, 1) := by decide +kernel
theorem dX6_nextToken_25 : decode cX6_nextToken 25 = .ok (.putfield 91, 3) := by decide +kernel
theorem dX6_nextToken_28 : decode cX6_nextToken 28 = .ok (.aload_n 0, 1) := by decide +kernel
theorem dX6_nextToken_29 : decode cX6_nextToken 29 = .ok (.iconst 0, 1) := by decide +kernel
theorem dX6_nextToken_30 : decode cX6_nextToken 30 = .ok (.putfield 94, 3) := by decide +kernel
theorem dX6_nextToken_33 : decode cX6_nextToken 33 = .ok (.aload_n 0, 1) := by decide +kernel
theorem dX6_nextToken_34 : decode cX6_nextToken 34 = .ok (.getfield 85, 3) := by decide +kernel
theorem dX6_nextToken_37 : decode cX6_nextToken 37 = .ok (.aload_n 0, 1) := by decide +kernel
theorem dX6_nextToken_38 : decode cX6_nextToken 38 = .ok (.getfield 81, 3) := by decide +kernel
theorem dX6_nextToken_41 : decode cX6_nextToken 41 = .ok (.if_icmp .ge 78, 3) := by decide +kernel
theorem dX6_nextToken_44 : decode cX6_nextToken 44 = .ok (.aload_n 0, 1) := by decide +kernel
theorem dX6_nextToken_45 : decode cX6_nextToken 45 = .ok (.getfield 25, 3) := by decide +kernel
theorem dX6_nextToken_48 : decode cX6_nextToken 48 = .ok (.aload_n 0, 1) := by decide +kernel
theorem dX6_nextToken_49 : decode cX6_nextToken 49 = .ok (.getfield 85, 3) := by decide +kernel
theorem dX6_nextToken_52 : decode cX6_nextToken 52 = .ok (.iaload, 1) := by decide +kernel
theorem dX6_nextToken_53 : decode cX6_nextToken 53 = .ok (.i2l, 1) := by decide +kernel
theorem dX6_nextToken_54 : decode cX6_nextToken 54 = .ok (.ldc2_w 97, 3) := by decide +kernel
theorem dX6_nextToken_57 : decode cX6_nextToken 57 = .ok (.ldc2_w 99, 3) := by decide +kernel
theorem dX6_nextToken_60 : decode cX6_nextToken 60 = .ok (.invokestatic 57, 3) := by decide +kernel
theorem dX6_nextToken_63 : decode cX6_nextToken 63 = .ok (.ifCond .eq 56, 3) := by decide +kernel
theorem dX6_nextToken_66 : decode cX6_nextToken 66 = .ok (.aload_n 0, 1) := by decide +kernel
theorem dX6_nextToken_67 : decode cX6_nextToken 67 = .ok (.aload_n 0, 1) := by decide +kernel
theorem dX6_nextToken_68 : decode cX6_nextToken 68 = .ok (.getfield 94, 3) := by decide +kernel
theorem dX6_nextToken_71 : decode cX6_nextToken 71 = .ok (.bipush 99, 2) := by decide +kernel
theorem dX6_nextToken_73 : decode cX6_nextToken 73 = .ok (.if_icmp .le 10, 3) := by decide +kernel
theorem dX6_nextToken_76 : decode cX6_nextToken 76 = .ok (.aload_n 0, 1) := by decide +kernel
theorem dX6_nextToken_77 : decode cX6_nextToken 77 = .ok (.getfield 94, 3) := by decide +kernel
theorem dX6_nextToken_80 : decode cX6_nextToken 80 = .ok (.goto 23, 3) := by decide +kernel
theorem dX6_nextToken_83 : decode cX6_nextToken 83 = .ok (.bipush 10, 2) := by decide +kernel
theorem dX6_nextToken_85 : decode cX6_nextToken 85 = .ok (.aload_n 0, 1) := by decide +kernel
theorem dX6_nextToken_86 : decode cX6_nextToken 86 = .ok (.getfield 94, 3) := by decide +kernel
theorem dX6_nextToken_89 : decode cX6_nextToken 89 = .ok (.imul, 1) := by decide +kernel
theorem dX6_nextToken_90 : decode cX6_nextToken 90 = .ok (.aload_n 0, 1) := by decide +kernel
theorem dX6_nextToken_91 : decode cX6_nextToken 91 = .ok (.getfield 25, 3) := by decide +kernel
theorem dX6_nextToken_94 : decode cX6_nextToken 94 = .ok (.aload_n 0, 1) := by decide +kernel
theorem dX6_nextToken_95 : decode cX6_nextToken 95 = .ok (.getfield 85, 3) := by decide +kernel
theorem dX6_nextToken_98 : decode cX6_nextToken 98 = .ok (.iaload, 1) := by decide +kernel
theorem dX6_nextToken_99 : decode cX6_nextToken 99 = .ok (.iadd, 1) := by decide +kernel
theorem dX6_nextToken_100 : decode cX6_nextToken 100 = .ok (.bipush 48, 2) := by decide +kernel
theorem dX6_nextToken_102 : decode cX6_nextToken 102 = .ok (.isub, 1) := by decide +kernel
theorem dX6_nextToken_103 : decode cX6_nextToken 103 = .ok (.putfield 94, 3) := by decide +kernel
theorem dX6_nextToken_106 : decode cX6_nextToken 106 = .ok (.aload_n 0, 1) := by decide +kernel
theorem dX6_nextToken_107 : decode cX6_nextToken 107 = .ok (.dup, 1) := by decide +kernel
theorem dX6_nextToken_108 : decode cX6_nextToken 108 = .ok (.getfield 85, 3) := by decide +kernel
theorem dX6_nextToken_111 : decode cX6_nextToken 111 = .ok (.iconst 1, 1) := by decide +kernel
theorem dX6_nextToken_112 : decode cX6_nextToken 112 = .ok (.iadd, 1) := by decide +kernel
theorem dX6_nextToken_113 : decode cX6_nextToken 113 = .ok (.putfield 85, 3) := by decide +kernel
theorem dX6_nextToken_116 : decode cX6_nextToken 116 = .ok (.goto (-83), 3) := by decide +kernel
theorem dX6_nextToken_119 : decode cX6_nextToken 119 = .ok (.aload_n 0, 1) := by decide +kernel
theorem dX6_nextToken_120 : decode cX6_nextToken 120 = .ok (.getfield 85, 3) := by decide +kernel
theorem dX6_nextToken_123 : decode cX6_nextToken 123 = .ok (.aload_n 0, 1) := by decide +kernel
theorem dX6_nextToken_124 : decode cX6_nextToken 124 = .ok (.getfield 88, 3) := by decide +kernel
theorem dX6_nextToken_127 : decode cX6_nextToken 127 = .ok (.if_icmp .le 28, 3) := by decide +kernel
theorem dX6_nextToken_130 : decode cX6_nextToken 130 = .ok (.aload_n 0, 1) := by decide +kernel
theorem dX6_nextToken_131 : decode cX6_nextToken 131 = .ok (.aload_n 0, 1) := by decide +kernel
theorem dX6_nextToken_132 : decode cX6_nextToken 132 = .ok (.getfield 85, 3) := by decide +kernel
theorem dX6_nextToken_135 : decode cX6_nextToken 135 = .ok (.aload_n 0, 1) := by decide +kernel
theorem dX6_nextToken_136 : decode cX6_nextToken 136 = .ok (.getfield 88, 3) := by decide +kernel
theorem dX6_nextToken_139 : decode cX6_nextToken 139 = .ok (.isub, 1) := by decide +kernel
theorem dX6_nextToken_140 : decode cX6_nextToken 140 = .ok (.iconst 2, 1) := by decide +kernel
theorem dX6_nextToken_141 : decode cX6_nextToken 141 = .ok (.if_icmp .le 7, 3) := by decide +kernel
theorem dX6_nextToken_144 : decode cX6_nextToken 144 = .ok (.iconst 0, 1) := by decide +kernel
theorem dX6_nextToken_145 : decode cX6_nextToken 145 = .ok (.goto 4, 3) := by decide +kernel
theorem dX6_nextToken_148 : decode cX6_nextToken 148 = .ok (.iconst 2, 1) := by decide +kernel
theorem dX6_nextToken_149 : decode cX6_nextToken 149 = .ok (.putfield 91, 3) := by decide +kernel
theorem dX6_nextToken_152 : decode cX6_nextToken 152 = .ok (.goto 77, 3) := by decide +kernel
theorem dX6_nextToken_155 : decode cX6_nextToken 155 = .ok (.aload_n 0, 1) := by decide +kernel
theorem dX6_nextToken_156 : decode cX6_nextToken 156 = .ok (.getfield 91, 3) := by decide +kernel
theorem dX6_nextToken_159 : decode cX6_nextToken 159 = .ok (.ifCond .ne 70, 3) := by decide +kernel
theorem dX6_nextToken_162 : decode cX6_nextToken 162 = .ok (.aload_n 0, 1) := by decide +kernel
theorem dX6_nextToken_163 : decode cX6_nextToken 163 = .ok (.aload_n 0, 1) := by decide +kernel
theorem dX6_nextToken_164 : decode cX6_nextToken 164 = .ok (.getfield 25, 3) := by decide +kernel
theorem dX6_nextToken_167 : decode cX6_nextToken 167 = .ok (.aload_n 0, 1) := by decide +kernel
theorem dX6_nextToken_168 : decode cX6_nextToken 168 = .ok (.getfield 85, 3) := by decide +kernel
theorem dX6_nextToken_171 : decode cX6_nextToken 171 = .ok (.iaload, 1) := by decide +kernel
theorem dX6_nextToken_172 : decode cX6_nextToken 172 = .ok (.putfield 94, 3) := by decide +kernel
theorem dX6_nextToken_175 : decode cX6_nextToken 175 = .ok (.aload_n 0, 1) := by decide +kernel
theorem dX6_nextToken_176 : decode cX6_nextToken 176 = .ok (.aload_n 0, 1) := by decide +kernel
theorem dX6_nextToken_177 : decode cX6_nextToken 177 = .ok (.getfield 94, 3) := by decide +kernel
theorem dX6_nextToken_180 : decode cX6_nextToken 180 = .ok (.i2l, 1) := by decide +kernel
theorem dX6_nextToken_181 : decode cX6_nextToken 181 = .ok (.ldc2_w 101, 3) := by decide +kernel
theorem dX6_nextToken_184 : decode cX6_nextToken 184 = .ok (.ldc2_w 103, 3) := by decide +kernel
theorem dX6_nextToken_187 : decode cX6_nextToken 187 = .ok (.invokestatic 57, 3) := by decide +kernel
theorem dX6_nextToken_190 : decode cX6_nextToken 190 = .ok (.ifCond .ne 21, 3) := by decide +kernel
theorem dX6_nextToken_193 : decode cX6_nextToken 193 = .ok (.aload_n 0, 1) := by decide +kernel
theorem dX6_nextToken_194 : decode cX6_nextToken 194 = .ok (.getfield 94, 3) := by decide +kernel
theorem dX6_nextToken_197 : decode cX6_nextToken 197 = .ok (.bipush 44, 2) := by decide +kernel
theorem dX6_nextToken_199 : decode cX6_nextToken 199 = .ok (.if_icmp .eq 12, 3) := by decide +kernel
theorem dX6_nextToken_202 : decode cX6_nextToken 202 = .ok (.aload_n 0, 1) := by decide +kernel
theorem dX6_nextToken_203 : decode cX6_nextToken 203 = .ok (.getfield 94, 3) := by decide +kernel
theorem dX6_nextToken_206 : decode cX6_nextToken 206 = .ok (.bipush 59, 2) := by decide +kernel
theorem dX6_nextToken_208 : decode cX6_nextToken 208 = .ok (.if_icmp .ne 7, 3) := by decide +kernel
theorem dX6_nextToken_211 : decode cX6_nextToken 211 = .ok (.iconst 1, 1) := by decide +kernel
theorem dX6_nextToken_212 : decode cX6_nextToken 212 = .ok (.goto 4, 3) := by decide +kernel
theorem dX6_nextToken_215 : decode cX6_nextToken 215 = .ok (.iconst 0, 1) := by decide +kernel
theorem dX6_nextToken_216 : decode cX6_nextToken 216 = .ok (.putfield 91, 3) := by decide +kernel
theorem dX6_nextToken_219 : decode cX6_nextToken 219 = .ok (.aload_n 0, 1) := by decide +kernel
theorem dX6_nextToken_220 : decode cX6_nextToken 220 = .ok (.dup, 1) := by decide +kernel
theorem dX6_nextToken_221 : decode cX6_nextToken 221 = .ok (.getfield 85, 3) := by decide +kernel
theorem dX6_nextToken_224 : decode cX6_nextToken 224 = .ok (.iconst 1, 1) := by decide +kernel
theorem dX6_nextToken_225 : decode cX6_nextToken 225 = .ok (.iadd, 1) := by decide +kernel
theorem dX6_nextToken_226 : decode cX6_nextToken 226 = .ok (.putfield 85, 3) := by decide +kernel
theorem dX6_nextToken_229 : decode cX6_nextToken 229 = .ok (.return_, 1) := by decide +kernel
theorem dX6_faults_0 : decode cX6_faults 0 = .ok (.aload_n 0, 1) := by decide +kernel
theorem dX6_faults_1 : decode cX6_faults 1 = .ok (.iload_n 1, 1) := by decide +kernel
theorem dX6_faults_2 : decode cX6_faults 2 = .ok (.putfield 105, 3) := by decide +kernel
theorem dX6_faults_5 : decode cX6_faults 5 = .ok (.iconst 0, 1) := by decide +kernel
theorem dX6_faults_6 : decode cX6_faults 6 = .ok (.ireturn, 1) := by decide +kernel
theorem dX6_isLetter_0 : decode cX6_isLetter 0 = .ok (.aload_n 0, 1) := by decide +kernel
theorem dX6_isLetter_1 : decode cX6_isLetter 1 = .ok (.getfield 91, 3) := by decide +kernel
theorem dX6_isLetter_4 : decode cX6_isLetter 4 = .ok (.iconst 1, 1) := by decide +kernel
theorem dX6_isLetter_5 : decode cX6_isLetter 5 = .ok (.if_icmp .ne 15, 3) := by decide +kernel
theorem dX6_isLetter_8 : decode cX6_isLetter 8 = .ok (.aload_n 0, 1) := by decide +kernel
theorem dX6_isLetter_9 : decode cX6_isLetter 9 = .ok (.getfield 94, 3) := by decide +kernel
theorem dX6_isLetter_12 : decode cX6_isLetter 12 = .ok (.iload_n 1, 1) := by decide +kernel
theorem dX6_isLetter_13 : decode cX6_isLetter 13 = .ok (.if_icmp .ne 7, 3) := by decide +kernel
theorem dX6_isLetter_16 : decode cX6_isLetter 16 = .ok (.iconst 1, 1) := by decide +kernel
theorem dX6_isLetter_17 : decode cX6_isLetter 17 = .ok (.goto 4, 3) := by decide +kernel
theorem dX6_isLetter_20 : decode cX6_isLetter 20 = .ok (.iconst 0, 1) := by decide +kernel
theorem dX6_isLetter_21 : decode cX6_isLetter 21 = .ok (.ireturn, 1) := by decide +kernel
theorem dX6_takes_0 : decode cX6_takes 0 = .ok (.aload_n 0, 1) := by decide +kernel
theorem dX6_takes_1 : decode cX6_takes 1 = .ok (.iload_n 1, 1) := by decide +kernel
theorem dX6_takes_2 : decode cX6_takes 2 = .ok (.invokevirtual 108, 3) := by decide +kernel
theorem dX6_takes_5 : decode cX6_takes 5 = .ok (.ifCond .ne 9, 3) := by decide +kernel
theorem dX6_takes_8 : decode cX6_takes 8 = .ok (.aload_n 0, 1) := by decide +kernel
theorem dX6_takes_9 : decode cX6_takes 9 = .ok (.iconst 1, 1) := by decide +kernel
theorem dX6_takes_10 : decode cX6_takes 10 = .ok (.invokevirtual 111, 3) := by decide +kernel
theorem dX6_takes_13 : decode cX6_takes 13 = .ok (.ireturn, 1) := by decide +kernel
theorem dX6_takes_14 : decode cX6_takes 14 = .ok (.aload_n 0, 1) := by decide +kernel
theorem dX6_takes_15 : decode cX6_takes 15 = .ok (.invokevirtual 114, 3) := by decide +kernel
theorem dX6_takes_18 : decode cX6_takes 18 = .ok (.iconst 1, 1) := by decide +kernel
theorem dX6_takes_19 : decode cX6_takes 19 = .ok (.ireturn, 1) := by decide +kernel
theorem dX6_takesNumber_0 : decode cX6_takesNumber 0 = .ok (.aload_n 0, 1) := by decide +kernel
theorem dX6_takesNumber_1 : decode cX6_takesNumber 1 = .ok (.getfield 91, 3) := by decide +kernel
theorem dX6_takesNumber_4 : decode cX6_takesNumber 4 = .ok (.iconst 2, 1) := by decide +kernel
theorem dX6_takesNumber_5 : decode cX6_takesNumber 5 = .ok (.if_icmp .ne 18, 3) := by decide +kernel
theorem dX6_takesNumber_8 : decode cX6_takesNumber 8 = .ok (.aload_n 0, 1) := by decide +kernel
theorem dX6_takesNumber_9 : decode cX6_takesNumber 9 = .ok (.getfield 94, 3) := by decide +kernel
theorem dX6_takesNumber_12 : decode cX6_takesNumber 12 = .ok (.i2l, 1) := by decide +kernel
theorem dX6_takesNumber_13 : decode cX6_takesNumber 13 = .ok (.iload_n 1, 1) := by decide +kernel
theorem dX6_takesNumber_14 : decode cX6_takesNumber 14 = .ok (.i2l, 1) := by decide +kernel
theorem dX6_takesNumber_15 : decode cX6_takesNumber 15 = .ok (.iload_n 2, 1) := by decide +kernel
theorem dX6_takesNumber_16 : decode cX6_takesNumber 16 = .ok (.i2l, 1) := by decide +kernel
theorem dX6_takesNumber_17 : decode cX6_takesNumber 17 = .ok (.invokestatic 57, 3) := by decide +kernel
theorem dX6_takesNumber_20 : decode cX6_takesNumber 20 = .ok (.ifCond .ne 21, 3) := by decide +kernel
theorem dX6_takesNumber_23 : decode cX6_takesNumber 23 = .ok (.aload_n 0, 1) := by decide +kernel
theorem dX6_takesNumber_24 : decode cX6_takesNumber 24 = .ok (.aload_n 0, 1) := by decide +kernel
theorem dX6_takesNumber_25 : decode cX6_takesNumber 25 = .ok (.getfield 91, 3) := by decide +kernel
theorem dX6_takesNumber_28 : decode cX6_takesNumber 28 = .ok (.iconst 2, 1) := by decide +kernel
theorem dX6_takesNumber_29 : decode cX6_takesNumber 29 = .ok (.if_icmp .ne 7, 3) := by decide +kernel
theorem dX6_takesNumber_32 : decode cX6_takesNumber 32 = .ok (.iconst 2, 1) := by decide +kernel
theorem dX6_takesNumber_33 : decode cX6_takesNumber 33 = .ok (.goto 4, 3) := by decide +kernel
theorem dX6_takesNumber_36 : decode cX6_takesNumber 36 = .ok (.iconst 1, 1) := by decide +kernel
theorem dX6_takesNumber_37 : decode cX6_takesNumber 37 = .ok (.invokevirtual 111, 3) := by decide +kernel
theorem dX6_takesNumber_40 : decode cX6_takesNumber 40 = .ok (.ireturn, 1) := by decide +kernel
theorem dX6_takesNumber_41 : decode cX6_takesNumber 41 = .ok (.aload_n 0, 1) := by decide +kernel
theorem dX6_takesNumber_42 : decode cX6_takesNumber 42 = .ok (.getfield 28, 3) := by decide +kernel
theorem dX6_takesNumber_45 : decode cX6_takesNumber 45 = .ok (.iload_n 3, 1) := by decide +kernel
theorem dX6_takesNumber_46 : decode cX6_takesNumber 46 = .ok (.aload_n 0, 1) := by decide +kernel
theorem dX6_takesNumber_47 : decode cX6_takesNumber 47 = .ok (.getfield 94, 3) := by decide +kernel
theorem dX6_takesNumber_50 : decode cX6_takesNumber 50 = .ok (.iastore, 1) := by decide +kernel
theorem dX6_takesNumber_51 : decode cX6_takesNumber 51 = .ok (.aload_n 0, 1) := by decide +kernel
theorem dX6_takesNumber_52 : decode cX6_takesNumber 52 = .ok (.invokevirtual 114, 3) := by decide +kernel
theorem dX6_takesNumber_55 : decode cX6_takesNumber 55 = .ok (.aload_n 0, 1) := by decide +kernel
theorem dX6_takesNumber_56 : decode cX6_takesNumber 56 = .ok (.iload 4, 2) := by decide +kernel
theorem dX6_takesNumber_58 : decode cX6_takesNumber 58 = .ok (.invokevirtual 117, 3) := by decide +kernel
theorem dX6_takesNumber_61 : decode cX6_takesNumber 61 = .ok (.ireturn, 1) := by decide +kernel
theorem dX6_readChair_0 : decode cX6_readChair 0 = .ok (.aload_n 0, 1) := by decide +kernel
theorem dX6_readChair_1 : decode cX6_readChair 1 = .ok (.bipush 112, 2) := by decide +kernel
theorem dX6_readChair_3 : decode cX6_readChair 3 = .ok (.invokevirtual 108, 3) := by decide +kernel
theorem dX6_readChair_6 : decode cX6_readChair 6 = .ok (.ifCond .eq 7, 3) := by decide +kernel
theorem dX6_readChair_9 : decode cX6_readChair 9 = .ok (.iconst 1, 1) := by decide +kernel
theorem dX6_readChair_10 : decode cX6_readChair 10 = .ok (.goto 56, 3) := by decide +kernel
theorem dX6_readChair_13 : decode cX6_readChair 13 = .ok (.aload_n 0, 1) := by decide +kernel
theorem dX6_readChair_14 : decode cX6_readChair 14 = .ok (.bipush 114, 2) := by decide +kernel
theorem dX6_readChair_16 : decode cX6_readChair 16 = .ok (.invokevirtual 108, 3) := by decide +kernel
theorem dX6_readChair_19 : decode cX6_readChair 19 = .ok (.ifCond .eq 7, 3) := by decide +kernel
theorem dX6_readChair_22 : decode cX6_readChair 22 = .ok (.iconst 2, 1) := by decide +kernel
theorem dX6_readChair_23 : decode cX6_readChair 23 = .ok (.goto 43, 3) := by decide +kernel
theorem dX6_readChair_26 : decode cX6_readChair 26 = .ok (.aload_n 0, 1) := by decide +kernel
theorem dX6_readChair_27 : decode cX6_readChair 27 = .ok (.bipush 99, 2) := by decide +kernel
theorem dX6_readChair_29 : decode cX6_readChair 29 = .ok (.invokevirtual 108, 3) := by decide +kernel
theorem dX6_readChair_32 : decode cX6_readChair 32 = .ok (.ifCond .eq 7, 3) := by decide +kernel
theorem dX6_readChair_35 : decode cX6_readChair 35 = .ok (.iconst 3, 1) := by decide +kernel
theorem dX6_readChair_36 : decode cX6_readChair 36 = .ok (.goto 30, 3) := by decide +kernel
theorem dX6_readChair_39 : decode cX6_readChair 39 = .ok (.aload_n 0, 1) := by decide +kernel
theorem dX6_readChair_40 : decode cX6_readChair 40 = .ok (.bipush 111, 2) := by decide +kernel
theorem dX6_readChair_42 : decode cX6_readChair 42 = .ok (.invokevirtual 108, 3) := by decide +kernel
theorem dX6_readChair_45 : decode cX6_readChair 45 = .ok (.ifCond .eq 7, 3) := by decide +kernel
theorem dX6_readChair_48 : decode cX6_readChair 48 = .ok (.iconst 4, 1) := by decide +kernel
theorem dX6_readChair_49 : decode cX6_readChair 49 = .ok (.goto 17, 3) := by decide +kernel
theorem dX6_readChair_52 : decode cX6_readChair 52 = .ok (.aload_n 0, 1) := by decide +kernel
theorem dX6_readChair_53 : decode cX6_readChair 53 = .ok (.bipush 116, 2) := by decide +kernel
theorem dX6_readChair_55 : decode cX6_readChair 55 = .ok (.invokevirtual 108, 3) := by decide +kernel
theorem dX6_readChair_58 : decode cX6_readChair 58 = .ok (.ifCond .eq 7, 3) := by decide +kernel
theorem dX6_readChair_61 : decode cX6_readChair 61 = .ok (.iconst 5, 1) := by decide +kernel
theorem dX6_readChair_62 : decode cX6_readChair 62 = .ok (.goto 4, 3) := by decide +kernel
theorem dX6_readChair_65 : decode cX6_readChair 65 = .ok (.iconst 0, 1) := by decide +kernel
theorem dX6_readChair_66 : decode cX6_readChair 66 = .ok (.istore_n 1, 1) := by decide +kernel
theorem dX6_readChair_67 : decode cX6_readChair 67 = .ok (.aload_n 0, 1) := by decide +kernel
theorem dX6_readChair_68 : decode cX6_readChair 68 = .ok (.getfield 28, 3) := by decide +kernel
theorem dX6_readChair_71 : decode cX6_readChair 71 = .ok (.iconst 2, 1) := by decide +kernel
theorem dX6_readChair_72 : decode cX6_readChair 72 = .ok (.iaload, 1) := by decide +kernel
theorem dX6_readChair_73 : decode cX6_readChair 73 = .ok (.istore_n 2, 1) := by decide +kernel
theorem dX6_readChair_74 : decode cX6_readChair 74 = .ok (.iload_n 1, 1) := by decide +kernel
theorem dX6_readChair_75 : decode cX6_readChair 75 = .ok (.ifCond .eq 9, 3) := by decide +kernel
theorem dX6_readChair_78 : decode cX6_readChair 78 = .ok (.iload_n 2, 1) := by decide +kernel
theorem dX6_readChair_79 : decode cX6_readChair 79 = .ok (.bipush 6, 2) := by decide +kernel
theorem dX6_readChair_81 : decode cX6_readChair 81 = .ok (.if_icmp .ne 17, 3) := by decide +kernel
theorem dX6_readChair_84 : decode cX6_readChair 84 = .ok (.aload_n 0, 1) := by decide +kernel
theorem dX6_readChair_85 : decode cX6_readChair 85 = .ok (.iload_n 1, 1) := by decide +kernel
theorem dX6_readChair_86 : decode cX6_readChair 86 = .ok (.ifCond .ne 7, 3) := by decide +kernel
theorem dX6_readChair_89 : decode cX6_readChair 89 = .ok (.iconst 1, 1) := by decide +kernel
theorem dX6_readChair_90 : decode cX6_readChair 90 = .ok (.goto 4, 3) := by decide +kernel
theorem dX6_readChair_93 : decode cX6_readChair 93 = .ok (.iconst 3, 1) := by decide +kernel
theorem dX6_readChair_94 : decode cX6_readChair 94 = .ok (.invokevirtual 111, 3) := by decide +kernel
theorem dX6_readChair_97 : decode cX6_readChair 97 = .ok (.ireturn, 1) := by decide +kernel
theorem dX6_readChair_98 : decode cX6_readChair 98 = .ok (.aload_n 0, 1) := by decide +kernel
theorem dX6_readChair_99 : decode cX6_readChair 99 = .ok (.invokevirtual 114, 3) := by decide +kernel
theorem dX6_readChair_102 : decode cX6_readChair 102 = .ok (.aload_n 0, 1) := by decide +kernel
theorem dX6_readChair_103 : decode cX6_readChair 103 = .ok (.getfield 28, 3) := by decide +kernel
theorem dX6_readChair_106 : decode cX6_readChair 106 = .ok (.iconst 5, 1) := by decide +kernel
theorem dX6_readChair_107 : decode cX6_readChair 107 = .ok (.iload_n 2, 1) := by decide +kernel
theorem dX6_readChair_108 : decode cX6_readChair 108 = .ok (.iadd, 1) := by decide +kernel
theorem dX6_readChair_109 : decode cX6_readChair 109 = .ok (.iload_n 1, 1) := by decide +kernel
theorem dX6_readChair_110 : decode cX6_readChair 110 = .ok (.iastore, 1) := by decide +kernel
theorem dX6_readChair_111 : decode cX6_readChair 111 = .ok (.aload_n 0, 1) := by decide +kernel
theorem dX6_readChair_112 : decode cX6_readChair 112 = .ok (.getfield 28, 3) := by decide +kernel
theorem dX6_readChair_115 : decode cX6_readChair 115 = .ok (.iconst 2, 1) := by decide +kernel
theorem dX6_readChair_116 : decode cX6_readChair 116 = .ok (.dup2, 1) := by decide +kernel
theorem dX6_readChair_117 : decode cX6_readChair 117 = .ok (.iaload, 1) := by decide +kernel
theorem dX6_readChair_118 : decode cX6_readChair 118 = .ok (.iconst 1, 1) := by decide +kernel
theorem dX6_readChair_119 : decode cX6_readChair 119 = .ok (.iadd, 1) := by decide +kernel
theorem dX6_readChair_120 : decode cX6_readChair 120 = .ok (.iastore, 1) := by decide +kernel
theorem dX6_readChair_121 : decode cX6_readChair 121 = .ok (.aload_n 0, 1) := by decide +kernel
theorem dX6_readChair_122 : decode cX6_readChair 122 = .ok (.iconst 0, 1) := by decide +kernel
theorem dX6_readChair_123 : decode cX6_readChair 123 = .ok (.bipush 60, 2) := by decide +kernel
theorem dX6_readChair_125 : decode cX6_readChair 125 = .ok (.bipush 11, 2) := by decide +kernel
theorem dX6_readChair_127 : decode cX6_readChair 127 = .ok (.iload_n 2, 1) := by decide +kernel
theorem dX6_readChair_128 : decode cX6_readChair 128 = .ok (.iadd, 1) := by decide +kernel
theorem dX6_readChair_129 : decode cX6_readChair 129 = .ok (.bipush 44, 2) := by decide +kernel
theorem dX6_readChair_131 : decode cX6_readChair 131 = .ok (.invokevirtual 120, 3) := by decide +kernel
theorem dX6_readChair_134 : decode cX6_readChair 134 = .ok (.ifCond .eq 38, 3) := by decide +kernel
theorem dX6_readChair_137 : decode cX6_readChair 137 = .ok (.aload_n 0, 1) := by decide +kernel
theorem dX6_readChair_138 : decode cX6_readChair 138 = .ok (.iconst 0, 1) := by decide +kernel
theorem dX6_readChair_139 : decode cX6_readChair 139 = .ok (.bipush 9, 2) := by decide +kernel
theorem dX6_readChair_141 : decode cX6_readChair 141 = .ok (.bipush 17, 2) := by decide +kernel
theorem dX6_readChair_143 : decode cX6_readChair 143 = .ok (.iload_n 2, 1) := by decide +kernel
theorem dX6_readChair_144 : decode cX6_readChair 144 = .ok (.iadd, 1) := by decide +kernel
theorem dX6_readChair_145 : decode cX6_readChair 145 = .ok (.bipush 44, 2) := by decide +kernel
theorem dX6_readChair_147 : decode cX6_readChair 147 = .ok (.invokevirtual 120, 3) := by decide +kernel
theorem dX6_readChair_150 : decode cX6_readChair 150 = .ok (.ifCond .eq 22, 3) := by decide +kernel
theorem dX6_readChair_153 : decode cX6_readChair 153 = .ok (.aload_n 0, 1) := by decide +kernel
theorem dX6_readChair_154 : decode cX6_readChair 154 = .ok (.iconst 0, 1) := by decide +kernel
theorem dX6_readChair_155 : decode cX6_readChair 155 = .ok (.iconst 3, 1) := by decide +kernel
theorem dX6_readChair_156 : decode cX6_readChair 156 = .ok (.bipush 23, 2) := by decide +kernel
theorem dX6_readChair_158 : decode cX6_readChair 158 = .ok (.iload_n 2, 1) := by decide +kernel
theorem dX6_readChair_159 : decode cX6_readChair 159 = .ok (.iadd, 1) := by decide +kernel
theorem dX6_readChair_160 : decode cX6_readChair 160 = .ok (.bipush 59, 2) := by decide +kernel
theorem dX6_readChair_162 : decode cX6_readChair 162 = .ok (.invokevirtual 120, 3) := by decide +kernel
theorem dX6_readChair_165 : decode cX6_readChair 165 = .ok (.ifCond .eq 7, 3) := by decide +kernel
theorem dX6_readChair_168 : decode cX6_readChair 168 = .ok (.iconst 1, 1) := by decide +kernel
theorem dX6_readChair_169 : decode cX6_readChair 169 = .ok (.goto 4, 3) := by decide +kernel
theorem dX6_readChair_172 : decode cX6_readChair 172 = .ok (.iconst 0, 1) := by decide +kernel
theorem dX6_readChair_173 : decode cX6_readChair 173 = .ok (.ireturn, 1) := by decide +kernel
theorem dX6_readMinistry_0 : decode cX6_readMinistry 0 = .ok (.aload_n 0, 1) := by decide +kernel
theorem dX6_readMinistry_1 : decode cX6_readMinistry 1 = .ok (.iconst 0, 1) := by decide +kernel
theorem dX6_readMinistry_2 : decode cX6_readMinistry 2 = .ok (.putfield 85, 3) := by decide +kernel
theorem dX6_readMinistry_5 : decode cX6_readMinistry 5 = .ok (.iconst 0, 1) := by decide +kernel
theorem dX6_readMinistry_6 : decode cX6_readMinistry 6 = .ok (.istore_n 1, 1) := by decide +kernel
theorem dX6_readMinistry_7 : decode cX6_readMinistry 7 = .ok (.iload_n 1, 1) := by decide +kernel
theorem dX6_readMinistry_8 : decode cX6_readMinistry 8 = .ok (.bipush 41, 2) := by decide +kernel
theorem dX6_readMinistry_10 : decode cX6_readMinistry 10 = .ok (.if_icmp .ge 16, 3) := by decide +kernel
theorem dX6_readMinistry_13 : decode cX6_readMinistry 13 = .ok (.aload_n 0, 1) := by decide +kernel
theorem dX6_readMinistry_14 : decode cX6_readMinistry 14 = .ok (.getfield 28, 3) := by decide +kernel
theorem dX6_readMinistry_17 : decode cX6_readMinistry 17 = .ok (.iload_n 1, 1) := by decide +kernel
theorem dX6_readMinistry_18 : decode cX6_readMinistry 18 = .ok (.iconst 0, 1) := by decide +kernel
theorem dX6_readMinistry_19 : decode cX6_readMinistry 19 = .ok (.iastore, 1) := by decide +kernel
theorem dX6_readMinistry_20 : decode cX6_readMinistry 20 = .ok (.iinc 1 1, 3) := by decide +kernel
theorem dX6_readMinistry_23 : decode cX6_readMinistry 23 = .ok (.goto (-16), 3) := by decide +kernel
theorem dX6_readMinistry_26 : decode cX6_readMinistry 26 = .ok (.aload_n 0, 1) := by decide +kernel
theorem dX6_readMinistry_27 : decode cX6_readMinistry 27 = .ok (.invokevirtual 114, 3) := by decide +kernel
theorem dX6_readMinistry_30 : decode cX6_readMinistry 30 = .ok (.aload_n 0, 1) := by decide +kernel
theorem dX6_readMinistry_31 : decode cX6_readMinistry 31 = .ok (.bipush 109, 2) := by decide +kernel
theorem dX6_readMinistry_33 : decode cX6_readMinistry 33 = .ok (.invokevirtual 117, 3) := by decide +kernel
theorem dX6_readMinistry_36 : decode cX6_readMinistry 36 = .ok (.ifCond .eq 28, 3) := by decide +kernel
theorem dX6_readMinistry_39 : decode cX6_readMinistry 39 = .ok (.aload_n 0, 1) := by decide +kernel
theorem dX6_readMinistry_40 : decode cX6_readMinistry 40 = .ok (.iconst 0, 1) := by decide +kernel
theorem dX6_readMinistry_41 : decode cX6_readMinistry 41 = .ok (.iconst 5, 1) := by decide +kernel
theorem dX6_readMinistry_42 : decode cX6_readMinistry 42 = .ok (.iconst 0, 1) := by decide +kernel
theorem dX6_readMinistry_43 : decode cX6_readMinistry 43 = .ok (.bipush 44, 2) := by decide +kernel
theorem dX6_readMinistry_45 : decode cX6_readMinistry 45 = .ok (.invokevirtual 120, 3) := by decide +kernel
theorem dX6_readMinistry_48 : decode cX6_readMinistry 48 = .ok (.ifCond .eq 16, 3) := by decide +kernel
theorem dX6_readMinistry_51 : decode cX6_readMinistry 51 = .ok (.aload_n 0, 1) := by decide +kernel
theorem dX6_readMinistry_52 : decode cX6_readMinistry 52 = .ok (.iconst 1, 1) := by decide +kernel
theorem dX6_readMinistry_53 : decode cX6_readMinistry 53 = .ok (.bipush 9, 2) := by decide +kernel
theorem dX6_readMinistry_55 : decode cX6_readMinistry 55 = .ok (.iconst 1, 1) := by decide +kernel
theorem dX6_readMinistry_56 : decode cX6_readMinistry 56 = .ok (.bipush 59, 2) := by decide +kernel
theorem dX6_readMinistry_58 : decode cX6_readMinistry 58 = .ok (.invokevirtual 120, 3) := by decide +kernel
theorem dX6_readMinistry_61 : decode cX6_readMinistry 61 = .ok (.ifCond .ne 5, 3) := by decide +kernel
theorem dX6_readMinistry_64 : decode cX6_readMinistry 64 = .ok (.iconst 0, 1) := by decide +kernel
theorem dX6_readMinistry_65 : decode cX6_readMinistry 65 = .ok (.ireturn, 1) := by decide +kernel
theorem dX6_readMinistry_66 : decode cX6_readMinistry 66 = .ok (.iconst 1, 1) := by decide +kernel
theorem dX6_readMinistry_67 : decode cX6_readMinistry 67 = .ok (.istore_n 1, 1) := by decide +kernel
theorem dX6_readMinistry_68 : decode cX6_readMinistry 68 = .ok (.iload_n 1, 1) := by decide +kernel
theorem dX6_readMinistry_69 : decode cX6_readMinistry 69 = .ok (.ifCond .eq 28, 3) := by decide +kernel
theorem dX6_readMinistry_72 : decode cX6_readMinistry 72 = .ok (.aload_n 0, 1) := by decide +kernel
theorem dX6_readMinistry_73 : decode cX6_readMinistry 73 = .ok (.getfield 91, 3) := by decide +kernel
theorem dX6_readMinistry_76 : decode cX6_readMinistry 76 = .ok (.iconst 3, 1) := by decide +kernel
theorem dX6_readMinistry_77 : decode cX6_readMinistry 77 = .ok (.if_icmp .ne 12, 3) := by decide +kernel
theorem dX6_readMinistry_80 : decode cX6_readMinistry 80 = .ok (.aload_n 0, 1) := by decide +kernel
theorem dX6_readMinistry_81 : decode cX6_readMinistry 81 = .ok (.getfield 28, 3) := by decide +kernel
theorem dX6_readMinistry_84 : decode cX6_readMinistry 84 = .ok (.iconst 2, 1) := by decide +kernel
theorem dX6_readMinistry_85 : decode cX6_readMinistry 85 = .ok (.iaload, 1) := by decide +kernel
theorem dX6_readMinistry_86 : decode cX6_readMinistry 86 = .ok (.ifCond .ne 11, 3) := by decide +kernel
theorem dX6_readMinistry_89 : decode cX6_readMinistry 89 = .ok (.aload_n 0, 1) := by decide +kernel
theorem dX6_readMinistry_90 : decode cX6_readMinistry 90 = .ok (.invokevirtual 124, 3) := by decide +kernel
theorem dX6_readMinistry_93 : decode cX6_readMinistry 93 = .ok (.istore_n 1, 1) := by decide +kernel
theorem dX6_readMinistry_94 : decode cX6_readMinistry 94 = .ok (.goto (-26), 3) := by decide +kernel
theorem dX6_readMinistry_97 : decode cX6_readMinistry 97 = .ok (.iload_n 1, 1) := by decide +kernel
theorem dX6_readMinistry_98 : decode cX6_readMinistry 98 = .ok (.ireturn, 1) := by decide +kernel
theorem dX6_ministry_0 : decode cX6_ministry 0 = .ok (.aload_n 0, 1) := by decide +kernel
theorem dX6_ministry_1 : decode cX6_ministry 1 = .ok (.invokevirtual 128, 3) := by decide +kernel
theorem dX6_ministry_4 : decode cX6_ministry 4 = .ok (.istore_n 1, 1) := by decide +kernel
theorem dX6_ministry_5 : decode cX6_ministry 5 = .ok (.aload_n 0, 1) := by decide +kernel
theorem dX6_ministry_6 : decode cX6_ministry 6 = .ok (.iconst 0, 1) := by decide +kernel
theorem dX6_ministry_7 : decode cX6_ministry 7 = .ok (.putfield 81, 3) := by decide +kernel
theorem dX6_ministry_10 : decode cX6_ministry 10 = .ok (.iload_n 1, 1) := by decide +kernel
theorem dX6_ministry_11 : decode cX6_ministry 11 = .ok (.ifCond .ne 19, 3) := by decide +kernel
theorem dX6_ministry_14 : decode cX6_ministry 14 = .ok (.aload_n 0, 1) := by decide +kernel
theorem dX6_ministry_15 : decode cX6_ministry 15 = .ok (.aload_n 0, 1) := by decide +kernel
theorem dX6_ministry_16 : decode cX6_ministry 16 = .ok (.getfield 105, 3) := by decide +kernel
theorem dX6_ministry_19 : decode cX6_ministry 19 = .ok (.putfield 131, 3) := by decide +kernel
theorem dX6_ministry_22 : decode cX6_ministry 22 = .ok (.ldc 134, 2) := by decide +kernel
theorem dX6_ministry_24 : decode cX6_ministry 24 = .ok (.aload_n 0, 1) := by decide +kernel
theorem dX6_ministry_25 : decode cX6_ministry 25 = .ok (.getfield 88, 3) := by decide +kernel
theorem dX6_ministry_28 : decode cX6_ministry 28 = .ok (.isub, 1) := by decide +kernel
theorem dX6_ministry_29 : decode cX6_ministry 29 = .ok (.ireturn, 1) := by decide +kernel
theorem dX6_ministry_30 : decode cX6_ministry 30 = .ok (.iconst 0, 1) := by decide +kernel
theorem dX6_ministry_31 : decode cX6_ministry 31 = .ok (.istore_n 2, 1) := by decide +kernel
theorem dX6_ministry_32 : decode cX6_ministry 32 = .ok (.iload_n 2, 1) := by decide +kernel
theorem dX6_ministry_33 : decode cX6_ministry 33 = .ok (.bipush 41, 2) := by decide +kernel
theorem dX6_ministry_35 : decode cX6_ministry 35 = .ok (.if_icmp .ge 21, 3) := by decide +kernel
theorem dX6_ministry_38 : decode cX6_ministry 38 = .ok (.aload_n 0, 1) := by decide +kernel
theorem dX6_ministry_39 : decode cX6_ministry 39 = .ok (.getfield 19, 3) := by decide +kernel
theorem dX6_ministry_42 : decode cX6_ministry 42 = .ok (.iload_n 2, 1) := by decide +kernel
theorem dX6_ministry_43 : decode cX6_ministry 43 = .ok (.aload_n 0, 1) := by decide +kernel
theorem dX6_ministry_44 : decode cX6_ministry 44 = .ok (.getfield 28, 3) := by decide +kernel
theorem dX6_ministry_47 : decode cX6_ministry 47 = .ok (.iload_n 2, 1) := by decide +kernel
theorem dX6_ministry_48 : decode cX6_ministry 48 = .ok (.iaload, 1) := by decide +kernel
theorem dX6_ministry_49 : decode cX6_ministry 49 = .ok (.iastore, 1) := by decide +kernel
theorem dX6_ministry_50 : decode cX6_ministry 50 = .ok (.iinc 2 1, 3) := by decide +kernel
theorem dX6_ministry_53 : decode cX6_ministry 53 = .ok (.goto (-21), 3) := by decide +kernel
theorem dX6_ministry_56 : decode cX6_ministry 56 = .ok (.aload_n 0, 1) := by decide +kernel
theorem dX6_ministry_57 : decode cX6_ministry 57 = .ok (.iconst 1, 1) := by decide +kernel
theorem dX6_ministry_58 : decode cX6_ministry 58 = .ok (.putfield 135, 3) := by decide +kernel
theorem dX6_ministry_61 : decode cX6_ministry 61 = .ok (.aload_n 0, 1) := by decide +kernel
theorem dX6_ministry_62 : decode cX6_ministry 62 = .ok (.iconst 0, 1) := by decide +kernel
theorem dX6_ministry_63 : decode cX6_ministry 63 = .ok (.putfield 139, 3) := by decide +kernel
theorem dX6_ministry_66 : decode cX6_ministry 66 = .ok (.aload_n 0, 1) := by decide +kernel
theorem dX6_ministry_67 : decode cX6_ministry 67 = .ok (.getfield 19, 3) := by decide +kernel
theorem dX6_ministry_70 : decode cX6_ministry 70 = .ok (.iconst 2, 1) := by decide +kernel
theorem dX6_ministry_71 : decode cX6_ministry 71 = .ok (.iaload, 1) := by decide +kernel
theorem dX6_ministry_72 : decode cX6_ministry 72 = .ok (.ireturn, 1) := by decide +kernel
theorem dX6_fault_0 : decode cX6_fault 0 = .ok (.aload_n 0, 1) := by decide +kernel
theorem dX6_fault_1 : decode cX6_fault 1 = .ok (.getfield 131, 3) := by decide +kernel
theorem dX6_fault_4 : decode cX6_fault 4 = .ok (.ireturn, 1) := by decide +kernel
theorem dX6_isChair_0 : decode cX6_isChair 0 = .ok (.iload_n 1, 1) := by decide +kernel
theorem dX6_isChair_1 : decode cX6_isChair 1 = .ok (.i2l, 1) := by decide +kernel
theorem dX6_isChair_2 : decode cX6_isChair 2 = .ok (.lconst 0, 1) := by decide +kernel
theorem dX6_isChair_3 : decode cX6_isChair 3 = .ok (.aload_n 0, 1) := by decide +kernel
theorem dX6_isChair_4 : decode cX6_isChair 4 = .ok (.getfield 19, 3) := by decide +kernel
theorem dX6_isChair_7 : decode cX6_isChair 7 = .ok (.iconst 2, 1) := by decide +kernel
theorem dX6_isChair_8 : decode cX6_isChair 8 = .ok (.iaload, 1) := by decide +kernel
theorem dX6_isChair_9 : decode cX6_isChair 9 = .ok (.iconst 1, 1) := by decide +kernel
theorem dX6_isChair_10 : decode cX6_isChair 10 = .ok (.isub, 1) := by decide +kernel
theorem dX6_isChair_11 : decode cX6_isChair 11 = .ok (.i2l, 1) := by decide +kernel
theorem dX6_isChair_12 : decode cX6_isChair 12 = .ok (.invokestatic 57, 3) := by decide +kernel
theorem dX6_isChair_15 : decode cX6_isChair 15 = .ok (.ireturn, 1) := by decide +kernel
theorem dX6_highBy_0 : decode cX6_highBy 0 = .ok (.iload_n 0, 1) := by decide +kernel
theorem dX6_highBy_1 : decode cX6_highBy 1 = .ok (.tableswitch 59 2 5 #[31, 39, 45, 47], 31) := by decide +kernel
theorem dX6_highBy_32 : decode cX6_highBy 32 = .ok (.iload_n 1, 1) := by decide +kernel
theorem dX6_highBy_33 : decode cX6_highBy 33 = .ok (.iload_n 2, 1) := by decide +kernel
theorem dX6_highBy_34 : decode cX6_highBy 34 = .ok (.iadd, 1) := by decide +kernel
theorem dX6_highBy_35 : decode cX6_highBy 35 = .ok (.iconst 2, 1) := by decide +kernel
theorem dX6_highBy_36 : decode cX6_highBy 36 = .ok (.idiv, 1) := by decide +kernel
theorem dX6_highBy_37 : decode cX6_highBy 37 = .ok (.iconst 2, 1) := by decide +kernel
theorem dX6_highBy_38 : decode cX6_highBy 38 = .ok (.imul, 1) := by decide +kernel
theorem dX6_highBy_39 : decode cX6_highBy 39 = .ok (.ireturn, 1) := by decide +kernel
theorem dX6_highBy_40 : decode cX6_highBy 40 = .ok (.iload_n 1, 1) := by decide +kernel
theorem dX6_highBy_41 : decode cX6_highBy 41 = .ok (.iconst 2, 1) := by decide +kernel
theorem dX6_highBy_42 : decode cX6_highBy 42 = .ok (.iload_n 2, 1) := by decide +kernel
theorem dX6_highBy_43 : decode cX6_highBy 43 = .ok (.imul, 1) := by decide +kernel
theorem dX6_highBy_44 : decode cX6_highBy 44 = .ok (.iadd, 1) := by decide +kernel
theorem dX6_highBy_45 : decode cX6_highBy 45 = .ok (.ireturn, 1) := by decide +kernel
theorem dX6_highBy_46 : decode cX6_highBy 46 = .ok (.iload_n 1, 1) := by decide +kernel
theorem dX6_highBy_47 : decode cX6_highBy 47 = .ok (.ireturn, 1) := by decide +kernel
theorem dX6_highBy_48 : decode cX6_highBy 48 = .ok (.iload_n 1, 1) := by decide +kernel
theorem dX6_highBy_49 : decode cX6_highBy 49 = .ok (.ifCond .le 9, 3) := by decide +kernel
theorem dX6_highBy_52 : decode cX6_highBy 52 = .ok (.iload_n 1, 1) := by decide +kernel
theorem dX6_highBy_53 : decode cX6_highBy 53 = .ok (.iconst 5, 1) := by decide +kernel
theorem dX6_highBy_54 : decode cX6_highBy 54 = .ok (.iadd, 1) := by decide +kernel
theorem dX6_highBy_55 : decode cX6_highBy 55 = .ok (.goto 4, 3) := by decide +kernel
theorem dX6_highBy_58 : decode cX6_highBy 58 = .ok (.iconst 0, 1) := by decide +kernel
theorem dX6_highBy_59 : decode cX6_highBy 59 = .ok (.ireturn, 1) := by decide +kernel
theorem dX6_highBy_60 : decode cX6_highBy 60 = .ok (.iload_n 1, 1) := by decide +kernel
theorem dX6_highBy_61 : decode cX6_highBy 61 = .ok (.iload_n 2, 1) := by decide +kernel
theorem dX6_highBy_62 : decode cX6_highBy 62 = .ok (.iadd, 1) := by decide +kernel
theorem dX6_highBy_63 : decode cX6_highBy 63 = .ok (.ireturn, 1) := by decide +kernel
theorem dX6_highOf_0 : decode cX6_highOf 0 = .ok (.aload_n 0, 1) := by decide +kernel
theorem dX6_highOf_1 : decode cX6_highOf 1 = .ok (.getfield 19, 3) := by decide +kernel
theorem dX6_highOf_4 : decode cX6_highOf 4 = .ok (.iconst 5, 1) := by decide +kernel
theorem dX6_highOf_5 : decode cX6_highOf 5 = .ok (.iload_n 1, 1) := by decide +kernel
theorem dX6_highOf_6 : decode cX6_highOf 6 = .ok (.iadd, 1) := by decide +kernel
theorem dX6_highOf_7 : decode cX6_highOf 7 = .ok (.iaload, 1) := by decide +kernel
theorem dX6_highOf_8 : decode cX6_highOf 8 = .ok (.aload_n 0, 1) := by decide +kernel
theorem dX6_highOf_9 : decode cX6_highOf 9 = .ok (.getfield 19, 3) := by decide +kernel
theorem dX6_highOf_12 : decode cX6_highOf 12 = .ok (.bipush 11, 2) := by decide +kernel
theorem dX6_highOf_14 : decode cX6_highOf 14 = .ok (.iload_n 1, 1) := by decide +kernel
theorem dX6_highOf_15 : decode cX6_highOf 15 = .ok (.iadd, 1) := by decide +kernel
theorem dX6_highOf_16 : decode cX6_highOf 16 = .ok (.iaload, 1) := by decide +kernel
theorem dX6_highOf_17 : decode cX6_highOf 17 = .ok (.aload_n 0, 1) := by decide +kernel
theorem dX6_highOf_18 : decode cX6_highOf 18 = .ok (.getfield 19, 3) := by decide +kernel
theorem dX6_highOf_21 : decode cX6_highOf 21 = .ok (.bipush 29, 2) := by decide +kernel
theorem dX6_highOf_23 : decode cX6_highOf 23 = .ok (.iload_n 1, 1) := by decide +kernel
theorem dX6_highOf_24 : decode cX6_highOf 24 = .ok (.iadd, 1) := by decide +kernel
theorem dX6_highOf_25 : decode cX6_highOf 25 = .ok (.iaload, 1) := by decide +kernel
theorem dX6_highOf_26 : decode cX6_highOf 26 = .ok (.invokestatic 142, 3) := by decide +kernel
theorem dX6_highOf_29 : decode cX6_highOf 29 = .ok (.ireturn, 1) := by decide +kernel
theorem dX6_rankOf_0 : decode cX6_rankOf 0 = .ok (.iconst 0, 1) := by decide +kernel
theorem dX6_rankOf_1 : decode cX6_rankOf 1 = .ok (.istore_n 2, 1) := by decide +kernel
theorem dX6_rankOf_2 : decode cX6_rankOf 2 = .ok (.iconst 0, 1) := by decide +kernel
theorem dX6_rankOf_3 : decode cX6_rankOf 3 = .ok (.istore_n 3, 1) := by decide +kernel
theorem dX6_rankOf_4 : decode cX6_rankOf 4 = .ok (.iload_n 3, 1) := by decide +kernel
theorem dX6_rankOf_5 : decode cX6_rankOf 5 = .ok (.aload_n 0, 1) := by decide +kernel
theorem dX6_rankOf_6 : decode cX6_rankOf 6 = .ok (.getfield 19, 3) := by decide +kernel
theorem dX6_rankOf_9 : decode cX6_rankOf 9 = .ok (.iconst 2, 1) := by decide +kernel
theorem dX6_rankOf_10 : decode cX6_rankOf 10 = .ok (.iaload, 1) := by decide +kernel
theorem dX6_rankOf_11 : decode cX6_rankOf 11 = .ok (.if_icmp .ge 48, 3) := by decide +kernel
theorem dX6_rankOf_14 : decode cX6_rankOf 14 = .ok (.iload_n 2, 1) := by decide +kernel
theorem dX6_rankOf_15 : decode cX6_rankOf 15 = .ok (.aload_n 0, 1) := by decide +kernel
theorem dX6_rankOf_16 : decode cX6_rankOf 16 = .ok (.iload_n 3, 1) := by decide +kernel
theorem dX6_rankOf_17 : decode cX6_rankOf 17 = .ok (.invokevirtual 146, 3) := by decide +kernel
theorem dX6_rankOf_20 : decode cX6_rankOf 20 = .ok (.aload_n 0, 1) := by decide +kernel
theorem dX6_rankOf_21 : decode cX6_rankOf 21 = .ok (.iload_n 1, 1) := by decide +kernel
theorem dX6_rankOf_22 : decode cX6_rankOf 22 = .ok (.invokevirtual 146, 3) := by decide +kernel
theorem dX6_rankOf_25 : decode cX6_rankOf 25 = .ok (.if_icmp .gt 21, 3) := by decide +kernel
theorem dX6_rankOf_28 : decode cX6_rankOf 28 = .ok (.aload_n 0, 1) := by decide +kernel
theorem dX6_rankOf_29 : decode cX6_rankOf 29 = .ok (.iload_n 3, 1) := by decide +kernel
theorem dX6_rankOf_30 : decode cX6_rankOf 30 = .ok (.invokevirtual 146, 3) := by decide +kernel
theorem dX6_rankOf_33 : decode cX6_rankOf 33 = .ok (.aload_n 0, 1) := by decide +kernel
theorem dX6_rankOf_34 : decode cX6_rankOf 34 = .ok (.iload_n 1, 1) := by decide +kernel
theorem dX6_rankOf_35 : decode cX6_rankOf 35 = .ok (.invokevirtual 146, 3) := by decide +kernel
theorem dX6_rankOf_38 : decode cX6_rankOf 38 = .ok (.if_icmp .ne 12, 3) := by decide +kernel
theorem dX6_rankOf_41 : decode cX6_rankOf 41 = .ok (.iload_n 3, 1) := by decide +kernel
theorem dX6_rankOf_42 : decode cX6_rankOf 42 = .ok (.iload_n 1, 1) := by decide +kernel
theorem dX6_rankOf_43 : decode cX6_rankOf 43 = .ok (.if_icmp .ge 7, 3) := by decide +kernel
theorem dX6_rankOf_46 : decode cX6_rankOf 46 = .ok (.iconst 1, 1) := by decide +kernel
theorem dX6_rankOf_47 : decode cX6_rankOf 47 = .ok (.goto 4, 3) := by decide +kernel
theorem dX6_rankOf_50 : decode cX6_rankOf 50 = .ok (.iconst 0, 1) := by decide +kernel
theorem dX6_rankOf_51 : decode cX6_rankOf 51 = .ok (.iadd, 1) := by decide +kernel
theorem dX6_rankOf_52 : decode cX6_rankOf 52 = .ok (.istore_n 2, 1) := by decide +kernel
theorem dX6_rankOf_53 : decode cX6_rankOf 53 = .ok (.iinc 3 1, 3) := by decide +kernel
theorem dX6_rankOf_56 : decode cX6_rankOf 56 = .ok (.goto (-52), 3) := by decide +kernel
theorem dX6_rankOf_59 : decode cX6_rankOf 59 = .ok (.iload_n 2, 1) := by decide +kernel
theorem dX6_rankOf_60 : decode cX6_rankOf 60 = .ok (.ireturn, 1) := by decide +kernel
theorem dX6_atRank_0 : decode cX6_atRank 0 = .ok (.ldc 149, 2) := by decide +kernel
theorem dX6_atRank_2 : decode cX6_atRank 2 = .ok (.istore_n 2, 1) := by decide +kernel
theorem dX6_atRank_3 : decode cX6_atRank 3 = .ok (.iconst 0, 1) := by decide +kernel
theorem dX6_atRank_4 : decode cX6_atRank 4 = .ok (.istore_n 3, 1) := by decide +kernel
theorem dX6_atRank_5 : decode cX6_atRank 5 = .ok (.iload_n 3, 1) := by decide +kernel
theorem dX6_atRank_6 : decode cX6_atRank 6 = .ok (.aload_n 0, 1) := by decide +kernel
theorem dX6_atRank_7 : decode cX6_atRank 7 = .ok (.getfield 19, 3) := by decide +kernel
theorem dX6_atRank_10 : decode cX6_atRank 10 = .ok (.iconst 2, 1) := by decide +kernel
theorem dX6_atRank_11 : decode cX6_atRank 11 = .ok (.iaload, 1) := by decide +kernel
theorem dX6_atRank_12 : decode cX6_atRank 12 = .ok (.if_icmp .ge 24, 3) := by decide +kernel
theorem dX6_atRank_15 : decode cX6_atRank 15 = .ok (.aload_n 0, 1) := by decide +kernel
theorem dX6_atRank_16 : decode cX6_atRank 16 = .ok (.iload_n 3, 1) := by decide +kernel
theorem dX6_atRank_17 : decode cX6_atRank 17 = .ok (.invokevirtual 150, 3) := by decide +kernel
theorem dX6_atRank_20 : decode cX6_atRank 20 = .ok (.iload_n 1, 1) := by decide +kernel
theorem dX6_atRank_21 : decode cX6_atRank 21 = .ok (.if_icmp .ne 7, 3) := by decide +kernel
theorem dX6_atRank_24 : decode cX6_atRank 24 = .ok (.iload_n 3, 1) := by decide +kernel
theorem dX6_atRank_25 : decode cX6_atRank 25 = .ok (.goto 4, 3) := by decide +kernel
theorem dX6_atRank_28 : decode cX6_atRank 28 = .ok (.iload_n 2, 1) := by decide +kernel
theorem dX6_atRank_29 : decode cX6_atRank 29 = .ok (.istore_n 2, 1) := by decide +kernel
theorem dX6_atRank_30 : decode cX6_atRank 30 = .ok (.iinc 3 1, 3) := by decide +kernel
theorem dX6_atRank_33 : decode cX6_atRank 33 = .ok (.goto (-28), 3) := by decide +kernel
theorem dX6_atRank_36 : decode cX6_atRank 36 = .ok (.iload_n 2, 1) := by decide +kernel
theorem dX6_atRank_37 : decode cX6_atRank 37 = .ok (.ireturn, 1) := by decide +kernel
theorem dX6_targetOf_0 : decode cX6_targetOf 0 = .ok (.ldc 149, 2) := by decide +kernel
theorem dX6_targetOf_2 : decode cX6_targetOf 2 = .ok (.istore_n 2, 1) := by decide +kernel
theorem dX6_targetOf_3 : decode cX6_targetOf 3 = .ok (.aload_n 0, 1) := by decide +kernel
theorem dX6_targetOf_4 : decode cX6_targetOf 4 = .ok (.getfield 19, 3) := by decide +kernel
theorem dX6_targetOf_7 : decode cX6_targetOf 7 = .ok (.bipush 23, 2) := by decide +kernel
theorem dX6_targetOf_9 : decode cX6_targetOf 9 = .ok (.iload_n 1, 1) := by decide +kernel
theorem dX6_targetOf_10 : decode cX6_targetOf 10 = .ok (.iadd, 1) := by decide +kernel
theorem dX6_targetOf_11 : decode cX6_targetOf 11 = .ok (.iaload, 1) := by decide +kernel
theorem dX6_targetOf_12 : decode cX6_targetOf 12 = .ok (.tableswitch 66 1 3 #[28, 43, 52], 28) := by decide +kernel
theorem dX6_targetOf_40 : decode cX6_targetOf 40 = .ok (.aload_n 0, 1) := by decide +kernel
theorem dX6_targetOf_41 : decode cX6_targetOf 41 = .ok (.aload_n 0, 1) := by decide +kernel
theorem dX6_targetOf_42 : decode cX6_targetOf 42 = .ok (.iload_n 1, 1) := by decide +kernel
theorem dX6_targetOf_43 : decode cX6_targetOf 43 = .ok (.invokevirtual 150, 3) := by decide +kernel
theorem dX6_targetOf_46 : decode cX6_targetOf 46 = .ok (.iconst 1, 1) := by decide +kernel
theorem dX6_targetOf_47 : decode cX6_targetOf 47 = .ok (.isub, 1) := by decide +kernel
theorem dX6_targetOf_48 : decode cX6_targetOf 48 = .ok (.invokevirtual 153, 3) := by decide +kernel
theorem dX6_targetOf_51 : decode cX6_targetOf 51 = .ok (.istore_n 2, 1) := by decide +kernel
theorem dX6_targetOf_52 : decode cX6_targetOf 52 = .ok (.goto 26, 3) := by decide +kernel
theorem dX6_targetOf_55 : decode cX6_targetOf 55 = .ok (.aload_n 0, 1) := by decide +kernel
theorem dX6_targetOf_56 : decode cX6_targetOf 56 = .ok (.iconst 0, 1) := by decide +kernel
theorem dX6_targetOf_57 : decode cX6_targetOf 57 = .ok (.invokevirtual 153, 3) := by decide +kernel
theorem dX6_targetOf_60 : decode cX6_targetOf 60 = .ok (.istore_n 2, 1) := by decide +kernel
theorem dX6_targetOf_61 : decode cX6_targetOf 61 = .ok (.goto 17, 3) := by decide +kernel
theorem dX6_targetOf_64 : decode cX6_targetOf 64 = .ok (.iload_n 1, 1) := by decide +kernel
theorem dX6_targetOf_65 : decode cX6_targetOf 65 = .ok (.iconst 1, 1) := by decide +kernel
theorem dX6_targetOf_66 : decode cX6_targetOf 66 = .ok (.iadd, 1) := by decide +kernel
theorem dX6_targetOf_67 : decode cX6_targetOf 67 = .ok (.aload_n 0, 1) := by decide +kernel
theorem dX6_targetOf_68 : decode cX6_targetOf 68 = .ok (.getfield 19, 3) := by decide +kernel
theorem dX6_targetOf_71 : decode cX6_targetOf 71 = .ok (.iconst 2, 1) := by decide +kernel
theorem dX6_targetOf_72 : decode cX6_targetOf 72 = .ok (.iaload, 1) := by decide +kernel
theorem dX6_targetOf_73 : decode cX6_targetOf 73 = .ok (.irem, 1) := by decide +kernel
theorem dX6_targetOf_74 : decode cX6_targetOf 74 = .ok (.istore_n 2, 1) := by decide +kernel
theorem dX6_targetOf_75 : decode cX6_targetOf 75 = .ok (.goto 3, 3) := by decide +kernel
theorem dX6_targetOf_78 : decode cX6_targetOf 78 = .ok (.aload_n 0, 1) := by decide +kernel
theorem dX6_targetOf_79 : decode cX6_targetOf 79 = .ok (.getfield 19, 3) := by decide +kernel
theorem dX6_targetOf_82 : decode cX6_targetOf 82 = .ok (.bipush 17, 2) := by decide +kernel
theorem dX6_targetOf_84 : decode cX6_targetOf 84 = .ok (.iload_n 1, 1) := by decide +kernel
theorem dX6_targetOf_85 : decode cX6_targetOf 85 = .ok (.iadd, 1) := by decide +kernel
theorem dX6_targetOf_86 : decode cX6_targetOf 86 = .ok (.iaload, 1) := by decide +kernel
theorem dX6_targetOf_87 : decode cX6_targetOf 87 = .ok (.ifCond .eq 8, 3) := by decide +kernel
theorem dX6_targetOf_90 : decode cX6_targetOf 90 = .ok (.iload_n 2, 1) := by decide +kernel
theorem dX6_targetOf_91 : decode cX6_targetOf 91 = .ok (.iload_n 1, 1) := by decide +kernel
theorem dX6_targetOf_92 : decode cX6_targetOf 92 = .ok (.if_icmp .ne 8, 3) := by decide +kernel
theorem dX6_targetOf_95 : decode cX6_targetOf 95 = .ok (.ldc 149, 2) := by decide +kernel
theorem dX6_targetOf_97 : decode cX6_targetOf 97 = .ok (.goto 4, 3) := by decide +kernel
theorem dX6_targetOf_100 : decode cX6_targetOf 100 = .ok (.iload_n 2, 1) := by decide +kernel
theorem dX6_targetOf_101 : decode cX6_targetOf 101 = .ok (.ireturn, 1) := by decide +kernel
theorem dX6_sawnOff_0 : decode cX6_sawnOff 0 = .ok (.aload_n 0, 1) := by decide +kernel
theorem dX6_sawnOff_1 : decode cX6_sawnOff 1 = .ok (.getfield 19, 3) := by decide +kernel
theorem dX6_sawnOff_4 : decode cX6_sawnOff 4 = .ok (.iconst 5, 1) := by decide +kernel
theorem dX6_sawnOff_5 : decode cX6_sawnOff 5 = .ok (.iload_n 2, 1) := by decide +kernel
theorem dX6_sawnOff_6 : decode cX6_sawnOff 6 = .ok (.iadd, 1) := by decide +kernel
theorem dX6_sawnOff_7 : decode cX6_sawnOff 7 = .ok (.iaload, 1) := by decide +kernel
theorem dX6_sawnOff_8 : decode cX6_sawnOff 8 = .ok (.istore_n 3, 1) := by decide +kernel
theorem dX6_sawnOff_9 : decode cX6_sawnOff 9 = .ok (.iload_n 3, 1) := by decide +kernel
theorem dX6_sawnOff_10 : decode cX6_sawnOff 10 = .ok (.iconst 4, 1) := by decide +kernel
theorem dX6_sawnOff_11 : decode cX6_sawnOff 11 = .ok (.if_icmp .eq 8, 3) := by decide +kernel
theorem dX6_sawnOff_14 : decode cX6_sawnOff 14 = .ok (.iload_n 3, 1) := by decide +kernel
theorem dX6_sawnOff_15 : decode cX6_sawnOff 15 = .ok (.iconst 5, 1) := by decide +kernel
theorem dX6_sawnOff_16 : decode cX6_sawnOff 16 = .ok (.if_icmp .ne 17, 3) := by decide +kernel
theorem dX6_sawnOff_19 : decode cX6_sawnOff 19 = .ok (.aload_n 0, 1) := by decide +kernel
theorem dX6_sawnOff_20 : decode cX6_sawnOff 20 = .ok (.getfield 19, 3) := by decide +kernel
theorem dX6_sawnOff_23 : decode cX6_sawnOff 23 = .ok (.bipush 17, 2) := by decide +kernel
theorem dX6_sawnOff_25 : decode cX6_sawnOff 25 = .ok (.iload_n 1, 1) := by decide +kernel
theorem dX6_sawnOff_26 : decode cX6_sawnOff 26 = .ok (.iadd, 1) := by decide +kernel
theorem dX6_sawnOff_27 : decode cX6_sawnOff 27 = .ok (.iaload, 1) := by decide +kernel
theorem dX6_sawnOff_28 : decode cX6_sawnOff 28 = .ok (.iconst 2, 1) := by decide +kernel
theorem dX6_sawnOff_29 : decode cX6_sawnOff 29 = .ok (.idiv, 1) := by decide +kernel
theorem dX6_sawnOff_30 : decode cX6_sawnOff 30 = .ok (.goto 12, 3) := by decide +kernel
theorem dX6_sawnOff_33 : decode cX6_sawnOff 33 = .ok (.aload_n 0, 1) := by decide +kernel
theorem dX6_sawnOff_34 : decode cX6_sawnOff 34 = .ok (.getfield 19, 3) := by decide +kernel
theorem dX6_sawnOff_37 : decode cX6_sawnOff 37 = .ok (.bipush 17, 2) := by decide +kernel
theorem dX6_sawnOff_39 : decode cX6_sawnOff 39 = .ok (.iload_n 1, 1) := by decide +kernel
theorem dX6_sawnOff_40 : decode cX6_sawnOff 40 = .ok (.iadd, 1) := by decide +kernel
theorem dX6_sawnOff_41 : decode cX6_sawnOff 41 = .ok (.iaload, 1) := by decide +kernel
theorem dX6_sawnOff_42 : decode cX6_sawnOff 42 = .ok (.ireturn, 1) := by decide +kernel
theorem dX6_oneNight_0 : decode cX6_oneNight 0 = .ok (.aload_n 0, 1) := by decide +kernel
theorem dX6_oneNight_1 : decode cX6_oneNight 1 = .ok (.iconst 0, 1) := by decide +kernel
theorem dX6_oneNight_2 : decode cX6_oneNight 2 = .ok (.putfield 156, 3) := by decide +kernel
theorem dX6_oneNight_5 : decode cX6_oneNight 5 = .ok (.iconst 0, 1) := by decide +kernel
theorem dX6_oneNight_6 : decode cX6_oneNight 6 = .ok (.istore_n 1, 1) := by decide +kernel
theorem dX6_oneNight_7 : decode cX6_oneNight 7 = .ok (.iload_n 1, 1) := by decide +kernel
theorem dX6_oneNight_8 : decode cX6_oneNight 8 = .ok (.aload_n 0, 1) := by decide +kernel
theorem dX6_oneNight_9 : decode cX6_oneNight 9 = .ok (.getfield 19, 3) := by decide +kernel
theorem dX6_oneNight_12 : decode cX6_oneNight 12 = .ok (.iconst 2, 1) := by decide +kernel
theorem dX6_oneNight_13 : decode cX6_oneNight 13 = .ok (.iaload, 1) := by decide +kernel
theorem dX6_oneNight_14 : decode cX6_oneNight 14 = .ok (.if_icmp .ge 16, 3) := by decide +kernel
theorem dX6_oneNight_17 : decode cX6_oneNight 17 = .ok (.aload_n 0, 1) := by decide +kernel
theorem dX6_oneNight_18 : decode cX6_oneNight 18 = .ok (.getfield 31, 3) := by decide +kernel
theorem dX6_oneNight_21 : decode cX6_oneNight 21 = .ok (.iload_n 1, 1) := by decide +kernel
theorem dX6_oneNight_22 : decode cX6_oneNight 22 = .ok (.iconst 0, 1) := by decide +kernel
theorem dX6_oneNight_23 : decode cX6_oneNight 23 = .ok (.iastore, 1) := by decide +kernel
theorem dX6_oneNight_24 : decode cX6_oneNight 24 = .ok (.iinc 1 1, 3) := by decide +kernel
theorem dX6_oneNight_27 : decode cX6_oneNight 27 = .ok (.goto (-20), 3) := by decide +kernel
theorem dX6_oneNight_30 : decode cX6_oneNight 30 = .ok (.iconst 0, 1) := by decide +kernel
theorem dX6_oneNight_31 : decode cX6_oneNight 31 = .ok (.istore_n 1, 1) := by decide +kernel
theorem dX6_oneNight_32 : decode cX6_oneNight 32 = .ok (.iload_n 1, 1) := by decide +kernel
theorem dX6_oneNight_33 : decode cX6_oneNight 33 = .ok (.aload_n 0, 1) := by decide +kernel
theorem dX6_oneNight_34 : decode cX6_oneNight 34 = .ok (.getfield 19, 3) := by decide +kernel
theorem dX6_oneNight_37 : decode cX6_oneNight 37 = .ok (.iconst 2, 1) := by decide +kernel
theorem dX6_oneNight_38 : decode cX6_oneNight 38 = .ok (.iaload, 1) := by decide +kernel
theorem dX6_oneNight_39 : decode cX6_oneNight 39 = .ok (.if_icmp .ge 81, 3) := by decide +kernel
theorem dX6_oneNight_42 : decode cX6_oneNight 42 = .ok (.aload_n 0, 1) := by decide +kernel
theorem dX6_oneNight_43 : decode cX6_oneNight 43 = .ok (.iload_n 1, 1) := by decide +kernel
theorem dX6_oneNight_44 : decode cX6_oneNight 44 = .ok (.invokevirtual 159, 3) := by decide +kernel
theorem dX6_oneNight_47 : decode cX6_oneNight 47 = .ok (.istore_n 2, 1) := by decide +kernel
theorem dX6_oneNight_48 : decode cX6_oneNight 48 = .ok (.iload_n 2, 1) := by decide +kernel
theorem dX6_oneNight_49 : decode cX6_oneNight 49 = .ok (.ifCond .lt 20, 3) := by decide +kernel
theorem dX6_oneNight_52 : decode cX6_oneNight 52 = .ok (.aload_n 0, 1) := by decide +kernel
theorem dX6_oneNight_53 : decode cX6_oneNight 53 = .ok (.getfield 19, 3) := by decide +kernel
theorem dX6_oneNight_56 : decode cX6_oneNight 56 = .ok (.iconst 4, 1) := by decide +kernel
theorem dX6_oneNight_57 : decode cX6_oneNight 57 = .ok (.iaload, 1) := by decide +kernel
theorem dX6_oneNight_58 : decode cX6_oneNight 58 = .ok (.iload_n 2, 1) := by decide +kernel
theorem dX6_oneNight_59 : decode cX6_oneNight 59 = .ok (.invokestatic 162, 3) := by decide +kernel
theorem dX6_oneNight_62 : decode cX6_oneNight 62 = .ok (.ifCond .eq 7, 3) := by decide +kernel
theorem dX6_oneNight_65 : decode cX6_oneNight 65 = .ok (.iconst 1, 1) := by decide +kernel
theorem dX6_oneNight_66 : decode cX6_oneNight 66 = .ok (.goto 4, 3) := by decide +kernel
theorem dX6_oneNight_69 : decode cX6_oneNight 69 = .ok (.iconst 0, 1) := by decide +kernel
theorem dX6_oneNight_70 : decode cX6_oneNight 70 = .ok (.istore_n 3, 1) := by decide +kernel
theorem dX6_oneNight_71 : decode cX6_oneNight 71 = .ok (.aload_n 0, 1) := by decide +kernel
theorem dX6_oneNight_72 : decode cX6_oneNight 72 = .ok (.dup, 1) := by decide +kernel
theorem dX6_oneNight_73 : decode cX6_oneNight 73 = .ok (.getfield 156, 3) := by decide +kernel
theorem dX6_oneNight_76 : decode cX6_oneNight 76 = .ok (.iload_n 3, 1) := by decide +kernel
theorem dX6_oneNight_77 : decode cX6_oneNight 77 = .ok (.ifCond .eq 9, 3) := by decide +kernel
theorem dX6_oneNight_80 : decode cX6_oneNight 80 = .ok (.iconst 1, 1) := by decide +kernel
theorem dX6_oneNight_81 : decode cX6_oneNight 81 = .ok (.iload_n 1, 1) := by decide +kernel
theorem dX6_oneNight_82 : decode cX6_oneNight 82 = .ok (.ishl, 1) := by decide +kernel
theorem dX6_oneNight_83 : decode cX6_oneNight 83 = .ok (.goto 4, 3) := by decide +kernel
theorem dX6_oneNight_86 : decode cX6_oneNight 86 = .ok (.iconst 0, 1) := by decide +kernel
theorem dX6_oneNight_87 : decode cX6_oneNight 87 = .ok (.ior, 1) := by decide +kernel
theorem dX6_oneNight_88 : decode cX6_oneNight 88 = .ok (.putfield 156, 3) := by decide +kernel
theorem dX6_oneNight_91 : decode cX6_oneNight 91 = .ok (.iload_n 2, 1) := by decide +kernel
theorem dX6_oneNight_92 : decode cX6_oneNight 92 = .ok (.ifCond .lt 22, 3) := by decide +kernel
theorem dX6_oneNight_95 : decode cX6_oneNight 95 = .ok (.iload_n 3, 1) := by decide +kernel
theorem dX6_oneNight_96 : decode cX6_oneNight 96 = .ok (.ifCond .ne 18, 3) := by decide +kernel
theorem dX6_oneNight_99 : decode cX6_oneNight 99 = .ok (.aload_n 0, 1) := by decide +kernel
theorem dX6_oneNight_100 : decode cX6_oneNight 100 = .ok (.getfield 31, 3) := by decide +kernel
theorem dX6_oneNight_103 : decode cX6_oneNight 103 = .ok (.iload_n 2, 1) := by decide +kernel
theorem dX6_oneNight_104 : decode cX6_oneNight 104 = .ok (.dup2, 1) := by decide +kernel
theorem dX6_oneNight_105 : decode cX6_oneNight 105 = .ok (.iaload, 1) := by decide +kernel
theorem dX6_oneNight_106 : decode cX6_oneNight 106 = .ok (.aload_n 0, 1) := by decide +kernel
theorem dX6_oneNight_107 : decode cX6_oneNight 107 = .ok (.iload_n 1, 1) := by decide +kernel
theorem dX6_oneNight_108 : decode cX6_oneNight 108 = .ok (.iload_n 2, 1) := by decide +kernel
theorem dX6_oneNight_109 : decode cX6_oneNight 109 = .ok (.invokevirtual 166, 3) := by decide +kernel
theorem dX6_oneNight_112 : decode cX6_oneNight 112 = .ok (.iadd, 1) := by decide +kernel
theorem dX6_oneNight_113 : decode cX6_oneNight 113 = .ok (.iastore, 1) := by decide +kernel
theorem dX6_oneNight_114 : decode cX6_oneNight 114 = .ok (.iinc 1 1, 3) := by decide +kernel
theorem dX6_oneNight_117 : decode cX6_oneNight 117 = .ok (.goto (-85), 3) := by decide +kernel
theorem dX6_oneNight_120 : decode cX6_oneNight 120 = .ok (.iconst 0, 1) := by decide +kernel
theorem dX6_oneNight_121 : decode cX6_oneNight 121 = .ok (.istore_n 1, 1) := by decide +kernel
theorem dX6_oneNight_122 : decode cX6_oneNight 122 = .ok (.iload_n 1, 1) := by decide +kernel
theorem dX6_oneNight_123 : decode cX6_oneNight 123 = .ok (.aload_n 0, 1) := by decide +kernel
theorem dX6_oneNight_124 : decode cX6_oneNight 124 = .ok (.getfield 19, 3) := by decide +kernel
theorem dX6_oneNight_127 : decode cX6_oneNight 127 = .ok (.iconst 2, 1) := by decide +kernel
theorem dX6_oneNight_128 : decode cX6_oneNight 128 = .ok (.iaload, 1) := by decide +kernel
theorem dX6_oneNight_129 : decode cX6_oneNight 129 = .ok (.if_icmp .ge 100, 3) := by decide +kernel
theorem dX6_oneNight_132 : decode cX6_oneNight 132 = .ok (.aload_n 0, 1) := by decide +kernel
theorem dX6_oneNight_133 : decode cX6_oneNight 133 = .ok (.getfield 19, 3) := by decide +kernel
theorem dX6_oneNight_136 : decode cX6_oneNight 136 = .ok (.bipush 11, 2) := by decide +kernel
theorem dX6_oneNight_138 : decode cX6_oneNight 138 = .ok (.iload_n 1, 1) := by decide +kernel
theorem dX6_oneNight_139 : decode cX6_oneNight 139 = .ok (.iadd, 1) := by decide +kernel
theorem dX6_oneNight_140 : decode cX6_oneNight 140 = .ok (.iaload, 1) := by decide +kernel
theorem dX6_oneNight_141 : decode cX6_oneNight 141 = .ok (.aload_n 0, 1) := by decide +kernel
theorem dX6_oneNight_142 : decode cX6_oneNight 142 = .ok (.getfield 31, 3) := by decide +kernel
theorem dX6_oneNight_145 : decode cX6_oneNight 145 = .ok (.iload_n 1, 1) := by decide +kernel
theorem dX6_oneNight_146 : decode cX6_oneNight 146 = .ok (.iaload, 1) := by decide +kernel
theorem dX6_oneNight_147 : decode cX6_oneNight 147 = .ok (.isub, 1) := by decide +kernel
theorem dX6_oneNight_148 : decode cX6_oneNight 148 = .ok (.istore_n 2, 1) := by decide +kernel
theorem dX6_oneNight_149 : decode cX6_oneNight 149 = .ok (.aload_n 0, 1) := by decide +kernel
theorem dX6_oneNight_150 : decode cX6_oneNight 150 = .ok (.getfield 19, 3) := by decide +kernel
theorem dX6_oneNight_153 : decode cX6_oneNight 153 = .ok (.bipush 11, 2) := by decide +kernel
theorem dX6_oneNight_155 : decode cX6_oneNight 155 = .ok (.iload_n 1, 1) := by decide +kernel
theorem dX6_oneNight_156 : decode cX6_oneNight 156 = .ok (.iadd, 1) := by decide +kernel
theorem dX6_oneNight_157 : decode cX6_oneNight 157 = .ok (.iload_n 2, 1) := by decide +kernel
theorem dX6_oneNight_158 : decode cX6_oneNight 158 = .ok (.ifCond .ge 7, 3) := by decide +kernel
theorem dX6_oneNight_161 : decode cX6_oneNight 161 = .ok (.iconst 0, 1) := by decide +kernel
theorem dX6_oneNight_162 : decode cX6_oneNight 162 = .ok (.goto 4, 3) := by decide +kernel
theorem dX6_oneNight_165 : decode cX6_oneNight 165 = .ok (.iload_n 2, 1) := by decide +kernel
theorem dX6_oneNight_166 : decode cX6_oneNight 166 = .ok (.iastore, 1) := by decide +kernel
theorem dX6_oneNight_167 : decode cX6_oneNight 167 = .ok (.aload_n 0, 1) := by decide +kernel
theorem dX6_oneNight_168 : decode cX6_oneNight 168 = .ok (.getfield 19, 3) := by decide +kernel
theorem dX6_oneNight_171 : decode cX6_oneNight 171 = .ok (.bipush 17, 2) := by decide +kernel
theorem dX6_oneNight_173 : decode cX6_oneNight 173 = .ok (.iload_n 1, 1) := by decide +kernel
theorem dX6_oneNight_174 : decode cX6_oneNight 174 = .ok (.iadd, 1) := by decide +kernel
theorem dX6_oneNight_175 : decode cX6_oneNight 175 = .ok (.dup2, 1) := by decide +kernel
theorem dX6_oneNight_176 : decode cX6_oneNight 176 = .ok (.iaload, 1) := by decide +kernel
theorem dX6_oneNight_177 : decode cX6_oneNight 177 = .ok (.aload_n 0, 1) := by decide +kernel
theorem dX6_oneNight_178 : decode cX6_oneNight 178 = .ok (.getfield 156, 3) := by decide +kernel
theorem dX6_oneNight_181 : decode cX6_oneNight 181 = .ok (.iload_n 1, 1) := by decide +kernel
theorem dX6_oneNight_182 : decode cX6_oneNight 182 = .ok (.invokestatic 162, 3) := by decide +kernel
theorem dX6_oneNight_185 : decode cX6_oneNight 185 = .ok (.ifCond .eq 7, 3) := by decide +kernel
theorem dX6_oneNight_188 : decode cX6_oneNight 188 = .ok (.iconst 1, 1) := by decide +kernel
theorem dX6_oneNight_189 : decode cX6_oneNight 189 = .ok (.goto 4, 3) := by decide +kernel
theorem dX6_oneNight_192 : decode cX6_oneNight 192 = .ok (.iconst 0, 1) := by decide +kernel
theorem dX6_oneNight_193 : decode cX6_oneNight 193 = .ok (.isub, 1) := by decide +kernel
theorem dX6_oneNight_194 : decode cX6_oneNight 194 = .ok (.iastore, 1) := by decide +kernel
theorem dX6_oneNight_195 : decode cX6_oneNight 195 = .ok (.aload_n 0, 1) := by decide +kernel
theorem dX6_oneNight_196 : decode cX6_oneNight 196 = .ok (.getfield 19, 3) := by decide +kernel
theorem dX6_oneNight_199 : decode cX6_oneNight 199 = .ok (.bipush 35, 2) := by decide +kernel
theorem dX6_oneNight_201 : decode cX6_oneNight 201 = .ok (.iload_n 1, 1) := by decide +kernel
theorem dX6_oneNight_202 : decode cX6_oneNight 202 = .ok (.iadd, 1) := by decide +kernel
theorem dX6_oneNight_203 : decode cX6_oneNight 203 = .ok (.dup2, 1) := by decide +kernel
theorem dX6_oneNight_204 : decode cX6_oneNight 204 = .ok (.iaload, 1) := by decide +kernel
theorem dX6_oneNight_205 : decode cX6_oneNight 205 = .ok (.aload_n 0, 1) := by decide +kernel
theorem dX6_oneNight_206 : decode cX6_oneNight 206 = .ok (.getfield 156, 3) := by decide +kernel
theorem dX6_oneNight_209 : decode cX6_oneNight 209 = .ok (.iload_n 1, 1) := by decide +kernel
theorem dX6_oneNight_210 : decode cX6_oneNight 210 = .ok (.invokestatic 162, 3) := by decide +kernel
theorem dX6_oneNight_213 : decode cX6_oneNight 213 = .ok (.ifCond .eq 7, 3) := by decide +kernel
theorem dX6_oneNight_216 : decode cX6_oneNight 216 = .ok (.iconst 1, 1) := by decide +kernel
theorem dX6_oneNight_217 : decode cX6_oneNight 217 = .ok (.goto 4, 3) := by decide +kernel
theorem dX6_oneNight_220 : decode cX6_oneNight 220 = .ok (.iconst 0, 1) := by decide +kernel
theorem dX6_oneNight_221 : decode cX6_oneNight 221 = .ok (.iadd, 1) := by decide +kernel
theorem dX6_oneNight_222 : decode cX6_oneNight 222 = .ok (.iastore, 1) := by decide +kernel
theorem dX6_oneNight_223 : decode cX6_oneNight 223 = .ok (.iinc 1 1, 3) := by decide +kernel
theorem dX6_oneNight_226 : decode cX6_oneNight 226 = .ok (.goto (-104), 3) := by decide +kernel
theorem dX6_oneNight_229 : decode cX6_oneNight 229 = .ok (.aload_n 0, 1) := by decide +kernel
theorem dX6_oneNight_230 : decode cX6_oneNight 230 = .ok (.getfield 19, 3) := by decide +kernel
theorem dX6_oneNight_233 : decode cX6_oneNight 233 = .ok (.iconst 3, 1) := by decide +kernel
theorem dX6_oneNight_234 : decode cX6_oneNight 234 = .ok (.dup2, 1) := by decide +kernel
theorem dX6_oneNight_235 : decode cX6_oneNight 235 = .ok (.iaload, 1) := by decide +kernel
theorem dX6_oneNight_236 : decode cX6_oneNight 236 = .ok (.iconst 1, 1) := by decide +kernel
theorem dX6_oneNight_237 : decode cX6_oneNight 237 = .ok (.iadd, 1) := by decide +kernel
theorem dX6_oneNight_238 : decode cX6_oneNight 238 = .ok (.iastore, 1) := by decide +kernel
theorem dX6_oneNight_239 : decode cX6_oneNight 239 = .ok (.return_, 1) := by decide +kernel
theorem dX6_sumOf_0 : decode cX6_sumOf 0 = .ok (.iconst 0, 1) := by decide +kernel
theorem dX6_sumOf_1 : decode cX6_sumOf 1 = .ok (.istore_n 2, 1) := by decide +kernel
theorem dX6_sumOf_2 : decode cX6_sumOf 2 = .ok (.iconst 0, 1) := by decide +kernel
theorem dX6_sumOf_3 : decode cX6_sumOf 3 = .ok (.istore_n 3, 1) := by decide +kernel
theorem dX6_sumOf_4 : decode cX6_sumOf 4 = .ok (.iload_n 3, 1) := by decide +kernel
theorem dX6_sumOf_5 : decode cX6_sumOf 5 = .ok (.aload_n 0, 1) := by decide +kernel
theorem dX6_sumOf_6 : decode cX6_sumOf 6 = .ok (.getfield 19, 3) := by decide +kernel
theorem dX6_sumOf_9 : decode cX6_sumOf 9 = .ok (.iconst 2, 1) := by decide +kernel
theorem dX6_sumOf_10 : decode cX6_sumOf 10 = .ok (.iaload, 1) := by decide +kernel
theorem dX6_sumOf_11 : decode cX6_sumOf 11 = .ok (.if_icmp .ge 20, 3) := by decide +kernel
theorem dX6_sumOf_14 : decode cX6_sumOf 14 = .ok (.iload_n 2, 1) := by decide +kernel
theorem dX6_sumOf_15 : decode cX6_sumOf 15 = .ok (.aload_n 0, 1) := by decide +kernel
theorem dX6_sumOf_16 : decode cX6_sumOf 16 = .ok (.getfield 19, 3) := by decide +kernel
theorem dX6_sumOf_19 : decode cX6_sumOf 19 = .ok (.iload_n 1, 1) := by decide +kernel
theorem dX6_sumOf_20 : decode cX6_sumOf 20 = .ok (.iload_n 3, 1) := by decide +kernel
theorem dX6_sumOf_21 : decode cX6_sumOf 21 = .ok (.iadd, 1) := by decide +kernel
theorem dX6_sumOf_22 : decode cX6_sumOf 22 = .ok (.iaload, 1) := by decide +kernel
theorem dX6_sumOf_23 : decode cX6_sumOf 23 = .ok (.iadd, 1) := by decide +kernel
theorem dX6_sumOf_24 : decode cX6_sumOf 24 = .ok (.istore_n 2, 1) := by decide +kernel
theorem dX6_sumOf_25 : decode cX6_sumOf 25 = .ok (.iinc 3 1, 3) := by decide +kernel
theorem dX6_sumOf_28 : decode cX6_sumOf 28 = .ok (.goto (-24), 3) := by decide +kernel
theorem dX6_sumOf_31 : decode cX6_sumOf 31 = .ok (.iload_n 2, 1) := by decide +kernel
theorem dX6_sumOf_32 : decode cX6_sumOf 32 = .ok (.ireturn, 1) := by decide +kernel
theorem dX6_note_0 : decode cX6_note 0 = .ok (.aload_n 0, 1) := by decide +kernel
theorem dX6_note_1 : decode cX6_note 1 = .ok (.getfield 139, 3) := by decide +kernel
theorem dX6_note_4 : decode cX6_note 4 = .ok (.bipush 24, 2) := by decide +kernel
theorem dX6_note_6 : decode cX6_note 6 = .ok (.if_icmp .ne 43, 3) := by decide +kernel
theorem dX6_note_9 : decode cX6_note 9 = .ok (.iconst 0, 1) := by decide +kernel
theorem dX6_note_10 : decode cX6_note 10 = .ok (.istore_n 1, 1) := by decide +kernel
theorem dX6_note_11 : decode cX6_note 11 = .ok (.iload_n 1, 1) := by decide +kernel
theorem dX6_note_12 : decode cX6_note 12 = .ok (.sipush 943, 3) := by decide +kernel
theorem dX6_note_15 : decode cX6_note 15 = .ok (.if_icmp .ge 24, 3) := by decide +kernel
theorem dX6_note_18 : decode cX6_note 18 = .ok (.aload_n 0, 1) := by decide +kernel
theorem dX6_note_19 : decode cX6_note 19 = .ok (.getfield 34, 3) := by decide +kernel
theorem dX6_note_22 : decode cX6_note 22 = .ok (.iload_n 1, 1) := by decide +kernel
theorem dX6_note_23 : decode cX6_note 23 = .ok (.aload_n 0, 1) := by decide +kernel
theorem dX6_note_24 : decode cX6_note 24 = .ok (.getfield 34, 3) := by decide +kernel
theorem dX6_note_27 : decode cX6_note 27 = .ok (.iload_n 1, 1) := by decide +kernel
theorem dX6_note_28 : decode cX6_note 28 = .ok (.bipush 41, 2) := by decide +kernel
theorem dX6_note_30 : decode cX6_note 30 = .ok (.iadd, 1) := by decide +kernel
theorem dX6_note_31 : decode cX6_note 31 = .ok (.iaload, 1) := by decide +kernel
theorem dX6_note_32 : decode cX6_note 32 = .ok (.iastore, 1) := by decide +kernel
theorem dX6_note_33 : decode cX6_note 33 = .ok (.iinc 1 1, 3) := by decide +kernel
theorem dX6_note_36 : decode cX6_note 36 = .ok (.goto (-25), 3) := by decide +kernel
theorem dX6_note_39 : decode cX6_note 39 = .ok (.aload_n 0, 1) := by decide +kernel
theorem dX6_note_40 : decode cX6_note 40 = .ok (.dup, 1) := by decide +kernel
theorem dX6_note_41 : decode cX6_note 41 = .ok (.getfield 139, 3) := by decide +kernel
theorem dX6_note_44 : decode cX6_note 44 = .ok (.iconst 1, 1) := by decide +kernel
theorem dX6_note_45 : decode cX6_note 45 = .ok (.isub, 1) := by decide +kernel
theorem dX6_note_46 : decode cX6_note 46 = .ok (.putfield 139, 3) := by decide +kernel
theorem dX6_note_49 : decode cX6_note 49 = .ok (.iconst 0, 1) := by decide +kernel
theorem dX6_note_50 : decode cX6_note 50 = .ok (.istore_n 1, 1) := by decide +kernel
theorem dX6_note_51 : decode cX6_note 51 = .ok (.iload_n 1, 1) := by decide +kernel
theorem dX6_note_52 : decode cX6_note 52 = .ok (.bipush 41, 2) := by decide +kernel
theorem dX6_note_54 : decode cX6_note 54 = .ok (.if_icmp .ge 29, 3) := by decide +kernel
theorem dX6_note_57 : decode cX6_note 57 = .ok (.aload_n 0, 1) := by decide +kernel
theorem dX6_note_58 : decode cX6_note 58 = .ok (.getfield 34, 3) := by decide +kernel
theorem dX6_note_61 : decode cX6_note 61 = .ok (.bipush 41, 2) := by decide +kernel
theorem dX6_note_63 : decode cX6_note 63 = .ok (.aload_n 0, 1) := by decide +kernel
theorem dX6_note_64 : decode cX6_note 64 = .ok (.getfield 139, 3) := by decide +kernel
theorem dX6_note_67 : decode cX6_note 67 = .ok (.imul, 1) := by decide +kernel
theorem dX6_note_68 : decode cX6_note 68 = .ok (.iload_n 1, 1) := by decide +kernel
theorem dX6_note_69 : decode cX6_note 69 = .ok (.iadd, 1) := by decide +kernel
theorem dX6_note_70 : decode cX6_note 70 = .ok (.aload_n 0, 1) := by decide +kernel
theorem dX6_note_71 : decode cX6_note 71 = .ok (.getfield 19, 3) := by decide +kernel
theorem dX6_note_74 : decode cX6_note 74 = .ok (.iload_n 1, 1) := by decide +kernel
theorem dX6_note_75 : decode cX6_note 75 = .ok (.iaload, 1) := by decide +kernel
theorem dX6_note_76 : decode cX6_note 76 = .ok (.iastore, 1) := by decide +kernel
theorem dX6_note_77 : decode cX6_note 77 = .ok (.iinc 1 1, 3) := by decide +kernel
theorem dX6_note_80 : decode cX6_note 80 = .ok (.goto (-29), 3) := by decide +kernel
theorem dX6_note_83 : decode cX6_note 83 = .ok (.aload_n 0, 1) := by decide +kernel
theorem dX6_note_84 : decode cX6_note 84 = .ok (.dup, 1) := by decide +kernel
theorem dX6_note_85 : decode cX6_note 85 = .ok (.getfield 139, 3) := by decide +kernel
theorem dX6_note_88 : decode cX6_note 88 = .ok (.iconst 1, 1) := by decide +kernel
theorem dX6_note_89 : decode cX6_note 89 = .ok (.iadd, 1) := by decide +kernel
theorem dX6_note_90 : decode cX6_note 90 = .ok (.putfield 139, 3) := by decide +kernel
theorem dX6_note_93 : decode cX6_note 93 = .ok (.return_, 1) := by decide +kernel
theorem dX6_undo_0 : decode cX6_undo 0 = .ok (.aload_n 0, 1) := by decide +kernel
theorem dX6_undo_1 : decode cX6_undo 1 = .ok (.getfield 139, 3) := by decide +kernel
theorem dX6_undo_4 : decode cX6_undo 4 = .ok (.ifCond .ne 6, 3) := by decide +kernel
theorem dX6_undo_7 : decode cX6_undo 7 = .ok (.ldc 169, 2) := by decide +kernel
theorem dX6_undo_9 : decode cX6_undo 9 = .ok (.ireturn, 1) := by decide +kernel
theorem dX6_undo_10 : decode cX6_undo 10 = .ok (.aload_n 0, 1) := by decide +kernel
theorem dX6_undo_11 : decode cX6_undo 11 = .ok (.dup, 1) := by decide +kernel
theorem dX6_undo_12 : decode cX6_undo 12 = .ok (.getfield 139, 3) := by decide +kernel
theorem dX6_undo_15 : decode cX6_undo 15 = .ok (.iconst 1, 1) := by decide +kernel
theorem dX6_undo_16 : decode cX6_undo 16 = .ok (.isub, 1) := by decide +kernel
theorem dX6_undo_17 : decode cX6_undo 17 = .ok (.putfield 139, 3) := by decide +kernel
theorem dX6_undo_20 : decode cX6_undo 20 = .ok (.iconst 0, 1) := by decide +kernel
theorem dX6_undo_21 : decode cX6_undo 21 = .ok (.istore_n 1, 1) := by decide +kernel
theorem dX6_undo_22 : decode cX6_undo 22 = .ok (.iload_n 1, 1) := by decide +kernel
theorem dX6_undo_23 : decode cX6_undo 23 = .ok (.bipush 41, 2) := by decide +kernel
theorem dX6_undo_25 : decode cX6_undo 25 = .ok (.if_icmp .ge 29, 3) := by decide +kernel
theorem dX6_undo_28 : decode cX6_undo 28 = .ok (.aload_n 0, 1) := by decide +kernel
theorem dX6_undo_29 : decode cX6_undo 29 = .ok (.getfield 19, 3) := by decide +kernel
theorem dX6_undo_32 : decode cX6_undo 32 = .ok (.iload_n 1, 1) := by decide +kernel
theorem dX6_undo_33 : decode cX6_undo 33 = .ok (.aload_n 0, 1) := by decide +kernel
theorem dX6_undo_34 : decode cX6_undo 34 = .ok (.getfield 34, 3) := by decide +kernel
theorem dX6_undo_37 : decode cX6_undo 37 = .ok (.bipush 41, 2) := by decide +kernel
theorem dX6_undo_39 : decode cX6_undo 39 = .ok (.aload_n 0, 1) := by decide +kernel
theorem dX6_undo_40 : decode cX6_undo 40 = .ok (.getfield 139, 3) := by decide +kernel
theorem dX6_undo_43 : decode cX6_undo 43 = .ok (.imul, 1) := by decide +kernel
theorem dX6_undo_44 : decode cX6_undo 44 = .ok (.iload_n 1, 1) := by decide +kernel
theorem dX6_undo_45 : decode cX6_undo 45 = .ok (.iadd, 1) := by decide +kernel
theorem dX6_undo_46 : decode cX6_undo 46 = .ok (.iaload, 1) := by decide +kernel
theorem dX6_undo_47 : decode cX6_undo 47 = .ok (.iastore, 1) := by decide +kernel
theorem dX6_undo_48 : decode cX6_undo 48 = .ok (.iinc 1 1, 3) := by decide +kernel
theorem dX6_undo_51 : decode cX6_undo 51 = .ok (.goto (-29), 3) := by decide +kernel
theorem dX6_undo_54 : decode cX6_undo 54 = .ok (.aload_n 0, 1) := by decide +kernel
theorem dX6_undo_55 : decode cX6_undo 55 = .ok (.getfield 139, 3) := by decide +kernel
theorem dX6_undo_58 : decode cX6_undo 58 = .ok (.ireturn, 1) := by decide +kernel
theorem dX6_nights_0 : decode cX6_nights 0 = .ok (.aload_n 0, 1) := by decide +kernel
theorem dX6_nights_1 : decode cX6_nights 1 = .ok (.getfield 135, 3) := by decide +kernel
theorem dX6_nights_4 : decode cX6_nights 4 = .ok (.ifCond .ne 6, 3) := by decide +kernel
theorem dX6_nights_7 : decode cX6_nights 7 = .ok (.ldc 169, 2) := by decide +kernel
theorem dX6_nights_9 : decode cX6_nights 9 = .ok (.ireturn, 1) := by decide +kernel
theorem dX6_nights_10 : decode cX6_nights 10 = .ok (.iload_n 1, 1) := by decide +kernel
theorem dX6_nights_11 : decode cX6_nights 11 = .ok (.i2l, 1) := by decide +kernel
theorem dX6_nights_12 : decode cX6_nights 12 = .ok (.lconst 1, 1) := by decide +kernel
theorem dX6_nights_13 : decode cX6_nights 13 = .ok (.ldc2_w 170, 3) := by decide +kernel
theorem dX6_nights_16 : decode cX6_nights 16 = .ok (.invokestatic 57, 3) := by decide +kernel
theorem dX6_nights_19 : decode cX6_nights 19 = .ok (.ifCond .ne 6, 3) := by decide +kernel
theorem dX6_nights_22 : decode cX6_nights 22 = .ok (.ldc 67, 2) := by decide +kernel
theorem dX6_nights_24 : decode cX6_nights 24 = .ok (.ireturn, 1) := by decide +kernel
theorem dX6_nights_25 : decode cX6_nights 25 = .ok (.aload_n 0, 1) := by decide +kernel
theorem dX6_nights_26 : decode cX6_nights 26 = .ok (.getfield 19, 3) := by decide +kernel
theorem dX6_nights_29 : decode cX6_nights 29 = .ok (.iconst 3, 1) := by decide +kernel
theorem dX6_nights_30 : decode cX6_nights 30 = .ok (.iaload, 1) := by decide +kernel
theorem dX6_nights_31 : decode cX6_nights 31 = .ok (.iload_n 1, 1) := by decide +kernel
theorem dX6_nights_32 : decode cX6_nights 32 = .ok (.iadd, 1) := by decide +kernel
theorem dX6_nights_33 : decode cX6_nights 33 = .ok (.sipush 999, 3) := by decide +kernel
theorem dX6_nights_36 : decode cX6_nights 36 = .ok (.if_icmp .le 6, 3) := by decide +kernel
theorem dX6_nights_39 : decode cX6_nights 39 = .ok (.ldc 84, 2) := by decide +kernel
theorem dX6_nights_41 : decode cX6_nights 41 = .ok (.ireturn, 1) := by decide +kernel
theorem dX6_nights_42 : decode cX6_nights 42 = .ok (.iconst 0, 1) := by decide +kernel
theorem dX6_nights_43 : decode cX6_nights 43 = .ok (.istore_n 2, 1) := by decide +kernel
theorem dX6_nights_44 : decode cX6_nights 44 = .ok (.iload_n 2, 1) := by decide +kernel
theorem dX6_nights_45 : decode cX6_nights 45 = .ok (.iload_n 1, 1) := by decide +kernel
theorem dX6_nights_46 : decode cX6_nights 46 = .ok (.if_icmp .ge 17, 3) := by decide +kernel
theorem dX6_nights_49 : decode cX6_nights 49 = .ok (.aload_n 0, 1) := by decide +kernel
theorem dX6_nights_50 : decode cX6_nights 50 = .ok (.invokevirtual 172, 3) := by decide +kernel
theorem dX6_nights_53 : decode cX6_nights 53 = .ok (.aload_n 0, 1) := by decide +kernel
theorem dX6_nights_54 : decode cX6_nights 54 = .ok (.invokevirtual 175, 3) := by decide +kernel
theorem dX6_nights_57 : decode cX6_nights 57 = .ok (.iinc 2 1, 3) := by decide +kernel
theorem dX6_nights_60 : decode cX6_nights 60 = .ok (.goto (-16), 3) := by decide +kernel
theorem dX6_nights_63 : decode cX6_nights 63 = .ok (.aload_n 0, 1) := by decide +kernel
theorem dX6_nights_64 : decode cX6_nights 64 = .ok (.iconst 0, 1) := by decide +kernel
theorem dX6_nights_65 : decode cX6_nights 65 = .ok (.invokevirtual 153, 3) := by decide +kernel
theorem dX6_nights_68 : decode cX6_nights 68 = .ok (.ireturn, 1) := by decide +kernel
theorem dX6_cushions_0 : decode cX6_cushions 0 = .ok (.aload_n 0, 1) := by decide +kernel
theorem dX6_cushions_1 : decode cX6_cushions 1 = .ok (.iload_n 1, 1) := by decide +kernel
theorem dX6_cushions_2 : decode cX6_cushions 2 = .ok (.invokevirtual 178, 3) := by decide +kernel
theorem dX6_cushions_5 : decode cX6_cushions 5 = .ok (.ifCond .eq 15, 3) := by decide +kernel
theorem dX6_cushions_8 : decode cX6_cushions 8 = .ok (.iload_n 2, 1) := by decide +kernel
theorem dX6_cushions_9 : decode cX6_cushions 9 = .ok (.i2l, 1) := by decide +kernel
theorem dX6_cushions_10 : decode cX6_cushions 10 = .ok (.lconst 0, 1) := by decide +kernel
theorem dX6_cushions_11 : decode cX6_cushions 11 = .ok (.ldc2_w 181, 3) := by decide +kernel
theorem dX6_cushions_14 : decode cX6_cushions 14 = .ok (.invokestatic 57, 3) := by decide +kernel
theorem dX6_cushions_17 : decode cX6_cushions 17 = .ok (.ifCond .ne 6, 3) := by decide +kernel
theorem dX6_cushions_20 : decode cX6_cushions 20 = .ok (.ldc 67, 2) := by decide +kernel
theorem dX6_cushions_22 : decode cX6_cushions 22 = .ok (.ireturn, 1) := by decide +kernel
theorem dX6_cushions_23 : decode cX6_cushions 23 = .ok (.aload_n 0, 1) := by decide +kernel
theorem dX6_cushions_24 : decode cX6_cushions 24 = .ok (.invokevirtual 172, 3) := by decide +kernel
theorem dX6_cushions_27 : decode cX6_cushions 27 = .ok (.aload_n 0, 1) := by decide +kernel
theorem dX6_cushions_28 : decode cX6_cushions 28 = .ok (.getfield 19, 3) := by decide +kernel
theorem dX6_cushions_31 : decode cX6_cushions 31 = .ok (.bipush 29, 2) := by decide +kernel
theorem dX6_cushions_33 : decode cX6_cushions 33 = .ok (.iload_n 1, 1) := by decide +kernel
theorem dX6_cushions_34 : decode cX6_cushions 34 = .ok (.iadd, 1) := by decide +kernel
theorem dX6_cushions_35 : decode cX6_cushions 35 = .ok (.iaload, 1) := by decide +kernel
theorem dX6_cushions_36 : decode cX6_cushions 36 = .ok (.istore_n 3, 1) := by decide +kernel
theorem dX6_cushions_37 : decode cX6_cushions 37 = .ok (.aload_n 0, 1) := by decide +kernel
theorem dX6_cushions_38 : decode cX6_cushions 38 = .ok (.getfield 19, 3) := by decide +kernel
theorem dX6_cushions_41 : decode cX6_cushions 41 = .ok (.bipush 29, 2) := by decide +kernel
theorem dX6_cushions_43 : decode cX6_cushions 43 = .ok (.iload_n 1, 1) := by decide +kernel
theorem dX6_cushions_44 : decode cX6_cushions 44 = .ok (.iadd, 1) := by decide +kernel
theorem dX6_cushions_45 : decode cX6_cushions 45 = .ok (.iload_n 2, 1) := by decide +kernel
theorem dX6_cushions_46 : decode cX6_cushions 46 = .ok (.iastore, 1) := by decide +kernel
theorem dX6_cushions_47 : decode cX6_cushions 47 = .ok (.iload_n 3, 1) := by decide +kernel
theorem dX6_cushions_48 : decode cX6_cushions 48 = .ok (.ireturn, 1) := by decide +kernel
theorem dX6_glue_0 : decode cX6_glue 0 = .ok (.aload_n 0, 1) := by decide +kernel
theorem dX6_glue_1 : decode cX6_glue 1 = .ok (.getfield 19, 3) := by decide +kernel
theorem dX6_glue_4 : decode cX6_glue 4 = .ok (.bipush 11, 2) := by decide +kernel
theorem dX6_glue_6 : decode cX6_glue 6 = .ok (.iload_n 1, 1) := by decide +kernel
theorem dX6_glue_7 : decode cX6_glue 7 = .ok (.iadd, 1) := by decide +kernel
theorem dX6_glue_8 : decode cX6_glue 8 = .ok (.iaload, 1) := by decide +kernel
theorem dX6_glue_9 : decode cX6_glue 9 = .ok (.aload_n 0, 1) := by decide +kernel
theorem dX6_glue_10 : decode cX6_glue 10 = .ok (.getfield 19, 3) := by decide +kernel
theorem dX6_glue_13 : decode cX6_glue 13 = .ok (.iconst 1, 1) := by decide +kernel
theorem dX6_glue_14 : decode cX6_glue 14 = .ok (.iaload, 1) := by decide +kernel
theorem dX6_glue_15 : decode cX6_glue 15 = .ok (.iadd, 1) := by decide +kernel
theorem dX6_glue_16 : decode cX6_glue 16 = .ok (.istore_n 2, 1) := by decide +kernel
theorem dX6_glue_17 : decode cX6_glue 17 = .ok (.aload_n 0, 1) := by decide +kernel
theorem dX6_glue_18 : decode cX6_glue 18 = .ok (.getfield 19, 3) := by decide +kernel
theorem dX6_glue_21 : decode cX6_glue 21 = .ok (.bipush 11, 2) := by decide +kernel
theorem dX6_glue_23 : decode cX6_glue 23 = .ok (.iload_n 1, 1) := by decide +kernel
theorem dX6_glue_24 : decode cX6_glue 24 = .ok (.iadd, 1) := by decide +kernel
theorem dX6_glue_25 : decode cX6_glue 25 = .ok (.iload_n 2, 1) := by decide +kernel
theorem dX6_glue_26 : decode cX6_glue 26 = .ok (.bipush 60, 2) := by decide +kernel
theorem dX6_glue_28 : decode cX6_glue 28 = .ok (.if_icmp .le 8, 3) := by decide +kernel
theorem dX6_glue_31 : decode cX6_glue 31 = .ok (.bipush 60, 2) := by decide +kernel
theorem dX6_glue_33 : decode cX6_glue 33 = .ok (.goto 4, 3) := by decide +kernel
theorem dX6_glue_36 : decode cX6_glue 36 = .ok (.iload_n 2, 1) := by decide +kernel
theorem dX6_glue_37 : decode cX6_glue 37 = .ok (.iastore, 1) := by decide +kernel
theorem dX6_glue_38 : decode cX6_glue 38 = .ok (.return_, 1) := by decide +kernel
theorem dX6_mend_0 : decode cX6_mend 0 = .ok (.aload_n 0, 1) := by decide +kernel
theorem dX6_mend_1 : decode cX6_mend 1 = .ok (.iload_n 1, 1) := by decide +kernel
theorem dX6_mend_2 : decode cX6_mend 2 = .ok (.invokevirtual 178, 3) := by decide +kernel
theorem dX6_mend_5 : decode cX6_mend 5 = .ok (.ifCond .ne 6, 3) := by decide +kernel
theorem dX6_mend_8 : decode cX6_mend 8 = .ok (.ldc 67, 2) := by decide +kernel
theorem dX6_mend_10 : decode cX6_mend 10 = .ok (.ireturn, 1) := by decide +kernel
theorem dX6_mend_11 : decode cX6_mend 11 = .ok (.aload_n 0, 1) := by decide +kernel
theorem dX6_mend_12 : decode cX6_mend 12 = .ok (.getfield 19, 3) := by decide +kernel
theorem dX6_mend_15 : decode cX6_mend 15 = .ok (.bipush 11, 2) := by decide +kernel
theorem dX6_mend_17 : decode cX6_mend 17 = .ok (.iload_n 1, 1) := by decide +kernel
theorem dX6_mend_18 : decode cX6_mend 18 = .ok (.iadd, 1) := by decide +kernel
theorem dX6_mend_19 : decode cX6_mend 19 = .ok (.iaload, 1) := by decide +kernel
theorem dX6_mend_20 : decode cX6_mend 20 = .ok (.bipush 60, 2) := by decide +kernel
theorem dX6_mend_22 : decode cX6_mend 22 = .ok (.if_icmp .ne 6, 3) := by decide +kernel
theorem dX6_mend_25 : decode cX6_mend 25 = .ok (.ldc 84, 2) := by decide +kernel
theorem dX6_mend_27 : decode cX6_mend 27 = .ok (.ireturn, 1) := by decide +kernel
theorem dX6_mend_28 : decode cX6_mend 28 = .ok (.aload_n 0, 1) := by decide +kernel
theorem dX6_mend_29 : decode cX6_mend 29 = .ok (.invokevirtual 172, 3) := by decide +kernel
theorem dX6_mend_32 : decode cX6_mend 32 = .ok (.aload_n 0, 1) := by decide +kernel
theorem dX6_mend_33 : decode cX6_mend 33 = .ok (.iload_n 1, 1) := by decide +kernel
theorem dX6_mend_34 : decode cX6_mend 34 = .ok (.invokevirtual 183, 3) := by decide +kernel
theorem dX6_mend_37 : decode cX6_mend 37 = .ok (.aload_n 0, 1) := by decide +kernel
theorem dX6_mend_38 : decode cX6_mend 38 = .ok (.getfield 19, 3) := by decide +kernel
theorem dX6_mend_41 : decode cX6_mend 41 = .ok (.bipush 11, 2) := by decide +kernel
theorem dX6_mend_43 : decode cX6_mend 43 = .ok (.iload_n 1, 1) := by decide +kernel
theorem dX6_mend_44 : decode cX6_mend 44 = .ok (.iadd, 1) := by decide +kernel
theorem dX6_mend_45 : decode cX6_mend 45 = .ok (.iaload, 1) := by decide +kernel
theorem dX6_mend_46 : decode cX6_mend 46 = .ok (.ireturn, 1) := by decide +kernel
theorem dX6_watch_0 : decode cX6_watch 0 = .ok (.aload_n 0, 1) := by decide +kernel
theorem dX6_watch_1 : decode cX6_watch 1 = .ok (.iload_n 1, 1) := by decide +kernel
theorem dX6_watch_2 : decode cX6_watch 2 = .ok (.invokevirtual 178, 3) := by decide +kernel
theorem dX6_watch_5 : decode cX6_watch 5 = .ok (.ifCond .eq 13, 3) := by decide +kernel
theorem dX6_watch_8 : decode cX6_watch 8 = .ok (.iload_n 2, 1) := by decide +kernel
theorem dX6_watch_9 : decode cX6_watch 9 = .ok (.i2l, 1) := by decide +kernel
theorem dX6_watch_10 : decode cX6_watch 10 = .ok (.lconst 0, 1) := by decide +kernel
theorem dX6_watch_11 : decode cX6_watch 11 = .ok (.lconst 1, 1) := by decide +kernel
theorem dX6_watch_12 : decode cX6_watch 12 = .ok (.invokestatic 57, 3) := by decide +kernel
theorem dX6_watch_15 : decode cX6_watch 15 = .ok (.ifCond .ne 6, 3) := by decide +kernel
theorem dX6_watch_18 : decode cX6_watch 18 = .ok (.ldc 67, 2) := by decide +kernel
theorem dX6_watch_20 : decode cX6_watch 20 = .ok (.ireturn, 1) := by decide +kernel
theorem dX6_watch_21 : decode cX6_watch 21 = .ok (.aload_n 0, 1) := by decide +kernel
theorem dX6_watch_22 : decode cX6_watch 22 = .ok (.getfield 19, 3) := by decide +kernel
theorem dX6_watch_25 : decode cX6_watch 25 = .ok (.iconst 4, 1) := by decide +kernel
theorem dX6_watch_26 : decode cX6_watch 26 = .ok (.iaload, 1) := by decide +kernel
theorem dX6_watch_27 : decode cX6_watch 27 = .ok (.iload_n 1, 1) := by decide +kernel
theorem dX6_watch_28 : decode cX6_watch 28 = .ok (.invokestatic 162, 3) := by decide +kernel
theorem dX6_watch_31 : decode cX6_watch 31 = .ok (.iload_n 2, 1) := by decide +kernel
theorem dX6_watch_32 : decode cX6_watch 32 = .ok (.iconst 1, 1) := by decide +kernel
theorem dX6_watch_33 : decode cX6_watch 33 = .ok (.if_icmp .ne 7, 3) := by decide +kernel
theorem dX6_watch_36 : decode cX6_watch 36 = .ok (.iconst 1, 1) := by decide +kernel
theorem dX6_watch_37 : decode cX6_watch 37 = .ok (.goto 4, 3) := by decide +kernel
theorem dX6_watch_40 : decode cX6_watch 40 = .ok (.iconst 0, 1) := by decide +kernel
theorem dX6_watch_41 : decode cX6_watch 41 = .ok (.if_icmp .ne 6, 3) := by decide +kernel
theorem dX6_watch_44 : decode cX6_watch 44 = .ok (.ldc 169, 2) := by decide +kernel
theorem dX6_watch_46 : decode cX6_watch 46 = .ok (.ireturn, 1) := by decide +kernel
theorem dX6_watch_47 : decode cX6_watch 47 = .ok (.iload_n 2, 1) := by decide +kernel
theorem dX6_watch_48 : decode cX6_watch 48 = .ok (.iconst 1, 1) := by decide +kernel
theorem dX6_watch_49 : decode cX6_watch 49 = .ok (.if_icmp .ne 24, 3) := by decide +kernel
theorem dX6_watch_52 : decode cX6_watch 52 = .ok (.aload_n 0, 1) := by decide +kernel
theorem dX6_watch_53 : decode cX6_watch 53 = .ok (.getfield 19, 3) := by decide +kernel
theorem dX6_watch_56 : decode cX6_watch 56 = .ok (.iconst 4, 1) := by decide +kernel
theorem dX6_watch_57 : decode cX6_watch 57 = .ok (.iaload, 1) := by decide +kernel
theorem dX6_watch_58 : decode cX6_watch 58 = .ok (.invokestatic 187, 3) := by decide +kernel
theorem dX6_watch_61 : decode cX6_watch 61 = .ok (.aload_n 0, 1) := by decide +kernel
theorem dX6_watch_62 : decode cX6_watch 62 = .ok (.getfield 19, 3) := by decide +kernel
theorem dX6_watch_65 : decode cX6_watch 65 = .ok (.iconst 0, 1) := by decide +kernel
theorem dX6_watch_66 : decode cX6_watch 66 = .ok (.iaload, 1) := by decide +kernel
theorem dX6_watch_67 : decode cX6_watch 67 = .ok (.if_icmp .lt 6, 3) := by decide +kernel
theorem dX6_watch_70 : decode cX6_watch 70 = .ok (.ldc 84, 2) := by decide +kernel
theorem dX6_watch_72 : decode cX6_watch 72 = .ok (.ireturn, 1) := by decide +kernel
theorem dX6_watch_73 : decode cX6_watch 73 = .ok (.aload_n 0, 1) := by decide +kernel
theorem dX6_watch_74 : decode cX6_watch 74 = .ok (.invokevirtual 172, 3) := by decide +kernel
theorem dX6_watch_77 : decode cX6_watch 77 = .ok (.aload_n 0, 1) := by decide +kernel
theorem dX6_watch_78 : decode cX6_watch 78 = .ok (.getfield 19, 3) := by decide +kernel
theorem dX6_watch_81 : decode cX6_watch 81 = .ok (.iconst 4, 1) := by decide +kernel
theorem dX6_watch_82 : decode cX6_watch 82 = .ok (.dup2, 1) := by decide +kernel
theorem dX6_watch_83 : decode cX6_watch 83 = .ok (.iaload, 1) := by decide +kernel
theorem dX6_watch_84 : decode cX6_watch 84 = .ok (.iconst 1, 1) := by decide +kernel
theorem dX6_watch_85 : decode cX6_watch 85 = .ok (.iload_n 1, 1) := by decide +kernel
theorem dX6_watch_86 : decode cX6_watch 86 = .ok (.ishl, 1) := by decide +kernel
theorem dX6_watch_87 : decode cX6_watch 87 = .ok (.ixor, 1) := by decide +kernel
theorem dX6_watch_88 : decode cX6_watch 88 = .ok (.iastore, 1) := by decide +kernel
theorem dX6_watch_89 : decode cX6_watch 89 = .ok (.aload_n 0, 1) := by decide +kernel
theorem dX6_watch_90 : decode cX6_watch 90 = .ok (.getfield 19, 3) := by decide +kernel
theorem dX6_watch_93 : decode cX6_watch 93 = .ok (.iconst 4, 1) := by decide +kernel
theorem dX6_watch_94 : decode cX6_watch 94 = .ok (.iaload, 1) := by decide +kernel
theorem dX6_watch_95 : decode cX6_watch 95 = .ok (.ireturn, 1) := by decide +kernel
theorem dX6_exchange_0 : decode cX6_exchange 0 = .ok (.aload_n 0, 1) := by decide +kernel
theorem dX6_exchange_1 : decode cX6_exchange 1 = .ok (.getfield 19, 3) := by decide +kernel
theorem dX6_exchange_4 : decode cX6_exchange 4 = .ok (.iload_n 1, 1) := by decide +kernel
theorem dX6_exchange_5 : decode cX6_exchange 5 = .ok (.iload_n 2, 1) := by decide +kernel
theorem dX6_exchange_6 : decode cX6_exchange 6 = .ok (.iadd, 1) := by decide +kernel
theorem dX6_exchange_7 : decode cX6_exchange 7 = .ok (.iaload, 1) := by decide +kernel
theorem dX6_exchange_8 : decode cX6_exchange 8 = .ok (.istore 4, 2) := by decide +kernel
theorem dX6_exchange_10 : decode cX6_exchange 10 = .ok (.aload_n 0, 1) := by decide +kernel
theorem dX6_exchange_11 : decode cX6_exchange 11 = .ok (.getfield 19, 3) := by decide +kernel
theorem dX6_exchange_14 : decode cX6_exchange 14 = .ok (.iload_n 1, 1) := by decide +kernel
theorem dX6_exchange_15 : decode cX6_exchange 15 = .ok (.iload_n 2, 1) := by decide +kernel
theorem dX6_exchange_16 : decode cX6_exchange 16 = .ok (.iadd, 1) := by decide +kernel
theorem dX6_exchange_17 : decode cX6_exchange 17 = .ok (.aload_n 0, 1) := by decide +kernel
theorem dX6_exchange_18 : decode cX6_exchange 18 = .ok (.getfield 19, 3) := by decide +kernel
theorem dX6_exchange_21 : decode cX6_exchange 21 = .ok (.iload_n 1, 1) := by decide +kernel
theorem dX6_exchange_22 : decode cX6_exchange 22 = .ok (.iload_n 3, 1) := by decide +kernel
theorem dX6_exchange_23 : decode cX6_exchange 23 = .ok (.iadd, 1) := by decide +kernel
theorem dX6_exchange_24 : decode cX6_exchange 24 = .ok (.iaload, 1) := by decide +kernel
theorem dX6_exchange_25 : decode cX6_exchange 25 = .ok (.iastore, 1) := by decide +kernel
theorem dX6_exchange_26 : decode cX6_exchange 26 = .ok (.aload_n 0, 1) := by decide +kernel
theorem dX6_exchange_27 : decode cX6_exchange 27 = .ok (.getfield 19, 3) := by decide +kernel
theorem dX6_exchange_30 : decode cX6_exchange 30 = .ok (.iload_n 1, 1) := by decide +kernel
theorem dX6_exchange_31 : decode cX6_exchange 31 = .ok (.iload_n 3, 1) := by decide +kernel
theorem dX6_exchange_32 : decode cX6_exchange 32 = .ok (.iadd, 1) := by decide +kernel
theorem dX6_exchange_33 : decode cX6_exchange 33 = .ok (.iload 4, 2) := by decide +kernel
theorem dX6_exchange_35 : decode cX6_exchange 35 = .ok (.iastore, 1) := by decide +kernel
theorem dX6_exchange_36 : decode cX6_exchange 36 = .ok (.return_, 1) := by decide +kernel
theorem dX6_change_0 : decode cX6_change 0 = .ok (.aload_n 0, 1) := by decide +kernel
theorem dX6_change_1 : decode cX6_change 1 = .ok (.iload_n 1, 1) := by decide +kernel
theorem dX6_change_2 : decode cX6_change 2 = .ok (.invokevirtual 178, 3) := by decide +kernel
theorem dX6_change_5 : decode cX6_change 5 = .ok (.ifCond .eq 16, 3) := by decide +kernel
theorem dX6_change_8 : decode cX6_change 8 = .ok (.aload_n 0, 1) := by decide +kernel
theorem dX6_change_9 : decode cX6_change 9 = .ok (.iload_n 2, 1) := by decide +kernel
theorem dX6_change_10 : decode cX6_change 10 = .ok (.invokevirtual 178, 3) := by decide +kernel
theorem dX6_change_13 : decode cX6_change 13 = .ok (.ifCond .eq 8, 3) := by decide +kernel
theorem dX6_change_16 : decode cX6_change 16 = .ok (.iload_n 1, 1) := by decide +kernel
theorem dX6_change_17 : decode cX6_change 17 = .ok (.iload_n 2, 1) := by decide +kernel
theorem dX6_change_18 : decode cX6_change 18 = .ok (.if_icmp .ne 6, 3) := by decide +kernel
theorem dX6_change_21 : decode cX6_change 21 = .ok (.ldc 67, 2) := by decide +kernel
theorem dX6_change_23 : decode cX6_change 23 = .ok (.ireturn, 1) := by decide +kernel
theorem dX6_change_24 : decode cX6_change 24 = .ok (.aload_n 0, 1) := by decide +kernel
theorem dX6_change_25 : decode cX6_change 25 = .ok (.invokevirtual 172, 3) := by decide +kernel
theorem dX6_change_28 : decode cX6_change 28 = .ok (.aload_n 0, 1) := by decide +kernel
theorem dX6_change_29 : decode cX6_change 29 = .ok (.bipush 17, 2) := by decide +kernel
theorem dX6_change_31 : decode cX6_change 31 = .ok (.iload_n 1, 1) := by decide +kernel
theorem dX6_change_32 : decode cX6_change 32 = .ok (.iload_n 2, 1) := by decide +kernel
theorem dX6_change_33 : decode cX6_change 33 = .ok (.invokevirtual 190, 3) := by decide +kernel
theorem dX6_change_36 : decode cX6_change 36 = .ok (.aload_n 0, 1) := by decide +kernel
theorem dX6_change_37 : decode cX6_change 37 = .ok (.bipush 23, 2) := by decide +kernel
theorem dX6_change_39 : decode cX6_change 39 = .ok (.iload_n 1, 1) := by decide +kernel
theorem dX6_change_40 : decode cX6_change 40 = .ok (.iload_n 2, 1) := by decide +kernel
theorem dX6_change_41 : decode cX6_change 41 = .ok (.invokevirtual 190, 3) := by decide +kernel
theorem dX6_change_44 : decode cX6_change 44 = .ok (.aload_n 0, 1) := by decide +kernel
theorem dX6_change_45 : decode cX6_change 45 = .ok (.bipush 35, 2) := by decide +kernel
theorem dX6_change_47 : decode cX6_change 47 = .ok (.iload_n 1, 1) := by decide +kernel
theorem dX6_change_48 : decode cX6_change 48 = .ok (.iload_n 2, 1) := by decide +kernel
theorem dX6_change_49 : decode cX6_change 49 = .ok (.invokevirtual 190, 3) := by decide +kernel
theorem dX6_change_52 : decode cX6_change 52 = .ok (.aload_n 0, 1) := by decide +kernel
theorem dX6_change_53 : decode cX6_change 53 = .ok (.iload_n 1, 1) := by decide +kernel
theorem dX6_change_54 : decode cX6_change 54 = .ok (.invokevirtual 159, 3) := by decide +kernel
theorem dX6_change_57 : decode cX6_change 57 = .ok (.ireturn, 1) := by decide +kernel
theorem dX6_saw_0 : decode cX6_saw 0 = .ok (.aload_n 0, 1) := by decide +kernel
theorem dX6_saw_1 : decode cX6_saw 1 = .ok (.iload_n 1, 1) := by decide +kernel
theorem dX6_saw_2 : decode cX6_saw 2 = .ok (.invokevirtual 178, 3) := by decide +kernel
theorem dX6_saw_5 : decode cX6_saw 5 = .ok (.ifCond .eq 15, 3) := by decide +kernel
theorem dX6_saw_8 : decode cX6_saw 8 = .ok (.iload_n 2, 1) := by decide +kernel
theorem dX6_saw_9 : decode cX6_saw 9 = .ok (.i2l, 1) := by decide +kernel
theorem dX6_saw_10 : decode cX6_saw 10 = .ok (.lconst 0, 1) := by decide +kernel
theorem dX6_saw_11 : decode cX6_saw 11 = .ok (.ldc2_w 194, 3) := by decide +kernel
theorem dX6_saw_14 : decode cX6_saw 14 = .ok (.invokestatic 57, 3) := by decide +kernel
theorem dX6_saw_17 : decode cX6_saw 17 = .ok (.ifCond .ne 6, 3) := by decide +kernel
theorem dX6_saw_20 : decode cX6_saw 20 = .ok (.ldc 67, 2) := by decide +kernel
theorem dX6_saw_22 : decode cX6_saw 22 = .ok (.ireturn, 1) := by decide +kernel
theorem dX6_saw_23 : decode cX6_saw 23 = .ok (.aload_n 0, 1) := by decide +kernel
theorem dX6_saw_24 : decode cX6_saw 24 = .ok (.invokevirtual 172, 3) := by decide +kernel
theorem dX6_saw_27 : decode cX6_saw 27 = .ok (.aload_n 0, 1) := by decide +kernel
theorem dX6_saw_28 : decode cX6_saw 28 = .ok (.getfield 19, 3) := by decide +kernel
theorem dX6_saw_31 : decode cX6_saw 31 = .ok (.bipush 17, 2) := by decide +kernel
theorem dX6_saw_33 : decode cX6_saw 33 = .ok (.iload_n 1, 1) := by decide +kernel
theorem dX6_saw_34 : decode cX6_saw 34 = .ok (.iadd, 1) := by decide +kernel
theorem dX6_saw_35 : decode cX6_saw 35 = .ok (.iaload, 1) := by decide +kernel
theorem dX6_saw_36 : decode cX6_saw 36 = .ok (.istore_n 3, 1) := by decide +kernel
theorem dX6_saw_37 : decode cX6_saw 37 = .ok (.aload_n 0, 1) := by decide +kernel
theorem dX6_saw_38 : decode cX6_saw 38 = .ok (.getfield 19, 3) := by decide +kernel
theorem dX6_saw_41 : decode cX6_saw 41 = .ok (.bipush 17, 2) := by decide +kernel
theorem dX6_saw_43 : decode cX6_saw 43 = .ok (.iload_n 1, 1) := by decide +kernel
theorem dX6_saw_44 : decode cX6_saw 44 = .ok (.iadd, 1) := by decide +kernel
theorem dX6_saw_45 : decode cX6_saw 45 = .ok (.iload_n 2, 1) := by decide +kernel
theorem dX6_saw_46 : decode cX6_saw 46 = .ok (.iastore, 1) := by decide +kernel
theorem dX6_saw_47 : decode cX6_saw 47 = .ok (.iload_n 3, 1) := by decide +kernel
theorem dX6_saw_48 : decode cX6_saw 48 = .ok (.ireturn, 1) := by decide +kernel
theorem dX6_chair_0 : decode cX6_chair 0 = .ok (.aload_n 0, 1) := by decide +kernel
theorem dX6_chair_1 : decode cX6_chair 1 = .ok (.iload_n 1, 1) := by decide +kernel
theorem dX6_chair_2 : decode cX6_chair 2 = .ok (.invokevirtual 178, 3) := by decide +kernel
theorem dX6_chair_5 : decode cX6_chair 5 = .ok (.ifCond .ne 6, 3) := by decide +kernel
theorem dX6_chair_8 : decode cX6_chair 8 = .ok (.ldc 67, 2) := by decide +kernel
theorem dX6_chair_10 : decode cX6_chair 10 = .ok (.ireturn, 1) := by decide +kernel
theorem dX6_chair_11 : decode cX6_chair 11 = .ok (.iload_n 2, 1) := by decide +kernel
theorem dX6_chair_12 : decode cX6_chair 12 = .ok (.tableswitch 139 0 8 #[52, 62, 72, 78, 84, 103, 113, 123, 129], 52) := by decide +kernel
theorem dX6_chair_64 : decode cX6_chair 64 = .ok (.aload_n 0, 1) := by decide +kernel
theorem dX6_chair_65 : decode cX6_chair 65 = .ok (.getfield 19, 3) := by decide +kernel
theorem dX6_chair_68 : decode cX6_chair 68 = .ok (.bipush 11, 2) := by decide +kernel
theorem dX6_chair_70 : decode cX6_chair 70 = .ok (.iload_n 1, 1) := by decide +kernel
theorem dX6_chair_71 : decode cX6_chair 71 = .ok (.iadd, 1) := by decide +kernel
theorem dX6_chair_72 : decode cX6_chair 72 = .ok (.iaload, 1) := by decide +kernel
theorem dX6_chair_73 : decode cX6_chair 73 = .ok (.ireturn, 1) := by decide +kernel
theorem dX6_chair_74 : decode cX6_chair 74 = .ok (.aload_n 0, 1) := by decide +kernel
theorem dX6_chair_75 : decode cX6_chair 75 = .ok (.getfield 19, 3) := by decide +kernel
theorem dX6_chair_78 : decode cX6_chair 78 = .ok (.bipush 29, 2) := by decide +kernel
theorem dX6_chair_80 : decode cX6_chair 80 = .ok (.iload_n 1, 1) := by decide +kernel
theorem dX6_chair_81 : decode cX6_chair 81 = .ok (.iadd, 1) := by decide +kernel
theorem dX6_chair_82 : decode cX6_chair 82 = .ok (.iaload, 1) := by decide +kernel
theorem dX6_chair_83 : decode cX6_chair 83 = .ok (.ireturn, 1) := by decide +kernel
theorem dX6_chair_84 : decode cX6_chair 84 = .ok (.aload_n 0, 1) := by decide +kernel
theorem dX6_chair_85 : decode cX6_chair 85 = .ok (.iload_n 1, 1) := by decide +kernel
theorem dX6_chair_86 : decode cX6_chair 86 = .ok (.invokevirtual 146, 3) := by decide +kernel
theorem dX6_chair_89 : decode cX6_chair 89 = .ok (.ireturn, 1) := by decide +kernel
theorem dX6_chair_90 : decode cX6_chair 90 = .ok (.aload_n 0, 1) := by decide +kernel
theorem dX6_chair_91 : decode cX6_chair 91 = .ok (.iload_n 1, 1) := by decide +kernel
theorem dX6_chair_92 : decode cX6_chair 92 = .ok (.invokevirtual 150, 3) := by decide +kernel
theorem dX6_chair_95 : decode cX6_chair 95 = .ok (.ireturn, 1) := by decide +kernel
theorem dX6_chair_96 : decode cX6_chair 96 = .ok (.aload_n 0, 1) := by decide +kernel
theorem dX6_chair_97 : decode cX6_chair 97 = .ok (.getfield 19, 3) := by decide +kernel
theorem dX6_chair_100 : decode cX6_chair 100 = .ok (.iconst 4, 1) := by decide +kernel
theorem dX6_chair_101 : decode cX6_chair 101 = .ok (.iaload, 1) := by decide +kernel
theorem dX6_chair_102 : decode cX6_chair 102 = .ok (.iload_n 1, 1) := by decide +kernel
theorem dX6_chair_103 : decode cX6_chair 103 = .ok (.invokestatic 162, 3) := by decide +kernel
theorem dX6_chair_106 : decode cX6_chair 106 = .ok (.ifCond .eq 7, 3) := by decide +kernel
theorem dX6_chair_109 : decode cX6_chair 109 = .ok (.iconst 1, 1) := by decide +kernel
theorem dX6_chair_110 : decode cX6_chair 110 = .ok (.goto 4, 3) := by decide +kernel
theorem dX6_chair_113 : decode cX6_chair 113 = .ok (.iconst 0, 1) := by decide +kernel
theorem dX6_chair_114 : decode cX6_chair 114 = .ok (.ireturn, 1) := by decide +kernel
theorem dX6_chair_115 : decode cX6_chair 115 = .ok (.aload_n 0, 1) := by decide +kernel
theorem dX6_chair_116 : decode cX6_chair 116 = .ok (.getfield 19, 3) := by decide +kernel
theorem dX6_chair_119 : decode cX6_chair 119 = .ok (.bipush 17, 2) := by decide +kernel
theorem dX6_chair_121 : decode cX6_chair 121 = .ok (.iload_n 1, 1) := by decide +kernel
theorem dX6_chair_122 : decode cX6_chair 122 = .ok (.iadd, 1) := by decide +kernel
theorem dX6_chair_123 : decode cX6_chair 123 = .ok (.iaload, 1) := by decide +kernel
theorem dX6_chair_124 : decode cX6_chair 124 = .ok (.ireturn, 1) := by decide +kernel
theorem dX6_chair_125 : decode cX6_chair 125 = .ok (.aload_n 0, 1) := by decide +kernel
theorem dX6_chair_126 : decode cX6_chair 126 = .ok (.getfield 19, 3) := by decide +kernel
theorem dX6_chair_129 : decode cX6_chair 129 = .ok (.bipush 23, 2) := by decide +kernel
theorem dX6_chair_131 : decode cX6_chair 131 = .ok (.iload_n 1, 1) := by decide +kernel
theorem dX6_chair_132 : decode cX6_chair 132 = .ok (.iadd, 1) := by decide +kernel
theorem dX6_chair_133 : decode cX6_chair 133 = .ok (.iaload, 1) := by decide +kernel
theorem dX6_chair_134 : decode cX6_chair 134 = .ok (.ireturn, 1) := by decide +kernel
theorem dX6_chair_135 : decode cX6_chair 135 = .ok (.aload_n 0, 1) := by decide +kernel
theorem dX6_chair_136 : decode cX6_chair 136 = .ok (.iload_n 1, 1) := by decide +kernel
theorem dX6_chair_137 : decode cX6_chair 137 = .ok (.invokevirtual 159, 3) := by decide +kernel
theorem dX6_chair_140 : decode cX6_chair 140 = .ok (.ireturn, 1) := by decide +kernel
theorem dX6_chair_141 : decode cX6_chair 141 = .ok (.aload_n 0, 1) := by decide +kernel
theorem dX6_chair_142 : decode cX6_chair 142 = .ok (.getfield 19, 3) := by decide +kernel
theorem dX6_chair_145 : decode cX6_chair 145 = .ok (.bipush 35, 2) := by decide +kernel
theorem dX6_chair_147 : decode cX6_chair 147 = .ok (.iload_n 1, 1) := by decide +kernel
theorem dX6_chair_148 : decode cX6_chair 148 = .ok (.iadd, 1) := by decide +kernel
theorem dX6_chair_149 : decode cX6_chair 149 = .ok (.iaload, 1) := by decide +kernel
theorem dX6_chair_150 : decode cX6_chair 150 = .ok (.ireturn, 1) := by decide +kernel
theorem dX6_chair_151 : decode cX6_chair 151 = .ok (.ldc 67, 2) := by decide +kernel
theorem dX6_chair_153 : decode cX6_chair 153 = .ok (.ireturn, 1) := by decide +kernel
theorem dX6_ranked_0 : decode cX6_ranked 0 = .ok (.iload_n 1, 1) := by decide +kernel
theorem dX6_ranked_1 : decode cX6_ranked 1 = .ok (.i2l, 1) := by decide +kernel
theorem dX6_ranked_2 : decode cX6_ranked 2 = .ok (.lconst 0, 1) := by decide +kernel
theorem dX6_ranked_3 : decode cX6_ranked 3 = .ok (.aload_n 0, 1) := by decide +kernel
theorem dX6_ranked_4 : decode cX6_ranked 4 = .ok (.getfield 19, 3) := by decide +kernel
theorem dX6_ranked_7 : decode cX6_ranked 7 = .ok (.iconst 2, 1) := by decide +kernel
theorem dX6_ranked_8 : decode cX6_ranked 8 = .ok (.iaload, 1) := by decide +kernel
theorem dX6_ranked_9 : decode cX6_ranked 9 = .ok (.iconst 1, 1) := by decide +kernel
theorem dX6_ranked_10 : decode cX6_ranked 10 = .ok (.isub, 1) := by decide +kernel
theorem dX6_ranked_11 : decode cX6_ranked 11 = .ok (.i2l, 1) := by decide +kernel
theorem dX6_ranked_12 : decode cX6_ranked 12 = .ok (.invokestatic 57, 3) := by decide +kernel
theorem dX6_ranked_15 : decode cX6_ranked 15 = .ok (.ifCond .eq 11, 3) := by decide +kernel
theorem dX6_ranked_18 : decode cX6_ranked 18 = .ok (.aload_n 0, 1) := by decide +kernel
theorem dX6_ranked_19 : decode cX6_ranked 19 = .ok (.iload_n 1, 1) := by decide +kernel
theorem dX6_ranked_20 : decode cX6_ranked 20 = .ok (.invokevirtual 153, 3) := by decide +kernel
theorem dX6_ranked_23 : decode cX6_ranked 23 = .ok (.goto 5, 3) := by decide +kernel
theorem dX6_ranked_26 : decode cX6_ranked 26 = .ok (.ldc 67, 2) := by decide +kernel
theorem dX6_ranked_28 : decode cX6_ranked 28 = .ok (.ireturn, 1) := by decide +kernel
theorem dX6_putAside_0 : decode cX6_putAside 0 = .ok (.iconst 0, 1) := by decide +kernel
theorem dX6_putAside_1 : decode cX6_putAside 1 = .ok (.istore_n 1, 1) := by decide +kernel
theorem dX6_putAside_2 : decode cX6_putAside 2 = .ok (.iload_n 1, 1) := by decide +kernel
theorem dX6_putAside_3 : decode cX6_putAside 3 = .ok (.bipush 41, 2) := by decide +kernel
theorem dX6_putAside_5 : decode cX6_putAside 5 = .ok (.if_icmp .ge 21, 3) := by decide +kernel
theorem dX6_putAside_8 : decode cX6_putAside 8 = .ok (.aload_n 0, 1) := by decide +kernel
theorem dX6_putAside_9 : decode cX6_putAside 9 = .ok (.getfield 37, 3) := by decide +kernel
theorem dX6_putAside_12 : decode cX6_putAside 12 = .ok (.iload_n 1, 1) := by decide +kernel
theorem dX6_putAside_13 : decode cX6_putAside 13 = .ok (.aload_n 0, 1) := by decide +kernel
theorem dX6_putAside_14 : decode cX6_putAside 14 = .ok (.getfield 19, 3) := by decide +kernel
theorem dX6_putAside_17 : decode cX6_putAside 17 = .ok (.iload_n 1, 1) := by decide +kernel
theorem dX6_putAside_18 : decode cX6_putAside 18 = .ok (.iaload, 1) := by decide +kernel
theorem dX6_putAside_19 : decode cX6_putAside 19 = .ok (.iastore, 1) := by decide +kernel
theorem dX6_putAside_20 : decode cX6_putAside 20 = .ok (.iinc 1 1, 3) := by decide +kernel
theorem dX6_putAside_23 : decode cX6_putAside 23 = .ok (.goto (-21), 3) := by decide +kernel
theorem dX6_putAside_26 : decode cX6_putAside 26 = .ok (.return_, 1) := by decide +kernel
theorem dX6_takeBack_0 : decode cX6_takeBack 0 = .ok (.iconst 0, 1) := by decide +kernel
theorem dX6_takeBack_1 : decode cX6_takeBack 1 = .ok (.istore_n 1, 1) := by decide +kernel
theorem dX6_takeBack_2 : decode cX6_takeBack 2 = .ok (.iload_n 1, 1) := by decide +kernel
theorem dX6_takeBack_3 : decode cX6_takeBack 3 = .ok (.bipush 41, 2) := by decide +kernel
theorem dX6_takeBack_5 : decode cX6_takeBack 5 = .ok (.if_icmp .ge 21, 3) := by decide +kernel
theorem dX6_takeBack_8 : decode cX6_takeBack 8 = .ok (.aload_n 0, 1) := by decide +kernel
theorem dX6_takeBack_9 : decode cX6_takeBack 9 = .ok (.getfield 19, 3) := by decide +kernel
theorem dX6_takeBack_12 : decode cX6_takeBack 12 = .ok (.iload_n 1, 1) := by decide +kernel
theorem dX6_takeBack_13 : decode cX6_takeBack 13 = .ok (.aload_n 0, 1) := by decide +kernel
theorem dX6_takeBack_14 : decode cX6_takeBack 14 = .ok (.getfield 37, 3) := by decide +kernel
theorem dX6_takeBack_17 : decode cX6_takeBack 17 = .ok (.iload_n 1, 1) := by decide +kernel
theorem dX6_takeBack_18 : decode cX6_takeBack 18 = .ok (.iaload, 1) := by decide +kernel
theorem dX6_takeBack_19 : decode cX6_takeBack 19 = .ok (.iastore, 1) := by decide +kernel
theorem dX6_takeBack_20 : decode cX6_takeBack 20 = .ok (.iinc 1 1, 3) := by decide +kernel
theorem dX6_takeBack_23 : decode cX6_takeBack 23 = .ok (.goto (-21), 3) := by decide +kernel
theorem dX6_takeBack_26 : decode cX6_takeBack 26 = .ok (.return_, 1) := by decide +kernel
theorem dX6_goOn_0 : decode cX6_goOn 0 = .ok (.iconst 0, 1) := by decide +kernel
theorem dX6_goOn_1 : decode cX6_goOn 1 = .ok (.istore_n 2, 1) := by decide +kernel
theorem dX6_goOn_2 : decode cX6_goOn 2 = .ok (.iload_n 2, 1) := by decide +kernel
theorem dX6_goOn_3 : decode cX6_goOn 3 = .ok (.iload_n 1, 1) := by decide +kernel
theorem dX6_goOn_4 : decode cX6_goOn 4 = .ok (.if_icmp .ge 13, 3) := by decide +kernel
theorem dX6_goOn_7 : decode cX6_goOn 7 = .ok (.aload_n 0, 1) := by decide +kernel
theorem dX6_goOn_8 : decode cX6_goOn 8 = .ok (.invokevirtual 175, 3) := by decide +kernel
theorem dX6_goOn_11 : decode cX6_goOn 11 = .ok (.iinc 2 1, 3) := by decide +kernel
theorem dX6_goOn_14 : decode cX6_goOn 14 = .ok (.goto (-12), 3) := by decide +kernel
theorem dX6_goOn_17 : decode cX6_goOn 17 = .ok (.return_, 1) := by decide +kernel
theorem dX6_isWhat_0 : decode cX6_isWhat 0 = .ok (.iload_n 0, 1) := by decide +kernel
theorem dX6_isWhat_1 : decode cX6_isWhat 1 = .ok (.i2l, 1) := by decide +kernel
theorem dX6_isWhat_2 : decode cX6_isWhat 2 = .ok (.lconst 0, 1) := by decide +kernel
theorem dX6_isWhat_3 : decode cX6_isWhat 3 = .ok (.lconst 1, 1) := by decide +kernel
theorem dX6_isWhat_4 : decode cX6_isWhat 4 = .ok (.invokestatic 57, 3) := by decide +kernel
theorem dX6_isWhat_7 : decode cX6_isWhat 7 = .ok (.ireturn, 1) := by decide +kernel
theorem dX6_rankBy_0 : decode cX6_rankBy 0 = .ok (.aload_n 0, 1) := by decide +kernel
theorem dX6_rankBy_1 : decode cX6_rankBy 1 = .ok (.iload_n 2, 1) := by decide +kernel
theorem dX6_rankBy_2 : decode cX6_rankBy 2 = .ok (.invokevirtual 196, 3) := by decide +kernel
theorem dX6_rankBy_5 : decode cX6_rankBy 5 = .ok (.aload_n 0, 1) := by decide +kernel
theorem dX6_rankBy_6 : decode cX6_rankBy 6 = .ok (.iload_n 1, 1) := by decide +kernel
theorem dX6_rankBy_7 : decode cX6_rankBy 7 = .ok (.invokevirtual 150, 3) := by decide +kernel
theorem dX6_rankBy_10 : decode cX6_rankBy 10 = .ok (.istore_n 3, 1) := by decide +kernel
theorem dX6_rankBy_11 : decode cX6_rankBy 11 = .ok (.aload_n 0, 1) := by decide +kernel
theorem dX6_rankBy_12 : decode cX6_rankBy 12 = .ok (.invokevirtual 199, 3) := by decide +kernel
theorem dX6_rankBy_15 : decode cX6_rankBy 15 = .ok (.iload_n 3, 1) := by decide +kernel
theorem dX6_rankBy_16 : decode cX6_rankBy 16 = .ok (.ireturn, 1) := by decide +kernel
theorem dX6_ahead_0 : decode cX6_ahead 0 = .ok (.aload_n 0, 1) := by decide +kernel
theorem dX6_ahead_1 : decode cX6_ahead 1 = .ok (.iload_n 1, 1) := by decide +kernel
theorem dX6_ahead_2 : decode cX6_ahead 2 = .ok (.invokevirtual 178, 3) := by decide +kernel
theorem dX6_ahead_5 : decode cX6_ahead 5 = .ok (.ifCond .eq 27, 3) := by decide +kernel
theorem dX6_ahead_8 : decode cX6_ahead 8 = .ok (.iload_n 2, 1) := by decide +kernel
theorem dX6_ahead_9 : decode cX6_ahead 9 = .ok (.i2l, 1) := by decide +kernel
theorem dX6_ahead_10 : decode cX6_ahead 10 = .ok (.lconst 0, 1) := by decide +kernel
theorem dX6_ahead_11 : decode cX6_ahead 11 = .ok (.ldc2_w 202, 3) := by decide +kernel
theorem dX6_ahead_14 : decode cX6_ahead 14 = .ok (.invokestatic 57, 3) := by decide +kernel
theorem dX6_ahead_17 : decode cX6_ahead 17 = .ok (.ifCond .eq 15, 3) := by decide +kernel
theorem dX6_ahead_20 : decode cX6_ahead 20 = .ok (.iload_n 3, 1) := by decide +kernel
theorem dX6_ahead_21 : decode cX6_ahead 21 = .ok (.i2l, 1) := by decide +kernel
theorem dX6_ahead_22 : decode cX6_ahead 22 = .ok (.lconst 0, 1) := by decide +kernel
theorem dX6_ahead_23 : decode cX6_ahead 23 = .ok (.ldc2_w 65, 3) := by decide +kernel
theorem dX6_ahead_26 : decode cX6_ahead 26 = .ok (.invokestatic 57, 3) := by decide +kernel
theorem dX6_ahead_29 : decode cX6_ahead 29 = .ok (.ifCond .ne 6, 3) := by decide +kernel
theorem dX6_ahead_32 : decode cX6_ahead 32 = .ok (.ldc 67, 2) := by decide +kernel
theorem dX6_ahead_34 : decode cX6_ahead 34 = .ok (.ireturn, 1) := by decide +kernel
theorem dX6_ahead_35 : decode cX6_ahead 35 = .ok (.aload_n 0, 1) := by decide +kernel
theorem dX6_ahead_36 : decode cX6_ahead 36 = .ok (.invokevirtual 204, 3) := by decide +kernel
theorem dX6_ahead_39 : decode cX6_ahead 39 = .ok (.aload_n 0, 1) := by decide +kernel
theorem dX6_ahead_40 : decode cX6_ahead 40 = .ok (.iload_n 2, 1) := by decide +kernel
theorem dX6_ahead_41 : decode cX6_ahead 41 = .ok (.invokevirtual 196, 3) := by decide +kernel
theorem dX6_ahead_44 : decode cX6_ahead 44 = .ok (.iload_n 3, 1) := by decide +kernel
theorem dX6_ahead_45 : decode cX6_ahead 45 = .ok (.ifCond .ne 11, 3) := by decide +kernel
theorem dX6_ahead_48 : decode cX6_ahead 48 = .ok (.aload_n 0, 1) := by decide +kernel
theorem dX6_ahead_49 : decode cX6_ahead 49 = .ok (.iload_n 1, 1) := by decide +kernel
theorem dX6_ahead_50 : decode cX6_ahead 50 = .ok (.invokevirtual 146, 3) := by decide +kernel
theorem dX6_ahead_53 : decode cX6_ahead 53 = .ok (.goto 25, 3) := by decide +kernel
theorem dX6_ahead_56 : decode cX6_ahead 56 = .ok (.iload_n 3, 1) := by decide +kernel
theorem dX6_ahead_57 : decode cX6_ahead 57 = .ok (.iconst 1, 1) := by decide +kernel
theorem dX6_ahead_58 : decode cX6_ahead 58 = .ok (.if_icmp .ne 11, 3) := by decide +kernel
theorem dX6_ahead_61 : decode cX6_ahead 61 = .ok (.aload_n 0, 1) := by decide +kernel
theorem dX6_ahead_62 : decode cX6_ahead 62 = .ok (.iload_n 1, 1) := by decide +kernel
theorem dX6_ahead_63 : decode cX6_ahead 63 = .ok (.invokevirtual 150, 3) := by decide +kernel
theorem dX6_ahead_66 : decode cX6_ahead 66 = .ok (.goto 12, 3) := by decide +kernel
theorem dX6_ahead_69 : decode cX6_ahead 69 = .ok (.aload_n 0, 1) := by decide +kernel
theorem dX6_ahead_70 : decode cX6_ahead 70 = .ok (.getfield 19, 3) := by decide +kernel
theorem dX6_ahead_73 : decode cX6_ahead 73 = .ok (.bipush 11, 2) := by decide +kernel
theorem dX6_ahead_75 : decode cX6_ahead 75 = .ok (.iload_n 1, 1) := by decide +kernel
theorem dX6_ahead_76 : decode cX6_ahead 76 = .ok (.iadd, 1) := by decide +kernel
theorem dX6_ahead_77 : decode cX6_ahead 77 = .ok (.iaload, 1) := by decide +kernel
theorem dX6_ahead_78 : decode cX6_ahead 78 = .ok (.istore 4, 2) := by decide +kernel
theorem dX6_ahead_80 : decode cX6_ahead 80 = .ok (.aload_n 0, 1) := by decide +kernel
theorem dX6_ahead_81 : decode cX6_ahead 81 = .ok (.invokevirtual 199, 3) := by decide +kernel
theorem dX6_ahead_84 : decode cX6_ahead 84 = .ok (.iload 4, 2) := by decide +kernel
theorem dX6_ahead_86 : decode cX6_ahead 86 = .ok (.ireturn, 1) := by decide +kernel
theorem dX6_minister_0 : decode cX6_minister 0 = .ok (.aload_n 0, 1) := by decide +kernel
theorem dX6_minister_1 : decode cX6_minister 1 = .ok (.getfield 135, 3) := by decide +kernel
theorem dX6_minister_4 : decode cX6_minister 4 = .ok (.ifCond .ne 6, 3) := by decide +kernel
theorem dX6_minister_7 : decode cX6_minister 7 = .ok (.ldc 169, 2) := by decide +kernel
theorem dX6_minister_9 : decode cX6_minister 9 = .ok (.ireturn, 1) := by decide +kernel
theorem dX6_minister_10 : decode cX6_minister 10 = .ok (.iload_n 1, 1) := by decide +kernel
theorem dX6_minister_11 : decode cX6_minister 11 = .ok (.i2l, 1) := by decide +kernel
theorem dX6_minister_12 : decode cX6_minister 12 = .ok (.lconst 0, 1) := by decide +kernel
theorem dX6_minister_13 : decode cX6_minister 13 = .ok (.ldc2_w 202, 3) := by decide +kernel
theorem dX6_minister_16 : decode cX6_minister 16 = .ok (.invokestatic 57, 3) := by decide +kernel
theorem dX6_minister_19 : decode cX6_minister 19 = .ok (.ifCond .ne 6, 3) := by decide +kernel
theorem dX6_minister_22 : decode cX6_minister 22 = .ok (.ldc 67, 2) := by decide +kernel
theorem dX6_minister_24 : decode cX6_minister 24 = .ok (.ireturn, 1) := by decide +kernel
theorem dX6_minister_25 : decode cX6_minister 25 = .ok (.aload_n 0, 1) := by decide +kernel
theorem dX6_minister_26 : decode cX6_minister 26 = .ok (.invokevirtual 204, 3) := by decide +kernel
theorem dX6_minister_29 : decode cX6_minister 29 = .ok (.aload_n 0, 1) := by decide +kernel
theorem dX6_minister_30 : decode cX6_minister 30 = .ok (.iload_n 1, 1) := by decide +kernel
theorem dX6_minister_31 : decode cX6_minister 31 = .ok (.invokevirtual 196, 3) := by decide +kernel
theorem dX6_minister_34 : decode cX6_minister 34 = .ok (.aload_n 0, 1) := by decide +kernel
theorem dX6_minister_35 : decode cX6_minister 35 = .ok (.iconst 0, 1) := by decide +kernel
theorem dX6_minister_36 : decode cX6_minister 36 = .ok (.invokevirtual 153, 3) := by decide +kernel
theorem dX6_minister_39 : decode cX6_minister 39 = .ok (.istore_n 2, 1) := by decide +kernel
theorem dX6_minister_40 : decode cX6_minister 40 = .ok (.aload_n 0, 1) := by decide +kernel
theorem dX6_minister_41 : decode cX6_minister 41 = .ok (.invokevirtual 199, 3) := by decide +kernel
theorem dX6_minister_44 : decode cX6_minister 44 = .ok (.iload_n 2, 1) := by decide +kernel
theorem dX6_minister_45 : decode cX6_minister 45 = .ok (.ireturn, 1) := by decide +kernel
theorem dX6_floor_0 : decode cX6_floor 0 = .ok (.aload_n 0, 1) := by decide +kernel
theorem dX6_floor_1 : decode cX6_floor 1 = .ok (.iload_n 1, 1) := by decide +kernel
theorem dX6_floor_2 : decode cX6_floor 2 = .ok (.invokevirtual 178, 3) := by decide +kernel
theorem dX6_floor_5 : decode cX6_floor 5 = .ok (.ifCond .ne 6, 3) := by decide +kernel
theorem dX6_floor_8 : decode cX6_floor 8 = .ok (.ldc 67, 2) := by decide +kernel
theorem dX6_floor_10 : decode cX6_floor 10 = .ok (.ireturn, 1) := by decide +kernel
theorem dX6_floor_11 : decode cX6_floor 11 = .ok (.aload_n 0, 1) := by decide +kernel
theorem dX6_floor_12 : decode cX6_floor 12 = .ok (.invokevirtual 204, 3) := by decide +kernel
theorem dX6_floor_15 : decode cX6_floor 15 = .ok (.iconst 0, 1) := by decide +kernel
theorem dX6_floor_16 : decode cX6_floor 16 = .ok (.istore_n 2, 1) := by decide +kernel
theorem dX6_floor_17 : decode cX6_floor 17 = .ok (.aload_n 0, 1) := by decide +kernel
theorem dX6_floor_18 : decode cX6_floor 18 = .ok (.getfield 19, 3) := by decide +kernel
theorem dX6_floor_21 : decode cX6_floor 21 = .ok (.bipush 11, 2) := by decide +kernel
theorem dX6_floor_23 : decode cX6_floor 23 = .ok (.iload_n 1, 1) := by decide +kernel
theorem dX6_floor_24 : decode cX6_floor 24 = .ok (.iadd, 1) := by decide +kernel
theorem dX6_floor_25 : decode cX6_floor 25 = .ok (.iaload, 1) := by decide +kernel
theorem dX6_floor_26 : decode cX6_floor 26 = .ok (.ifCond .le 19, 3) := by decide +kernel
theorem dX6_floor_29 : decode cX6_floor 29 = .ok (.iload_n 2, 1) := by decide +kernel
theorem dX6_floor_30 : decode cX6_floor 30 = .ok (.bipush 60, 2) := by decide +kernel
theorem dX6_floor_32 : decode cX6_floor 32 = .ok (.if_icmp .ge 13, 3) := by decide +kernel
theorem dX6_floor_35 : decode cX6_floor 35 = .ok (.aload_n 0, 1) := by decide +kernel
theorem dX6_floor_36 : decode cX6_floor 36 = .ok (.invokevirtual 175, 3) := by decide +kernel
theorem dX6_floor_39 : decode cX6_floor 39 = .ok (.iinc 2 1, 3) := by decide +kernel
theorem dX6_floor_42 : decode cX6_floor 42 = .ok (.goto (-25), 3) := by decide +kernel
theorem dX6_floor_45 : decode cX6_floor 45 = .ok (.aload_n 0, 1) := by decide +kernel
theorem dX6_floor_46 : decode cX6_floor 46 = .ok (.getfield 19, 3) := by decide +kernel
theorem dX6_floor_49 : decode cX6_floor 49 = .ok (.bipush 11, 2) := by decide +kernel
theorem dX6_floor_51 : decode cX6_floor 51 = .ok (.iload_n 1, 1) := by decide +kernel
theorem dX6_floor_52 : decode cX6_floor 52 = .ok (.iadd, 1) := by decide +kernel
theorem dX6_floor_53 : decode cX6_floor 53 = .ok (.iaload, 1) := by decide +kernel
theorem dX6_floor_54 : decode cX6_floor 54 = .ok (.ifCond .ne 7, 3) := by decide +kernel
theorem dX6_floor_57 : decode cX6_floor 57 = .ok (.iconst 1, 1) := by decide +kernel
theorem dX6_floor_58 : decode cX6_floor 58 = .ok (.goto 4, 3) := by decide +kernel
theorem dX6_floor_61 : decode cX6_floor 61 = .ok (.iconst 0, 1) := by decide +kernel
theorem dX6_floor_62 : decode cX6_floor 62 = .ok (.istore_n 3, 1) := by decide +kernel
theorem dX6_floor_63 : decode cX6_floor 63 = .ok (.aload_n 0, 1) := by decide +kernel
theorem dX6_floor_64 : decode cX6_floor 64 = .ok (.invokevirtual 199, 3) := by decide +kernel
theorem dX6_floor_67 : decode cX6_floor 67 = .ok (.iload_n 3, 1) := by decide +kernel
theorem dX6_floor_68 : decode cX6_floor 68 = .ok (.ifCond .eq 7, 3) := by decide +kernel
theorem dX6_floor_71 : decode cX6_floor 71 = .ok (.iload_n 2, 1) := by decide +kernel
theorem dX6_floor_72 : decode cX6_floor 72 = .ok (.goto 5, 3) := by decide +kernel
theorem dX6_floor_75 : decode cX6_floor 75 = .ok (.ldc 149, 2) := by decide +kernel
theorem dX6_floor_77 : decode cX6_floor 77 = .ok (.ireturn, 1) := by decide +kernel
theorem dX6_rises_0 : decode cX6_rises 0 = .ok (.aload_n 0, 1) := by decide +kernel
theorem dX6_rises_1 : decode cX6_rises 1 = .ok (.iload_n 1, 1) := by decide +kernel
theorem dX6_rises_2 : decode cX6_rises 2 = .ok (.invokevirtual 178, 3) := by decide +kernel
theorem dX6_rises_5 : decode cX6_rises 5 = .ok (.ifCond .eq 15, 3) := by decide +kernel
theorem dX6_rises_8 : decode cX6_rises 8 = .ok (.iload_n 2, 1) := by decide +kernel
theorem dX6_rises_9 : decode cX6_rises 9 = .ok (.i2l, 1) := by decide +kernel
theorem dX6_rises_10 : decode cX6_rises 10 = .ok (.lconst 0, 1) := by decide +kernel
theorem dX6_rises_11 : decode cX6_rises 11 = .ok (.ldc2_w 207, 3) := by decide +kernel
theorem dX6_rises_14 : decode cX6_rises 14 = .ok (.invokestatic 57, 3) := by decide +kernel
theorem dX6_rises_17 : decode cX6_rises 17 = .ok (.ifCond .ne 6, 3) := by decide +kernel
theorem dX6_rises_20 : decode cX6_rises 20 = .ok (.ldc 67, 2) := by decide +kernel
theorem dX6_rises_22 : decode cX6_rises 22 = .ok (.ireturn, 1) := by decide +kernel
theorem dX6_rises_23 : decode cX6_rises 23 = .ok (.aload_n 0, 1) := by decide +kernel
theorem dX6_rises_24 : decode cX6_rises 24 = .ok (.invokevirtual 204, 3) := by decide +kernel
theorem dX6_rises_27 : decode cX6_rises 27 = .ok (.iconst 0, 1) := by decide +kernel
theorem dX6_rises_28 : decode cX6_rises 28 = .ok (.istore_n 3, 1) := by decide +kernel
theorem dX6_rises_29 : decode cX6_rises 29 = .ok (.aload_n 0, 1) := by decide +kernel
theorem dX6_rises_30 : decode cX6_rises 30 = .ok (.iload_n 1, 1) := by decide +kernel
theorem dX6_rises_31 : decode cX6_rises 31 = .ok (.invokevirtual 150, 3) := by decide +kernel
theorem dX6_rises_34 : decode cX6_rises 34 = .ok (.iload_n 2, 1) := by decide +kernel
theorem dX6_rises_35 : decode cX6_rises 35 = .ok (.if_icmp .le 19, 3) := by decide +kernel
theorem dX6_rises_38 : decode cX6_rises 38 = .ok (.iload_n 3, 1) := by decide +kernel
theorem dX6_rises_39 : decode cX6_rises 39 = .ok (.bipush 60, 2) := by decide +kernel
theorem dX6_rises_41 : decode cX6_rises 41 = .ok (.if_icmp .ge 13, 3) := by decide +kernel
theorem dX6_rises_44 : decode cX6_rises 44 = .ok (.aload_n 0, 1) := by decide +kernel
theorem dX6_rises_45 : decode cX6_rises 45 = .ok (.invokevirtual 175, 3) := by decide +kernel
theorem dX6_rises_48 : decode cX6_rises 48 = .ok (.iinc 3 1, 3) := by decide +kernel
theorem dX6_rises_51 : decode cX6_rises 51 = .ok (.goto (-22), 3) := by decide +kernel
theorem dX6_rises_54 : decode cX6_rises 54 = .ok (.aload_n 0, 1) := by decide +kernel
theorem dX6_rises_55 : decode cX6_rises 55 = .ok (.iload_n 1, 1) := by decide +kernel
theorem dX6_rises_56 : decode cX6_rises 56 = .ok (.invokevirtual 150, 3) := by decide +kernel
theorem dX6_rises_59 : decode cX6_rises 59 = .ok (.iload_n 2, 1) := by decide +kernel
theorem dX6_rises_60 : decode cX6_rises 60 = .ok (.if_icmp .gt 7, 3) := by decide +kernel
theorem dX6_rises_63 : decode cX6_rises 63 = .ok (.iconst 1, 1) := by decide +kernel
theorem dX6_rises_64 : decode cX6_rises 64 = .ok (.goto 4, 3) := by decide +kernel
theorem dX6_rises_67 : decode cX6_rises 67 = .ok (.iconst 0, 1) := by decide +kernel
theorem dX6_rises_68 : decode cX6_rises 68 = .ok (.istore 4, 2) := by decide +kernel
theorem dX6_rises_70 : decode cX6_rises 70 = .ok (.aload_n 0, 1) := by decide +kernel
theorem dX6_rises_71 : decode cX6_rises 71 = .ok (.invokevirtual 199, 3) := by decide +kernel
theorem dX6_rises_74 : decode cX6_rises 74 = .ok (.iload 4, 2) := by decide +kernel
theorem dX6_rises_76 : decode cX6_rises 76 = .ok (.ifCond .eq 7, 3) := by decide +kernel
theorem dX6_rises_79 : decode cX6_rises 79 = .ok (.iload_n 3, 1) := by decide +kernel
theorem dX6_rises_80 : decode cX6_rises 80 = .ok (.goto 5, 3) := by decide +kernel
theorem dX6_rises_83 : decode cX6_rises 83 = .ok (.ldc 149, 2) := by decide +kernel
theorem dX6_rises_85 : decode cX6_rises 85 = .ok (.ireturn, 1) := by decide +kernel
theorem dX6_calm_0 : decode cX6_calm 0 = .ok (.aload_n 0, 1) := by decide +kernel
theorem dX6_calm_1 : decode cX6_calm 1 = .ok (.getfield 135, 3) := by decide +kernel
theorem dX6_calm_4 : decode cX6_calm 4 = .ok (.ifCond .ne 6, 3) := by decide +kernel
theorem dX6_calm_7 : decode cX6_calm 7 = .ok (.ldc 169, 2) := by decide +kernel
theorem dX6_calm_9 : decode cX6_calm 9 = .ok (.ireturn, 1) := by decide +kernel
theorem dX6_calm_10 : decode cX6_calm 10 = .ok (.aload_n 0, 1) := by decide +kernel
theorem dX6_calm_11 : decode cX6_calm 11 = .ok (.invokevirtual 204, 3) := by decide +kernel
theorem dX6_calm_14 : decode cX6_calm 14 = .ok (.ldc 149, 2) := by decide +kernel
theorem dX6_calm_16 : decode cX6_calm 16 = .ok (.istore_n 1, 1) := by decide +kernel
theorem dX6_calm_17 : decode cX6_calm 17 = .ok (.iconst 0, 1) := by decide +kernel
theorem dX6_calm_18 : decode cX6_calm 18 = .ok (.istore_n 2, 1) := by decide +kernel
theorem dX6_calm_19 : decode cX6_calm 19 = .ok (.iload_n 2, 1) := by decide +kernel
theorem dX6_calm_20 : decode cX6_calm 20 = .ok (.bipush 60, 2) := by decide +kernel
theorem dX6_calm_22 : decode cX6_calm 22 = .ok (.if_icmp .gt 40, 3) := by decide +kernel
theorem dX6_calm_25 : decode cX6_calm 25 = .ok (.iload_n 1, 1) := by decide +kernel
theorem dX6_calm_26 : decode cX6_calm 26 = .ok (.ifCond .ge 36, 3) := by decide +kernel
theorem dX6_calm_29 : decode cX6_calm 29 = .ok (.aload_n 0, 1) := by decide +kernel
theorem dX6_calm_30 : decode cX6_calm 30 = .ok (.bipush 11, 2) := by decide +kernel
theorem dX6_calm_32 : decode cX6_calm 32 = .ok (.invokevirtual 209, 3) := by decide +kernel
theorem dX6_calm_35 : decode cX6_calm 35 = .ok (.istore_n 3, 1) := by decide +kernel
theorem dX6_calm_36 : decode cX6_calm 36 = .ok (.aload_n 0, 1) := by decide +kernel
theorem dX6_calm_37 : decode cX6_calm 37 = .ok (.invokevirtual 175, 3) := by decide +kernel
theorem dX6_calm_40 : decode cX6_calm 40 = .ok (.aload_n 0, 1) := by decide +kernel
theorem dX6_calm_41 : decode cX6_calm 41 = .ok (.bipush 11, 2) := by decide +kernel
theorem dX6_calm_43 : decode cX6_calm 43 = .ok (.invokevirtual 209, 3) := by decide +kernel
theorem dX6_calm_46 : decode cX6_calm 46 = .ok (.iload_n 3, 1) := by decide +kernel
theorem dX6_calm_47 : decode cX6_calm 47 = .ok (.if_icmp .ne 7, 3) := by decide +kernel
theorem dX6_calm_50 : decode cX6_calm 50 = .ok (.iload_n 2, 1) := by decide +kernel
theorem dX6_calm_51 : decode cX6_calm 51 = .ok (.goto 4, 3) := by decide +kernel
theorem dX6_calm_54 : decode cX6_calm 54 = .ok (.iload_n 1, 1) := by decide +kernel
theorem dX6_calm_55 : decode cX6_calm 55 = .ok (.istore_n 1, 1) := by decide +kernel
theorem dX6_calm_56 : decode cX6_calm 56 = .ok (.iinc 2 1, 3) := by decide +kernel
theorem dX6_calm_59 : decode cX6_calm 59 = .ok (.goto (-40), 3) := by decide +kernel
theorem dX6_calm_62 : decode cX6_calm 62 = .ok (.aload_n 0, 1) := by decide +kernel
theorem dX6_calm_63 : decode cX6_calm 63 = .ok (.invokevirtual 199, 3) := by decide +kernel
theorem dX6_calm_66 : decode cX6_calm 66 = .ok (.iload_n 1, 1) := by decide +kernel
theorem dX6_calm_67 : decode cX6_calm 67 = .ok (.ireturn, 1) := by decide +kernel
theorem dX6_cushionFor_0 : decode cX6_cushionFor 0 = .ok (.aload_n 0, 1) := by decide +kernel
theorem dX6_cushionFor_1 : decode cX6_cushionFor 1 = .ok (.iload_n 1, 1) := by decide +kernel
theorem dX6_cushionFor_2 : decode cX6_cushionFor 2 = .ok (.invokevirtual 178, 3) := by decide +kernel
theorem dX6_cushionFor_5 : decode cX6_cushionFor 5 = .ok (.ifCond .eq 27, 3) := by decide +kernel
theorem dX6_cushionFor_8 : decode cX6_cushionFor 8 = .ok (.iload_n 2, 1) := by decide +kernel
theorem dX6_cushionFor_9 : decode cX6_cushionFor 9 = .ok (.i2l, 1) := by decide +kernel
theorem dX6_cushionFor_10 : decode cX6_cushionFor 10 = .ok (.lconst 0, 1) := by decide +kernel
theorem dX6_cushionFor_11 : decode cX6_cushionFor 11 = .ok (.ldc2_w 207, 3) := by decide +kernel
theorem dX6_cushionFor_14 : decode cX6_cushionFor 14 = .ok (.invokestatic 57, 3) := by decide +kernel
theorem dX6_cushionFor_17 : decode cX6_cushionFor 17 = .ok (.ifCond .eq 15, 3) := by decide +kernel
theorem dX6_cushionFor_20 : decode cX6_cushionFor 20 = .ok (.iload_n 3, 1) := by decide +kernel
theorem dX6_cushionFor_21 : decode cX6_cushionFor 21 = .ok (.i2l, 1) := by decide +kernel
theorem dX6_cushionFor_22 : decode cX6_cushionFor 22 = .ok (.lconst 0, 1) := by decide +kernel
theorem dX6_cushionFor_23 : decode cX6_cushionFor 23 = .ok (.ldc2_w 212, 3) := by decide +kernel
theorem dX6_cushionFor_26 : decode cX6_cushionFor 26 = .ok (.invokestatic 57, 3) := by decide +kernel
theorem dX6_cushionFor_29 : decode cX6_cushionFor 29 = .ok (.ifCond .ne 6, 3) := by decide +kernel
theorem dX6_cushionFor_32 : decode cX6_cushionFor 32 = .ok (.ldc 67, 2) := by decide +kernel
theorem dX6_cushionFor_34 : decode cX6_cushionFor 34 = .ok (.ireturn, 1) := by decide +kernel
theorem dX6_cushionFor_35 : decode cX6_cushionFor 35 = .ok (.aload_n 0, 1) := by decide +kernel
theorem dX6_cushionFor_36 : decode cX6_cushionFor 36 = .ok (.invokevirtual 204, 3) := by decide +kernel
theorem dX6_cushionFor_39 : decode cX6_cushionFor 39 = .ok (.ldc 149, 2) := by decide +kernel
theorem dX6_cushionFor_41 : decode cX6_cushionFor 41 = .ok (.istore 4, 2) := by decide +kernel
theorem dX6_cushionFor_43 : decode cX6_cushionFor 43 = .ok (.iconst 0, 1) := by decide +kernel
theorem dX6_cushionFor_44 : decode cX6_cushionFor 44 = .ok (.istore 5, 2) := by decide +kernel
theorem dX6_cushionFor_46 : decode cX6_cushionFor 46 = .ok (.iload 5, 2) := by decide +kernel
theorem dX6_cushionFor_48 : decode cX6_cushionFor 48 = .ok (.bipush 20, 2) := by decide +kernel
theorem dX6_cushionFor_50 : decode cX6_cushionFor 50 = .ok (.if_icmp .gt 44, 3) := by decide +kernel
theorem dX6_cushionFor_53 : decode cX6_cushionFor 53 = .ok (.iload 4, 2) := by decide +kernel
theorem dX6_cushionFor_55 : decode cX6_cushionFor 55 = .ok (.ifCond .ge 39, 3) := by decide +kernel
theorem dX6_cushionFor_58 : decode cX6_cushionFor 58 = .ok (.aload_n 0, 1) := by decide +kernel
theorem dX6_cushionFor_59 : decode cX6_cushionFor 59 = .ok (.getfield 19, 3) := by decide +kernel
theorem dX6_cushionFor_62 : decode cX6_cushionFor 62 = .ok (.bipush 29, 2) := by decide +kernel
theorem dX6_cushionFor_64 : decode cX6_cushionFor 64 = .ok (.iload_n 1, 1) := by decide +kernel
theorem dX6_cushionFor_65 : decode cX6_cushionFor 65 = .ok (.iadd, 1) := by decide +kernel
theorem dX6_cushionFor_66 : decode cX6_cushionFor 66 = .ok (.iload 5, 2) := by decide +kernel
theorem dX6_cushionFor_68 : decode cX6_cushionFor 68 = .ok (.iastore, 1) := by decide +kernel
theorem dX6_cushionFor_69 : decode cX6_cushionFor 69 = .ok (.aload_n 0, 1) := by decide +kernel
theorem dX6_cushionFor_70 : decode cX6_cushionFor 70 = .ok (.iload_n 1, 1) := by decide +kernel
theorem dX6_cushionFor_71 : decode cX6_cushionFor 71 = .ok (.iload_n 3, 1) := by decide +kernel
theorem dX6_cushionFor_72 : decode cX6_cushionFor 72 = .ok (.invokevirtual 214, 3) := by decide +kernel
theorem dX6_cushionFor_75 : decode cX6_cushionFor 75 = .ok (.iload_n 2, 1) := by decide +kernel
theorem dX6_cushionFor_76 : decode cX6_cushionFor 76 = .ok (.if_icmp .gt 8, 3) := by decide +kernel
theorem dX6_cushionFor_79 : decode cX6_cushionFor 79 = .ok (.iload 5, 2) := by decide +kernel
theorem dX6_cushionFor_81 : decode cX6_cushionFor 81 = .ok (.goto 5, 3) := by decide +kernel
theorem dX6_cushionFor_84 : decode cX6_cushionFor 84 = .ok (.iload 4, 2) := by decide +kernel
theorem dX6_cushionFor_86 : decode cX6_cushionFor 86 = .ok (.istore 4, 2) := by decide +kernel
theorem dX6_cushionFor_88 : decode cX6_cushionFor 88 = .ok (.iinc 5 1, 3) := by decide +kernel
theorem dX6_cushionFor_91 : decode cX6_cushionFor 91 = .ok (.goto (-45), 3) := by decide +kernel
theorem dX6_cushionFor_94 : decode cX6_cushionFor 94 = .ok (.iload 4, 2) := by decide +kernel
theorem dX6_cushionFor_96 : decode cX6_cushionFor 96 = .ok (.ireturn, 1) := by decide +kernel
theorem dX6_guard_0 : decode cX6_guard 0 = .ok (.aload_n 0, 1) := by decide +kernel
theorem dX6_guard_1 : decode cX6_guard 1 = .ok (.iload_n 1, 1) := by decide +kernel
theorem dX6_guard_2 : decode cX6_guard 2 = .ok (.invokevirtual 178, 3) := by decide +kernel
theorem dX6_guard_5 : decode cX6_guard 5 = .ok (.ifCond .eq 35, 3) := by decide +kernel
theorem dX6_guard_8 : decode cX6_guard 8 = .ok (.iload_n 2, 1) := by decide +kernel
theorem dX6_guard_9 : decode cX6_guard 9 = .ok (.i2l, 1) := by decide +kernel
theorem dX6_guard_10 : decode cX6_guard 10 = .ok (.lconst 0, 1) := by decide +kernel
theorem dX6_guard_11 : decode cX6_guard 11 = .ok (.ldc2_w 207, 3) := by decide +kernel
theorem dX6_guard_14 : decode cX6_guard 14 = .ok (.invokestatic 57, 3) := by decide +kernel
theorem dX6_guard_17 : decode cX6_guard 17 = .ok (.ifCond .eq 23, 3) := by decide +kernel
theorem dX6_guard_20 : decode cX6_guard 20 = .ok (.iload_n 3, 1) := by decide +kernel
theorem dX6_guard_21 : decode cX6_guard 21 = .ok (.i2l, 1) := by decide +kernel
theorem dX6_guard_22 : decode cX6_guard 22 = .ok (.lconst 0, 1) := by decide +kernel
theorem dX6_guard_23 : decode cX6_guard 23 = .ok (.ldc2_w 212, 3) := by decide +kernel
theorem dX6_guard_26 : decode cX6_guard 26 = .ok (.invokestatic 57, 3) := by decide +kernel
theorem dX6_guard_29 : decode cX6_guard 29 = .ok (.ifCond .eq 11, 3) := by decide +kernel
theorem dX6_guard_32 : decode cX6_guard 32 = .ok (.iload 4, 2) := by decide +kernel
theorem dX6_guard_34 : decode cX6_guard 34 = .ok (.invokestatic 217, 3) := by decide +kernel
theorem dX6_guard_37 : decode cX6_guard 37 = .ok (.ifCond .ne 6, 3) := by decide +kernel
theorem dX6_guard_40 : decode cX6_guard 40 = .ok (.ldc 67, 2) := by decide +kernel
theorem dX6_guard_42 : decode cX6_guard 42 = .ok (.ireturn, 1) := by decide +kernel
theorem dX6_guard_43 : decode cX6_guard 43 = .ok (.aload_n 0, 1) := by decide +kernel
theorem dX6_guard_44 : decode cX6_guard 44 = .ok (.invokevirtual 204, 3) := by decide +kernel
theorem dX6_guard_47 : decode cX6_guard 47 = .ok (.ldc 149, 2) := by decide +kernel
theorem dX6_guard_49 : decode cX6_guard 49 = .ok (.istore 5, 2) := by decide +kernel
theorem dX6_guard_51 : decode cX6_guard 51 = .ok (.iconst 0, 1) := by decide +kernel
theorem dX6_guard_52 : decode cX6_guard 52 = .ok (.istore 6, 2) := by decide +kernel
theorem dX6_guard_54 : decode cX6_guard 54 = .ok (.iload 6, 2) := by decide +kernel
theorem dX6_guard_56 : decode cX6_guard 56 = .ok (.iconst 1, 1) := by decide +kernel
theorem dX6_guard_57 : decode cX6_guard 57 = .ok (.aload_n 0, 1) := by decide +kernel
theorem dX6_guard_58 : decode cX6_guard 58 = .ok (.getfield 19, 3) := by decide +kernel
theorem dX6_guard_61 : decode cX6_guard 61 = .ok (.iconst 2, 1) := by decide +kernel
theorem dX6_guard_62 : decode cX6_guard 62 = .ok (.iaload, 1) := by decide +kernel
theorem dX6_guard_63 : decode cX6_guard 63 = .ok (.ishl, 1) := by decide +kernel
theorem dX6_guard_64 : decode cX6_guard 64 = .ok (.if_icmp .ge 54, 3) := by decide +kernel
theorem dX6_guard_67 : decode cX6_guard 67 = .ok (.iload 5, 2) := by decide +kernel
theorem dX6_guard_69 : decode cX6_guard 69 = .ok (.ifCond .lt 16, 3) := by decide +kernel
theorem dX6_guard_72 : decode cX6_guard 72 = .ok (.iload 6, 2) := by decide +kernel
theorem dX6_guard_74 : decode cX6_guard 74 = .ok (.invokestatic 187, 3) := by decide +kernel
theorem dX6_guard_77 : decode cX6_guard 77 = .ok (.iload 5, 2) := by decide +kernel
theorem dX6_guard_79 : decode cX6_guard 79 = .ok (.invokestatic 187, 3) := by decide +kernel
theorem dX6_guard_82 : decode cX6_guard 82 = .ok (.if_icmp .ge 30, 3) := by decide +kernel
theorem dX6_guard_85 : decode cX6_guard 85 = .ok (.aload_n 0, 1) := by decide +kernel
theorem dX6_guard_86 : decode cX6_guard 86 = .ok (.getfield 19, 3) := by decide +kernel
theorem dX6_guard_89 : decode cX6_guard 89 = .ok (.iconst 4, 1) := by decide +kernel
theorem dX6_guard_90 : decode cX6_guard 90 = .ok (.iload 6, 2) := by decide +kernel
theorem dX6_guard_92 : decode cX6_guard 92 = .ok (.iastore, 1) := by decide +kernel
theorem dX6_guard_93 : decode cX6_guard 93 = .ok (.aload_n 0, 1) := by decide +kernel
theorem dX6_guard_94 : decode cX6_guard 94 = .ok (.iload_n 1, 1) := by decide +kernel
theorem dX6_guard_95 : decode cX6_guard 95 = .ok (.iload_n 3, 1) := by decide +kernel
theorem dX6_guard_96 : decode cX6_guard 96 = .ok (.invokevirtual 214, 3) := by decide +kernel
theorem dX6_guard_99 : decode cX6_guard 99 = .ok (.iload_n 2, 1) := by decide +kernel
theorem dX6_guard_100 : decode cX6_guard 100 = .ok (.if_icmp .gt 8, 3) := by decide +kernel
theorem dX6_guard_103 : decode cX6_guard 103 = .ok (.iload 6, 2) := by decide +kernel
theorem dX6_guard_105 : decode cX6_guard 105 = .ok (.goto 5, 3) := by decide +kernel
theorem dX6_guard_108 : decode cX6_guard 108 = .ok (.iload 5, 2) := by decide +kernel
theorem dX6_guard_110 : decode cX6_guard 110 = .ok (.istore 5, 2) := by decide +kernel
theorem dX6_guard_112 : decode cX6_guard 112 = .ok (.iinc 6 1, 3) := by decide +kernel
theorem dX6_guard_115 : decode cX6_guard 115 = .ok (.goto (-61), 3) := by decide +kernel
theorem dX6_guard_118 : decode cX6_guard 118 = .ok (.iload 5, 2) := by decide +kernel
theorem dX6_guard_120 : decode cX6_guard 120 = .ok (.ifCond .lt 9, 3) := by decide +kernel
theorem dX6_guard_123 : decode cX6_guard 123 = .ok (.iload 4, 2) := by decide +kernel
theorem dX6_guard_125 : decode cX6_guard 125 = .ok (.iconst 1, 1) := by decide +kernel
theorem dX6_guard_126 : decode cX6_guard 126 = .ok (.if_icmp .ne 8, 3) := by decide +kernel
theorem dX6_guard_129 : decode cX6_guard 129 = .ok (.iload 5, 2) := by decide +kernel
theorem dX6_guard_131 : decode cX6_guard 131 = .ok (.goto 8, 3) := by decide +kernel
theorem dX6_guard_134 : decode cX6_guard 134 = .ok (.iload 5, 2) := by decide +kernel
theorem dX6_guard_136 : decode cX6_guard 136 = .ok (.invokestatic 187, 3) := by decide +kernel
theorem dX6_guard_139 : decode cX6_guard 139 = .ok (.ireturn, 1) := by decide +kernel
theorem dX6_bestWatch_0 : decode cX6_bestWatch 0 = .ok (.aload_n 0, 1) := by decide +kernel
theorem dX6_bestWatch_1 : decode cX6_bestWatch 1 = .ok (.getfield 135, 3) := by decide +kernel
theorem dX6_bestWatch_4 : decode cX6_bestWatch 4 = .ok (.ifCond .ne 6, 3) := by decide +kernel
theorem dX6_bestWatch_7 : decode cX6_bestWatch 7 = .ok (.ldc 169, 2) := by decide +kernel
theorem dX6_bestWatch_9 : decode cX6_bestWatch 9 = .ok (.ireturn, 1) := by decide +kernel
theorem dX6_bestWatch_10 : decode cX6_bestWatch 10 = .ok (.iload_n 1, 1) := by decide +kernel
theorem dX6_bestWatch_11 : decode cX6_bestWatch 11 = .ok (.i2l, 1) := by decide +kernel
theorem dX6_bestWatch_12 : decode cX6_bestWatch 12 = .ok (.lconst 1, 1) := by decide +kernel
theorem dX6_bestWatch_13 : decode cX6_bestWatch 13 = .ok (.ldc2_w 212, 3) := by decide +kernel
theorem dX6_bestWatch_16 : decode cX6_bestWatch 16 = .ok (.invokestatic 57, 3) := by decide +kernel
theorem dX6_bestWatch_19 : decode cX6_bestWatch 19 = .ok (.ifCond .eq 10, 3) := by decide +kernel
theorem dX6_bestWatch_22 : decode cX6_bestWatch 22 = .ok (.iload_n 2, 1) := by decide +kernel
theorem dX6_bestWatch_23 : decode cX6_bestWatch 23 = .ok (.invokestatic 217, 3) := by decide +kernel
theorem dX6_bestWatch_26 : decode cX6_bestWatch 26 = .ok (.ifCond .ne 6, 3) := by decide +kernel
theorem dX6_bestWatch_29 : decode cX6_bestWatch 29 = .ok (.ldc 67, 2) := by decide +kernel
theorem dX6_bestWatch_31 : decode cX6_bestWatch 31 = .ok (.ireturn, 1) := by decide +kernel
theorem dX6_bestWatch_32 : decode cX6_bestWatch 32 = .ok (.aload_n 0, 1) := by decide +kernel
theorem dX6_bestWatch_33 : decode cX6_bestWatch 33 = .ok (.invokevirtual 204, 3) := by decide +kernel
theorem dX6_bestWatch_36 : decode cX6_bestWatch 36 = .ok (.iconst 0, 1) := by decide +kernel
theorem dX6_bestWatch_37 : decode cX6_bestWatch 37 = .ok (.istore_n 3, 1) := by decide +kernel
theorem dX6_bestWatch_38 : decode cX6_bestWatch 38 = .ok (.iconst (-1), 1) := by decide +kernel
theorem dX6_bestWatch_39 : decode cX6_bestWatch 39 = .ok (.istore 4, 2) := by decide +kernel
theorem dX6_bestWatch_41 : decode cX6_bestWatch 41 = .ok (.iconst 0, 1) := by decide +kernel
theorem dX6_bestWatch_42 : decode cX6_bestWatch 42 = .ok (.istore 5, 2) := by decide +kernel
theorem dX6_bestWatch_44 : decode cX6_bestWatch 44 = .ok (.iload 5, 2) := by decide +kernel
theorem dX6_bestWatch_46 : decode cX6_bestWatch 46 = .ok (.aload_n 0, 1) := by decide +kernel
theorem dX6_bestWatch_47 : decode cX6_bestWatch 47 = .ok (.getfield 19, 3) := by decide +kernel
theorem dX6_bestWatch_50 : decode cX6_bestWatch 50 = .ok (.iconst 2, 1) := by decide +kernel
theorem dX6_bestWatch_51 : decode cX6_bestWatch 51 = .ok (.iaload, 1) := by decide +kernel
theorem dX6_bestWatch_52 : decode cX6_bestWatch 52 = .ok (.if_icmp .ge 66, 3) := by decide +kernel
theorem dX6_bestWatch_55 : decode cX6_bestWatch 55 = .ok (.aload_n 0, 1) := by decide +kernel
theorem dX6_bestWatch_56 : decode cX6_bestWatch 56 = .ok (.getfield 19, 3) := by decide +kernel
theorem dX6_bestWatch_59 : decode cX6_bestWatch 59 = .ok (.iconst 4, 1) := by decide +kernel
theorem dX6_bestWatch_60 : decode cX6_bestWatch 60 = .ok (.iconst 1, 1) := by decide +kernel
theorem dX6_bestWatch_61 : decode cX6_bestWatch 61 = .ok (.iload 5, 2) := by decide +kernel
theorem dX6_bestWatch_63 : decode cX6_bestWatch 63 = .ok (.ishl, 1) := by decide +kernel
theorem dX6_bestWatch_64 : decode cX6_bestWatch 64 = .ok (.iastore, 1) := by decide +kernel
theorem dX6_bestWatch_65 : decode cX6_bestWatch 65 = .ok (.aload_n 0, 1) := by decide +kernel
theorem dX6_bestWatch_66 : decode cX6_bestWatch 66 = .ok (.iload_n 1, 1) := by decide +kernel
theorem dX6_bestWatch_67 : decode cX6_bestWatch 67 = .ok (.invokevirtual 196, 3) := by decide +kernel
theorem dX6_bestWatch_70 : decode cX6_bestWatch 70 = .ok (.aload_n 0, 1) := by decide +kernel
theorem dX6_bestWatch_71 : decode cX6_bestWatch 71 = .ok (.bipush 11, 2) := by decide +kernel
theorem dX6_bestWatch_73 : decode cX6_bestWatch 73 = .ok (.invokevirtual 209, 3) := by decide +kernel
theorem dX6_bestWatch_76 : decode cX6_bestWatch 76 = .ok (.istore 6, 2) := by decide +kernel
theorem dX6_bestWatch_78 : decode cX6_bestWatch 78 = .ok (.aload_n 0, 1) := by decide +kernel
theorem dX6_bestWatch_79 : decode cX6_bestWatch 79 = .ok (.invokevirtual 199, 3) := by decide +kernel
theorem dX6_bestWatch_82 : decode cX6_bestWatch 82 = .ok (.iload 6, 2) := by decide +kernel
theorem dX6_bestWatch_84 : decode cX6_bestWatch 84 = .ok (.iload 4, 2) := by decide +kernel
theorem dX6_bestWatch_86 : decode cX6_bestWatch 86 = .ok (.if_icmp .le 8, 3) := by decide +kernel
theorem dX6_bestWatch_89 : decode cX6_bestWatch 89 = .ok (.iload 5, 2) := by decide +kernel
theorem dX6_bestWatch_91 : decode cX6_bestWatch 91 = .ok (.goto 4, 3) := by decide +kernel
theorem dX6_bestWatch_94 : decode cX6_bestWatch 94 = .ok (.iload_n 3, 1) := by decide +kernel
theorem dX6_bestWatch_95 : decode cX6_bestWatch 95 = .ok (.istore_n 3, 1) := by decide +kernel
theorem dX6_bestWatch_96 : decode cX6_bestWatch 96 = .ok (.iload 6, 2) := by decide +kernel
theorem dX6_bestWatch_98 : decode cX6_bestWatch 98 = .ok (.iload 4, 2) := by decide +kernel
theorem dX6_bestWatch_100 : decode cX6_bestWatch 100 = .ok (.if_icmp .le 8, 3) := by decide +kernel
theorem dX6_bestWatch_103 : decode cX6_bestWatch 103 = .ok (.iload 6, 2) := by decide +kernel
theorem dX6_bestWatch_105 : decode cX6_bestWatch 105 = .ok (.goto 5, 3) := by decide +kernel
theorem dX6_bestWatch_108 : decode cX6_bestWatch 108 = .ok (.iload 4, 2) := by decide +kernel
theorem dX6_bestWatch_110 : decode cX6_bestWatch 110 = .ok (.istore 4, 2) := by decide +kernel
theorem dX6_bestWatch_112 : decode cX6_bestWatch 112 = .ok (.iinc 5 1, 3) := by decide +kernel
theorem dX6_bestWatch_115 : decode cX6_bestWatch 115 = .ok (.goto (-71), 3) := by decide +kernel
theorem dX6_bestWatch_118 : decode cX6_bestWatch 118 = .ok (.iload_n 2, 1) := by decide +kernel
theorem dX6_bestWatch_119 : decode cX6_bestWatch 119 = .ok (.ifCond .ne 7, 3) := by decide +kernel
theorem dX6_bestWatch_122 : decode cX6_bestWatch 122 = .ok (.iload_n 3, 1) := by decide +kernel
theorem dX6_bestWatch_123 : decode cX6_bestWatch 123 = .ok (.goto 5, 3) := by decide +kernel
theorem dX6_bestWatch_126 : decode cX6_bestWatch 126 = .ok (.iload 4, 2) := by decide +kernel
theorem dX6_bestWatch_128 : decode cX6_bestWatch 128 = .ok (.ireturn, 1) := by decide +kernel
theorem dX6_lacks_0 : decode cX6_lacks 0 = .ok (.aload_n 0, 1) := by decide +kernel
theorem dX6_lacks_1 : decode cX6_lacks 1 = .ok (.getfield 13, 3) := by decide +kernel
theorem dX6_lacks_4 : decode cX6_lacks 4 = .ok (.iload_n 1, 1) := by decide +kernel
theorem dX6_lacks_5 : decode cX6_lacks 5 = .ok (.iaload, 1) := by decide +kernel
theorem dX6_lacks_6 : decode cX6_lacks 6 = .ok (.ifCond .ge 9, 3) := by decide +kernel
theorem dX6_lacks_9 : decode cX6_lacks 9 = .ok (.aload_n 0, 1) := by decide +kernel
theorem dX6_lacks_10 : decode cX6_lacks 10 = .ok (.iconst 1, 1) := by decide +kernel
theorem dX6_lacks_11 : decode cX6_lacks 11 = .ok (.invokevirtual 68, 3) := by decide +kernel
theorem dX6_lacks_14 : decode cX6_lacks 14 = .ok (.ireturn, 1) := by decide +kernel
theorem dX6_lacks_15 : decode cX6_lacks 15 = .ok (.iload_n 2, 1) := by decide +kernel
theorem dX6_lacks_16 : decode cX6_lacks 16 = .ok (.i2l, 1) := by decide +kernel
theorem dX6_lacks_17 : decode cX6_lacks 17 = .ok (.lconst 0, 1) := by decide +kernel
theorem dX6_lacks_18 : decode cX6_lacks 18 = .ok (.aload_n 0, 1) := by decide +kernel
theorem dX6_lacks_19 : decode cX6_lacks 19 = .ok (.getfield 13, 3) := by decide +kernel
theorem dX6_lacks_22 : decode cX6_lacks 22 = .ok (.iload_n 1, 1) := by decide +kernel
theorem dX6_lacks_23 : decode cX6_lacks 23 = .ok (.iaload, 1) := by decide +kernel
theorem dX6_lacks_24 : decode cX6_lacks 24 = .ok (.iload_n 3, 1) := by decide +kernel
theorem dX6_lacks_25 : decode cX6_lacks 25 = .ok (.isub, 1) := by decide +kernel
theorem dX6_lacks_26 : decode cX6_lacks 26 = .ok (.i2l, 1) := by decide +kernel
theorem dX6_lacks_27 : decode cX6_lacks 27 = .ok (.invokestatic 57, 3) := by decide +kernel
theorem dX6_lacks_30 : decode cX6_lacks 30 = .ok (.ifCond .eq 7, 3) := by decide +kernel
theorem dX6_lacks_33 : decode cX6_lacks 33 = .ok (.iconst 0, 1) := by decide +kernel
theorem dX6_lacks_34 : decode cX6_lacks 34 = .ok (.goto 8, 3) := by decide +kernel
theorem dX6_lacks_37 : decode cX6_lacks 37 = .ok (.aload_n 0, 1) := by decide +kernel
theorem dX6_lacks_38 : decode cX6_lacks 38 = .ok (.iconst 2, 1) := by decide +kernel
theorem dX6_lacks_39 : decode cX6_lacks 39 = .ok (.invokevirtual 68, 3) := by decide +kernel
theorem dX6_lacks_42 : decode cX6_lacks 42 = .ok (.ireturn, 1) := by decide +kernel
theorem dX6_lacksOrder_0 : decode cX6_lacksOrder 0 = .ok (.aload_n 0, 1) := by decide +kernel
theorem dX6_lacksOrder_1 : decode cX6_lacksOrder 1 = .ok (.getfield 135, 3) := by decide +kernel
theorem dX6_lacksOrder_4 : decode cX6_lacksOrder 4 = .ok (.ifCond .ne 6, 3) := by decide +kernel
theorem dX6_lacksOrder_7 : decode cX6_lacksOrder 7 = .ok (.ldc 169, 2) := by decide +kernel
theorem dX6_lacksOrder_9 : decode cX6_lacksOrder 9 = .ok (.ireturn, 1) := by decide +kernel
theorem dX6_lacksOrder_10 : decode cX6_lacksOrder 10 = .ok (.iload_n 1, 1) := by decide +kernel
theorem dX6_lacksOrder_11 : decode cX6_lacksOrder 11 = .ok (.invokestatic 61, 3) := by decide +kernel
theorem dX6_lacksOrder_14 : decode cX6_lacksOrder 14 = .ok (.ifCond .eq 18, 3) := by decide +kernel
theorem dX6_lacksOrder_17 : decode cX6_lacksOrder 17 = .ok (.aload_n 0, 1) := by decide +kernel
theorem dX6_lacksOrder_18 : decode cX6_lacksOrder 18 = .ok (.iload_n 1, 1) := by decide +kernel
theorem dX6_lacksOrder_19 : decode cX6_lacksOrder 19 = .ok (.iload_n 2, 1) := by decide +kernel
theorem dX6_lacksOrder_20 : decode cX6_lacksOrder 20 = .ok (.aload_n 0, 1) := by decide +kernel
theorem dX6_lacksOrder_21 : decode cX6_lacksOrder 21 = .ok (.getfield 19, 3) := by decide +kernel
theorem dX6_lacksOrder_24 : decode cX6_lacksOrder 24 = .ok (.iconst 2, 1) := by decide +kernel
theorem dX6_lacksOrder_25 : decode cX6_lacksOrder 25 = .ok (.iaload, 1) := by decide +kernel
theorem dX6_lacksOrder_26 : decode cX6_lacksOrder 26 = .ok (.invokevirtual 220, 3) := by decide +kernel
theorem dX6_lacksOrder_29 : decode cX6_lacksOrder 29 = .ok (.goto 5, 3) := by decide +kernel
theorem dX6_lacksOrder_32 : decode cX6_lacksOrder 32 = .ok (.ldc 67, 2) := by decide +kernel
theorem dX6_lacksOrder_34 : decode cX6_lacksOrder 34 = .ok (.istore_n 3, 1) := by decide +kernel
theorem dX6_lacksOrder_35 : decode cX6_lacksOrder 35 = .ok (.iconst 0, 1) := by decide +kernel
theorem dX6_lacksOrder_36 : decode cX6_lacksOrder 36 = .ok (.istore 4, 2) := by decide +kernel
theorem dX6_lacksOrder_38 : decode cX6_lacksOrder 38 = .ok (.iconst 0, 1) := by decide +kernel
theorem dX6_lacksOrder_39 : decode cX6_lacksOrder 39 = .ok (.istore 5, 2) := by decide +kernel
theorem dX6_lacksOrder_41 : decode cX6_lacksOrder 41 = .ok (.iload 5, 2) := by decide +kernel
theorem dX6_lacksOrder_43 : decode cX6_lacksOrder 43 = .ok (.aload_n 0, 1) := by decide +kernel
theorem dX6_lacksOrder_44 : decode cX6_lacksOrder 44 = .ok (.getfield 19, 3) := by decide +kernel
theorem dX6_lacksOrder_47 : decode cX6_lacksOrder 47 = .ok (.iconst 2, 1) := by decide +kernel
theorem dX6_lacksOrder_48 : decode cX6_lacksOrder 48 = .ok (.iaload, 1) := by decide +kernel
theorem dX6_lacksOrder_49 : decode cX6_lacksOrder 49 = .ok (.if_icmp .ge 75, 3) := by decide +kernel
theorem dX6_lacksOrder_52 : decode cX6_lacksOrder 52 = .ok (.iload_n 3, 1) := by decide +kernel
theorem dX6_lacksOrder_53 : decode cX6_lacksOrder 53 = .ok (.ifCond .ne 71, 3) := by decide +kernel
theorem dX6_lacksOrder_56 : decode cX6_lacksOrder 56 = .ok (.aload_n 0, 1) := by decide +kernel
theorem dX6_lacksOrder_57 : decode cX6_lacksOrder 57 = .ok (.getfield 16, 3) := by decide +kernel
theorem dX6_lacksOrder_60 : decode cX6_lacksOrder 60 = .ok (.bipush 40, 2) := by decide +kernel
theorem dX6_lacksOrder_62 : decode cX6_lacksOrder 62 = .ok (.iload_n 1, 1) := by decide +kernel
theorem dX6_lacksOrder_63 : decode cX6_lacksOrder 63 = .ok (.imul, 1) := by decide +kernel
theorem dX6_lacksOrder_64 : decode cX6_lacksOrder 64 = .ok (.iload_n 2, 1) := by decide +kernel
theorem dX6_lacksOrder_65 : decode cX6_lacksOrder 65 = .ok (.iadd, 1) := by decide +kernel
theorem dX6_lacksOrder_66 : decode cX6_lacksOrder 66 = .ok (.iload 5, 2) := by decide +kernel
theorem dX6_lacksOrder_68 : decode cX6_lacksOrder 68 = .ok (.iadd, 1) := by decide +kernel
theorem dX6_lacksOrder_69 : decode cX6_lacksOrder 69 = .ok (.iaload, 1) := by decide +kernel
theorem dX6_lacksOrder_70 : decode cX6_lacksOrder 70 = .ok (.istore 6, 2) := by decide +kernel
theorem dX6_lacksOrder_72 : decode cX6_lacksOrder 72 = .ok (.aload_n 0, 1) := by decide +kernel
theorem dX6_lacksOrder_73 : decode cX6_lacksOrder 73 = .ok (.iload 6, 2) := by decide +kernel
theorem dX6_lacksOrder_75 : decode cX6_lacksOrder 75 = .ok (.invokevirtual 178, 3) := by decide +kernel
theorem dX6_lacksOrder_78 : decode cX6_lacksOrder 78 = .ok (.ifCond .eq 17, 3) := by decide +kernel
theorem dX6_lacksOrder_81 : decode cX6_lacksOrder 81 = .ok (.iload 4, 2) := by decide +kernel
theorem dX6_lacksOrder_83 : decode cX6_lacksOrder 83 = .ok (.iload 6, 2) := by decide +kernel
theorem dX6_lacksOrder_85 : decode cX6_lacksOrder 85 = .ok (.invokestatic 162, 3) := by decide +kernel
theorem dX6_lacksOrder_88 : decode cX6_lacksOrder 88 = .ok (.ifCond .ne 7, 3) := by decide +kernel
theorem dX6_lacksOrder_91 : decode cX6_lacksOrder 91 = .ok (.iconst 0, 1) := by decide +kernel
theorem dX6_lacksOrder_92 : decode cX6_lacksOrder 92 = .ok (.goto 8, 3) := by decide +kernel
theorem dX6_lacksOrder_95 : decode cX6_lacksOrder 95 = .ok (.aload_n 0, 1) := by decide +kernel
theorem dX6_lacksOrder_96 : decode cX6_lacksOrder 96 = .ok (.iconst 3, 1) := by decide +kernel
theorem dX6_lacksOrder_97 : decode cX6_lacksOrder 97 = .ok (.invokevirtual 68, 3) := by decide +kernel
theorem dX6_lacksOrder_100 : decode cX6_lacksOrder 100 = .ok (.istore_n 3, 1) := by decide +kernel
theorem dX6_lacksOrder_101 : decode cX6_lacksOrder 101 = .ok (.iload 4, 2) := by decide +kernel
theorem dX6_lacksOrder_103 : decode cX6_lacksOrder 103 = .ok (.iload_n 3, 1) := by decide +kernel
theorem dX6_lacksOrder_104 : decode cX6_lacksOrder 104 = .ok (.ifCond .ne 10, 3) := by decide +kernel
theorem dX6_lacksOrder_107 : decode cX6_lacksOrder 107 = .ok (.iconst 1, 1) := by decide +kernel
theorem dX6_lacksOrder_108 : decode cX6_lacksOrder 108 = .ok (.iload 6, 2) := by decide +kernel
theorem dX6_lacksOrder_110 : decode cX6_lacksOrder 110 = .ok (.ishl, 1) := by decide +kernel
theorem dX6_lacksOrder_111 : decode cX6_lacksOrder 111 = .ok (.goto 4, 3) := by decide +kernel
theorem dX6_lacksOrder_114 : decode cX6_lacksOrder 114 = .ok (.iconst 0, 1) := by decide +kernel
theorem dX6_lacksOrder_115 : decode cX6_lacksOrder 115 = .ok (.ior, 1) := by decide +kernel
theorem dX6_lacksOrder_116 : decode cX6_lacksOrder 116 = .ok (.istore 4, 2) := by decide +kernel
theorem dX6_lacksOrder_118 : decode cX6_lacksOrder 118 = .ok (.iinc 5 1, 3) := by decide +kernel
theorem dX6_lacksOrder_121 : decode cX6_lacksOrder 121 = .ok (.goto (-80), 3) := by decide +kernel
theorem dX6_lacksOrder_124 : decode cX6_lacksOrder 124 = .ok (.iload_n 3, 1) := by decide +kernel
theorem dX6_lacksOrder_125 : decode cX6_lacksOrder 125 = .ok (.ireturn, 1) := by decide +kernel
theorem dX6_isAbove_0 : decode cX6_isAbove 0 = .ok (.iload_n 0, 1) := by decide +kernel
theorem dX6_isAbove_1 : decode cX6_isAbove 1 = .ok (.iload_n 2, 1) := by decide +kernel
theorem dX6_isAbove_2 : decode cX6_isAbove 2 = .ok (.if_icmp .gt 13, 3) := by decide +kernel
theorem dX6_isAbove_5 : decode cX6_isAbove 5 = .ok (.iload_n 0, 1) := by decide +kernel
theorem dX6_isAbove_6 : decode cX6_isAbove 6 = .ok (.iload_n 2, 1) := by decide +kernel
theorem dX6_isAbove_7 : decode cX6_isAbove 7 = .ok (.if_icmp .ne 12, 3) := by decide +kernel
theorem dX6_isAbove_10 : decode cX6_isAbove 10 = .ok (.iload_n 1, 1) := by decide +kernel
theorem dX6_isAbove_11 : decode cX6_isAbove 11 = .ok (.iload_n 3, 1) := by decide +kernel
theorem dX6_isAbove_12 : decode cX6_isAbove 12 = .ok (.if_icmp .ge 7, 3) := by decide +kernel
theorem dX6_isAbove_15 : decode cX6_isAbove 15 = .ok (.iconst 1, 1) := by decide +kernel
theorem dX6_isAbove_16 : decode cX6_isAbove 16 = .ok (.goto 4, 3) := by decide +kernel
theorem dX6_isAbove_19 : decode cX6_isAbove 19 = .ok (.iconst 0, 1) := by decide +kernel
theorem dX6_isAbove_20 : decode cX6_isAbove 20 = .ok (.ireturn, 1) := by decide +kernel
theorem dX6_sawdust_0 : decode cX6_sawdust 0 = .ok (.aload_n 0, 1) := by decide +kernel
theorem dX6_sawdust_1 : decode cX6_sawdust 1 = .ok (.iload_n 1, 1) := by decide +kernel
theorem dX6_sawdust_2 : decode cX6_sawdust 2 = .ok (.iload_n 2, 1) := by decide +kernel
theorem dX6_sawdust_3 : decode cX6_sawdust 3 = .ok (.invokevirtual 223, 3) := by decide +kernel
theorem dX6_sawdust_6 : decode cX6_sawdust 6 = .ok (.istore_n 3, 1) := by decide +kernel
theorem dX6_sawdust_7 : decode cX6_sawdust 7 = .ok (.iload_n 3, 1) := by decide +kernel
theorem dX6_sawdust_8 : decode cX6_sawdust 8 = .ok (.ifCond .ge 5, 3) := by decide +kernel
theorem dX6_sawdust_11 : decode cX6_sawdust 11 = .ok (.iload_n 3, 1) := by decide +kernel
theorem dX6_sawdust_12 : decode cX6_sawdust 12 = .ok (.ireturn, 1) := by decide +kernel
theorem dX6_sawdust_13 : decode cX6_sawdust 13 = .ok (.bipush 40, 2) := by decide +kernel
theorem dX6_sawdust_15 : decode cX6_sawdust 15 = .ok (.iload_n 1, 1) := by decide +kernel
theorem dX6_sawdust_16 : decode cX6_sawdust 16 = .ok (.imul, 1) := by decide +kernel
theorem dX6_sawdust_17 : decode cX6_sawdust 17 = .ok (.iload_n 2, 1) := by decide +kernel
theorem dX6_sawdust_18 : decode cX6_sawdust 18 = .ok (.iadd, 1) := by decide +kernel
theorem dX6_sawdust_19 : decode cX6_sawdust 19 = .ok (.istore 4, 2) := by decide +kernel
theorem dX6_sawdust_21 : decode cX6_sawdust 21 = .ok (.iconst 0, 1) := by decide +kernel
theorem dX6_sawdust_22 : decode cX6_sawdust 22 = .ok (.istore 5, 2) := by decide +kernel
theorem dX6_sawdust_24 : decode cX6_sawdust 24 = .ok (.aload_n 0, 1) := by decide +kernel
theorem dX6_sawdust_25 : decode cX6_sawdust 25 = .ok (.getfield 16, 3) := by decide +kernel
theorem dX6_sawdust_28 : decode cX6_sawdust 28 = .ok (.iload 4, 2) := by decide +kernel
theorem dX6_sawdust_30 : decode cX6_sawdust 30 = .ok (.iaload, 1) := by decide +kernel
theorem dX6_sawdust_31 : decode cX6_sawdust 31 = .ok (.istore 6, 2) := by decide +kernel
theorem dX6_sawdust_33 : decode cX6_sawdust 33 = .ok (.aload_n 0, 1) := by decide +kernel
theorem dX6_sawdust_34 : decode cX6_sawdust 34 = .ok (.iload 6, 2) := by decide +kernel
theorem dX6_sawdust_36 : decode cX6_sawdust 36 = .ok (.invokevirtual 146, 3) := by decide +kernel
theorem dX6_sawdust_39 : decode cX6_sawdust 39 = .ok (.istore 7, 2) := by decide +kernel
theorem dX6_sawdust_41 : decode cX6_sawdust 41 = .ok (.iconst 1, 1) := by decide +kernel
theorem dX6_sawdust_42 : decode cX6_sawdust 42 = .ok (.istore 8, 2) := by decide +kernel
theorem dX6_sawdust_44 : decode cX6_sawdust 44 = .ok (.iload 8, 2) := by decide +kernel
theorem dX6_sawdust_46 : decode cX6_sawdust 46 = .ok (.aload_n 0, 1) := by decide +kernel
theorem dX6_sawdust_47 : decode cX6_sawdust 47 = .ok (.getfield 19, 3) := by decide +kernel
theorem dX6_sawdust_50 : decode cX6_sawdust 50 = .ok (.iconst 2, 1) := by decide +kernel
theorem dX6_sawdust_51 : decode cX6_sawdust 51 = .ok (.iaload, 1) := by decide +kernel
theorem dX6_sawdust_52 : decode cX6_sawdust 52 = .ok (.if_icmp .ge 152, 3) := by decide +kernel
theorem dX6_sawdust_55 : decode cX6_sawdust 55 = .ok (.iload 5, 2) := by decide +kernel
theorem dX6_sawdust_57 : decode cX6_sawdust 57 = .ok (.ifCond .lt 147, 3) := by decide +kernel
theorem dX6_sawdust_60 : decode cX6_sawdust 60 = .ok (.aload_n 0, 1) := by decide +kernel
theorem dX6_sawdust_61 : decode cX6_sawdust 61 = .ok (.getfield 16, 3) := by decide +kernel
theorem dX6_sawdust_64 : decode cX6_sawdust 64 = .ok (.iload 4, 2) := by decide +kernel
theorem dX6_sawdust_66 : decode cX6_sawdust 66 = .ok (.iload 8, 2) := by decide +kernel
theorem dX6_sawdust_68 : decode cX6_sawdust 68 = .ok (.iadd, 1) := by decide +kernel
theorem dX6_sawdust_69 : decode cX6_sawdust 69 = .ok (.iaload, 1) := by decide +kernel
theorem dX6_sawdust_70 : decode cX6_sawdust 70 = .ok (.istore 9, 2) := by decide +kernel
theorem dX6_sawdust_72 : decode cX6_sawdust 72 = .ok (.aload_n 0, 1) := by decide +kernel
theorem dX6_sawdust_73 : decode cX6_sawdust 73 = .ok (.getfield 19, 3) := by decide +kernel
theorem dX6_sawdust_76 : decode cX6_sawdust 76 = .ok (.bipush 11, 2) := by decide +kernel
theorem dX6_sawdust_78 : decode cX6_sawdust 78 = .ok (.iload 9, 2) := by decide +kernel
theorem dX6_sawdust_80 : decode cX6_sawdust 80 = .ok (.iadd, 1) := by decide +kernel
theorem dX6_sawdust_81 : decode cX6_sawdust 81 = .ok (.iaload, 1) := by decide +kernel
theorem dX6_sawdust_82 : decode cX6_sawdust 82 = .ok (.istore 10, 2) := by decide +kernel
theorem dX6_sawdust_84 : decode cX6_sawdust 84 = .ok (.iload 10, 2) := by decide +kernel
theorem dX6_sawdust_86 : decode cX6_sawdust 86 = .ok (.ifCond .lt 45, 3) := by decide +kernel
theorem dX6_sawdust_89 : decode cX6_sawdust 89 = .ok (.iload 7, 2) := by decide +kernel
theorem dX6_sawdust_91 : decode cX6_sawdust 91 = .ok (.iload 6, 2) := by decide +kernel
theorem dX6_sawdust_93 : decode cX6_sawdust 93 = .ok (.aload_n 0, 1) := by decide +kernel
theorem dX6_sawdust_94 : decode cX6_sawdust 94 = .ok (.getfield 19, 3) := by decide +kernel
theorem dX6_sawdust_97 : decode cX6_sawdust 97 = .ok (.iconst 5, 1) := by decide +kernel
theorem dX6_sawdust_98 : decode cX6_sawdust 98 = .ok (.iload 9, 2) := by decide +kernel
theorem dX6_sawdust_100 : decode cX6_sawdust 100 = .ok (.iadd, 1) := by decide +kernel
theorem dX6_sawdust_101 : decode cX6_sawdust 101 = .ok (.iaload, 1) := by decide +kernel
theorem dX6_sawdust_102 : decode cX6_sawdust 102 = .ok (.iload 10, 2) := by decide +kernel
theorem dX6_sawdust_104 : decode cX6_sawdust 104 = .ok (.aload_n 0, 1) := by decide +kernel
theorem dX6_sawdust_105 : decode cX6_sawdust 105 = .ok (.getfield 19, 3) := by decide +kernel
theorem dX6_sawdust_108 : decode cX6_sawdust 108 = .ok (.bipush 29, 2) := by decide +kernel
theorem dX6_sawdust_110 : decode cX6_sawdust 110 = .ok (.iload 9, 2) := by decide +kernel
theorem dX6_sawdust_112 : decode cX6_sawdust 112 = .ok (.iadd, 1) := by decide +kernel
theorem dX6_sawdust_113 : decode cX6_sawdust 113 = .ok (.iaload, 1) := by decide +kernel
theorem dX6_sawdust_114 : decode cX6_sawdust 114 = .ok (.invokestatic 142, 3) := by decide +kernel
theorem dX6_sawdust_117 : decode cX6_sawdust 117 = .ok (.iload 9, 2) := by decide +kernel
theorem dX6_sawdust_119 : decode cX6_sawdust 119 = .ok (.invokestatic 226, 3) := by decide +kernel
theorem dX6_sawdust_122 : decode cX6_sawdust 122 = .ok (.ifCond .ne 9, 3) := by decide +kernel
theorem dX6_sawdust_125 : decode cX6_sawdust 125 = .ok (.iinc 10 (-1), 3) := by decide +kernel
theorem dX6_sawdust_128 : decode cX6_sawdust 128 = .ok (.goto (-44), 3) := by decide +kernel
theorem dX6_sawdust_131 : decode cX6_sawdust 131 = .ok (.iload 10, 2) := by decide +kernel
theorem dX6_sawdust_133 : decode cX6_sawdust 133 = .ok (.ifCond .ge 8, 3) := by decide +kernel
theorem dX6_sawdust_136 : decode cX6_sawdust 136 = .ok (.ldc 149, 2) := by decide +kernel
theorem dX6_sawdust_138 : decode cX6_sawdust 138 = .ok (.goto 19, 3) := by decide +kernel
theorem dX6_sawdust_141 : decode cX6_sawdust 141 = .ok (.iload 5, 2) := by decide +kernel
theorem dX6_sawdust_143 : decode cX6_sawdust 143 = .ok (.aload_n 0, 1) := by decide +kernel
theorem dX6_sawdust_144 : decode cX6_sawdust 144 = .ok (.getfield 19, 3) := by decide +kernel
theorem dX6_sawdust_147 : decode cX6_sawdust 147 = .ok (.bipush 11, 2) := by decide +kernel
theorem dX6_sawdust_149 : decode cX6_sawdust 149 = .ok (.iload 9, 2) := by decide +kernel
theorem dX6_sawdust_151 : decode cX6_sawdust 151 = .ok (.iadd, 1) := by decide +kernel
theorem dX6_sawdust_152 : decode cX6_sawdust 152 = .ok (.iaload, 1) := by decide +kernel
theorem dX6_sawdust_153 : decode cX6_sawdust 153 = .ok (.iadd, 1) := by decide +kernel
theorem dX6_sawdust_154 : decode cX6_sawdust 154 = .ok (.iload 10, 2) := by decide +kernel
theorem dX6_sawdust_156 : decode cX6_sawdust 156 = .ok (.isub, 1) := by decide +kernel
theorem dX6_sawdust_157 : decode cX6_sawdust 157 = .ok (.istore 5, 2) := by decide +kernel
theorem dX6_sawdust_159 : decode cX6_sawdust 159 = .ok (.iload 9, 2) := by decide +kernel
theorem dX6_sawdust_161 : decode cX6_sawdust 161 = .ok (.istore 6, 2) := by decide +kernel
theorem dX6_sawdust_163 : decode cX6_sawdust 163 = .ok (.iload 10, 2) := by decide +kernel
theorem dX6_sawdust_165 : decode cX6_sawdust 165 = .ok (.ifCond .ge 7, 3) := by decide +kernel
theorem dX6_sawdust_168 : decode cX6_sawdust 168 = .ok (.iconst 0, 1) := by decide +kernel
theorem dX6_sawdust_169 : decode cX6_sawdust 169 = .ok (.goto 27, 3) := by decide +kernel
theorem dX6_sawdust_172 : decode cX6_sawdust 172 = .ok (.aload_n 0, 1) := by decide +kernel
theorem dX6_sawdust_173 : decode cX6_sawdust 173 = .ok (.getfield 19, 3) := by decide +kernel
theorem dX6_sawdust_176 : decode cX6_sawdust 176 = .ok (.iconst 5, 1) := by decide +kernel
theorem dX6_sawdust_177 : decode cX6_sawdust 177 = .ok (.iload 9, 2) := by decide +kernel
theorem dX6_sawdust_179 : decode cX6_sawdust 179 = .ok (.iadd, 1) := by decide +kernel
theorem dX6_sawdust_180 : decode cX6_sawdust 180 = .ok (.iaload, 1) := by decide +kernel
theorem dX6_sawdust_181 : decode cX6_sawdust 181 = .ok (.iload 10, 2) := by decide +kernel
theorem dX6_sawdust_183 : decode cX6_sawdust 183 = .ok (.aload_n 0, 1) := by decide +kernel
theorem dX6_sawdust_184 : decode cX6_sawdust 184 = .ok (.getfield 19, 3) := by decide +kernel
theorem dX6_sawdust_187 : decode cX6_sawdust 187 = .ok (.bipush 29, 2) := by decide +kernel
theorem dX6_sawdust_189 : decode cX6_sawdust 189 = .ok (.iload 9, 2) := by decide +kernel
theorem dX6_sawdust_191 : decode cX6_sawdust 191 = .ok (.iadd, 1) := by decide +kernel
theorem dX6_sawdust_192 : decode cX6_sawdust 192 = .ok (.iaload, 1) := by decide +kernel
theorem dX6_sawdust_193 : decode cX6_sawdust 193 = .ok (.invokestatic 142, 3) := by decide +kernel
theorem dX6_sawdust_196 : decode cX6_sawdust 196 = .ok (.istore 7, 2) := by decide +kernel
theorem dX6_sawdust_198 : decode cX6_sawdust 198 = .ok (.iinc 8 1, 3) := by decide +kernel
theorem dX6_sawdust_201 : decode cX6_sawdust 201 = .ok (.goto (-157), 3) := by decide +kernel
theorem dX6_sawdust_204 : decode cX6_sawdust 204 = .ok (.aload_n 0, 1) := by decide +kernel
theorem dX6_sawdust_205 : decode cX6_sawdust 205 = .ok (.iload 5, 2) := by decide +kernel
theorem dX6_sawdust_207 : decode cX6_sawdust 207 = .ok (.invokevirtual 72, 3) := by decide +kernel
theorem dX6_sawdust_210 : decode cX6_sawdust 210 = .ok (.ireturn, 1) := by decide +kernel
theorem dX6_pile_0 : decode cX6_pile 0 = .ok (.aload_n 0, 1) := by decide +kernel
theorem dX6_pile_1 : decode cX6_pile 1 = .ok (.iload_n 1, 1) := by decide +kernel
theorem dX6_pile_2 : decode cX6_pile 2 = .ok (.iload_n 2, 1) := by decide +kernel
theorem dX6_pile_3 : decode cX6_pile 3 = .ok (.invokevirtual 223, 3) := by decide +kernel
theorem dX6_pile_6 : decode cX6_pile 6 = .ok (.istore_n 3, 1) := by decide +kernel
theorem dX6_pile_7 : decode cX6_pile 7 = .ok (.iload_n 3, 1) := by decide +kernel
theorem dX6_pile_8 : decode cX6_pile 8 = .ok (.ifCond .ge 5, 3) := by decide +kernel
theorem dX6_pile_11 : decode cX6_pile 11 = .ok (.iload_n 3, 1) := by decide +kernel
theorem dX6_pile_12 : decode cX6_pile 12 = .ok (.ireturn, 1) := by decide +kernel
theorem dX6_pile_13 : decode cX6_pile 13 = .ok (.bipush 40, 2) := by decide +kernel
theorem dX6_pile_15 : decode cX6_pile 15 = .ok (.iload_n 1, 1) := by decide +kernel
theorem dX6_pile_16 : decode cX6_pile 16 = .ok (.imul, 1) := by decide +kernel
theorem dX6_pile_17 : decode cX6_pile 17 = .ok (.iload_n 2, 1) := by decide +kernel
theorem dX6_pile_18 : decode cX6_pile 18 = .ok (.iadd, 1) := by decide +kernel
theorem dX6_pile_19 : decode cX6_pile 19 = .ok (.istore 4, 2) := by decide +kernel
theorem dX6_pile_21 : decode cX6_pile 21 = .ok (.iconst 0, 1) := by decide +kernel
theorem dX6_pile_22 : decode cX6_pile 22 = .ok (.istore 5, 2) := by decide +kernel
theorem dX6_pile_24 : decode cX6_pile 24 = .ok (.aload_n 0, 1) := by decide +kernel
theorem dX6_pile_25 : decode cX6_pile 25 = .ok (.getfield 16, 3) := by decide +kernel
theorem dX6_pile_28 : decode cX6_pile 28 = .ok (.iload 4, 2) := by decide +kernel
theorem dX6_pile_30 : decode cX6_pile 30 = .ok (.aload_n 0, 1) := by decide +kernel
theorem dX6_pile_31 : decode cX6_pile 31 = .ok (.getfield 19, 3) := by decide +kernel
theorem dX6_pile_34 : decode cX6_pile 34 = .ok (.iconst 2, 1) := by decide +kernel
theorem dX6_pile_35 : decode cX6_pile 35 = .ok (.iaload, 1) := by decide +kernel
theorem dX6_pile_36 : decode cX6_pile 36 = .ok (.iadd, 1) := by decide +kernel
theorem dX6_pile_37 : decode cX6_pile 37 = .ok (.iconst 1, 1) := by decide +kernel
theorem dX6_pile_38 : decode cX6_pile 38 = .ok (.isub, 1) := by decide +kernel
theorem dX6_pile_39 : decode cX6_pile 39 = .ok (.iaload, 1) := by decide +kernel
theorem dX6_pile_40 : decode cX6_pile 40 = .ok (.istore 6, 2) := by decide +kernel
theorem dX6_pile_42 : decode cX6_pile 42 = .ok (.aload_n 0, 1) := by decide +kernel
theorem dX6_pile_43 : decode cX6_pile 43 = .ok (.iload 6, 2) := by decide +kernel
theorem dX6_pile_45 : decode cX6_pile 45 = .ok (.invokevirtual 146, 3) := by decide +kernel
theorem dX6_pile_48 : decode cX6_pile 48 = .ok (.istore 7, 2) := by decide +kernel
theorem dX6_pile_50 : decode cX6_pile 50 = .ok (.aload_n 0, 1) := by decide +kernel
theorem dX6_pile_51 : decode cX6_pile 51 = .ok (.getfield 19, 3) := by decide +kernel
theorem dX6_pile_54 : decode cX6_pile 54 = .ok (.iconst 2, 1) := by decide +kernel
theorem dX6_pile_55 : decode cX6_pile 55 = .ok (.iaload, 1) := by decide +kernel
theorem dX6_pile_56 : decode cX6_pile 56 = .ok (.iconst 2, 1) := by decide +kernel
theorem dX6_pile_57 : decode cX6_pile 57 = .ok (.isub, 1) := by decide +kernel
theorem dX6_pile_58 : decode cX6_pile 58 = .ok (.istore 8, 2) := by decide +kernel
theorem dX6_pile_60 : decode cX6_pile 60 = .ok (.iload 8, 2) := by decide +kernel
theorem dX6_pile_62 : decode cX6_pile 62 = .ok (.ifCond .lt 147, 3) := by decide +kernel
theorem dX6_pile_65 : decode cX6_pile 65 = .ok (.iload 5, 2) := by decide +kernel
theorem dX6_pile_67 : decode cX6_pile 67 = .ok (.ifCond .lt 142, 3) := by decide +kernel
theorem dX6_pile_70 : decode cX6_pile 70 = .ok (.aload_n 0, 1) := by decide +kernel
theorem dX6_pile_71 : decode cX6_pile 71 = .ok (.getfield 16, 3) := by decide +kernel
theorem dX6_pile_74 : decode cX6_pile 74 = .ok (.iload 4, 2) := by decide +kernel
theorem dX6_pile_76 : decode cX6_pile 76 = .ok (.iload 8, 2) := by decide +kernel
theorem dX6_pile_78 : decode cX6_pile 78 = .ok (.iadd, 1) := by decide +kernel
theorem dX6_pile_79 : decode cX6_pile 79 = .ok (.iaload, 1) := by decide +kernel
theorem dX6_pile_80 : decode cX6_pile 80 = .ok (.istore 9, 2) := by decide +kernel
theorem dX6_pile_82 : decode cX6_pile 82 = .ok (.aload_n 0, 1) := by decide +kernel
theorem dX6_pile_83 : decode cX6_pile 83 = .ok (.getfield 19, 3) := by decide +kernel
theorem dX6_pile_86 : decode cX6_pile 86 = .ok (.bipush 29, 2) := by decide +kernel
theorem dX6_pile_88 : decode cX6_pile 88 = .ok (.iload 9, 2) := by decide +kernel
theorem dX6_pile_90 : decode cX6_pile 90 = .ok (.iadd, 1) := by decide +kernel
theorem dX6_pile_91 : decode cX6_pile 91 = .ok (.iaload, 1) := by decide +kernel
theorem dX6_pile_92 : decode cX6_pile 92 = .ok (.istore 10, 2) := by decide +kernel
theorem dX6_pile_94 : decode cX6_pile 94 = .ok (.iload 10, 2) := by decide +kernel
theorem dX6_pile_96 : decode cX6_pile 96 = .ok (.bipush 20, 2) := by decide +kernel
theorem dX6_pile_98 : decode cX6_pile 98 = .ok (.if_icmp .gt 45, 3) := by decide +kernel
theorem dX6_pile_101 : decode cX6_pile 101 = .ok (.aload_n 0, 1) := by decide +kernel
theorem dX6_pile_102 : decode cX6_pile 102 = .ok (.getfield 19, 3) := by decide +kernel
theorem dX6_pile_105 : decode cX6_pile 105 = .ok (.iconst 5, 1) := by decide +kernel
theorem dX6_pile_106 : decode cX6_pile 106 = .ok (.iload 9, 2) := by decide +kernel
theorem dX6_pile_108 : decode cX6_pile 108 = .ok (.iadd, 1) := by decide +kernel
theorem dX6_pile_109 : decode cX6_pile 109 = .ok (.iaload, 1) := by decide +kernel
theorem dX6_pile_110 : decode cX6_pile 110 = .ok (.aload_n 0, 1) := by decide +kernel
theorem dX6_pile_111 : decode cX6_pile 111 = .ok (.getfield 19, 3) := by decide +kernel
theorem dX6_pile_114 : decode cX6_pile 114 = .ok (.bipush 11, 2) := by decide +kernel
theorem dX6_pile_116 : decode cX6_pile 116 = .ok (.iload 9, 2) := by decide +kernel
theorem dX6_pile_118 : decode cX6_pile 118 = .ok (.iadd, 1) := by decide +kernel
theorem dX6_pile_119 : decode cX6_pile 119 = .ok (.iaload, 1) := by decide +kernel
theorem dX6_pile_120 : decode cX6_pile 120 = .ok (.iload 10, 2) := by decide +kernel
theorem dX6_pile_122 : decode cX6_pile 122 = .ok (.invokestatic 142, 3) := by decide +kernel
theorem dX6_pile_125 : decode cX6_pile 125 = .ok (.iload 9, 2) := by decide +kernel
theorem dX6_pile_127 : decode cX6_pile 127 = .ok (.iload 7, 2) := by decide +kernel
theorem dX6_pile_129 : decode cX6_pile 129 = .ok (.iload 6, 2) := by decide +kernel
theorem dX6_pile_131 : decode cX6_pile 131 = .ok (.invokestatic 226, 3) := by decide +kernel
theorem dX6_pile_134 : decode cX6_pile 134 = .ok (.ifCond .ne 9, 3) := by decide +kernel
theorem dX6_pile_137 : decode cX6_pile 137 = .ok (.iinc 10 1, 3) := by decide +kernel
theorem dX6_pile_140 : decode cX6_pile 140 = .ok (.goto (-46), 3) := by decide +kernel
theorem dX6_pile_143 : decode cX6_pile 143 = .ok (.iload 10, 2) := by decide +kernel
theorem dX6_pile_145 : decode cX6_pile 145 = .ok (.bipush 20, 2) := by decide +kernel
theorem dX6_pile_147 : decode cX6_pile 147 = .ok (.if_icmp .le 8, 3) := by decide +kernel
theorem dX6_pile_150 : decode cX6_pile 150 = .ok (.ldc 149, 2) := by decide +kernel
theorem dX6_pile_152 : decode cX6_pile 152 = .ok (.goto 19, 3) := by decide +kernel
theorem dX6_pile_155 : decode cX6_pile 155 = .ok (.iload 5, 2) := by decide +kernel
theorem dX6_pile_157 : decode cX6_pile 157 = .ok (.iload 10, 2) := by decide +kernel
theorem dX6_pile_159 : decode cX6_pile 159 = .ok (.iadd, 1) := by decide +kernel
theorem dX6_pile_160 : decode cX6_pile 160 = .ok (.aload_n 0, 1) := by decide +kernel
theorem dX6_pile_161 : decode cX6_pile 161 = .ok (.getfield 19, 3) := by decide +kernel
theorem dX6_pile_164 : decode cX6_pile 164 = .ok (.bipush 29, 2) := by decide +kernel
theorem dX6_pile_166 : decode cX6_pile 166 = .ok (.iload 9, 2) := by decide +kernel
theorem dX6_pile_168 : decode cX6_pile 168 = .ok (.iadd, 1) := by decide +kernel
theorem dX6_pile_169 : decode cX6_pile 169 = .ok (.iaload, 1) := by decide +kernel
theorem dX6_pile_170 : decode cX6_pile 170 = .ok (.isub, 1) := by decide +kernel
theorem dX6_pile_171 : decode cX6_pile 171 = .ok (.istore 5, 2) := by decide +kernel
theorem dX6_pile_173 : decode cX6_pile 173 = .ok (.iload 9, 2) := by decide +kernel
theorem dX6_pile_175 : decode cX6_pile 175 = .ok (.istore 6, 2) := by decide +kernel
theorem dX6_pile_177 : decode cX6_pile 177 = .ok (.aload_n 0, 1) := by decide +kernel
theorem dX6_pile_178 : decode cX6_pile 178 = .ok (.getfield 19, 3) := by decide +kernel
theorem dX6_pile_181 : decode cX6_pile 181 = .ok (.iconst 5, 1) := by decide +kernel
theorem dX6_pile_182 : decode cX6_pile 182 = .ok (.iload 9, 2) := by decide +kernel
theorem dX6_pile_184 : decode cX6_pile 184 = .ok (.iadd, 1) := by decide +kernel
theorem dX6_pile_185 : decode cX6_pile 185 = .ok (.iaload, 1) := by decide +kernel
theorem dX6_pile_186 : decode cX6_pile 186 = .ok (.aload_n 0, 1) := by decide +kernel
theorem dX6_pile_187 : decode cX6_pile 187 = .ok (.getfield 19, 3) := by decide +kernel
theorem dX6_pile_190 : decode cX6_pile 190 = .ok (.bipush 11, 2) := by decide +kernel
theorem dX6_pile_192 : decode cX6_pile 192 = .ok (.iload 9, 2) := by decide +kernel
theorem dX6_pile_194 : decode cX6_pile 194 = .ok (.iadd, 1) := by decide +kernel
theorem dX6_pile_195 : decode cX6_pile 195 = .ok (.iaload, 1) := by decide +kernel
theorem dX6_pile_196 : decode cX6_pile 196 = .ok (.iload 10, 2) := by decide +kernel
theorem dX6_pile_198 : decode cX6_pile 198 = .ok (.invokestatic 142, 3) := by decide +kernel
theorem dX6_pile_201 : decode cX6_pile 201 = .ok (.istore 7, 2) := by decide +kernel
theorem dX6_pile_203 : decode cX6_pile 203 = .ok (.iinc 8 (-1), 3) := by decide +kernel
theorem dX6_pile_206 : decode cX6_pile 206 = .ok (.goto (-146), 3) := by decide +kernel
theorem dX6_pile_209 : decode cX6_pile 209 = .ok (.aload_n 0, 1) := by decide +kernel
theorem dX6_pile_210 : decode cX6_pile 210 = .ok (.iload 5, 2) := by decide +kernel
theorem dX6_pile_212 : decode cX6_pile 212 = .ok (.invokevirtual 72, 3) := by decide +kernel
theorem dX6_pile_215 : decode cX6_pile 215 = .ok (.ireturn, 1) := by decide +kernel
theorem dX6_climb_0 : decode cX6_climb 0 = .ok (.aload_n 0, 1) := by decide +kernel
theorem dX6_climb_1 : decode cX6_climb 1 = .ok (.iload_n 1, 1) := by decide +kernel
theorem dX6_climb_2 : decode cX6_climb 2 = .ok (.invokevirtual 178, 3) := by decide +kernel
theorem dX6_climb_5 : decode cX6_climb 5 = .ok (.ifCond .ne 6, 3) := by decide +kernel
theorem dX6_climb_8 : decode cX6_climb 8 = .ok (.ldc 67, 2) := by decide +kernel
theorem dX6_climb_10 : decode cX6_climb 10 = .ok (.ireturn, 1) := by decide +kernel
theorem dX6_climb_11 : decode cX6_climb 11 = .ok (.iconst 0, 1) := by decide +kernel
theorem dX6_climb_12 : decode cX6_climb 12 = .ok (.istore_n 2, 1) := by decide +kernel
theorem dX6_climb_13 : decode cX6_climb 13 = .ok (.iconst 0, 1) := by decide +kernel
theorem dX6_climb_14 : decode cX6_climb 14 = .ok (.istore_n 3, 1) := by decide +kernel
theorem dX6_climb_15 : decode cX6_climb 15 = .ok (.iload_n 3, 1) := by decide +kernel
theorem dX6_climb_16 : decode cX6_climb 16 = .ok (.aload_n 0, 1) := by decide +kernel
theorem dX6_climb_17 : decode cX6_climb 17 = .ok (.getfield 19, 3) := by decide +kernel
theorem dX6_climb_20 : decode cX6_climb 20 = .ok (.iconst 2, 1) := by decide +kernel
theorem dX6_climb_21 : decode cX6_climb 21 = .ok (.iaload, 1) := by decide +kernel
theorem dX6_climb_22 : decode cX6_climb 22 = .ok (.if_icmp .ge 51, 3) := by decide +kernel
theorem dX6_climb_25 : decode cX6_climb 25 = .ok (.aload_n 0, 1) := by decide +kernel
theorem dX6_climb_26 : decode cX6_climb 26 = .ok (.iload_n 3, 1) := by decide +kernel
theorem dX6_climb_27 : decode cX6_climb 27 = .ok (.invokevirtual 146, 3) := by decide +kernel
theorem dX6_climb_30 : decode cX6_climb 30 = .ok (.aload_n 0, 1) := by decide +kernel
theorem dX6_climb_31 : decode cX6_climb 31 = .ok (.iload_n 1, 1) := by decide +kernel
theorem dX6_climb_32 : decode cX6_climb 32 = .ok (.invokevirtual 146, 3) := by decide +kernel
theorem dX6_climb_35 : decode cX6_climb 35 = .ok (.isub, 1) := by decide +kernel
theorem dX6_climb_36 : decode cX6_climb 36 = .ok (.iload_n 3, 1) := by decide +kernel
theorem dX6_climb_37 : decode cX6_climb 37 = .ok (.iload_n 1, 1) := by decide +kernel
theorem dX6_climb_38 : decode cX6_climb 38 = .ok (.if_icmp .ge 7, 3) := by decide +kernel
theorem dX6_climb_41 : decode cX6_climb 41 = .ok (.iconst 1, 1) := by decide +kernel
theorem dX6_climb_42 : decode cX6_climb 42 = .ok (.goto 4, 3) := by decide +kernel
theorem dX6_climb_45 : decode cX6_climb 45 = .ok (.iconst 0, 1) := by decide +kernel
theorem dX6_climb_46 : decode cX6_climb 46 = .ok (.iadd, 1) := by decide +kernel
theorem dX6_climb_47 : decode cX6_climb 47 = .ok (.istore 4, 2) := by decide +kernel
theorem dX6_climb_49 : decode cX6_climb 49 = .ok (.iload_n 3, 1) := by decide +kernel
theorem dX6_climb_50 : decode cX6_climb 50 = .ok (.iload_n 1, 1) := by decide +kernel
theorem dX6_climb_51 : decode cX6_climb 51 = .ok (.if_icmp .eq 14, 3) := by decide +kernel
theorem dX6_climb_54 : decode cX6_climb 54 = .ok (.iload 4, 2) := by decide +kernel
theorem dX6_climb_56 : decode cX6_climb 56 = .ok (.iload_n 2, 1) := by decide +kernel
theorem dX6_climb_57 : decode cX6_climb 57 = .ok (.if_icmp .le 8, 3) := by decide +kernel
theorem dX6_climb_60 : decode cX6_climb 60 = .ok (.iload 4, 2) := by decide +kernel
theorem dX6_climb_62 : decode cX6_climb 62 = .ok (.goto 4, 3) := by decide +kernel
theorem dX6_climb_65 : decode cX6_climb 65 = .ok (.iload_n 2, 1) := by decide +kernel
theorem dX6_climb_66 : decode cX6_climb 66 = .ok (.istore_n 2, 1) := by decide +kernel
theorem dX6_climb_67 : decode cX6_climb 67 = .ok (.iinc 3 1, 3) := by decide +kernel
theorem dX6_climb_70 : decode cX6_climb 70 = .ok (.goto (-55), 3) := by decide +kernel
theorem dX6_climb_73 : decode cX6_climb 73 = .ok (.iload_n 2, 1) := by decide +kernel
theorem dX6_climb_74 : decode cX6_climb 74 = .ok (.ireturn, 1) := by decide +kernel
theorem dX6_coalition_0 : decode cX6_coalition 0 = .ok (.aload_n 0, 1) := by decide +kernel
theorem dX6_coalition_1 : decode cX6_coalition 1 = .ok (.getfield 135, 3) := by decide +kernel
theorem dX6_coalition_4 : decode cX6_coalition 4 = .ok (.ifCond .ne 6, 3) := by decide +kernel
theorem dX6_coalition_7 : decode cX6_coalition 7 = .ok (.ldc 169, 2) := by decide +kernel
theorem dX6_coalition_9 : decode cX6_coalition 9 = .ok (.ireturn, 1) := by decide +kernel
theorem dX6_coalition_10 : decode cX6_coalition 10 = .ok (.iload_n 1, 1) := by decide +kernel
theorem dX6_coalition_11 : decode cX6_coalition 11 = .ok (.invokestatic 217, 3) := by decide +kernel
theorem dX6_coalition_14 : decode cX6_coalition 14 = .ok (.ifCond .ne 6, 3) := by decide +kernel
theorem dX6_coalition_17 : decode cX6_coalition 17 = .ok (.ldc 67, 2) := by decide +kernel
theorem dX6_coalition_19 : decode cX6_coalition 19 = .ok (.ireturn, 1) := by decide +kernel
theorem dX6_coalition_20 : decode cX6_coalition 20 = .ok (.iconst 0, 1) := by decide +kernel
theorem dX6_coalition_21 : decode cX6_coalition 21 = .ok (.istore_n 2, 1) := by decide +kernel
theorem dX6_coalition_22 : decode cX6_coalition 22 = .ok (.iconst 0, 1) := by decide +kernel
theorem dX6_coalition_23 : decode cX6_coalition 23 = .ok (.istore_n 3, 1) := by decide +kernel
theorem dX6_coalition_24 : decode cX6_coalition 24 = .ok (.iload_n 3, 1) := by decide +kernel
theorem dX6_coalition_25 : decode cX6_coalition 25 = .ok (.aload_n 0, 1) := by decide +kernel
theorem dX6_coalition_26 : decode cX6_coalition 26 = .ok (.getfield 19, 3) := by decide +kernel
theorem dX6_coalition_29 : decode cX6_coalition 29 = .ok (.iconst 2, 1) := by decide +kernel
theorem dX6_coalition_30 : decode cX6_coalition 30 = .ok (.iaload, 1) := by decide +kernel
theorem dX6_coalition_31 : decode cX6_coalition 31 = .ok (.if_icmp .ge 17, 3) := by decide +kernel
theorem dX6_coalition_34 : decode cX6_coalition 34 = .ok (.iload_n 2, 1) := by decide +kernel
theorem dX6_coalition_35 : decode cX6_coalition 35 = .ok (.aload_n 0, 1) := by decide +kernel
theorem dX6_coalition_36 : decode cX6_coalition 36 = .ok (.iload_n 3, 1) := by decide +kernel
theorem dX6_coalition_37 : decode cX6_coalition 37 = .ok (.invokevirtual 146, 3) := by decide +kernel
theorem dX6_coalition_40 : decode cX6_coalition 40 = .ok (.iadd, 1) := by decide +kernel
theorem dX6_coalition_41 : decode cX6_coalition 41 = .ok (.istore_n 2, 1) := by decide +kernel
theorem dX6_coalition_42 : decode cX6_coalition 42 = .ok (.iinc 3 1, 3) := by decide +kernel
theorem dX6_coalition_45 : decode cX6_coalition 45 = .ok (.goto (-21), 3) := by decide +kernel
theorem dX6_coalition_48 : decode cX6_coalition 48 = .ok (.ldc 149, 2) := by decide +kernel
theorem dX6_coalition_50 : decode cX6_coalition 50 = .ok (.istore_n 3, 1) := by decide +kernel
theorem dX6_coalition_51 : decode cX6_coalition 51 = .ok (.iconst 0, 1) := by decide +kernel
theorem dX6_coalition_52 : decode cX6_coalition 52 = .ok (.istore 4, 2) := by decide +kernel
theorem dX6_coalition_54 : decode cX6_coalition 54 = .ok (.iload 4, 2) := by decide +kernel
theorem dX6_coalition_56 : decode cX6_coalition 56 = .ok (.iconst 1, 1) := by decide +kernel
theorem dX6_coalition_57 : decode cX6_coalition 57 = .ok (.aload_n 0, 1) := by decide +kernel
theorem dX6_coalition_58 : decode cX6_coalition 58 = .ok (.getfield 19, 3) := by decide +kernel
theorem dX6_coalition_61 : decode cX6_coalition 61 = .ok (.iconst 2, 1) := by decide +kernel
theorem dX6_coalition_62 : decode cX6_coalition 62 = .ok (.iaload, 1) := by decide +kernel
theorem dX6_coalition_63 : decode cX6_coalition 63 = .ok (.ishl, 1) := by decide +kernel
theorem dX6_coalition_64 : decode cX6_coalition 64 = .ok (.if_icmp .ge 88, 3) := by decide +kernel
theorem dX6_coalition_67 : decode cX6_coalition 67 = .ok (.iconst 0, 1) := by decide +kernel
theorem dX6_coalition_68 : decode cX6_coalition 68 = .ok (.istore 5, 2) := by decide +kernel
theorem dX6_coalition_70 : decode cX6_coalition 70 = .ok (.iconst 0, 1) := by decide +kernel
theorem dX6_coalition_71 : decode cX6_coalition 71 = .ok (.istore 6, 2) := by decide +kernel
theorem dX6_coalition_73 : decode cX6_coalition 73 = .ok (.iload 6, 2) := by decide +kernel
theorem dX6_coalition_75 : decode cX6_coalition 75 = .ok (.aload_n 0, 1) := by decide +kernel
theorem dX6_coalition_76 : decode cX6_coalition 76 = .ok (.getfield 19, 3) := by decide +kernel
theorem dX6_coalition_79 : decode cX6_coalition 79 = .ok (.iconst 2, 1) := by decide +kernel
theorem dX6_coalition_80 : decode cX6_coalition 80 = .ok (.iaload, 1) := by decide +kernel
theorem dX6_coalition_81 : decode cX6_coalition 81 = .ok (.if_icmp .ge 34, 3) := by decide +kernel
theorem dX6_coalition_84 : decode cX6_coalition 84 = .ok (.iload 5, 2) := by decide +kernel
theorem dX6_coalition_86 : decode cX6_coalition 86 = .ok (.iload 4, 2) := by decide +kernel
theorem dX6_coalition_88 : decode cX6_coalition 88 = .ok (.iload 6, 2) := by decide +kernel
theorem dX6_coalition_90 : decode cX6_coalition 90 = .ok (.invokestatic 162, 3) := by decide +kernel
theorem dX6_coalition_93 : decode cX6_coalition 93 = .ok (.ifCond .eq 12, 3) := by decide +kernel
theorem dX6_coalition_96 : decode cX6_coalition 96 = .ok (.aload_n 0, 1) := by decide +kernel
theorem dX6_coalition_97 : decode cX6_coalition 97 = .ok (.iload 6, 2) := by decide +kernel
theorem dX6_coalition_99 : decode cX6_coalition 99 = .ok (.invokevirtual 146, 3) := by decide +kernel
theorem dX6_coalition_102 : decode cX6_coalition 102 = .ok (.goto 4, 3) := by decide +kernel
theorem dX6_coalition_105 : decode cX6_coalition 105 = .ok (.iconst 0, 1) := by decide +kernel
theorem dX6_coalition_106 : decode cX6_coalition 106 = .ok (.iadd, 1) := by decide +kernel
theorem dX6_coalition_107 : decode cX6_coalition 107 = .ok (.istore 5, 2) := by decide +kernel
theorem dX6_coalition_109 : decode cX6_coalition 109 = .ok (.iinc 6 1, 3) := by decide +kernel
theorem dX6_coalition_112 : decode cX6_coalition 112 = .ok (.goto (-39), 3) := by decide +kernel
theorem dX6_coalition_115 : decode cX6_coalition 115 = .ok (.iconst 2, 1) := by decide +kernel
theorem dX6_coalition_116 : decode cX6_coalition 116 = .ok (.iload 5, 2) := by decide +kernel
theorem dX6_coalition_118 : decode cX6_coalition 118 = .ok (.imul, 1) := by decide +kernel
theorem dX6_coalition_119 : decode cX6_coalition 119 = .ok (.iload_n 2, 1) := by decide +kernel
theorem dX6_coalition_120 : decode cX6_coalition 120 = .ok (.if_icmp .le 24, 3) := by decide +kernel
theorem dX6_coalition_123 : decode cX6_coalition 123 = .ok (.iload_n 3, 1) := by decide +kernel
theorem dX6_coalition_124 : decode cX6_coalition 124 = .ok (.ifCond .lt 15, 3) := by decide +kernel
theorem dX6_coalition_127 : decode cX6_coalition 127 = .ok (.iload 4, 2) := by decide +kernel
theorem dX6_coalition_129 : decode cX6_coalition 129 = .ok (.invokestatic 187, 3) := by decide +kernel
theorem dX6_coalition_132 : decode cX6_coalition 132 = .ok (.iload_n 3, 1) := by decide +kernel
theorem dX6_coalition_133 : decode cX6_coalition 133 = .ok (.invokestatic 187, 3) := by decide +kernel
theorem dX6_coalition_136 : decode cX6_coalition 136 = .ok (.if_icmp .ge 8, 3) := by decide +kernel
theorem dX6_coalition_139 : decode cX6_coalition 139 = .ok (.iload 4, 2) := by decide +kernel
theorem dX6_coalition_141 : decode cX6_coalition 141 = .ok (.goto 4, 3) := by decide +kernel
theorem dX6_coalition_144 : decode cX6_coalition 144 = .ok (.iload_n 3, 1) := by decide +kernel
theorem dX6_coalition_145 : decode cX6_coalition 145 = .ok (.istore_n 3, 1) := by decide +kernel
theorem dX6_coalition_146 : decode cX6_coalition 146 = .ok (.iinc 4 1, 3) := by decide +kernel
theorem dX6_coalition_149 : decode cX6_coalition 149 = .ok (.goto (-95), 3) := by decide +kernel
theorem dX6_coalition_152 : decode cX6_coalition 152 = .ok (.iload_n 3, 1) := by decide +kernel
theorem dX6_coalition_153 : decode cX6_coalition 153 = .ok (.ifCond .lt 8, 3) := by decide +kernel
theorem dX6_coalition_156 : decode cX6_coalition 156 = .ok (.iload_n 1, 1) := by decide +kernel
theorem dX6_coalition_157 : decode cX6_coalition 157 = .ok (.iconst 1, 1) := by decide +kernel
theorem dX6_coalition_158 : decode cX6_coalition 158 = .ok (.if_icmp .ne 7, 3) := by decide +kernel
theorem dX6_coalition_161 : decode cX6_coalition 161 = .ok (.iload_n 3, 1) := by decide +kernel
theorem dX6_coalition_162 : decode cX6_coalition 162 = .ok (.goto 7, 3) := by decide +kernel
theorem dX6_coalition_165 : decode cX6_coalition 165 = .ok (.iload_n 3, 1) := by decide +kernel
theorem dX6_coalition_166 : decode cX6_coalition 166 = .ok (.invokestatic 187, 3) := by decide +kernel
theorem dX6_coalition_169 : decode cX6_coalition 169 = .ok (.ireturn, 1) := by decide +kernel
theorem dX6_sawnBy_0 : decode cX6_sawnBy 0 = .ok (.aload_n 0, 1) := by decide +kernel
theorem dX6_sawnBy_1 : decode cX6_sawnBy 1 = .ok (.iload_n 1, 1) := by decide +kernel
theorem dX6_sawnBy_2 : decode cX6_sawnBy 2 = .ok (.invokevirtual 178, 3) := by decide +kernel
theorem dX6_sawnBy_5 : decode cX6_sawnBy 5 = .ok (.ifCond .ne 6, 3) := by decide +kernel
theorem dX6_sawnBy_8 : decode cX6_sawnBy 8 = .ok (.ldc 67, 2) := by decide +kernel
theorem dX6_sawnBy_10 : decode cX6_sawnBy 10 = .ok (.ireturn, 1) := by decide +kernel
theorem dX6_sawnBy_11 : decode cX6_sawnBy 11 = .ok (.iconst 0, 1) := by decide +kernel
theorem dX6_sawnBy_12 : decode cX6_sawnBy 12 = .ok (.istore_n 2, 1) := by decide +kernel
theorem dX6_sawnBy_13 : decode cX6_sawnBy 13 = .ok (.iconst 0, 1) := by decide +kernel
theorem dX6_sawnBy_14 : decode cX6_sawnBy 14 = .ok (.istore_n 3, 1) := by decide +kernel
theorem dX6_sawnBy_15 : decode cX6_sawnBy 15 = .ok (.iload_n 3, 1) := by decide +kernel
theorem dX6_sawnBy_16 : decode cX6_sawnBy 16 = .ok (.aload_n 0, 1) := by decide +kernel
theorem dX6_sawnBy_17 : decode cX6_sawnBy 17 = .ok (.getfield 19, 3) := by decide +kernel
theorem dX6_sawnBy_20 : decode cX6_sawnBy 20 = .ok (.iconst 2, 1) := by decide +kernel
theorem dX6_sawnBy_21 : decode cX6_sawnBy 21 = .ok (.iaload, 1) := by decide +kernel
theorem dX6_sawnBy_22 : decode cX6_sawnBy 22 = .ok (.if_icmp .ge 28, 3) := by decide +kernel
theorem dX6_sawnBy_25 : decode cX6_sawnBy 25 = .ok (.iload_n 2, 1) := by decide +kernel
theorem dX6_sawnBy_26 : decode cX6_sawnBy 26 = .ok (.aload_n 0, 1) := by decide +kernel
theorem dX6_sawnBy_27 : decode cX6_sawnBy 27 = .ok (.iload_n 3, 1) := by decide +kernel
theorem dX6_sawnBy_28 : decode cX6_sawnBy 28 = .ok (.invokevirtual 159, 3) := by decide +kernel
theorem dX6_sawnBy_31 : decode cX6_sawnBy 31 = .ok (.iload_n 1, 1) := by decide +kernel
theorem dX6_sawnBy_32 : decode cX6_sawnBy 32 = .ok (.if_icmp .ne 9, 3) := by decide +kernel
theorem dX6_sawnBy_35 : decode cX6_sawnBy 35 = .ok (.iconst 1, 1) := by decide +kernel
theorem dX6_sawnBy_36 : decode cX6_sawnBy 36 = .ok (.iload_n 3, 1) := by decide +kernel
theorem dX6_sawnBy_37 : decode cX6_sawnBy 37 = .ok (.ishl, 1) := by decide +kernel
theorem dX6_sawnBy_38 : decode cX6_sawnBy 38 = .ok (.goto 4, 3) := by decide +kernel
theorem dX6_sawnBy_41 : decode cX6_sawnBy 41 = .ok (.iconst 0, 1) := by decide +kernel
theorem dX6_sawnBy_42 : decode cX6_sawnBy 42 = .ok (.ior, 1) := by decide +kernel
theorem dX6_sawnBy_43 : decode cX6_sawnBy 43 = .ok (.istore_n 2, 1) := by decide +kernel
theorem dX6_sawnBy_44 : decode cX6_sawnBy 44 = .ok (.iinc 3 1, 3) := by decide +kernel
theorem dX6_sawnBy_47 : decode cX6_sawnBy 47 = .ok (.goto (-32), 3) := by decide +kernel
theorem dX6_sawnBy_50 : decode cX6_sawnBy 50 = .ok (.iload_n 2, 1) := by decide +kernel
theorem dX6_sawnBy_51 : decode cX6_sawnBy 51 = .ok (.ireturn, 1) := by decide +kernel
theorem dX6_round_0 : decode cX6_round 0 = .ok (.aload_n 0, 1) := by decide +kernel
theorem dX6_round_1 : decode cX6_round 1 = .ok (.getfield 135, 3) := by decide +kernel
theorem dX6_round_4 : decode cX6_round 4 = .ok (.ifCond .ne 6, 3) := by decide +kernel
theorem dX6_round_7 : decode cX6_round 7 = .ok (.ldc 169, 2) := by decide +kernel
theorem dX6_round_9 : decode cX6_round 9 = .ok (.ireturn, 1) := by decide +kernel
theorem dX6_round_10 : decode cX6_round 10 = .ok (.iconst 0, 1) := by decide +kernel
theorem dX6_round_11 : decode cX6_round 11 = .ok (.istore_n 1, 1) := by decide +kernel
theorem dX6_round_12 : decode cX6_round 12 = .ok (.iconst 0, 1) := by decide +kernel
theorem dX6_round_13 : decode cX6_round 13 = .ok (.istore_n 2, 1) := by decide +kernel
theorem dX6_round_14 : decode cX6_round 14 = .ok (.iload_n 2, 1) := by decide +kernel
theorem dX6_round_15 : decode cX6_round 15 = .ok (.aload_n 0, 1) := by decide +kernel
theorem dX6_round_16 : decode cX6_round 16 = .ok (.getfield 19, 3) := by decide +kernel
theorem dX6_round_19 : decode cX6_round 19 = .ok (.iconst 2, 1) := by decide +kernel
theorem dX6_round_20 : decode cX6_round 20 = .ok (.iaload, 1) := by decide +kernel
theorem dX6_round_21 : decode cX6_round 21 = .ok (.if_icmp .ge 38, 3) := by decide +kernel
theorem dX6_round_24 : decode cX6_round 24 = .ok (.aload_n 0, 1) := by decide +kernel
theorem dX6_round_25 : decode cX6_round 25 = .ok (.iload_n 2, 1) := by decide +kernel
theorem dX6_round_26 : decode cX6_round 26 = .ok (.invokevirtual 159, 3) := by decide +kernel
theorem dX6_round_29 : decode cX6_round 29 = .ok (.istore_n 3, 1) := by decide +kernel
theorem dX6_round_30 : decode cX6_round 30 = .ok (.iload_n 1, 1) := by decide +kernel
theorem dX6_round_31 : decode cX6_round 31 = .ok (.iload_n 3, 1) := by decide +kernel
theorem dX6_round_32 : decode cX6_round 32 = .ok (.ifCond .lt 18, 3) := by decide +kernel
theorem dX6_round_35 : decode cX6_round 35 = .ok (.aload_n 0, 1) := by decide +kernel
theorem dX6_round_36 : decode cX6_round 36 = .ok (.iload_n 3, 1) := by decide +kernel
theorem dX6_round_37 : decode cX6_round 37 = .ok (.invokevirtual 159, 3) := by decide +kernel
theorem dX6_round_40 : decode cX6_round 40 = .ok (.iload_n 2, 1) := by decide +kernel
theorem dX6_round_41 : decode cX6_round 41 = .ok (.if_icmp .ne 9, 3) := by decide +kernel
theorem dX6_round_44 : decode cX6_round 44 = .ok (.iconst 1, 1) := by decide +kernel
theorem dX6_round_45 : decode cX6_round 45 = .ok (.iload_n 2, 1) := by decide +kernel
theorem dX6_round_46 : decode cX6_round 46 = .ok (.ishl, 1) := by decide +kernel
theorem dX6_round_47 : decode cX6_round 47 = .ok (.goto 4, 3) := by decide +kernel
theorem dX6_round_50 : decode cX6_round 50 = .ok (.iconst 0, 1) := by decide +kernel
theorem dX6_round_51 : decode cX6_round 51 = .ok (.ior, 1) := by decide +kernel
theorem dX6_round_52 : decode cX6_round 52 = .ok (.istore_n 1, 1) := by decide +kernel
theorem dX6_round_53 : decode cX6_round 53 = .ok (.iinc 2 1, 3) := by decide +kernel
theorem dX6_round_56 : decode cX6_round 56 = .ok (.goto (-42), 3) := by decide +kernel
theorem dX6_round_59 : decode cX6_round 59 = .ok (.iload_n 1, 1) := by decide +kernel
theorem dX6_round_60 : decode cX6_round 60 = .ok (.ireturn, 1) := by decide +kernel
theorem dX6_enemy_0 : decode cX6_enemy 0 = .ok (.aload_n 0, 1) := by decide +kernel
theorem dX6_enemy_1 : decode cX6_enemy 1 = .ok (.iload_n 1, 1) := by decide +kernel
theorem dX6_enemy_2 : decode cX6_enemy 2 = .ok (.invokevirtual 178, 3) := by decide +kernel
theorem dX6_enemy_5 : decode cX6_enemy 5 = .ok (.ifCond .eq 22, 3) := by decide +kernel
theorem dX6_enemy_8 : decode cX6_enemy 8 = .ok (.iload_n 2, 1) := by decide +kernel
theorem dX6_enemy_9 : decode cX6_enemy 9 = .ok (.i2l, 1) := by decide +kernel
theorem dX6_enemy_10 : decode cX6_enemy 10 = .ok (.lconst 1, 1) := by decide +kernel
theorem dX6_enemy_11 : decode cX6_enemy 11 = .ok (.ldc2_w 212, 3) := by decide +kernel
theorem dX6_enemy_14 : decode cX6_enemy 14 = .ok (.invokestatic 57, 3) := by decide +kernel
theorem dX6_enemy_17 : decode cX6_enemy 17 = .ok (.ifCond .eq 10, 3) := by decide +kernel
theorem dX6_enemy_20 : decode cX6_enemy 20 = .ok (.iload_n 3, 1) := by decide +kernel
theorem dX6_enemy_21 : decode cX6_enemy 21 = .ok (.invokestatic 217, 3) := by decide +kernel
theorem dX6_enemy_24 : decode cX6_enemy 24 = .ok (.ifCond .ne 6, 3) := by decide +kernel
theorem dX6_enemy_27 : decode cX6_enemy 27 = .ok (.ldc 67, 2) := by decide +kernel
theorem dX6_enemy_29 : decode cX6_enemy 29 = .ok (.ireturn, 1) := by decide +kernel
theorem dX6_enemy_30 : decode cX6_enemy 30 = .ok (.aload_n 0, 1) := by decide +kernel
theorem dX6_enemy_31 : decode cX6_enemy 31 = .ok (.invokevirtual 204, 3) := by decide +kernel
theorem dX6_enemy_34 : decode cX6_enemy 34 = .ok (.iconst 0, 1) := by decide +kernel
theorem dX6_enemy_35 : decode cX6_enemy 35 = .ok (.istore 4, 2) := by decide +kernel
theorem dX6_enemy_37 : decode cX6_enemy 37 = .ok (.iconst (-1), 1) := by decide +kernel
theorem dX6_enemy_38 : decode cX6_enemy 38 = .ok (.istore 5, 2) := by decide +kernel
theorem dX6_enemy_40 : decode cX6_enemy 40 = .ok (.iconst 0, 1) := by decide +kernel
theorem dX6_enemy_41 : decode cX6_enemy 41 = .ok (.istore 6, 2) := by decide +kernel
theorem dX6_enemy_43 : decode cX6_enemy 43 = .ok (.iload 6, 2) := by decide +kernel
theorem dX6_enemy_45 : decode cX6_enemy 45 = .ok (.aload_n 0, 1) := by decide +kernel
theorem dX6_enemy_46 : decode cX6_enemy 46 = .ok (.getfield 19, 3) := by decide +kernel
theorem dX6_enemy_49 : decode cX6_enemy 49 = .ok (.iconst 2, 1) := by decide +kernel
theorem dX6_enemy_50 : decode cX6_enemy 50 = .ok (.iaload, 1) := by decide +kernel
theorem dX6_enemy_51 : decode cX6_enemy 51 = .ok (.if_icmp .ge 68, 3) := by decide +kernel
theorem dX6_enemy_54 : decode cX6_enemy 54 = .ok (.aload_n 0, 1) := by decide +kernel
theorem dX6_enemy_55 : decode cX6_enemy 55 = .ok (.getfield 19, 3) := by decide +kernel
theorem dX6_enemy_58 : decode cX6_enemy 58 = .ok (.bipush 17, 2) := by decide +kernel
theorem dX6_enemy_60 : decode cX6_enemy 60 = .ok (.iload 6, 2) := by decide +kernel
theorem dX6_enemy_62 : decode cX6_enemy 62 = .ok (.iadd, 1) := by decide +kernel
theorem dX6_enemy_63 : decode cX6_enemy 63 = .ok (.iconst 0, 1) := by decide +kernel
theorem dX6_enemy_64 : decode cX6_enemy 64 = .ok (.iastore, 1) := by decide +kernel
theorem dX6_enemy_65 : decode cX6_enemy 65 = .ok (.aload_n 0, 1) := by decide +kernel
theorem dX6_enemy_66 : decode cX6_enemy 66 = .ok (.iload_n 2, 1) := by decide +kernel
theorem dX6_enemy_67 : decode cX6_enemy 67 = .ok (.invokevirtual 196, 3) := by decide +kernel
theorem dX6_enemy_70 : decode cX6_enemy 70 = .ok (.aload_n 0, 1) := by decide +kernel
theorem dX6_enemy_71 : decode cX6_enemy 71 = .ok (.iload_n 1, 1) := by decide +kernel
theorem dX6_enemy_72 : decode cX6_enemy 72 = .ok (.invokevirtual 146, 3) := by decide +kernel
theorem dX6_enemy_75 : decode cX6_enemy 75 = .ok (.istore 7, 2) := by decide +kernel
theorem dX6_enemy_77 : decode cX6_enemy 77 = .ok (.aload_n 0, 1) := by decide +kernel
theorem dX6_enemy_78 : decode cX6_enemy 78 = .ok (.invokevirtual 199, 3) := by decide +kernel
theorem dX6_enemy_81 : decode cX6_enemy 81 = .ok (.iload 7, 2) := by decide +kernel
theorem dX6_enemy_83 : decode cX6_enemy 83 = .ok (.iload 5, 2) := by decide +kernel
theorem dX6_enemy_85 : decode cX6_enemy 85 = .ok (.if_icmp .le 8, 3) := by decide +kernel
theorem dX6_enemy_88 : decode cX6_enemy 88 = .ok (.iload 6, 2) := by decide +kernel
theorem dX6_enemy_90 : decode cX6_enemy 90 = .ok (.goto 5, 3) := by decide +kernel
theorem dX6_enemy_93 : decode cX6_enemy 93 = .ok (.iload 4, 2) := by decide +kernel
theorem dX6_enemy_95 : decode cX6_enemy 95 = .ok (.istore 4, 2) := by decide +kernel
theorem dX6_enemy_97 : decode cX6_enemy 97 = .ok (.iload 7, 2) := by decide +kernel
theorem dX6_enemy_99 : decode cX6_enemy 99 = .ok (.iload 5, 2) := by decide +kernel
theorem dX6_enemy_101 : decode cX6_enemy 101 = .ok (.if_icmp .le 8, 3) := by decide +kernel
theorem dX6_enemy_104 : decode cX6_enemy 104 = .ok (.iload 7, 2) := by decide +kernel
theorem dX6_enemy_106 : decode cX6_enemy 106 = .ok (.goto 5, 3) := by decide +kernel
theorem dX6_enemy_109 : decode cX6_enemy 109 = .ok (.iload 5, 2) := by decide +kernel
theorem dX6_enemy_111 : decode cX6_enemy 111 = .ok (.istore 5, 2) := by decide +kernel
theorem dX6_enemy_113 : decode cX6_enemy 113 = .ok (.iinc 6 1, 3) := by decide +kernel
theorem dX6_enemy_116 : decode cX6_enemy 116 = .ok (.goto (-73), 3) := by decide +kernel
theorem dX6_enemy_119 : decode cX6_enemy 119 = .ok (.iload_n 3, 1) := by decide +kernel
theorem dX6_enemy_120 : decode cX6_enemy 120 = .ok (.ifCond .ne 8, 3) := by decide +kernel
theorem dX6_enemy_123 : decode cX6_enemy 123 = .ok (.iload 4, 2) := by decide +kernel
theorem dX6_enemy_125 : decode cX6_enemy 125 = .ok (.goto 5, 3) := by decide +kernel
theorem dX6_enemy_128 : decode cX6_enemy 128 = .ok (.iload 5, 2) := by decide +kernel
theorem dX6_enemy_130 : decode cX6_enemy 130 = .ok (.ireturn, 1) := by decide +kernel
theorem dX6_isSo_0 : decode cX6_isSo 0 = .ok (.iconst 1, 1) := by decide +kernel
theorem dX6_isSo_1 : decode cX6_isSo 1 = .ok (.istore 4, 2) := by decide +kernel
theorem dX6_isSo_3 : decode cX6_isSo 3 = .ok (.iconst 0, 1) := by decide +kernel
theorem dX6_isSo_4 : decode cX6_isSo 4 = .ok (.istore 5, 2) := by decide +kernel
theorem dX6_isSo_6 : decode cX6_isSo 6 = .ok (.iload 5, 2) := by decide +kernel
theorem dX6_isSo_8 : decode cX6_isSo 8 = .ok (.iload_n 3, 1) := by decide +kernel
theorem dX6_isSo_9 : decode cX6_isSo 9 = .ok (.if_icmp .ge 42, 3) := by decide +kernel
theorem dX6_isSo_12 : decode cX6_isSo 12 = .ok (.aload_n 0, 1) := by decide +kernel
theorem dX6_isSo_13 : decode cX6_isSo 13 = .ok (.invokevirtual 175, 3) := by decide +kernel
theorem dX6_isSo_16 : decode cX6_isSo 16 = .ok (.iload 4, 2) := by decide +kernel
theorem dX6_isSo_18 : decode cX6_isSo 18 = .ok (.ifCond .eq 24, 3) := by decide +kernel
theorem dX6_isSo_21 : decode cX6_isSo 21 = .ok (.aload_n 0, 1) := by decide +kernel
theorem dX6_isSo_22 : decode cX6_isSo 22 = .ok (.getfield 16, 3) := by decide +kernel
theorem dX6_isSo_25 : decode cX6_isSo 25 = .ok (.iload_n 2, 1) := by decide +kernel
theorem dX6_isSo_26 : decode cX6_isSo 26 = .ok (.iload 5, 2) := by decide +kernel
theorem dX6_isSo_28 : decode cX6_isSo 28 = .ok (.iadd, 1) := by decide +kernel
theorem dX6_isSo_29 : decode cX6_isSo 29 = .ok (.iaload, 1) := by decide +kernel
theorem dX6_isSo_30 : decode cX6_isSo 30 = .ok (.aload_n 0, 1) := by decide +kernel
theorem dX6_isSo_31 : decode cX6_isSo 31 = .ok (.iload_n 1, 1) := by decide +kernel
theorem dX6_isSo_32 : decode cX6_isSo 32 = .ok (.invokevirtual 146, 3) := by decide +kernel
theorem dX6_isSo_35 : decode cX6_isSo 35 = .ok (.if_icmp .ne 7, 3) := by decide +kernel
theorem dX6_isSo_38 : decode cX6_isSo 38 = .ok (.iconst 1, 1) := by decide +kernel
theorem dX6_isSo_39 : decode cX6_isSo 39 = .ok (.goto 4, 3) := by decide +kernel
theorem dX6_isSo_42 : decode cX6_isSo 42 = .ok (.iconst 0, 1) := by decide +kernel
theorem dX6_isSo_43 : decode cX6_isSo 43 = .ok (.istore 4, 2) := by decide +kernel
theorem dX6_isSo_45 : decode cX6_isSo 45 = .ok (.iinc 5 1, 3) := by decide +kernel
theorem dX6_isSo_48 : decode cX6_isSo 48 = .ok (.goto (-42), 3) := by decide +kernel
theorem dX6_isSo_51 : decode cX6_isSo 51 = .ok (.aload_n 0, 1) := by decide +kernel
theorem dX6_isSo_52 : decode cX6_isSo 52 = .ok (.invokevirtual 199, 3) := by decide +kernel
theorem dX6_isSo_55 : decode cX6_isSo 55 = .ok (.iload 4, 2) := by decide +kernel
theorem dX6_isSo_57 : decode cX6_isSo 57 = .ok (.ireturn, 1) := by decide +kernel
theorem dX6_who_0 : decode cX6_who 0 = .ok (.aload_n 0, 1) := by decide +kernel
theorem dX6_who_1 : decode cX6_who 1 = .ok (.iload_n 1, 1) := by decide +kernel
theorem dX6_who_2 : decode cX6_who 2 = .ok (.invokevirtual 178, 3) := by decide +kernel
theorem dX6_who_5 : decode cX6_who 5 = .ok (.ifCond .eq 44, 3) := by decide +kernel
theorem dX6_who_8 : decode cX6_who 8 = .ok (.iload_n 2, 1) := by decide +kernel
theorem dX6_who_9 : decode cX6_who 9 = .ok (.i2l, 1) := by decide +kernel
theorem dX6_who_10 : decode cX6_who 10 = .ok (.lconst 0, 1) := by decide +kernel
theorem dX6_who_11 : decode cX6_who 11 = .ok (.ldc2_w 65, 3) := by decide +kernel
theorem dX6_who_14 : decode cX6_who 14 = .ok (.invokestatic 57, 3) := by decide +kernel
theorem dX6_who_17 : decode cX6_who 17 = .ok (.ifCond .eq 32, 3) := by decide +kernel
theorem dX6_who_20 : decode cX6_who 20 = .ok (.aload_n 0, 1) := by decide +kernel
theorem dX6_who_21 : decode cX6_who 21 = .ok (.iload_n 3, 1) := by decide +kernel
theorem dX6_who_22 : decode cX6_who 22 = .ok (.invokevirtual 178, 3) := by decide +kernel
theorem dX6_who_25 : decode cX6_who 25 = .ok (.ifCond .eq 24, 3) := by decide +kernel
theorem dX6_who_28 : decode cX6_who 28 = .ok (.iload 4, 2) := by decide +kernel
theorem dX6_who_30 : decode cX6_who 30 = .ok (.invokestatic 61, 3) := by decide +kernel
theorem dX6_who_33 : decode cX6_who 33 = .ok (.ifCond .eq 16, 3) := by decide +kernel
theorem dX6_who_36 : decode cX6_who 36 = .ok (.iload 6, 2) := by decide +kernel
theorem dX6_who_38 : decode cX6_who 38 = .ok (.i2l, 1) := by decide +kernel
theorem dX6_who_39 : decode cX6_who 39 = .ok (.lconst 1, 1) := by decide +kernel
theorem dX6_who_40 : decode cX6_who 40 = .ok (.ldc2_w 229, 3) := by decide +kernel
theorem dX6_who_43 : decode cX6_who 43 = .ok (.invokestatic 57, 3) := by decide +kernel
theorem dX6_who_46 : decode cX6_who 46 = .ok (.ifCond .ne 8, 3) := by decide +kernel
theorem dX6_who_49 : decode cX6_who 49 = .ok (.ldc 67, 2) := by decide +kernel
theorem dX6_who_51 : decode cX6_who 51 = .ok (.goto 13, 3) := by decide +kernel
theorem dX6_who_54 : decode cX6_who 54 = .ok (.aload_n 0, 1) := by decide +kernel
theorem dX6_who_55 : decode cX6_who 55 = .ok (.iload 4, 2) := by decide +kernel
theorem dX6_who_57 : decode cX6_who 57 = .ok (.iload 5, 2) := by decide +kernel
theorem dX6_who_59 : decode cX6_who 59 = .ok (.iload 6, 2) := by decide +kernel
theorem dX6_who_61 : decode cX6_who 61 = .ok (.invokevirtual 220, 3) := by decide +kernel
theorem dX6_who_64 : decode cX6_who 64 = .ok (.istore 7, 2) := by decide +kernel
theorem dX6_who_66 : decode cX6_who 66 = .ok (.iload 7, 2) := by decide +kernel
theorem dX6_who_68 : decode cX6_who 68 = .ok (.ifCond .ge 6, 3) := by decide +kernel
theorem dX6_who_71 : decode cX6_who 71 = .ok (.iload 7, 2) := by decide +kernel
theorem dX6_who_73 : decode cX6_who 73 = .ok (.ireturn, 1) := by decide +kernel
theorem dX6_who_74 : decode cX6_who 74 = .ok (.aload_n 0, 1) := by decide +kernel
theorem dX6_who_75 : decode cX6_who 75 = .ok (.invokevirtual 204, 3) := by decide +kernel
theorem dX6_who_78 : decode cX6_who 78 = .ok (.iload_n 2, 1) := by decide +kernel
theorem dX6_who_79 : decode cX6_who 79 = .ok (.ifCond .ne 9, 3) := by decide +kernel
theorem dX6_who_82 : decode cX6_who 82 = .ok (.iconst 5, 1) := by decide +kernel
theorem dX6_who_83 : decode cX6_who 83 = .ok (.iload_n 1, 1) := by decide +kernel
theorem dX6_who_84 : decode cX6_who 84 = .ok (.iadd, 1) := by decide +kernel
theorem dX6_who_85 : decode cX6_who 85 = .ok (.goto 19, 3) := by decide +kernel
theorem dX6_who_88 : decode cX6_who 88 = .ok (.iload_n 2, 1) := by decide +kernel
theorem dX6_who_89 : decode cX6_who 89 = .ok (.iconst 1, 1) := by decide +kernel
theorem dX6_who_90 : decode cX6_who 90 = .ok (.if_icmp .ne 10, 3) := by decide +kernel
theorem dX6_who_93 : decode cX6_who 93 = .ok (.bipush 17, 2) := by decide +kernel
theorem dX6_who_95 : decode cX6_who 95 = .ok (.iload_n 1, 1) := by decide +kernel
theorem dX6_who_96 : decode cX6_who 96 = .ok (.iadd, 1) := by decide +kernel
theorem dX6_who_97 : decode cX6_who 97 = .ok (.goto 7, 3) := by decide +kernel
theorem dX6_who_100 : decode cX6_who 100 = .ok (.bipush 23, 2) := by decide +kernel
theorem dX6_who_102 : decode cX6_who 102 = .ok (.iload_n 1, 1) := by decide +kernel
theorem dX6_who_103 : decode cX6_who 103 = .ok (.iadd, 1) := by decide +kernel
theorem dX6_who_104 : decode cX6_who 104 = .ok (.istore 8, 2) := by decide +kernel
theorem dX6_who_106 : decode cX6_who 106 = .ok (.iconst 0, 1) := by decide +kernel
theorem dX6_who_107 : decode cX6_who 107 = .ok (.istore 9, 2) := by decide +kernel
theorem dX6_who_109 : decode cX6_who 109 = .ok (.iload_n 2, 1) := by decide +kernel
theorem dX6_who_110 : decode cX6_who 110 = .ok (.ifCond .ne 7, 3) := by decide +kernel
theorem dX6_who_113 : decode cX6_who 113 = .ok (.iconst 1, 1) := by decide +kernel
theorem dX6_who_114 : decode cX6_who 114 = .ok (.goto 4, 3) := by decide +kernel
theorem dX6_who_117 : decode cX6_who 117 = .ok (.iconst 0, 1) := by decide +kernel
theorem dX6_who_118 : decode cX6_who 118 = .ok (.istore 10, 2) := by decide +kernel
theorem dX6_who_120 : decode cX6_who 120 = .ok (.iload 10, 2) := by decide +kernel
theorem dX6_who_122 : decode cX6_who 122 = .ok (.iload_n 2, 1) := by decide +kernel
theorem dX6_who_123 : decode cX6_who 123 = .ok (.ifCond .ne 7, 3) := by decide +kernel
theorem dX6_who_126 : decode cX6_who 126 = .ok (.iconst 5, 1) := by decide +kernel
theorem dX6_who_127 : decode cX6_who 127 = .ok (.goto 14, 3) := by decide +kernel
theorem dX6_who_130 : decode cX6_who 130 = .ok (.iload_n 2, 1) := by decide +kernel
theorem dX6_who_131 : decode cX6_who 131 = .ok (.iconst 1, 1) := by decide +kernel
theorem dX6_who_132 : decode cX6_who 132 = .ok (.if_icmp .ne 8, 3) := by decide +kernel
theorem dX6_who_135 : decode cX6_who 135 = .ok (.bipush 9, 2) := by decide +kernel
theorem dX6_who_137 : decode cX6_who 137 = .ok (.goto 4, 3) := by decide +kernel
theorem dX6_who_140 : decode cX6_who 140 = .ok (.iconst 3, 1) := by decide +kernel
theorem dX6_who_141 : decode cX6_who 141 = .ok (.if_icmp .gt 49, 3) := by decide +kernel
theorem dX6_who_144 : decode cX6_who 144 = .ok (.aload_n 0, 1) := by decide +kernel
theorem dX6_who_145 : decode cX6_who 145 = .ok (.getfield 19, 3) := by decide +kernel
theorem dX6_who_148 : decode cX6_who 148 = .ok (.iload 8, 2) := by decide +kernel
theorem dX6_who_150 : decode cX6_who 150 = .ok (.iload 10, 2) := by decide +kernel
theorem dX6_who_152 : decode cX6_who 152 = .ok (.iastore, 1) := by decide +kernel
theorem dX6_who_153 : decode cX6_who 153 = .ok (.iload 9, 2) := by decide +kernel
theorem dX6_who_155 : decode cX6_who 155 = .ok (.aload_n 0, 1) := by decide +kernel
theorem dX6_who_156 : decode cX6_who 156 = .ok (.iload_n 3, 1) := by decide +kernel
theorem dX6_who_157 : decode cX6_who 157 = .ok (.bipush 40, 2) := by decide +kernel
theorem dX6_who_159 : decode cX6_who 159 = .ok (.iload 4, 2) := by decide +kernel
theorem dX6_who_161 : decode cX6_who 161 = .ok (.imul, 1) := by decide +kernel
theorem dX6_who_162 : decode cX6_who 162 = .ok (.iload 5, 2) := by decide +kernel
theorem dX6_who_164 : decode cX6_who 164 = .ok (.iadd, 1) := by decide +kernel
theorem dX6_who_165 : decode cX6_who 165 = .ok (.iload 6, 2) := by decide +kernel
theorem dX6_who_167 : decode cX6_who 167 = .ok (.invokevirtual 231, 3) := by decide +kernel
theorem dX6_who_170 : decode cX6_who 170 = .ok (.ifCond .eq 10, 3) := by decide +kernel
theorem dX6_who_173 : decode cX6_who 173 = .ok (.iconst 1, 1) := by decide +kernel
theorem dX6_who_174 : decode cX6_who 174 = .ok (.iload 10, 2) := by decide +kernel
theorem dX6_who_176 : decode cX6_who 176 = .ok (.ishl, 1) := by decide +kernel
theorem dX6_who_177 : decode cX6_who 177 = .ok (.goto 4, 3) := by decide +kernel
theorem dX6_who_180 : decode cX6_who 180 = .ok (.iconst 0, 1) := by decide +kernel
theorem dX6_who_181 : decode cX6_who 181 = .ok (.ior, 1) := by decide +kernel
theorem dX6_who_182 : decode cX6_who 182 = .ok (.istore 9, 2) := by decide +kernel
theorem dX6_who_184 : decode cX6_who 184 = .ok (.iinc 10 1, 3) := by decide +kernel
theorem dX6_who_187 : decode cX6_who 187 = .ok (.goto (-67), 3) := by decide +kernel
theorem dX6_who_190 : decode cX6_who 190 = .ok (.aload_n 0, 1) := by decide +kernel
theorem dX6_who_191 : decode cX6_who 191 = .ok (.iload 9, 2) := by decide +kernel
theorem dX6_who_193 : decode cX6_who 193 = .ok (.invokevirtual 72, 3) := by decide +kernel
theorem dX6_who_196 : decode cX6_who 196 = .ok (.ireturn, 1) := by decide +kernel
theorem dX6_guarded_0 : decode cX6_guarded 0 = .ok (.aload_n 0, 1) := by decide +kernel
theorem dX6_guarded_1 : decode cX6_guarded 1 = .ok (.iload_n 1, 1) := by decide +kernel
theorem dX6_guarded_2 : decode cX6_guarded 2 = .ok (.invokevirtual 178, 3) := by decide +kernel
theorem dX6_guarded_5 : decode cX6_guarded 5 = .ok (.ifCond .eq 23, 3) := by decide +kernel
theorem dX6_guarded_8 : decode cX6_guarded 8 = .ok (.iload_n 2, 1) := by decide +kernel
theorem dX6_guarded_9 : decode cX6_guarded 9 = .ok (.invokestatic 61, 3) := by decide +kernel
theorem dX6_guarded_12 : decode cX6_guarded 12 = .ok (.ifCond .eq 16, 3) := by decide +kernel
theorem dX6_guarded_15 : decode cX6_guarded 15 = .ok (.iload 4, 2) := by decide +kernel
theorem dX6_guarded_17 : decode cX6_guarded 17 = .ok (.i2l, 1) := by decide +kernel
theorem dX6_guarded_18 : decode cX6_guarded 18 = .ok (.lconst 1, 1) := by decide +kernel
theorem dX6_guarded_19 : decode cX6_guarded 19 = .ok (.ldc2_w 229, 3) := by decide +kernel
theorem dX6_guarded_22 : decode cX6_guarded 22 = .ok (.invokestatic 57, 3) := by decide +kernel
theorem dX6_guarded_25 : decode cX6_guarded 25 = .ok (.ifCond .ne 8, 3) := by decide +kernel
theorem dX6_guarded_28 : decode cX6_guarded 28 = .ok (.ldc 67, 2) := by decide +kernel
theorem dX6_guarded_30 : decode cX6_guarded 30 = .ok (.goto 11, 3) := by decide +kernel
theorem dX6_guarded_33 : decode cX6_guarded 33 = .ok (.aload_n 0, 1) := by decide +kernel
theorem dX6_guarded_34 : decode cX6_guarded 34 = .ok (.iload_n 2, 1) := by decide +kernel
theorem dX6_guarded_35 : decode cX6_guarded 35 = .ok (.iload_n 3, 1) := by decide +kernel
theorem dX6_guarded_36 : decode cX6_guarded 36 = .ok (.iload 4, 2) := by decide +kernel
theorem dX6_guarded_38 : decode cX6_guarded 38 = .ok (.invokevirtual 220, 3) := by decide +kernel
theorem dX6_guarded_41 : decode cX6_guarded 41 = .ok (.istore 5, 2) := by decide +kernel
theorem dX6_guarded_43 : decode cX6_guarded 43 = .ok (.iload 5, 2) := by decide +kernel
theorem dX6_guarded_45 : decode cX6_guarded 45 = .ok (.ifCond .ge 6, 3) := by decide +kernel
theorem dX6_guarded_48 : decode cX6_guarded 48 = .ok (.iload 5, 2) := by decide +kernel
theorem dX6_guarded_50 : decode cX6_guarded 50 = .ok (.ireturn, 1) := by decide +kernel
theorem dX6_guarded_51 : decode cX6_guarded 51 = .ok (.aload_n 0, 1) := by decide +kernel
theorem dX6_guarded_52 : decode cX6_guarded 52 = .ok (.invokevirtual 204, 3) := by decide +kernel
theorem dX6_guarded_55 : decode cX6_guarded 55 = .ok (.aload_n 0, 1) := by decide +kernel
theorem dX6_guarded_56 : decode cX6_guarded 56 = .ok (.iload_n 1, 1) := by decide +kernel
theorem dX6_guarded_57 : decode cX6_guarded 57 = .ok (.bipush 40, 2) := by decide +kernel
theorem dX6_guarded_59 : decode cX6_guarded 59 = .ok (.iload_n 2, 1) := by decide +kernel
theorem dX6_guarded_60 : decode cX6_guarded 60 = .ok (.imul, 1) := by decide +kernel
theorem dX6_guarded_61 : decode cX6_guarded 61 = .ok (.iload_n 3, 1) := by decide +kernel
theorem dX6_guarded_62 : decode cX6_guarded 62 = .ok (.iadd, 1) := by decide +kernel
theorem dX6_guarded_63 : decode cX6_guarded 63 = .ok (.iload 4, 2) := by decide +kernel
theorem dX6_guarded_65 : decode cX6_guarded 65 = .ok (.invokevirtual 231, 3) := by decide +kernel
theorem dX6_guarded_68 : decode cX6_guarded 68 = .ok (.ifCond .eq 8, 3) := by decide +kernel
theorem dX6_guarded_71 : decode cX6_guarded 71 = .ok (.bipush 64, 2) := by decide +kernel
theorem dX6_guarded_73 : decode cX6_guarded 73 = .ok (.goto 4, 3) := by decide +kernel
theorem dX6_guarded_76 : decode cX6_guarded 76 = .ok (.iconst 0, 1) := by decide +kernel
theorem dX6_guarded_77 : decode cX6_guarded 77 = .ok (.istore 6, 2) := by decide +kernel
theorem dX6_guarded_79 : decode cX6_guarded 79 = .ok (.iconst 0, 1) := by decide +kernel
theorem dX6_guarded_80 : decode cX6_guarded 80 = .ok (.istore 7, 2) := by decide +kernel
theorem dX6_guarded_82 : decode cX6_guarded 82 = .ok (.iload 7, 2) := by decide +kernel
theorem dX6_guarded_84 : decode cX6_guarded 84 = .ok (.aload_n 0, 1) := by decide +kernel
theorem dX6_guarded_85 : decode cX6_guarded 85 = .ok (.getfield 19, 3) := by decide +kernel
theorem dX6_guarded_88 : decode cX6_guarded 88 = .ok (.iconst 2, 1) := by decide +kernel
theorem dX6_guarded_89 : decode cX6_guarded 89 = .ok (.iaload, 1) := by decide +kernel
theorem dX6_guarded_90 : decode cX6_guarded 90 = .ok (.if_icmp .ge 65, 3) := by decide +kernel
theorem dX6_guarded_93 : decode cX6_guarded 93 = .ok (.aload_n 0, 1) := by decide +kernel
theorem dX6_guarded_94 : decode cX6_guarded 94 = .ok (.getfield 19, 3) := by decide +kernel
theorem dX6_guarded_97 : decode cX6_guarded 97 = .ok (.iconst 4, 1) := by decide +kernel
theorem dX6_guarded_98 : decode cX6_guarded 98 = .ok (.iaload, 1) := by decide +kernel
theorem dX6_guarded_99 : decode cX6_guarded 99 = .ok (.iload 7, 2) := by decide +kernel
theorem dX6_guarded_101 : decode cX6_guarded 101 = .ok (.invokestatic 162, 3) := by decide +kernel
theorem dX6_guarded_104 : decode cX6_guarded 104 = .ok (.ifCond .ne 45, 3) := by decide +kernel
theorem dX6_guarded_107 : decode cX6_guarded 107 = .ok (.aload_n 0, 1) := by decide +kernel
theorem dX6_guarded_108 : decode cX6_guarded 108 = .ok (.getfield 19, 3) := by decide +kernel
theorem dX6_guarded_111 : decode cX6_guarded 111 = .ok (.iconst 4, 1) := by decide +kernel
theorem dX6_guarded_112 : decode cX6_guarded 112 = .ok (.dup2, 1) := by decide +kernel
theorem dX6_guarded_113 : decode cX6_guarded 113 = .ok (.iaload, 1) := by decide +kernel
theorem dX6_guarded_114 : decode cX6_guarded 114 = .ok (.iconst 1, 1) := by decide +kernel
theorem dX6_guarded_115 : decode cX6_guarded 115 = .ok (.iload 7, 2) := by decide +kernel
theorem dX6_guarded_117 : decode cX6_guarded 117 = .ok (.ishl, 1) := by decide +kernel
theorem dX6_guarded_118 : decode cX6_guarded 118 = .ok (.ior, 1) := by decide +kernel
theorem dX6_guarded_119 : decode cX6_guarded 119 = .ok (.iastore, 1) := by decide +kernel
theorem dX6_guarded_120 : decode cX6_guarded 120 = .ok (.iload 6, 2) := by decide +kernel
theorem dX6_guarded_122 : decode cX6_guarded 122 = .ok (.aload_n 0, 1) := by decide +kernel
theorem dX6_guarded_123 : decode cX6_guarded 123 = .ok (.iload_n 1, 1) := by decide +kernel
theorem dX6_guarded_124 : decode cX6_guarded 124 = .ok (.bipush 40, 2) := by decide +kernel
theorem dX6_guarded_126 : decode cX6_guarded 126 = .ok (.iload_n 2, 1) := by decide +kernel
theorem dX6_guarded_127 : decode cX6_guarded 127 = .ok (.imul, 1) := by decide +kernel
theorem dX6_guarded_128 : decode cX6_guarded 128 = .ok (.iload_n 3, 1) := by decide +kernel
theorem dX6_guarded_129 : decode cX6_guarded 129 = .ok (.iadd, 1) := by decide +kernel
theorem dX6_guarded_130 : decode cX6_guarded 130 = .ok (.iload 4, 2) := by decide +kernel
theorem dX6_guarded_132 : decode cX6_guarded 132 = .ok (.invokevirtual 231, 3) := by decide +kernel
theorem dX6_guarded_135 : decode cX6_guarded 135 = .ok (.ifCond .eq 10, 3) := by decide +kernel
theorem dX6_guarded_138 : decode cX6_guarded 138 = .ok (.iconst 1, 1) := by decide +kernel
theorem dX6_guarded_139 : decode cX6_guarded 139 = .ok (.iload 7, 2) := by decide +kernel
theorem dX6_guarded_141 : decode cX6_guarded 141 = .ok (.ishl, 1) := by decide +kernel
theorem dX6_guarded_142 : decode cX6_guarded 142 = .ok (.goto 4, 3) := by decide +kernel
theorem dX6_guarded_145 : decode cX6_guarded 145 = .ok (.iconst 0, 1) := by decide +kernel
theorem dX6_guarded_146 : decode cX6_guarded 146 = .ok (.ior, 1) := by decide +kernel
theorem dX6_guarded_147 : decode cX6_guarded 147 = .ok (.istore 6, 2) := by decide +kernel
theorem dX6_guarded_149 : decode cX6_guarded 149 = .ok (.iinc 7 1, 3) := by decide +kernel
theorem dX6_guarded_152 : decode cX6_guarded 152 = .ok (.goto (-70), 3) := by decide +kernel
theorem dX6_guarded_155 : decode cX6_guarded 155 = .ok (.aload_n 0, 1) := by decide +kernel
theorem dX6_guarded_156 : decode cX6_guarded 156 = .ok (.iload 6, 2) := by decide +kernel
theorem dX6_guarded_158 : decode cX6_guarded 158 = .ok (.invokevirtual 72, 3) := by decide +kernel
theorem dX6_guarded_161 : decode cX6_guarded 161 = .ok (.ireturn, 1) := by decide +kernel
theorem dX6_doze_0 : decode cX6_doze 0 = .ok (.aload_n 0, 1) := by decide +kernel
theorem dX6_doze_1 : decode cX6_doze 1 = .ok (.iload_n 1, 1) := by decide +kernel
theorem dX6_doze_2 : decode cX6_doze 2 = .ok (.invokevirtual 178, 3) := by decide +kernel
theorem dX6_doze_5 : decode cX6_doze 5 = .ok (.ifCond .eq 48, 3) := by decide +kernel
theorem dX6_doze_8 : decode cX6_doze 8 = .ok (.iload_n 2, 1) := by decide +kernel
theorem dX6_doze_9 : decode cX6_doze 9 = .ok (.i2l, 1) := by decide +kernel
theorem dX6_doze_10 : decode cX6_doze 10 = .ok (.lconst 0, 1) := by decide +kernel
theorem dX6_doze_11 : decode cX6_doze 11 = .ok (.ldc2_w 207, 3) := by decide +kernel
theorem dX6_doze_14 : decode cX6_doze 14 = .ok (.invokestatic 57, 3) := by decide +kernel
theorem dX6_doze_17 : decode cX6_doze 17 = .ok (.ifCond .eq 36, 3) := by decide +kernel
theorem dX6_doze_20 : decode cX6_doze 20 = .ok (.iload_n 3, 1) := by decide +kernel
theorem dX6_doze_21 : decode cX6_doze 21 = .ok (.i2l, 1) := by decide +kernel
theorem dX6_doze_22 : decode cX6_doze 22 = .ok (.lconst 0, 1) := by decide +kernel
theorem dX6_doze_23 : decode cX6_doze 23 = .ok (.ldc2_w 212, 3) := by decide +kernel
theorem dX6_doze_26 : decode cX6_doze 26 = .ok (.invokestatic 57, 3) := by decide +kernel
theorem dX6_doze_29 : decode cX6_doze 29 = .ok (.ifCond .eq 24, 3) := by decide +kernel
theorem dX6_doze_32 : decode cX6_doze 32 = .ok (.iload 4, 2) := by decide +kernel
theorem dX6_doze_34 : decode cX6_doze 34 = .ok (.i2l, 1) := by decide +kernel
theorem dX6_doze_35 : decode cX6_doze 35 = .ok (.lconst 0, 1) := by decide +kernel
theorem dX6_doze_36 : decode cX6_doze 36 = .ok (.ldc2_w 235, 3) := by decide +kernel
theorem dX6_doze_39 : decode cX6_doze 39 = .ok (.invokestatic 57, 3) := by decide +kernel
theorem dX6_doze_42 : decode cX6_doze 42 = .ok (.ifCond .eq 11, 3) := by decide +kernel
theorem dX6_doze_45 : decode cX6_doze 45 = .ok (.iload 5, 2) := by decide +kernel
theorem dX6_doze_47 : decode cX6_doze 47 = .ok (.invokestatic 217, 3) := by decide +kernel
theorem dX6_doze_50 : decode cX6_doze 50 = .ok (.ifCond .ne 7, 3) := by decide +kernel
theorem dX6_doze_53 : decode cX6_doze 53 = .ok (.ldc2_w 237, 3) := by decide +kernel
theorem dX6_doze_56 : decode cX6_doze 56 = .ok (.lreturn, 1) := by decide +kernel
theorem dX6_doze_57 : decode cX6_doze 57 = .ok (.aload_n 0, 1) := by decide +kernel
theorem dX6_doze_58 : decode cX6_doze 58 = .ok (.invokevirtual 204, 3) := by decide +kernel
theorem dX6_doze_61 : decode cX6_doze 61 = .ok (.aload_n 0, 1) := by decide +kernel
theorem dX6_doze_62 : decode cX6_doze 62 = .ok (.getfield 19, 3) := by decide +kernel
theorem dX6_doze_65 : decode cX6_doze 65 = .ok (.iconst 4, 1) := by decide +kernel
theorem dX6_doze_66 : decode cX6_doze 66 = .ok (.iaload, 1) := by decide +kernel
theorem dX6_doze_67 : decode cX6_doze 67 = .ok (.istore 6, 2) := by decide +kernel
theorem dX6_doze_69 : decode cX6_doze 69 = .ok (.lconst 0, 1) := by decide +kernel
theorem dX6_doze_70 : decode cX6_doze 70 = .ok (.lstore 7, 2) := by decide +kernel
theorem dX6_doze_72 : decode cX6_doze 72 = .ok (.lconst 1, 1) := by decide +kernel
theorem dX6_doze_73 : decode cX6_doze 73 = .ok (.lstore 9, 2) := by decide +kernel
theorem dX6_doze_75 : decode cX6_doze 75 = .ok (.iconst 0, 1) := by decide +kernel
theorem dX6_doze_76 : decode cX6_doze 76 = .ok (.istore 11, 2) := by decide +kernel
theorem dX6_doze_78 : decode cX6_doze 78 = .ok (.iload 11, 2) := by decide +kernel
theorem dX6_doze_80 : decode cX6_doze 80 = .ok (.aload_n 0, 1) := by decide +kernel
theorem dX6_doze_81 : decode cX6_doze 81 = .ok (.getfield 19, 3) := by decide +kernel
theorem dX6_doze_84 : decode cX6_doze 84 = .ok (.iconst 2, 1) := by decide +kernel
theorem dX6_doze_85 : decode cX6_doze 85 = .ok (.iaload, 1) := by decide +kernel
theorem dX6_doze_86 : decode cX6_doze 86 = .ok (.if_icmp .ge 31, 3) := by decide +kernel
theorem dX6_doze_89 : decode cX6_doze 89 = .ok (.lload 9, 2) := by decide +kernel
theorem dX6_doze_91 : decode cX6_doze 91 = .ok (.iload 6, 2) := by decide +kernel
theorem dX6_doze_93 : decode cX6_doze 93 = .ok (.iload 11, 2) := by decide +kernel
theorem dX6_doze_95 : decode cX6_doze 95 = .ok (.invokestatic 162, 3) := by decide +kernel
theorem dX6_doze_98 : decode cX6_doze 98 = .ok (.ifCond .eq 9, 3) := by decide +kernel
theorem dX6_doze_101 : decode cX6_doze 101 = .ok (.ldc2_w 235, 3) := by decide +kernel
theorem dX6_doze_104 : decode cX6_doze 104 = .ok (.goto 4, 3) := by decide +kernel
theorem dX6_doze_107 : decode cX6_doze 107 = .ok (.lconst 1, 1) := by decide +kernel
theorem dX6_doze_108 : decode cX6_doze 108 = .ok (.lmul, 1) := by decide +kernel
theorem dX6_doze_109 : decode cX6_doze 109 = .ok (.lstore 9, 2) := by decide +kernel
theorem dX6_doze_111 : decode cX6_doze 111 = .ok (.iinc 11 1, 3) := by decide +kernel
theorem dX6_doze_114 : decode cX6_doze 114 = .ok (.goto (-36), 3) := by decide +kernel
theorem dX6_doze_117 : decode cX6_doze 117 = .ok (.iconst 0, 1) := by decide +kernel
theorem dX6_doze_118 : decode cX6_doze 118 = .ok (.istore 11, 2) := by decide +kernel
theorem dX6_doze_120 : decode cX6_doze 120 = .ok (.iload 11, 2) := by decide +kernel
theorem dX6_doze_122 : decode cX6_doze 122 = .ok (.iload 6, 2) := by decide +kernel
theorem dX6_doze_124 : decode cX6_doze 124 = .ok (.if_icmp .gt 117, 3) := by decide +kernel
theorem dX6_doze_127 : decode cX6_doze 127 = .ok (.iload 11, 2) := by decide +kernel
theorem dX6_doze_129 : decode cX6_doze 129 = .ok (.iload 6, 2) := by decide +kernel
theorem dX6_doze_131 : decode cX6_doze 131 = .ok (.iconst (-1), 1) := by decide +kernel
theorem dX6_doze_132 : decode cX6_doze 132 = .ok (.ixor, 1) := by decide +kernel
theorem dX6_doze_133 : decode cX6_doze 133 = .ok (.iand, 1) := by decide +kernel
theorem dX6_doze_134 : decode cX6_doze 134 = .ok (.ifCond .ne 101, 3) := by decide +kernel
theorem dX6_doze_137 : decode cX6_doze 137 = .ok (.lconst 1, 1) := by decide +kernel
theorem dX6_doze_138 : decode cX6_doze 138 = .ok (.lstore 12, 2) := by decide +kernel
theorem dX6_doze_140 : decode cX6_doze 140 = .ok (.iconst 0, 1) := by decide +kernel
theorem dX6_doze_141 : decode cX6_doze 141 = .ok (.istore 14, 2) := by decide +kernel
theorem dX6_doze_143 : decode cX6_doze 143 = .ok (.iload 14, 2) := by decide +kernel
theorem dX6_doze_145 : decode cX6_doze 145 = .ok (.aload_n 0, 1) := by decide +kernel
theorem dX6_doze_146 : decode cX6_doze 146 = .ok (.getfield 19, 3) := by decide +kernel
theorem dX6_doze_149 : decode cX6_doze 149 = .ok (.iconst 2, 1) := by decide +kernel
theorem dX6_doze_150 : decode cX6_doze 150 = .ok (.iaload, 1) := by decide +kernel
theorem dX6_doze_151 : decode cX6_doze 151 = .ok (.if_icmp .ge 50, 3) := by decide +kernel
theorem dX6_doze_154 : decode cX6_doze 154 = .ok (.lload 12, 2) := by decide +kernel
theorem dX6_doze_156 : decode cX6_doze 156 = .ok (.iload 6, 2) := by decide +kernel
theorem dX6_doze_158 : decode cX6_doze 158 = .ok (.iload 14, 2) := by decide +kernel
theorem dX6_doze_160 : decode cX6_doze 160 = .ok (.invokestatic 162, 3) := by decide +kernel
theorem dX6_doze_163 : decode cX6_doze 163 = .ok (.ifCond .ne 7, 3) := by decide +kernel
theorem dX6_doze_166 : decode cX6_doze 166 = .ok (.lconst 1, 1) := by decide +kernel
theorem dX6_doze_167 : decode cX6_doze 167 = .ok (.goto 25, 3) := by decide +kernel
theorem dX6_doze_170 : decode cX6_doze 170 = .ok (.iload 11, 2) := by decide +kernel
theorem dX6_doze_172 : decode cX6_doze 172 = .ok (.iload 14, 2) := by decide +kernel
theorem dX6_doze_174 : decode cX6_doze 174 = .ok (.invokestatic 162, 3) := by decide +kernel
theorem dX6_doze_177 : decode cX6_doze 177 = .ok (.ifCond .eq 9, 3) := by decide +kernel
theorem dX6_doze_180 : decode cX6_doze 180 = .ok (.iload 4, 2) := by decide +kernel
theorem dX6_doze_182 : decode cX6_doze 182 = .ok (.i2l, 1) := by decide +kernel
theorem dX6_doze_183 : decode cX6_doze 183 = .ok (.goto 9, 3) := by decide +kernel
theorem dX6_doze_186 : decode cX6_doze 186 = .ok (.bipush 10, 2) := by decide +kernel
theorem dX6_doze_188 : decode cX6_doze 188 = .ok (.iload 4, 2) := by decide +kernel
theorem dX6_doze_190 : decode cX6_doze 190 = .ok (.isub, 1) := by decide +kernel
theorem dX6_doze_191 : decode cX6_doze 191 = .ok (.i2l, 1) := by decide +kernel
theorem dX6_doze_192 : decode cX6_doze 192 = .ok (.lmul, 1) := by decide +kernel
theorem dX6_doze_193 : decode cX6_doze 193 = .ok (.lstore 12, 2) := by decide +kernel
theorem dX6_doze_195 : decode cX6_doze 195 = .ok (.iinc 14 1, 3) := by decide +kernel
theorem dX6_doze_198 : decode cX6_doze 198 = .ok (.goto (-55), 3) := by decide +kernel
theorem dX6_doze_201 : decode cX6_doze 201 = .ok (.aload_n 0, 1) := by decide +kernel
theorem dX6_doze_202 : decode cX6_doze 202 = .ok (.getfield 19, 3) := by decide +kernel
theorem dX6_doze_205 : decode cX6_doze 205 = .ok (.iconst 4, 1) := by decide +kernel
theorem dX6_doze_206 : decode cX6_doze 206 = .ok (.iload 6, 2) := by decide +kernel
theorem dX6_doze_208 : decode cX6_doze 208 = .ok (.iload 11, 2) := by decide +kernel
theorem dX6_doze_210 : decode cX6_doze 210 = .ok (.iconst (-1), 1) := by decide +kernel
theorem dX6_doze_211 : decode cX6_doze 211 = .ok (.ixor, 1) := by decide +kernel
theorem dX6_doze_212 : decode cX6_doze 212 = .ok (.iand, 1) := by decide +kernel
theorem dX6_doze_213 : decode cX6_doze 213 = .ok (.iastore, 1) := by decide +kernel
theorem dX6_doze_214 : decode cX6_doze 214 = .ok (.lload 7, 2) := by decide +kernel
theorem dX6_doze_216 : decode cX6_doze 216 = .ok (.aload_n 0, 1) := by decide +kernel
theorem dX6_doze_217 : decode cX6_doze 217 = .ok (.iload_n 1, 1) := by decide +kernel
theorem dX6_doze_218 : decode cX6_doze 218 = .ok (.iload_n 3, 1) := by decide +kernel
theorem dX6_doze_219 : decode cX6_doze 219 = .ok (.invokevirtual 214, 3) := by decide +kernel
theorem dX6_doze_222 : decode cX6_doze 222 = .ok (.iload_n 2, 1) := by decide +kernel
theorem dX6_doze_223 : decode cX6_doze 223 = .ok (.if_icmp .gt 8, 3) := by decide +kernel
theorem dX6_doze_226 : decode cX6_doze 226 = .ok (.lload 12, 2) := by decide +kernel
theorem dX6_doze_228 : decode cX6_doze 228 = .ok (.goto 4, 3) := by decide +kernel
theorem dX6_doze_231 : decode cX6_doze 231 = .ok (.lconst 0, 1) := by decide +kernel
theorem dX6_doze_232 : decode cX6_doze 232 = .ok (.ladd, 1) := by decide +kernel
theorem dX6_doze_233 : decode cX6_doze 233 = .ok (.lstore 7, 2) := by decide +kernel
theorem dX6_doze_235 : decode cX6_doze 235 = .ok (.iinc 11 1, 3) := by decide +kernel
theorem dX6_doze_238 : decode cX6_doze 238 = .ok (.goto (-118), 3) := by decide +kernel
theorem dX6_doze_241 : decode cX6_doze 241 = .ok (.lload 7, 2) := by decide +kernel
theorem dX6_doze_243 : decode cX6_doze 243 = .ok (.lstore 11, 2) := by decide +kernel
theorem dX6_doze_245 : decode cX6_doze 245 = .ok (.lload 9, 2) := by decide +kernel
theorem dX6_doze_247 : decode cX6_doze 247 = .ok (.lstore 13, 2) := by decide +kernel
theorem dX6_doze_249 : decode cX6_doze 249 = .ok (.lload 13, 2) := by decide +kernel
theorem dX6_doze_251 : decode cX6_doze 251 = .ok (.lconst 0, 1) := by decide +kernel
theorem dX6_doze_252 : decode cX6_doze 252 = .ok (.lcmp, 1) := by decide +kernel
theorem dX6_doze_253 : decode cX6_doze 253 = .ok (.ifCond .eq 21, 3) := by decide +kernel
theorem dX6_doze_256 : decode cX6_doze 256 = .ok (.lload 11, 2) := by decide +kernel
theorem dX6_doze_258 : decode cX6_doze 258 = .ok (.lload 13, 2) := by decide +kernel
theorem dX6_doze_260 : decode cX6_doze 260 = .ok (.lrem, 1) := by decide +kernel
theorem dX6_doze_261 : decode cX6_doze 261 = .ok (.lstore 15, 2) := by decide +kernel
theorem dX6_doze_263 : decode cX6_doze 263 = .ok (.lload 13, 2) := by decide +kernel
theorem dX6_doze_265 : decode cX6_doze 265 = .ok (.lstore 11, 2) := by decide +kernel
theorem dX6_doze_267 : decode cX6_doze 267 = .ok (.lload 15, 2) := by decide +kernel
theorem dX6_doze_269 : decode cX6_doze 269 = .ok (.lstore 13, 2) := by decide +kernel
theorem dX6_doze_271 : decode cX6_doze 271 = .ok (.goto (-22), 3) := by decide +kernel
theorem dX6_doze_274 : decode cX6_doze 274 = .ok (.iload 5, 2) := by decide +kernel
theorem dX6_doze_276 : decode cX6_doze 276 = .ok (.ifCond .ne 11, 3) := by decide +kernel
theorem dX6_doze_279 : decode cX6_doze 279 = .ok (.lload 7, 2) := by decide +kernel
theorem dX6_doze_281 : decode cX6_doze 281 = .ok (.lload 11, 2) := by decide +kernel
theorem dX6_doze_283 : decode cX6_doze 283 = .ok (.ldiv, 1) := by decide +kernel
theorem dX6_doze_284 : decode cX6_doze 284 = .ok (.goto 8, 3) := by decide +kernel
theorem dX6_doze_287 : decode cX6_doze 287 = .ok (.lload 9, 2) := by decide +kernel
theorem dX6_doze_289 : decode cX6_doze 289 = .ok (.lload 11, 2) := by decide +kernel
theorem dX6_doze_291 : decode cX6_doze 291 = .ok (.ldiv, 1) := by decide +kernel
theorem dX6_doze_292 : decode cX6_doze 292 = .ok (.lreturn, 1) := by decide +kernel
theorem dX6_drawn_0 : decode cX6_drawn 0 = .ok (.aload_n 0, 1) := by decide +kernel
theorem dX6_drawn_1 : decode cX6_drawn 1 = .ok (.getfield 135, 3) := by decide +kernel
theorem dX6_drawn_4 : decode cX6_drawn 4 = .ok (.ifCond .ne 6, 3) := by decide +kernel
theorem dX6_drawn_7 : decode cX6_drawn 7 = .ok (.ldc 169, 2) := by decide +kernel
theorem dX6_drawn_9 : decode cX6_drawn 9 = .ok (.ireturn, 1) := by decide +kernel
theorem dX6_drawn_10 : decode cX6_drawn 10 = .ok (.iload_n 1, 1) := by decide +kernel
theorem dX6_drawn_11 : decode cX6_drawn 11 = .ok (.i2l, 1) := by decide +kernel
theorem dX6_drawn_12 : decode cX6_drawn 12 = .ok (.lconst 0, 1) := by decide +kernel
theorem dX6_drawn_13 : decode cX6_drawn 13 = .ok (.ldc2_w 202, 3) := by decide +kernel
theorem dX6_drawn_16 : decode cX6_drawn 16 = .ok (.invokestatic 57, 3) := by decide +kernel
theorem dX6_drawn_19 : decode cX6_drawn 19 = .ok (.ifCond .eq 22, 3) := by decide +kernel
theorem dX6_drawn_22 : decode cX6_drawn 22 = .ok (.iload_n 2, 1) := by decide +kernel
theorem dX6_drawn_23 : decode cX6_drawn 23 = .ok (.i2l, 1) := by decide +kernel
theorem dX6_drawn_24 : decode cX6_drawn 24 = .ok (.lconst 1, 1) := by decide +kernel
theorem dX6_drawn_25 : decode cX6_drawn 25 = .ok (.ldc2_w 239, 3) := by decide +kernel
theorem dX6_drawn_28 : decode cX6_drawn 28 = .ok (.invokestatic 57, 3) := by decide +kernel
theorem dX6_drawn_31 : decode cX6_drawn 31 = .ok (.ifCond .eq 10, 3) := by decide +kernel
theorem dX6_drawn_34 : decode cX6_drawn 34 = .ok (.iload_n 3, 1) := by decide +kernel
theorem dX6_drawn_35 : decode cX6_drawn 35 = .ok (.invokestatic 217, 3) := by decide +kernel
theorem dX6_drawn_38 : decode cX6_drawn 38 = .ok (.ifCond .ne 6, 3) := by decide +kernel
theorem dX6_drawn_41 : decode cX6_drawn 41 = .ok (.ldc 67, 2) := by decide +kernel
theorem dX6_drawn_43 : decode cX6_drawn 43 = .ok (.ireturn, 1) := by decide +kernel
theorem dX6_drawn_44 : decode cX6_drawn 44 = .ok (.aload_n 0, 1) := by decide +kernel
theorem dX6_drawn_45 : decode cX6_drawn 45 = .ok (.invokevirtual 204, 3) := by decide +kernel
theorem dX6_drawn_48 : decode cX6_drawn 48 = .ok (.iload_n 2, 1) := by decide +kernel
theorem dX6_drawn_49 : decode cX6_drawn 49 = .ok (.i2l, 1) := by decide +kernel
theorem dX6_drawn_50 : decode cX6_drawn 50 = .ok (.lstore 4, 2) := by decide +kernel
theorem dX6_drawn_52 : decode cX6_drawn 52 = .ok (.iconst 0, 1) := by decide +kernel
theorem dX6_drawn_53 : decode cX6_drawn 53 = .ok (.istore 6, 2) := by decide +kernel
theorem dX6_drawn_55 : decode cX6_drawn 55 = .ok (.iload 6, 2) := by decide +kernel
theorem dX6_drawn_57 : decode cX6_drawn 57 = .ok (.iload_n 1, 1) := by decide +kernel
theorem dX6_drawn_58 : decode cX6_drawn 58 = .ok (.if_icmp .ge 65, 3) := by decide +kernel
theorem dX6_drawn_61 : decode cX6_drawn 61 = .ok (.lload 4, 2) := by decide +kernel
theorem dX6_drawn_63 : decode cX6_drawn 63 = .ok (.ldc2_w 241, 3) := by decide +kernel
theorem dX6_drawn_66 : decode cX6_drawn 66 = .ok (.lmul, 1) := by decide +kernel
theorem dX6_drawn_67 : decode cX6_drawn 67 = .ok (.ldc2_w 243, 3) := by decide +kernel
theorem dX6_drawn_70 : decode cX6_drawn 70 = .ok (.lrem, 1) := by decide +kernel
theorem dX6_drawn_71 : decode cX6_drawn 71 = .ok (.lstore 4, 2) := by decide +kernel
theorem dX6_drawn_73 : decode cX6_drawn 73 = .ok (.lload 4, 2) := by decide +kernel
theorem dX6_drawn_75 : decode cX6_drawn 75 = .ok (.aload_n 0, 1) := by decide +kernel
theorem dX6_drawn_76 : decode cX6_drawn 76 = .ok (.getfield 19, 3) := by decide +kernel
theorem dX6_drawn_79 : decode cX6_drawn 79 = .ok (.iconst 2, 1) := by decide +kernel
theorem dX6_drawn_80 : decode cX6_drawn 80 = .ok (.iaload, 1) := by decide +kernel
theorem dX6_drawn_81 : decode cX6_drawn 81 = .ok (.i2l, 1) := by decide +kernel
theorem dX6_drawn_82 : decode cX6_drawn 82 = .ok (.lrem, 1) := by decide +kernel
theorem dX6_drawn_83 : decode cX6_drawn 83 = .ok (.l2i, 1) := by decide +kernel
theorem dX6_drawn_84 : decode cX6_drawn 84 = .ok (.istore 7, 2) := by decide +kernel
theorem dX6_drawn_86 : decode cX6_drawn 86 = .ok (.aload_n 0, 1) := by decide +kernel
theorem dX6_drawn_87 : decode cX6_drawn 87 = .ok (.getfield 19, 3) := by decide +kernel
theorem dX6_drawn_90 : decode cX6_drawn 90 = .ok (.iconst 4, 1) := by decide +kernel
theorem dX6_drawn_91 : decode cX6_drawn 91 = .ok (.iconst 1, 1) := by decide +kernel
theorem dX6_drawn_92 : decode cX6_drawn 92 = .ok (.iload 7, 2) := by decide +kernel
theorem dX6_drawn_94 : decode cX6_drawn 94 = .ok (.ishl, 1) := by decide +kernel
theorem dX6_drawn_95 : decode cX6_drawn 95 = .ok (.iastore, 1) := by decide +kernel
theorem dX6_drawn_96 : decode cX6_drawn 96 = .ok (.lload 4, 2) := by decide +kernel
theorem dX6_drawn_98 : decode cX6_drawn 98 = .ok (.ldc2_w 207, 3) := by decide +kernel
theorem dX6_drawn_101 : decode cX6_drawn 101 = .ok (.lrem, 1) := by decide +kernel
theorem dX6_drawn_102 : decode cX6_drawn 102 = .ok (.lconst 0, 1) := by decide +kernel
theorem dX6_drawn_103 : decode cX6_drawn 103 = .ok (.lcmp, 1) := by decide +kernel
theorem dX6_drawn_104 : decode cX6_drawn 104 = .ok (.ifCond .ne 9, 3) := by decide +kernel
theorem dX6_drawn_107 : decode cX6_drawn 107 = .ok (.aload_n 0, 1) := by decide +kernel
theorem dX6_drawn_108 : decode cX6_drawn 108 = .ok (.iload 7, 2) := by decide +kernel
theorem dX6_drawn_110 : decode cX6_drawn 110 = .ok (.invokevirtual 183, 3) := by decide +kernel
theorem dX6_drawn_113 : decode cX6_drawn 113 = .ok (.aload_n 0, 1) := by decide +kernel
theorem dX6_drawn_114 : decode cX6_drawn 114 = .ok (.invokevirtual 175, 3) := by decide +kernel
theorem dX6_drawn_117 : decode cX6_drawn 117 = .ok (.iinc 6 1, 3) := by decide +kernel
theorem dX6_drawn_120 : decode cX6_drawn 120 = .ok (.goto (-65), 3) := by decide +kernel
theorem dX6_drawn_123 : decode cX6_drawn 123 = .ok (.iload_n 3, 1) := by decide +kernel
theorem dX6_drawn_124 : decode cX6_drawn 124 = .ok (.ifCond .ne 11, 3) := by decide +kernel
theorem dX6_drawn_127 : decode cX6_drawn 127 = .ok (.aload_n 0, 1) := by decide +kernel
theorem dX6_drawn_128 : decode cX6_drawn 128 = .ok (.iconst 0, 1) := by decide +kernel
theorem dX6_drawn_129 : decode cX6_drawn 129 = .ok (.invokevirtual 153, 3) := by decide +kernel
theorem dX6_drawn_132 : decode cX6_drawn 132 = .ok (.goto 9, 3) := by decide +kernel
theorem dX6_drawn_135 : decode cX6_drawn 135 = .ok (.aload_n 0, 1) := by decide +kernel
theorem dX6_drawn_136 : decode cX6_drawn 136 = .ok (.bipush 11, 2) := by decide +kernel
theorem dX6_drawn_138 : decode cX6_drawn 138 = .ok (.invokevirtual 209, 3) := by decide +kernel
theorem dX6_drawn_141 : decode cX6_drawn 141 = .ok (.istore 6, 2) := by decide +kernel
theorem dX6_drawn_143 : decode cX6_drawn 143 = .ok (.aload_n 0, 1) := by decide +kernel
theorem dX6_drawn_144 : decode cX6_drawn 144 = .ok (.invokevirtual 199, 3) := by decide +kernel
theorem dX6_drawn_147 : decode cX6_drawn 147 = .ok (.iload 6, 2) := by decide +kernel
theorem dX6_drawn_149 : decode cX6_drawn 149 = .ok (.ireturn, 1) := by decide +kernel
theorem dX6_image_0 : decode cX6_image 0 = .ok (.iload_n 1, 1) := by decide +kernel
theorem dX6_image_1 : decode cX6_image 1 = .ok (.i2l, 1) := by decide +kernel
theorem dX6_image_2 : decode cX6_image 2 = .ok (.lconst 0, 1) := by decide +kernel
theorem dX6_image_3 : decode cX6_image 3 = .ok (.lconst 1, 1) := by decide +kernel
theorem dX6_image_4 : decode cX6_image 4 = .ok (.invokestatic 57, 3) := by decide +kernel
theorem dX6_image_7 : decode cX6_image 7 = .ok (.ifCond .ne 6, 3) := by decide +kernel
theorem dX6_image_10 : decode cX6_image 10 = .ok (.ldc 67, 2) := by decide +kernel
theorem dX6_image_12 : decode cX6_image 12 = .ok (.ireturn, 1) := by decide +kernel
theorem dX6_image_13 : decode cX6_image 13 = .ok (.aload_n 0, 1) := by decide +kernel
theorem dX6_image_14 : decode cX6_image 14 = .ok (.getfield 135, 3) := by decide +kernel
theorem dX6_image_17 : decode cX6_image 17 = .ok (.ifCond .ne 6, 3) := by decide +kernel
theorem dX6_image_20 : decode cX6_image 20 = .ok (.ldc 169, 2) := by decide +kernel
theorem dX6_image_22 : decode cX6_image 22 = .ok (.ireturn, 1) := by decide +kernel
theorem dX6_image_23 : decode cX6_image 23 = .ok (.iconst 0, 1) := by decide +kernel
theorem dX6_image_24 : decode cX6_image 24 = .ok (.istore_n 2, 1) := by decide +kernel
theorem dX6_image_25 : decode cX6_image 25 = .ok (.iload_n 2, 1) := by decide +kernel
theorem dX6_image_26 : decode cX6_image 26 = .ok (.bipush 41, 2) := by decide +kernel
theorem dX6_image_28 : decode cX6_image 28 = .ok (.if_icmp .ge 26, 3) := by decide +kernel
theorem dX6_image_31 : decode cX6_image 31 = .ok (.aload_n 0, 1) := by decide +kernel
theorem dX6_image_32 : decode cX6_image 32 = .ok (.getfield 44, 3) := by decide +kernel
theorem dX6_image_35 : decode cX6_image 35 = .ok (.bipush 41, 2) := by decide +kernel
theorem dX6_image_37 : decode cX6_image 37 = .ok (.iload_n 1, 1) := by decide +kernel
theorem dX6_image_38 : decode cX6_image 38 = .ok (.imul, 1) := by decide +kernel
theorem dX6_image_39 : decode cX6_image 39 = .ok (.iload_n 2, 1) := by decide +kernel
theorem dX6_image_40 : decode cX6_image 40 = .ok (.iadd, 1) := by decide +kernel
theorem dX6_image_41 : decode cX6_image 41 = .ok (.aload_n 0, 1) := by decide +kernel
theorem dX6_image_42 : decode cX6_image 42 = .ok (.getfield 19, 3) := by decide +kernel
theorem dX6_image_45 : decode cX6_image 45 = .ok (.iload_n 2, 1) := by decide +kernel
theorem dX6_image_46 : decode cX6_image 46 = .ok (.iaload, 1) := by decide +kernel
theorem dX6_image_47 : decode cX6_image 47 = .ok (.iastore, 1) := by decide +kernel
theorem dX6_image_48 : decode cX6_image 48 = .ok (.iinc 2 1, 3) := by decide +kernel
theorem dX6_image_51 : decode cX6_image 51 = .ok (.goto (-26), 3) := by decide +kernel
theorem dX6_image_54 : decode cX6_image 54 = .ok (.aload_n 0, 1) := by decide +kernel
theorem dX6_image_55 : decode cX6_image 55 = .ok (.getfield 40, 3) := by decide +kernel
theorem dX6_image_58 : decode cX6_image 58 = .ok (.iload_n 1, 1) := by decide +kernel
theorem dX6_image_59 : decode cX6_image 59 = .ok (.iconst 1, 1) := by decide +kernel
theorem dX6_image_60 : decode cX6_image 60 = .ok (.bastore, 1) := by decide +kernel
theorem dX6_image_61 : decode cX6_image 61 = .ok (.iconst 1, 1) := by decide +kernel
theorem dX6_image_62 : decode cX6_image 62 = .ok (.ireturn, 1) := by decide +kernel
theorem dX6_restore_0 : decode cX6_restore 0 = .ok (.iload_n 1, 1) := by decide +kernel
theorem dX6_restore_1 : decode cX6_restore 1 = .ok (.i2l, 1) := by decide +kernel
theorem dX6_restore_2 : decode cX6_restore 2 = .ok (.lconst 0, 1) := by decide +kernel
theorem dX6_restore_3 : decode cX6_restore 3 = .ok (.lconst 1, 1) := by decide +kernel
theorem dX6_restore_4 : decode cX6_restore 4 = .ok (.invokestatic 57, 3) := by decide +kernel
theorem dX6_restore_7 : decode cX6_restore 7 = .ok (.ifCond .ne 6, 3) := by decide +kernel
theorem dX6_restore_10 : decode cX6_restore 10 = .ok (.ldc 67, 2) := by decide +kernel
theorem dX6_restore_12 : decode cX6_restore 12 = .ok (.ireturn, 1) := by decide +kernel
theorem dX6_restore_13 : decode cX6_restore 13 = .ok (.aload_n 0, 1) := by decide +kernel
theorem dX6_restore_14 : decode cX6_restore 14 = .ok (.getfield 40, 3) := by decide +kernel
theorem dX6_restore_17 : decode cX6_restore 17 = .ok (.iload_n 1, 1) := by decide +kernel
theorem dX6_restore_18 : decode cX6_restore 18 = .ok (.baload, 1) := by decide +kernel
theorem dX6_restore_19 : decode cX6_restore 19 = .ok (.ifCond .ne 6, 3) := by decide +kernel
theorem dX6_restore_22 : decode cX6_restore 22 = .ok (.ldc 169, 2) := by decide +kernel
theorem dX6_restore_24 : decode cX6_restore 24 = .ok (.ireturn, 1) := by decide +kernel
theorem dX6_restore_25 : decode cX6_restore 25 = .ok (.iconst 0, 1) := by decide +kernel
theorem dX6_restore_26 : decode cX6_restore 26 = .ok (.istore_n 2, 1) := by decide +kernel
theorem dX6_restore_27 : decode cX6_restore 27 = .ok (.iload_n 2, 1) := by decide +kernel
theorem dX6_restore_28 : decode cX6_restore 28 = .ok (.bipush 41, 2) := by decide +kernel
theorem dX6_restore_30 : decode cX6_restore 30 = .ok (.if_icmp .ge 26, 3) := by decide +kernel
theorem dX6_restore_33 : decode cX6_restore 33 = .ok (.aload_n 0, 1) := by decide +kernel
theorem dX6_restore_34 : decode cX6_restore 34 = .ok (.getfield 19, 3) := by decide +kernel
theorem dX6_restore_37 : decode cX6_restore 37 = .ok (.iload_n 2, 1) := by decide +kernel
theorem dX6_restore_38 : decode cX6_restore 38 = .ok (.aload_n 0, 1) := by decide +kernel
theorem dX6_restore_39 : decode cX6_restore 39 = .ok (.getfield 44, 3) := by decide +kernel
theorem dX6_restore_42 : decode cX6_restore 42 = .ok (.bipush 41, 2) := by decide +kernel
theorem dX6_restore_44 : decode cX6_restore 44 = .ok (.iload_n 1, 1) := by decide +kernel
theorem dX6_restore_45 : decode cX6_restore 45 = .ok (.imul, 1) := by decide +kernel
theorem dX6_restore_46 : decode cX6_restore 46 = .ok (.iload_n 2, 1) := by decide +kernel
theorem dX6_restore_47 : decode cX6_restore 47 = .ok (.iadd, 1) := by decide +kernel
theorem dX6_restore_48 : decode cX6_restore 48 = .ok (.iaload, 1) := by decide +kernel
theorem dX6_restore_49 : decode cX6_restore 49 = .ok (.iastore, 1) := by decide +kernel
theorem dX6_restore_50 : decode cX6_restore 50 = .ok (.iinc 2 1, 3) := by decide +kernel
theorem dX6_restore_53 : decode cX6_restore 53 = .ok (.goto (-26), 3) := by decide +kernel
theorem dX6_restore_56 : decode cX6_restore 56 = .ok (.aload_n 0, 1) := by decide +kernel
theorem dX6_restore_57 : decode cX6_restore 57 = .ok (.iconst 0, 1) := by decide +kernel
theorem dX6_restore_58 : decode cX6_restore 58 = .ok (.putfield 139, 3) := by decide +kernel
theorem dX6_restore_61 : decode cX6_restore 61 = .ok (.iconst 1, 1) := by decide +kernel
theorem dX6_restore_62 : decode cX6_restore 62 = .ok (.ireturn, 1) := by decide +kernel
theorem dX6_kind_0 : decode cX6_kind 0 = .ok (.aload_n 0, 1) := by decide +kernel
theorem dX6_kind_1 : decode cX6_kind 1 = .ok (.iload_n 1, 1) := by decide +kernel
theorem dX6_kind_2 : decode cX6_kind 2 = .ok (.invokevirtual 178, 3) := by decide +kernel
theorem dX6_kind_5 : decode cX6_kind 5 = .ok (.ifCond .eq 14, 3) := by decide +kernel
theorem dX6_kind_8 : decode cX6_kind 8 = .ok (.aload_n 0, 1) := by decide +kernel
theorem dX6_kind_9 : decode cX6_kind 9 = .ok (.getfield 19, 3) := by decide +kernel
theorem dX6_kind_12 : decode cX6_kind 12 = .ok (.iconst 5, 1) := by decide +kernel
theorem dX6_kind_13 : decode cX6_kind 13 = .ok (.iload_n 1, 1) := by decide +kernel
theorem dX6_kind_14 : decode cX6_kind 14 = .ok (.iadd, 1) := by decide +kernel
theorem dX6_kind_15 : decode cX6_kind 15 = .ok (.iaload, 1) := by decide +kernel
theorem dX6_kind_16 : decode cX6_kind 16 = .ok (.goto 5, 3) := by decide +kernel
theorem dX6_kind_19 : decode cX6_kind 19 = .ok (.ldc 67, 2) := by decide +kernel
theorem dX6_kind_21 : decode cX6_kind 21 = .ok (.ireturn, 1) := by decide +kernel
theorem dX6_isKind_0 : decode cX6_isKind 0 = .ok (.iload_n 1, 1) := by decide +kernel
theorem dX6_isKind_1 : decode cX6_isKind 1 = .ok (.ifCond .eq 28, 3) := by decide +kernel
theorem dX6_isKind_4 : decode cX6_isKind 4 = .ok (.iload_n 0, 1) := by decide +kernel
theorem dX6_isKind_5 : decode cX6_isKind 5 = .ok (.iload_n 1, 1) := by decide +kernel
theorem dX6_isKind_6 : decode cX6_isKind 6 = .ok (.if_icmp .eq 23, 3) := by decide +kernel
theorem dX6_isKind_9 : decode cX6_isKind 9 = .ok (.iload_n 1, 1) := by decide +kernel
theorem dX6_isKind_10 : decode cX6_isKind 10 = .ok (.iconst 1, 1) := by decide +kernel
theorem dX6_isKind_11 : decode cX6_isKind 11 = .ok (.if_icmp .ne 8, 3) := by decide +kernel
theorem dX6_isKind_14 : decode cX6_isKind 14 = .ok (.iload_n 0, 1) := by decide +kernel
theorem dX6_isKind_15 : decode cX6_isKind 15 = .ok (.iconst 4, 1) := by decide +kernel
theorem dX6_isKind_16 : decode cX6_isKind 16 = .ok (.if_icmp .lt 13, 3) := by decide +kernel
theorem dX6_isKind_19 : decode cX6_isKind 19 = .ok (.iload_n 1, 1) := by decide +kernel
theorem dX6_isKind_20 : decode cX6_isKind 20 = .ok (.iconst 4, 1) := by decide +kernel
theorem dX6_isKind_21 : decode cX6_isKind 21 = .ok (.if_icmp .ne 12, 3) := by decide +kernel
theorem dX6_isKind_24 : decode cX6_isKind 24 = .ok (.iload_n 0, 1) := by decide +kernel
theorem dX6_isKind_25 : decode cX6_isKind 25 = .ok (.iconst 5, 1) := by decide +kernel
theorem dX6_isKind_26 : decode cX6_isKind 26 = .ok (.if_icmp .ne 7, 3) := by decide +kernel
theorem dX6_isKind_29 : decode cX6_isKind 29 = .ok (.iconst 1, 1) := by decide +kernel
theorem dX6_isKind_30 : decode cX6_isKind 30 = .ok (.goto 4, 3) := by decide +kernel
theorem dX6_isKind_33 : decode cX6_isKind 33 = .ok (.iconst 0, 1) := by decide +kernel
theorem dX6_isKind_34 : decode cX6_isKind 34 = .ok (.ireturn, 1) := by decide +kernel
theorem dX6_as_0 : decode cX6_as 0 = .ok (.aload_n 0, 1) := by decide +kernel
theorem dX6_as_1 : decode cX6_as 1 = .ok (.iload_n 1, 1) := by decide +kernel
theorem dX6_as_2 : decode cX6_as 2 = .ok (.invokevirtual 178, 3) := by decide +kernel
theorem dX6_as_5 : decode cX6_as 5 = .ok (.ifCond .eq 15, 3) := by decide +kernel
theorem dX6_as_8 : decode cX6_as 8 = .ok (.iload_n 2, 1) := by decide +kernel
theorem dX6_as_9 : decode cX6_as 9 = .ok (.i2l, 1) := by decide +kernel
theorem dX6_as_10 : decode cX6_as 10 = .ok (.lconst 0, 1) := by decide +kernel
theorem dX6_as_11 : decode cX6_as 11 = .ok (.ldc2_w 207, 3) := by decide +kernel
theorem dX6_as_14 : decode cX6_as 14 = .ok (.invokestatic 57, 3) := by decide +kernel
theorem dX6_as_17 : decode cX6_as 17 = .ok (.ifCond .ne 6, 3) := by decide +kernel
theorem dX6_as_20 : decode cX6_as 20 = .ok (.ldc 67, 2) := by decide +kernel
theorem dX6_as_22 : decode cX6_as 22 = .ok (.ireturn, 1) := by decide +kernel
theorem dX6_as_23 : decode cX6_as 23 = .ok (.aload_n 0, 1) := by decide +kernel
theorem dX6_as_24 : decode cX6_as 24 = .ok (.getfield 19, 3) := by decide +kernel
theorem dX6_as_27 : decode cX6_as 27 = .ok (.iconst 5, 1) := by decide +kernel
theorem dX6_as_28 : decode cX6_as 28 = .ok (.iload_n 1, 1) := by decide +kernel
theorem dX6_as_29 : decode cX6_as 29 = .ok (.iadd, 1) := by decide +kernel
theorem dX6_as_30 : decode cX6_as 30 = .ok (.iaload, 1) := by decide +kernel
theorem dX6_as_31 : decode cX6_as 31 = .ok (.iload_n 2, 1) := by decide +kernel
theorem dX6_as_32 : decode cX6_as 32 = .ok (.invokestatic 245, 3) := by decide +kernel
theorem dX6_as_35 : decode cX6_as 35 = .ok (.ifCond .eq 11, 3) := by decide +kernel
theorem dX6_as_38 : decode cX6_as 38 = .ok (.aload_n 0, 1) := by decide +kernel
theorem dX6_as_39 : decode cX6_as 39 = .ok (.iload_n 1, 1) := by decide +kernel
theorem dX6_as_40 : decode cX6_as 40 = .ok (.invokevirtual 72, 3) := by decide +kernel
theorem dX6_as_43 : decode cX6_as 43 = .ok (.goto 8, 3) := by decide +kernel
theorem dX6_as_46 : decode cX6_as 46 = .ok (.aload_n 0, 1) := by decide +kernel
theorem dX6_as_47 : decode cX6_as 47 = .ok (.iconst 3, 1) := by decide +kernel
theorem dX6_as_48 : decode cX6_as 48 = .ok (.invokevirtual 68, 3) := by decide +kernel
theorem dX6_as_51 : decode cX6_as 51 = .ok (.ireturn, 1) := by decide +kernel
theorem dX6_begin_0 : decode cX6_begin 0 = .ok (.aload_n 0, 1) := by decide +kernel
theorem dX6_begin_1 : decode cX6_begin 1 = .ok (.getfield 248, 3) := by decide +kernel
theorem dX6_begin_4 : decode cX6_begin 4 = .ok (.bipush 16, 2) := by decide +kernel
theorem dX6_begin_6 : decode cX6_begin 6 = .ok (.if_icmp .ge 23, 3) := by decide +kernel
theorem dX6_begin_9 : decode cX6_begin 9 = .ok (.aload_n 0, 1) := by decide +kernel
theorem dX6_begin_10 : decode cX6_begin 10 = .ok (.getfield 47, 3) := by decide +kernel
theorem dX6_begin_13 : decode cX6_begin 13 = .ok (.aload_n 0, 1) := by decide +kernel
theorem dX6_begin_14 : decode cX6_begin 14 = .ok (.getfield 248, 3) := by decide +kernel
theorem dX6_begin_17 : decode cX6_begin 17 = .ok (.iload_n 1, 1) := by decide +kernel
theorem dX6_begin_18 : decode cX6_begin 18 = .ok (.iastore, 1) := by decide +kernel
theorem dX6_begin_19 : decode cX6_begin 19 = .ok (.aload_n 0, 1) := by decide +kernel
theorem dX6_begin_20 : decode cX6_begin 20 = .ok (.dup, 1) := by decide +kernel
theorem dX6_begin_21 : decode cX6_begin 21 = .ok (.getfield 248, 3) := by decide +kernel
theorem dX6_begin_24 : decode cX6_begin 24 = .ok (.iconst 1, 1) := by decide +kernel
theorem dX6_begin_25 : decode cX6_begin 25 = .ok (.iadd, 1) := by decide +kernel
theorem dX6_begin_26 : decode cX6_begin 26 = .ok (.putfield 248, 3) := by decide +kernel
theorem dX6_begin_29 : decode cX6_begin 29 = .ok (.return_, 1) := by decide +kernel
theorem dX6_lent_0 : decode cX6_lent 0 = .ok (.aload_n 0, 1) := by decide +kernel
theorem dX6_lent_1 : decode cX6_lent 1 = .ok (.iload_n 2, 1) := by decide +kernel
theorem dX6_lent_2 : decode cX6_lent 2 = .ok (.invokevirtual 251, 3) := by decide +kernel
theorem dX6_lent_5 : decode cX6_lent 5 = .ok (.iload_n 2, 1) := by decide +kernel
theorem dX6_lent_6 : decode cX6_lent 6 = .ok (.bipush 10, 2) := by decide +kernel
theorem dX6_lent_8 : decode cX6_lent 8 = .ok (.if_icmp .ne 15, 3) := by decide +kernel
theorem dX6_lent_11 : decode cX6_lent 11 = .ok (.aload_n 0, 1) := by decide +kernel
theorem dX6_lent_12 : decode cX6_lent 12 = .ok (.getfield 19, 3) := by decide +kernel
theorem dX6_lent_15 : decode cX6_lent 15 = .ok (.bipush 11, 2) := by decide +kernel
theorem dX6_lent_17 : decode cX6_lent 17 = .ok (.iload_n 1, 1) := by decide +kernel
theorem dX6_lent_18 : decode cX6_lent 18 = .ok (.iadd, 1) := by decide +kernel
theorem dX6_lent_19 : decode cX6_lent 19 = .ok (.iaload, 1) := by decide +kernel
theorem dX6_lent_20 : decode cX6_lent 20 = .ok (.goto 4, 3) := by decide +kernel
theorem dX6_lent_23 : decode cX6_lent 23 = .ok (.iload_n 1, 1) := by decide +kernel
theorem dX6_lent_24 : decode cX6_lent 24 = .ok (.ireturn, 1) := by decide +kernel
theorem dX6_plainMark_0 : decode cX6_plainMark 0 = .ok (.aload_n 0, 1) := by decide +kernel
theorem dX6_plainMark_1 : decode cX6_plainMark 1 = .ok (.bipush 21, 2) := by decide +kernel
theorem dX6_plainMark_3 : decode cX6_plainMark 3 = .ok (.invokevirtual 251, 3) := by decide +kernel
theorem dX6_plainMark_6 : decode cX6_plainMark 6 = .ok (.aload_n 0, 1) := by decide +kernel
theorem dX6_plainMark_7 : decode cX6_plainMark 7 = .ok (.iload_n 1, 1) := by decide +kernel
theorem dX6_plainMark_8 : decode cX6_plainMark 8 = .ok (.bipush 20, 2) := by decide +kernel
theorem dX6_plainMark_10 : decode cX6_plainMark 10 = .ok (.invokevirtual 254, 3) := by decide +kernel
theorem dX6_plainMark_13 : decode cX6_plainMark 13 = .ok (.aload_n 0, 1) := by decide +kernel
theorem dX6_plainMark_14 : decode cX6_plainMark 14 = .ok (.getfield 19, 3) := by decide +kernel
theorem dX6_plainMark_17 : decode cX6_plainMark 17 = .ok (.bipush 29, 2) := by decide +kernel
theorem dX6_plainMark_19 : decode cX6_plainMark 19 = .ok (.iload_n 1, 1) := by decide +kernel
theorem dX6_plainMark_20 : decode cX6_plainMark 20 = .ok (.iadd, 1) := by decide +kernel
theorem dX6_plainMark_21 : decode cX6_plainMark 21 = .ok (.iaload, 1) := by decide +kernel
theorem dX6_plainMark_22 : decode cX6_plainMark 22 = .ok (.iadd, 1) := by decide +kernel
theorem dX6_plainMark_23 : decode cX6_plainMark 23 = .ok (.ireturn, 1) := by decide +kernel
theorem dX6_oakSize_0 : decode cX6_oakSize 0 = .ok (.aload_n 0, 1) := by decide +kernel
theorem dX6_oakSize_1 : decode cX6_oakSize 1 = .ok (.bipush 13, 2) := by decide +kernel
theorem dX6_oakSize_3 : decode cX6_oakSize 3 = .ok (.invokevirtual 251, 3) := by decide +kernel
theorem dX6_oakSize_6 : decode cX6_oakSize 6 = .ok (.aload_n 0, 1) := by decide +kernel
theorem dX6_oakSize_7 : decode cX6_oakSize 7 = .ok (.iload_n 1, 1) := by decide +kernel
theorem dX6_oakSize_8 : decode cX6_oakSize 8 = .ok (.bipush 10, 2) := by decide +kernel
theorem dX6_oakSize_10 : decode cX6_oakSize 10 = .ok (.invokevirtual 254, 3) := by decide +kernel
theorem dX6_oakSize_13 : decode cX6_oakSize 13 = .ok (.bipush 100, 2) := by decide +kernel
theorem dX6_oakSize_15 : decode cX6_oakSize 15 = .ok (.isub, 1) := by decide +kernel
theorem dX6_oakSize_16 : decode cX6_oakSize 16 = .ok (.ireturn, 1) := by decide +kernel
theorem dX6_sizeOfOak_0 : decode cX6_sizeOfOak 0 = .ok (.aload_n 0, 1) := by decide +kernel
theorem dX6_sizeOfOak_1 : decode cX6_sizeOfOak 1 = .ok (.getfield 19, 3) := by decide +kernel
theorem dX6_sizeOfOak_4 : decode cX6_sizeOfOak 4 = .ok (.iconst 5, 1) := by decide +kernel
theorem dX6_sizeOfOak_5 : decode cX6_sizeOfOak 5 = .ok (.iload_n 1, 1) := by decide +kernel
theorem dX6_sizeOfOak_6 : decode cX6_sizeOfOak 6 = .ok (.iadd, 1) := by decide +kernel
theorem dX6_sizeOfOak_7 : decode cX6_sizeOfOak 7 = .ok (.iaload, 1) := by decide +kernel
theorem dX6_sizeOfOak_8 : decode cX6_sizeOfOak 8 = .ok (.iconst 5, 1) := by decide +kernel
theorem dX6_sizeOfOak_9 : decode cX6_sizeOfOak 9 = .ok (.if_icmp .ne 17, 3) := by decide +kernel
theorem dX6_sizeOfOak_12 : decode cX6_sizeOfOak 12 = .ok (.aload_n 0, 1) := by decide +kernel
theorem dX6_sizeOfOak_13 : decode cX6_sizeOfOak 13 = .ok (.bipush 14, 2) := by decide +kernel
theorem dX6_sizeOfOak_15 : decode cX6_sizeOfOak 15 = .ok (.invokevirtual 251, 3) := by decide +kernel
theorem dX6_sizeOfOak_18 : decode cX6_sizeOfOak 18 = .ok (.iconst 2, 1) := by decide +kernel
theorem dX6_sizeOfOak_19 : decode cX6_sizeOfOak 19 = .ok (.aload_n 0, 1) := by decide +kernel
theorem dX6_sizeOfOak_20 : decode cX6_sizeOfOak 20 = .ok (.iload_n 1, 1) := by decide +kernel
theorem dX6_sizeOfOak_21 : decode cX6_sizeOfOak 21 = .ok (.invokevirtual 257, 3) := by decide +kernel
theorem dX6_sizeOfOak_24 : decode cX6_sizeOfOak 24 = .ok (.imul, 1) := by decide +kernel
theorem dX6_sizeOfOak_25 : decode cX6_sizeOfOak 25 = .ok (.ireturn, 1) := by decide +kernel
theorem dX6_sizeOfOak_26 : decode cX6_sizeOfOak 26 = .ok (.aload_n 0, 1) := by decide +kernel
theorem dX6_sizeOfOak_27 : decode cX6_sizeOfOak 27 = .ok (.iload_n 1, 1) := by decide +kernel
theorem dX6_sizeOfOak_28 : decode cX6_sizeOfOak 28 = .ok (.invokevirtual 257, 3) := by decide +kernel
theorem dX6_sizeOfOak_31 : decode cX6_sizeOfOak 31 = .ok (.ireturn, 1) := by decide +kernel
theorem dX6_markOf_0 : decode cX6_markOf 0 = .ok (.aload_n 0, 1) := by decide +kernel
theorem dX6_markOf_1 : decode cX6_markOf 1 = .ok (.getfield 19, 3) := by decide +kernel
theorem dX6_markOf_4 : decode cX6_markOf 4 = .ok (.iconst 5, 1) := by decide +kernel
theorem dX6_markOf_5 : decode cX6_markOf 5 = .ok (.iload_n 1, 1) := by decide +kernel
theorem dX6_markOf_6 : decode cX6_markOf 6 = .ok (.iadd, 1) := by decide +kernel
theorem dX6_markOf_7 : decode cX6_markOf 7 = .ok (.iaload, 1) := by decide +kernel
theorem dX6_markOf_8 : decode cX6_markOf 8 = .ok (.istore_n 2, 1) := by decide +kernel
theorem dX6_markOf_9 : decode cX6_markOf 9 = .ok (.iload_n 2, 1) := by decide +kernel
theorem dX6_markOf_10 : decode cX6_markOf 10 = .ok (.iconst 2, 1) := by decide +kernel
theorem dX6_markOf_11 : decode cX6_markOf 11 = .ok (.if_icmp .ne 17, 3) := by decide +kernel
theorem dX6_markOf_14 : decode cX6_markOf 14 = .ok (.aload_n 0, 1) := by decide +kernel
theorem dX6_markOf_15 : decode cX6_markOf 15 = .ok (.bipush 24, 2) := by decide +kernel
theorem dX6_markOf_17 : decode cX6_markOf 17 = .ok (.invokevirtual 251, 3) := by decide +kernel
theorem dX6_markOf_20 : decode cX6_markOf 20 = .ok (.iconst 2, 1) := by decide +kernel
theorem dX6_markOf_21 : decode cX6_markOf 21 = .ok (.aload_n 0, 1) := by decide +kernel
theorem dX6_markOf_22 : decode cX6_markOf 22 = .ok (.iload_n 1, 1) := by decide +kernel
theorem dX6_markOf_23 : decode cX6_markOf 23 = .ok (.invokevirtual 260, 3) := by decide +kernel
theorem dX6_markOf_26 : decode cX6_markOf 26 = .ok (.imul, 1) := by decide +kernel
theorem dX6_markOf_27 : decode cX6_markOf 27 = .ok (.ireturn, 1) := by decide +kernel
theorem dX6_markOf_28 : decode cX6_markOf 28 = .ok (.iload_n 2, 1) := by decide +kernel
theorem dX6_markOf_29 : decode cX6_markOf 29 = .ok (.iconst 3, 1) := by decide +kernel
theorem dX6_markOf_30 : decode cX6_markOf 30 = .ok (.if_icmp .ne 19, 3) := by decide +kernel
theorem dX6_markOf_33 : decode cX6_markOf 33 = .ok (.aload_n 0, 1) := by decide +kernel
theorem dX6_markOf_34 : decode cX6_markOf 34 = .ok (.bipush 22, 2) := by decide +kernel
theorem dX6_markOf_36 : decode cX6_markOf 36 = .ok (.invokevirtual 251, 3) := by decide +kernel
theorem dX6_markOf_39 : decode cX6_markOf 39 = .ok (.aload_n 0, 1) := by decide +kernel
theorem dX6_markOf_40 : decode cX6_markOf 40 = .ok (.iload_n 1, 1) := by decide +kernel
theorem dX6_markOf_41 : decode cX6_markOf 41 = .ok (.invokevirtual 260, 3) := by decide +kernel
theorem dX6_markOf_44 : decode cX6_markOf 44 = .ok (.sipush 1000, 3) := by decide +kernel
theorem dX6_markOf_47 : decode cX6_markOf 47 = .ok (.isub, 1) := by decide +kernel
theorem dX6_markOf_48 : decode cX6_markOf 48 = .ok (.ireturn, 1) := by decide +kernel
theorem dX6_markOf_49 : decode cX6_markOf 49 = .ok (.iload_n 2, 1) := by decide +kernel
theorem dX6_markOf_50 : decode cX6_markOf 50 = .ok (.iconst 1, 1) := by decide +kernel
theorem dX6_markOf_51 : decode cX6_markOf 51 = .ok (.if_icmp .ne 9, 3) := by decide +kernel
theorem dX6_markOf_54 : decode cX6_markOf 54 = .ok (.aload_n 0, 1) := by decide +kernel
theorem dX6_markOf_55 : decode cX6_markOf 55 = .ok (.iload_n 1, 1) := by decide +kernel
theorem dX6_markOf_56 : decode cX6_markOf 56 = .ok (.invokevirtual 260, 3) := by decide +kernel
theorem dX6_markOf_59 : decode cX6_markOf 59 = .ok (.ireturn, 1) := by decide +kernel
theorem dX6_markOf_60 : decode cX6_markOf 60 = .ok (.aload_n 0, 1) := by decide +kernel
theorem dX6_markOf_61 : decode cX6_markOf 61 = .ok (.bipush 23, 2) := by decide +kernel
theorem dX6_markOf_63 : decode cX6_markOf 63 = .ok (.invokevirtual 251, 3) := by decide +kernel
theorem dX6_markOf_66 : decode cX6_markOf 66 = .ok (.aload_n 0, 1) := by decide +kernel
theorem dX6_markOf_67 : decode cX6_markOf 67 = .ok (.iload_n 1, 1) := by decide +kernel
theorem dX6_markOf_68 : decode cX6_markOf 68 = .ok (.bipush 20, 2) := by decide +kernel
theorem dX6_markOf_70 : decode cX6_markOf 70 = .ok (.invokevirtual 254, 3) := by decide +kernel
theorem dX6_markOf_73 : decode cX6_markOf 73 = .ok (.istore_n 3, 1) := by decide +kernel
theorem dX6_markOf_74 : decode cX6_markOf 74 = .ok (.iload_n 3, 1) := by decide +kernel
theorem dX6_markOf_75 : decode cX6_markOf 75 = .ok (.aload_n 0, 1) := by decide +kernel
theorem dX6_markOf_76 : decode cX6_markOf 76 = .ok (.iload_n 1, 1) := by decide +kernel
theorem dX6_markOf_77 : decode cX6_markOf 77 = .ok (.invokevirtual 263, 3) := by decide +kernel
theorem dX6_markOf_80 : decode cX6_markOf 80 = .ok (.isub, 1) := by decide +kernel
theorem dX6_markOf_81 : decode cX6_markOf 81 = .ok (.ireturn, 1) := by decide +kernel
theorem dX6_plainSize_0 : decode cX6_plainSize 0 = .ok (.aload_n 0, 1) := by decide +kernel
theorem dX6_plainSize_1 : decode cX6_plainSize 1 = .ok (.bipush 11, 2) := by decide +kernel
theorem dX6_plainSize_3 : decode cX6_plainSize 3 = .ok (.invokevirtual 251, 3) := by decide +kernel
theorem dX6_plainSize_6 : decode cX6_plainSize 6 = .ok (.aload_n 0, 1) := by decide +kernel
theorem dX6_plainSize_7 : decode cX6_plainSize 7 = .ok (.iload_n 1, 1) := by decide +kernel
theorem dX6_plainSize_8 : decode cX6_plainSize 8 = .ok (.bipush 10, 2) := by decide +kernel
theorem dX6_plainSize_10 : decode cX6_plainSize 10 = .ok (.invokevirtual 254, 3) := by decide +kernel
theorem dX6_plainSize_13 : decode cX6_plainSize 13 = .ok (.istore_n 2, 1) := by decide +kernel
theorem dX6_plainSize_14 : decode cX6_plainSize 14 = .ok (.iload_n 2, 1) := by decide +kernel
theorem dX6_plainSize_15 : decode cX6_plainSize 15 = .ok (.aload_n 0, 1) := by decide +kernel
theorem dX6_plainSize_16 : decode cX6_plainSize 16 = .ok (.iload_n 1, 1) := by decide +kernel
theorem dX6_plainSize_17 : decode cX6_plainSize 17 = .ok (.invokevirtual 266, 3) := by decide +kernel
theorem dX6_plainSize_20 : decode cX6_plainSize 20 = .ok (.iadd, 1) := by decide +kernel
theorem dX6_plainSize_21 : decode cX6_plainSize 21 = .ok (.ireturn, 1) := by decide +kernel
theorem dX6_sizeOf_0 : decode cX6_sizeOf 0 = .ok (.aload_n 0, 1) := by decide +kernel
theorem dX6_sizeOf_1 : decode cX6_sizeOf 1 = .ok (.getfield 19, 3) := by decide +kernel
theorem dX6_sizeOf_4 : decode cX6_sizeOf 4 = .ok (.iconst 5, 1) := by decide +kernel
theorem dX6_sizeOf_5 : decode cX6_sizeOf 5 = .ok (.iload_n 1, 1) := by decide +kernel
theorem dX6_sizeOf_6 : decode cX6_sizeOf 6 = .ok (.iadd, 1) := by decide +kernel
theorem dX6_sizeOf_7 : decode cX6_sizeOf 7 = .ok (.iaload, 1) := by decide +kernel
theorem dX6_sizeOf_8 : decode cX6_sizeOf 8 = .ok (.istore_n 2, 1) := by decide +kernel
theorem dX6_sizeOf_9 : decode cX6_sizeOf 9 = .ok (.iload_n 2, 1) := by decide +kernel
theorem dX6_sizeOf_10 : decode cX6_sizeOf 10 = .ok (.iconst 2, 1) := by decide +kernel
theorem dX6_sizeOf_11 : decode cX6_sizeOf 11 = .ok (.if_icmp .ne 16, 3) := by decide +kernel
theorem dX6_sizeOf_14 : decode cX6_sizeOf 14 = .ok (.aload_n 0, 1) := by decide +kernel
theorem dX6_sizeOf_15 : decode cX6_sizeOf 15 = .ok (.bipush 12, 2) := by decide +kernel
theorem dX6_sizeOf_17 : decode cX6_sizeOf 17 = .ok (.invokevirtual 251, 3) := by decide +kernel
theorem dX6_sizeOf_20 : decode cX6_sizeOf 20 = .ok (.aload_n 0, 1) := by decide +kernel
theorem dX6_sizeOf_21 : decode cX6_sizeOf 21 = .ok (.iload_n 1, 1) := by decide +kernel
theorem dX6_sizeOf_22 : decode cX6_sizeOf 22 = .ok (.invokevirtual 269, 3) := by decide +kernel
theorem dX6_sizeOf_25 : decode cX6_sizeOf 25 = .ok (.ineg, 1) := by decide +kernel
theorem dX6_sizeOf_26 : decode cX6_sizeOf 26 = .ok (.ireturn, 1) := by decide +kernel
theorem dX6_sizeOf_27 : decode cX6_sizeOf 27 = .ok (.iload_n 2, 1) := by decide +kernel
theorem dX6_sizeOf_28 : decode cX6_sizeOf 28 = .ok (.iconst 4, 1) := by decide +kernel
theorem dX6_sizeOf_29 : decode cX6_sizeOf 29 = .ok (.if_icmp .lt 11, 3) := by decide +kernel
theorem dX6_sizeOf_32 : decode cX6_sizeOf 32 = .ok (.aload_n 0, 1) := by decide +kernel
theorem dX6_sizeOf_33 : decode cX6_sizeOf 33 = .ok (.iload_n 1, 1) := by decide +kernel
theorem dX6_sizeOf_34 : decode cX6_sizeOf 34 = .ok (.invokevirtual 263, 3) := by decide +kernel
theorem dX6_sizeOf_37 : decode cX6_sizeOf 37 = .ok (.goto 8, 3) := by decide +kernel
theorem dX6_sizeOf_40 : decode cX6_sizeOf 40 = .ok (.aload_n 0, 1) := by decide +kernel
theorem dX6_sizeOf_41 : decode cX6_sizeOf 41 = .ok (.iload_n 1, 1) := by decide +kernel
theorem dX6_sizeOf_42 : decode cX6_sizeOf 42 = .ok (.invokevirtual 269, 3) := by decide +kernel
theorem dX6_sizeOf_45 : decode cX6_sizeOf 45 = .ok (.ireturn, 1) := by decide +kernel
theorem dX6_ask_0 : decode cX6_ask 0 = .ok (.aload_n 0, 1) := by decide +kernel
theorem dX6_ask_1 : decode cX6_ask 1 = .ok (.iload_n 1, 1) := by decide +kernel
theorem dX6_ask_2 : decode cX6_ask 2 = .ok (.invokevirtual 178, 3) := by decide +kernel
theorem dX6_ask_5 : decode cX6_ask 5 = .ok (.ifCond .eq 13, 3) := by decide +kernel
theorem dX6_ask_8 : decode cX6_ask 8 = .ok (.iload_n 2, 1) := by decide +kernel
theorem dX6_ask_9 : decode cX6_ask 9 = .ok (.i2l, 1) := by decide +kernel
theorem dX6_ask_10 : decode cX6_ask 10 = .ok (.lconst 0, 1) := by decide +kernel
theorem dX6_ask_11 : decode cX6_ask 11 = .ok (.lconst 1, 1) := by decide +kernel
theorem dX6_ask_12 : decode cX6_ask 12 = .ok (.invokestatic 57, 3) := by decide +kernel
theorem dX6_ask_15 : decode cX6_ask 15 = .ok (.ifCond .ne 6, 3) := by decide +kernel
theorem dX6_ask_18 : decode cX6_ask 18 = .ok (.ldc 67, 2) := by decide +kernel
theorem dX6_ask_20 : decode cX6_ask 20 = .ok (.ireturn, 1) := by decide +kernel
theorem dX6_ask_21 : decode cX6_ask 21 = .ok (.aload_n 0, 1) := by decide +kernel
theorem dX6_ask_22 : decode cX6_ask 22 = .ok (.iconst 0, 1) := by decide +kernel
theorem dX6_ask_23 : decode cX6_ask 23 = .ok (.putfield 248, 3) := by decide +kernel
theorem dX6_ask_26 : decode cX6_ask 26 = .ok (.iload_n 2, 1) := by decide +kernel
theorem dX6_ask_27 : decode cX6_ask 27 = .ok (.ifCond .ne 11, 3) := by decide +kernel
theorem dX6_ask_30 : decode cX6_ask 30 = .ok (.aload_n 0, 1) := by decide +kernel
theorem dX6_ask_31 : decode cX6_ask 31 = .ok (.iload_n 1, 1) := by decide +kernel
theorem dX6_ask_32 : decode cX6_ask 32 = .ok (.invokevirtual 272, 3) := by decide +kernel
theorem dX6_ask_35 : decode cX6_ask 35 = .ok (.goto 8, 3) := by decide +kernel
theorem dX6_ask_38 : decode cX6_ask 38 = .ok (.aload_n 0, 1) := by decide +kernel
theorem dX6_ask_39 : decode cX6_ask 39 = .ok (.iload_n 1, 1) := by decide +kernel
theorem dX6_ask_40 : decode cX6_ask 40 = .ok (.invokevirtual 266, 3) := by decide +kernel
theorem dX6_ask_43 : decode cX6_ask 43 = .ok (.ireturn, 1) := by decide +kernel
theorem dX6_trace_0 : decode cX6_trace 0 = .ok (.iload_n 1, 1) := by decide +kernel
theorem dX6_trace_1 : decode cX6_trace 1 = .ok (.i2l, 1) := by decide +kernel
theorem dX6_trace_2 : decode cX6_trace 2 = .ok (.lconst 0, 1) := by decide +kernel
theorem dX6_trace_3 : decode cX6_trace 3 = .ok (.aload_n 0, 1) := by decide +kernel
theorem dX6_trace_4 : decode cX6_trace 4 = .ok (.getfield 248, 3) := by decide +kernel
theorem dX6_trace_7 : decode cX6_trace 7 = .ok (.iconst 1, 1) := by decide +kernel
theorem dX6_trace_8 : decode cX6_trace 8 = .ok (.isub, 1) := by decide +kernel
theorem dX6_trace_9 : decode cX6_trace 9 = .ok (.i2l, 1) := by decide +kernel
theorem dX6_trace_10 : decode cX6_trace 10 = .ok (.invokestatic 57, 3) := by decide +kernel
theorem dX6_trace_13 : decode cX6_trace 13 = .ok (.ifCond .eq 12, 3) := by decide +kernel
theorem dX6_trace_16 : decode cX6_trace 16 = .ok (.aload_n 0, 1) := by decide +kernel
theorem dX6_trace_17 : decode cX6_trace 17 = .ok (.getfield 47, 3) := by decide +kernel
theorem dX6_trace_20 : decode cX6_trace 20 = .ok (.iload_n 1, 1) := by decide +kernel
theorem dX6_trace_21 : decode cX6_trace 21 = .ok (.iaload, 1) := by decide +kernel
theorem dX6_trace_22 : decode cX6_trace 22 = .ok (.goto 5, 3) := by decide +kernel
theorem dX6_trace_25 : decode cX6_trace 25 = .ok (.ldc 149, 2) := by decide +kernel
theorem dX6_trace_27 : decode cX6_trace 27 = .ok (.ireturn, 1) := by decide +kernel
theorem dX6_count_0 : decode cX6_count 0 = .ok (.iconst 0, 1) := by decide +kernel
theorem dX6_count_1 : decode cX6_count 1 = .ok (.istore_n 2, 1) := by decide +kernel
theorem dX6_count_2 : decode cX6_count 2 = .ok (.iconst 0, 1) := by decide +kernel
theorem dX6_count_3 : decode cX6_count 3 = .ok (.istore_n 3, 1) := by decide +kernel
theorem dX6_count_4 : decode cX6_count 4 = .ok (.iload_n 3, 1) := by decide +kernel
theorem dX6_count_5 : decode cX6_count 5 = .ok (.bipush 8, 2) := by decide +kernel
theorem dX6_count_7 : decode cX6_count 7 = .ok (.if_icmp .ge 26, 3) := by decide +kernel
theorem dX6_count_10 : decode cX6_count 10 = .ok (.iload_n 2, 1) := by decide +kernel
theorem dX6_count_11 : decode cX6_count 11 = .ok (.aload_n 0, 1) := by decide +kernel
theorem dX6_count_12 : decode cX6_count 12 = .ok (.getfield 13, 3) := by decide +kernel
theorem dX6_count_15 : decode cX6_count 15 = .ok (.iload_n 3, 1) := by decide +kernel
theorem dX6_count_16 : decode cX6_count 16 = .ok (.iaload, 1) := by decide +kernel
theorem dX6_count_17 : decode cX6_count 17 = .ok (.ifCond .lt 7, 3) := by decide +kernel
theorem dX6_count_20 : decode cX6_count 20 = .ok (.iconst 1, 1) := by decide +kernel
theorem dX6_count_21 : decode cX6_count 21 = .ok (.goto 4, 3) := by decide +kernel
theorem dX6_count_24 : decode cX6_count 24 = .ok (.iconst 0, 1) := by decide +kernel
theorem dX6_count_25 : decode cX6_count 25 = .ok (.iadd, 1) := by decide +kernel
theorem dX6_count_26 : decode cX6_count 26 = .ok (.istore_n 2, 1) := by decide +kernel
theorem dX6_count_27 : decode cX6_count 27 = .ok (.iinc 3 1, 3) := by decide +kernel
theorem dX6_count_30 : decode cX6_count 30 = .ok (.goto (-26), 3) := by decide +kernel
theorem dX6_count_33 : decode cX6_count 33 = .ok (.iload_n 1, 1) := by decide +kernel
theorem dX6_count_34 : decode cX6_count 34 = .ok (.tableswitch 93 0 7 #[46, 48, 55, 62, 69, 76, 83, 88], 46) := by decide +kernel
theorem dX6_count_80 : decode cX6_count 80 = .ok (.iload_n 2, 1) := by decide +kernel
theorem dX6_count_81 : decode cX6_count 81 = .ok (.ireturn, 1) := by decide +kernel
theorem dX6_count_82 : decode cX6_count 82 = .ok (.aload_n 0, 1) := by decide +kernel
theorem dX6_count_83 : decode cX6_count 83 = .ok (.getfield 19, 3) := by decide +kernel
theorem dX6_count_86 : decode cX6_count 86 = .ok (.iconst 2, 1) := by decide +kernel
theorem dX6_count_87 : decode cX6_count 87 = .ok (.iaload, 1) := by decide +kernel
theorem dX6_count_88 : decode cX6_count 88 = .ok (.ireturn, 1) := by decide +kernel
theorem dX6_count_89 : decode cX6_count 89 = .ok (.aload_n 0, 1) := by decide +kernel
theorem dX6_count_90 : decode cX6_count 90 = .ok (.getfield 19, 3) := by decide +kernel
theorem dX6_count_93 : decode cX6_count 93 = .ok (.iconst 3, 1) := by decide +kernel
theorem dX6_count_94 : decode cX6_count 94 = .ok (.iaload, 1) := by decide +kernel
theorem dX6_count_95 : decode cX6_count 95 = .ok (.ireturn, 1) := by decide +kernel
theorem dX6_count_96 : decode cX6_count 96 = .ok (.aload_n 0, 1) := by decide +kernel
theorem dX6_count_97 : decode cX6_count 97 = .ok (.getfield 19, 3) := by decide +kernel
theorem dX6_count_100 : decode cX6_count 100 = .ok (.iconst 4, 1) := by decide +kernel
theorem dX6_count_101 : decode cX6_count 101 = .ok (.iaload, 1) := by decide +kernel
theorem dX6_count_102 : decode cX6_count 102 = .ok (.ireturn, 1) := by decide +kernel
theorem dX6_count_103 : decode cX6_count 103 = .ok (.aload_n 0, 1) := by decide +kernel
theorem dX6_count_104 : decode cX6_count 104 = .ok (.bipush 11, 2) := by decide +kernel
theorem dX6_count_106 : decode cX6_count 106 = .ok (.invokevirtual 209, 3) := by decide +kernel
theorem dX6_count_109 : decode cX6_count 109 = .ok (.ireturn, 1) := by decide +kernel
theorem dX6_count_110 : decode cX6_count 110 = .ok (.aload_n 0, 1) := by decide +kernel
theorem dX6_count_111 : decode cX6_count 111 = .ok (.bipush 35, 2) := by decide +kernel
theorem dX6_count_113 : decode cX6_count 113 = .ok (.invokevirtual 209, 3) := by decide +kernel
theorem dX6_count_116 : decode cX6_count 116 = .ok (.ireturn, 1) := by decide +kernel
theorem dX6_count_117 : decode cX6_count 117 = .ok (.aload_n 0, 1) := by decide +kernel
theorem dX6_count_118 : decode cX6_count 118 = .ok (.getfield 139, 3) := by decide +kernel
theorem dX6_count_121 : decode cX6_count 121 = .ok (.ireturn, 1) := by decide +kernel
theorem dX6_count_122 : decode cX6_count 122 = .ok (.aload_n 0, 1) := by decide +kernel
theorem dX6_count_123 : decode cX6_count 123 = .ok (.getfield 81, 3) := by decide +kernel
theorem dX6_count_126 : decode cX6_count 126 = .ok (.ireturn, 1) := by decide +kernel
theorem dX6_count_127 : decode cX6_count 127 = .ok (.ldc 67, 2) := by decide +kernel
theorem dX6_count_129 : decode cX6_count 129 = .ok (.ireturn, 1) := by decide +kernel
theorem dX6_status_0 : decode cX6_status 0 = .ok (.aload_n 0, 1) := by decide +kernel
theorem dX6_status_1 : decode cX6_status 1 = .ok (.getfield 50, 3) := by decide +kernel
theorem dX6_status_4 : decode cX6_status 4 = .ok (.ireturn, 1) := by decide +kernel
end
section
theorem dJ11_isValidCodePoint_9a6ad_0 : decode cJ11_isValidCodePoint_9a6ad 0 = .ok (.iload_n 0, 1) := by decide +kernel
theorem dJ11_isValidCodePoint_9a6ad_1 : decode cJ11_isValidCodePoint_9a6ad 1 = .ok (.bipush 16, 2) := by decide +kernel
theorem dJ11_isValidCodePoint_9a6ad_3 : decode cJ11_isValidCodePoint_9a6ad 3 = .ok (.iushr, 1) := by decide +kernel
theorem dJ11_isValidCodePoint_9a6ad_4 : decode cJ11_isValidCodePoint_9a6ad 4 = .ok (.istore_n 1, 1) := by decide +kernel
theorem dJ11_isValidCodePoint_9a6ad_5 : decode cJ11_isValidCodePoint_9a6ad 5 = .ok (.iload_n 1, 1) := by decide +kernel
theorem dJ11_isValidCodePoint_9a6ad_6 : decode cJ11_isValidCodePoint_9a6ad 6 = .ok (.bipush 17, 2) := by decide +kernel
theorem dJ11_isValidCodePoint_9a6ad_8 : decode cJ11_isValidCodePoint_9a6ad 8 = .ok (.if_icmp .ge 7, 3) := by decide +kernel
theorem dJ11_isValidCodePoint_9a6ad_11 : decode cJ11_isValidCodePoint_9a6ad 11 = .ok (.iconst 1, 1) := by decide +kernel
theorem dJ11_isValidCodePoint_9a6ad_12 : decode cJ11_isValidCodePoint_9a6ad 12 = .ok (.goto 4, 3) := by decide +kernel
theorem dJ11_isValidCodePoint_9a6ad_15 : decode cJ11_isValidCodePoint_9a6ad 15 = .ok (.iconst 0, 1) := by decide +kernel
theorem dJ11_isValidCodePoint_9a6ad_16 : decode cJ11_isValidCodePoint_9a6ad 16 = .ok (.ireturn, 1) := by decide +kernel
theorem dJ11_highSurrogate_5068e_0 : decode cJ11_highSurrogate_5068e 0 = .ok (.iload_n 0, 1) := by decide +kernel
theorem dJ11_highSurrogate_5068e_1 : decode cJ11_highSurrogate_5068e 1 = .ok (.bipush 10, 2) := by decide +kernel
theorem dJ11_highSurrogate_5068e_3 : decode cJ11_highSurrogate_5068e 3 = .ok (.iushr, 1) := by decide +kernel
theorem dJ11_highSurrogate_5068e_4 : decode cJ11_highSurrogate_5068e 4 = .ok (.ldc 110, 2) := by decide +kernel
theorem dJ11_highSurrogate_5068e_6 : decode cJ11_highSurrogate_5068e 6 = .ok (.iadd, 1) := by decide +kernel
theorem dJ11_highSurrogate_5068e_7 : decode cJ11_highSurrogate_5068e 7 = .ok (.i2c, 1) := by decide +kernel
theorem dJ11_highSurrogate_5068e_8 : decode cJ11_highSurrogate_5068e 8 = .ok (.ireturn, 1) := by decide +kernel
theorem dJ11_lowSurrogate_5068e_0 : decode cJ11_lowSurrogate_5068e 0 = .ok (.iload_n 0, 1) := by decide +kernel
theorem dJ11_lowSurrogate_5068e_1 : decode cJ11_lowSurrogate_5068e 1 = .ok (.sipush 1023, 3) := by decide +kernel
theorem dJ11_lowSurrogate_5068e_4 : decode cJ11_lowSurrogate_5068e 4 = .ok (.iand, 1) := by decide +kernel
theorem dJ11_lowSurrogate_5068e_5 : decode cJ11_lowSurrogate_5068e 5 = .ok (.ldc 76, 2) := by decide +kernel
theorem dJ11_lowSurrogate_5068e_7 : decode cJ11_lowSurrogate_5068e 7 = .ok (.iadd, 1) := by decide +kernel
theorem dJ11_lowSurrogate_5068e_8 : decode cJ11_lowSurrogate_5068e 8 = .ok (.i2c, 1) := by decide +kernel
theorem dJ11_lowSurrogate_5068e_9 : decode cJ11_lowSurrogate_5068e 9 = .ok (.ireturn, 1) := by decide +kernel
theorem dJ6_bitCount_0f7a4_0 : decode cJ6_bitCount_0f7a4 0 = .ok (.iload_n 0, 1) := by decide +kernel
theorem dJ6_bitCount_0f7a4_1 : decode cJ6_bitCount_0f7a4 1 = .ok (.iload_n 0, 1) := by decide +kernel
theorem dJ6_bitCount_0f7a4_2 : decode cJ6_bitCount_0f7a4 2 = .ok (.iconst 1, 1) := by decide +kernel
theorem dJ6_bitCount_0f7a4_3 : decode cJ6_bitCount_0f7a4 3 = .ok (.iushr, 1) := by decide +kernel
theorem dJ6_bitCount_0f7a4_4 : decode cJ6_bitCount_0f7a4 4 = .ok (.ldc_w 265, 3) := by decide +kernel
theorem dJ6_bitCount_0f7a4_7 : decode cJ6_bitCount_0f7a4 7 = .ok (.iand, 1) := by decide +kernel
theorem dJ6_bitCount_0f7a4_8 : decode cJ6_bitCount_0f7a4 8 = .ok (.isub, 1) := by decide +kernel
theorem dJ6_bitCount_0f7a4_9 : decode cJ6_bitCount_0f7a4 9 = .ok (.istore_n 0, 1) := by decide +kernel
theorem dJ6_bitCount_0f7a4_10 : decode cJ6_bitCount_0f7a4 10 = .ok (.iload_n 0, 1) := by decide +kernel
theorem dJ6_bitCount_0f7a4_11 : decode cJ6_bitCount_0f7a4 11 = .ok (.ldc_w 266, 3) := by decide +kernel
theorem dJ6_bitCount_0f7a4_14 : decode cJ6_bitCount_0f7a4 14 = .ok (.iand, 1) := by decide +kernel
theorem dJ6_bitCount_0f7a4_15 : decode cJ6_bitCount_0f7a4 15 = .ok (.iload_n 0, 1) := by decide +kernel
theorem dJ6_bitCount_0f7a4_16 : decode cJ6_bitCount_0f7a4 16 = .ok (.iconst 2, 1) := by decide +kernel
theorem dJ6_bitCount_0f7a4_17 : decode cJ6_bitCount_0f7a4 17 = .ok (.iushr, 1) := by decide +kernel
theorem dJ6_bitCount_0f7a4_18 : decode cJ6_bitCount_0f7a4 18 = .ok (.ldc_w 266, 3) := by decide +kernel
theorem dJ6_bitCount_0f7a4_21 : decode cJ6_bitCount_0f7a4 21 = .ok (.iand, 1) := by decide +kernel
theorem dJ6_bitCount_0f7a4_22 : decode cJ6_bitCount_0f7a4 22 = .ok (.iadd, 1) := by decide +kernel
theorem dJ6_bitCount_0f7a4_23 : decode cJ6_bitCount_0f7a4 23 = .ok (.istore_n 0, 1) := by decide +kernel
theorem dJ6_bitCount_0f7a4_24 : decode cJ6_bitCount_0f7a4 24 = .ok (.iload_n 0, 1) := by decide +kernel
theorem dJ6_bitCount_0f7a4_25 : decode cJ6_bitCount_0f7a4 25 = .ok (.iload_n 0, 1) := by decide +kernel
theorem dJ6_bitCount_0f7a4_26 : decode cJ6_bitCount_0f7a4 26 = .ok (.iconst 4, 1) := by decide +kernel
theorem dJ6_bitCount_0f7a4_27 : decode cJ6_bitCount_0f7a4 27 = .ok (.iushr, 1) := by decide +kernel
theorem dJ6_bitCount_0f7a4_28 : decode cJ6_bitCount_0f7a4 28 = .ok (.iadd, 1) := by decide +kernel
theorem dJ6_bitCount_0f7a4_29 : decode cJ6_bitCount_0f7a4 29 = .ok (.ldc_w 267, 3) := by decide +kernel
theorem dJ6_bitCount_0f7a4_32 : decode cJ6_bitCount_0f7a4 32 = .ok (.iand, 1) := by decide +kernel
theorem dJ6_bitCount_0f7a4_33 : decode cJ6_bitCount_0f7a4 33 = .ok (.istore_n 0, 1) := by decide +kernel
theorem dJ6_bitCount_0f7a4_34 : decode cJ6_bitCount_0f7a4 34 = .ok (.iload_n 0, 1) := by decide +kernel
theorem dJ6_bitCount_0f7a4_35 : decode cJ6_bitCount_0f7a4 35 = .ok (.iload_n 0, 1) := by decide +kernel
theorem dJ6_bitCount_0f7a4_36 : decode cJ6_bitCount_0f7a4 36 = .ok (.bipush 8, 2) := by decide +kernel
theorem dJ6_bitCount_0f7a4_38 : decode cJ6_bitCount_0f7a4 38 = .ok (.iushr, 1) := by decide +kernel
theorem dJ6_bitCount_0f7a4_39 : decode cJ6_bitCount_0f7a4 39 = .ok (.iadd, 1) := by decide +kernel
theorem dJ6_bitCount_0f7a4_40 : decode cJ6_bitCount_0f7a4 40 = .ok (.istore_n 0, 1) := by decide +kernel
theorem dJ6_bitCount_0f7a4_41 : decode cJ6_bitCount_0f7a4 41 = .ok (.iload_n 0, 1) := by decide +kernel
theorem dJ6_bitCount_0f7a4_42 : decode cJ6_bitCount_0f7a4 42 = .ok (.iload_n 0, 1) := by decide +kernel
theorem dJ6_bitCount_0f7a4_43 : decode cJ6_bitCount_0f7a4 43 = .ok (.bipush 16, 2) := by decide +kernel
theorem dJ6_bitCount_0f7a4_45 : decode cJ6_bitCount_0f7a4 45 = .ok (.iushr, 1) := by decide +kernel
theorem dJ6_bitCount_0f7a4_46 : decode cJ6_bitCount_0f7a4 46 = .ok (.iadd, 1) := by decide +kernel
theorem dJ6_bitCount_0f7a4_47 : decode cJ6_bitCount_0f7a4 47 = .ok (.istore_n 0, 1) := by decide +kernel
theorem dJ6_bitCount_0f7a4_48 : decode cJ6_bitCount_0f7a4 48 = .ok (.iload_n 0, 1) := by decide +kernel
theorem dJ6_bitCount_0f7a4_49 : decode cJ6_bitCount_0f7a4 49 = .ok (.bipush 63, 2) := by decide +kernel
theorem dJ6_bitCount_0f7a4_51 : decode cJ6_bitCount_0f7a4 51 = .ok (.iand, 1) := by decide +kernel
theorem dJ6_bitCount_0f7a4_52 : decode cJ6_bitCount_0f7a4 52 = .ok (.ireturn, 1) := by decide +kernel
theorem dJ9_max_7cf53_0 : decode cJ9_max_7cf53 0 = .ok (.iload_n 0, 1) := by decide +kernel
theorem dJ9_max_7cf53_1 : decode cJ9_max_7cf53 1 = .ok (.iload_n 1, 1) := by decide +kernel
theorem dJ9_max_7cf53_2 : decode cJ9_max_7cf53 2 = .ok (.if_icmp .lt 7, 3) := by decide +kernel
theorem dJ9_max_7cf53_5 : decode cJ9_max_7cf53 5 = .ok (.iload_n 0, 1) := by decide +kernel
theorem dJ9_max_7cf53_6 : decode cJ9_max_7cf53 6 = .ok (.goto 4, 3) := by decide +kernel
theorem dJ9_max_7cf53_9 : decode cJ9_max_7cf53 9 = .ok (.iload_n 1, 1) := by decide +kernel
theorem dJ9_max_7cf53_10 : decode cJ9_max_7cf53 10 = .ok (.ireturn, 1) := by decide +kernel
theorem dJ9_min_7cf53_0 : decode cJ9_min_7cf53 0 = .ok (.iload_n 0, 1) := by decide +kernel
theorem dJ9_min_7cf53_1 : decode cJ9_min_7cf53 1 = .ok (.iload_n 1, 1) := by decide +kernel
theorem dJ9_min_7cf53_2 : decode cJ9_min_7cf53 2 = .ok (.if_icmp .gt 7, 3) := by decide +kernel
theorem dJ9_min_7cf53_5 : decode cJ9_min_7cf53 5 = .ok (.iload_n 0, 1) := by decide +kernel
theorem dJ9_min_7cf53_6 : decode cJ9_min_7cf53 6 = .ok (.goto 4, 3) := by decide +kernel
theorem dJ9_min_7cf53_9 : decode cJ9_min_7cf53 9 = .ok (.iload_n 1, 1) := by decide +kernel
theorem dJ9_min_7cf53_10 : decode cJ9_min_7cf53 10 = .ok (.ireturn, 1) := by decide +kernel
theorem dJ0_length_8abf5_0 : decode cJ0_length_8abf5 0 = .ok (.aload_n 0, 1) := by decide +kernel
theorem dJ0_length_8abf5_1 : decode cJ0_length_8abf5 1 = .ok (.getfield 9, 3) := by decide +kernel
theorem dJ0_length_8abf5_4 : decode cJ0_length_8abf5 4 = .ok (.arraylength, 1) := by decide +kernel
theorem dJ0_length_8abf5_5 : decode cJ0_length_8abf5 5 = .ok (.aload_n 0, 1) := by decide +kernel
theorem dJ0_length_8abf5_6 : decode cJ0_length_8abf5 6 = .ok (.invokevirtual 335, 3) := by decide +kernel
theorem dJ0_length_8abf5_9 : decode cJ0_length_8abf5 9 = .ok (.ishr, 1) := by decide +kernel
theorem dJ0_length_8abf5_10 : decode cJ0_length_8abf5 10 = .ok (.ireturn, 1) := by decide +kernel
theorem dJ0_indexOf_0f7a4_0 : decode cJ0_indexOf_0f7a4 0 = .ok (.aload_n 0, 1) := by decide +kernel
theorem dJ0_indexOf_0f7a4_1 : decode cJ0_indexOf_0f7a4 1 = .ok (.iload_n 1, 1) := by decide +kernel
theorem dJ0_indexOf_0f7a4_2 : decode cJ0_indexOf_0f7a4 2 = .ok (.iconst 0, 1) := by decide +kernel
theorem dJ0_indexOf_0f7a4_3 : decode cJ0_indexOf_0f7a4 3 = .ok (.invokevirtual 633, 3) := by decide +kernel
theorem dJ0_indexOf_0f7a4_6 : decode cJ0_indexOf_0f7a4 6 = .ok (.ireturn, 1) := by decide +kernel
theorem dJ0_indexOf_7cf53_0 : decode cJ0_indexOf_7cf53 0 = .ok (.aload_n 0, 1) := by decide +kernel
theorem dJ0_indexOf_7cf53_1 : decode cJ0_indexOf_7cf53 1 = .ok (.invokevirtual 492, 3) := by decide +kernel
theorem dJ0_indexOf_7cf53_4 : decode cJ0_indexOf_7cf53 4 = .ok (.ifCond .eq 19, 3) := by decide +kernel
theorem dJ0_indexOf_7cf53_7 : decode cJ0_indexOf_7cf53 7 = .ok (.aload_n 0, 1) := by decide +kernel
theorem dJ0_indexOf_7cf53_8 : decode cJ0_indexOf_7cf53 8 = .ok (.getfield 9, 3) := by decide +kernel
theorem dJ0_indexOf_7cf53_11 : decode cJ0_indexOf_7cf53 11 = .ok (.iload_n 1, 1) := by decide +kernel
theorem dJ0_indexOf_7cf53_12 : decode cJ0_indexOf_7cf53 12 = .ok (.iload_n 2, 1) := by decide +kernel
theorem dJ0_indexOf_7cf53_13 : decode cJ0_indexOf_7cf53 13 = .ok (.aload_n 0, 1) := by decide +kernel
theorem dJ0_indexOf_7cf53_14 : decode cJ0_indexOf_7cf53 14 = .ok (.invokevirtual 505, 3) := by decide +kernel
theorem dJ0_indexOf_7cf53_17 : decode cJ0_indexOf_7cf53 17 = .ok (.invokestatic 637, 3) := by decide +kernel
theorem dJ0_indexOf_7cf53_20 : decode cJ0_indexOf_7cf53 20 = .ok (.goto 16, 3) := by decide +kernel
theorem dJ0_indexOf_7cf53_23 : decode cJ0_indexOf_7cf53 23 = .ok (.aload_n 0, 1) := by decide +kernel
theorem dJ0_indexOf_7cf53_24 : decode cJ0_indexOf_7cf53 24 = .ok (.getfield 9, 3) := by decide +kernel
theorem dJ0_indexOf_7cf53_27 : decode cJ0_indexOf_7cf53 27 = .ok (.iload_n 1, 1) := by decide +kernel
theorem dJ0_indexOf_7cf53_28 : decode cJ0_indexOf_7cf53 28 = .ok (.iload_n 2, 1) := by decide +kernel
theorem dJ0_indexOf_7cf53_29 : decode cJ0_indexOf_7cf53 29 = .ok (.aload_n 0, 1) := by decide +kernel
theorem dJ0_indexOf_7cf53_30 : decode cJ0_indexOf_7cf53 30 = .ok (.invokevirtual 505, 3) := by decide +kernel
theorem dJ0_indexOf_7cf53_33 : decode cJ0_indexOf_7cf53 33 = .ok (.invokestatic 640, 3) := by decide +kernel
theorem dJ0_indexOf_7cf53_36 : decode cJ0_indexOf_7cf53 36 = .ok (.ireturn, 1) := by decide +kernel
theorem dJ0_coder_7d493_0 : decode cJ0_coder_7d493 0 = .ok (.getstatic 38, 3) := by decide +kernel
theorem dJ0_coder_7d493_3 : decode cJ0_coder_7d493 3 = .ok (.ifCond .eq 10, 3) := by decide +kernel
theorem dJ0_coder_7d493_6 : decode cJ0_coder_7d493 6 = .ok (.aload_n 0, 1) := by decide +kernel
theorem dJ0_coder_7d493_7 : decode cJ0_coder_7d493 7 = .ok (.getfield 15, 3) := by decide +kernel
theorem dJ0_coder_7d493_10 : decode cJ0_coder_7d493 10 = .ok (.goto 4, 3) := by decide +kernel
theorem dJ0_coder_7d493_13 : decode cJ0_coder_7d493 13 = .ok (.iconst 1, 1) := by decide +kernel
theorem dJ0_coder_7d493_14 : decode cJ0_coder_7d493 14 = .ok (.ireturn, 1) := by decide +kernel
theorem dJ0_isLatin1_aae02_0 : decode cJ0_isLatin1_aae02 0 = .ok (.getstatic 38, 3) := by decide +kernel
theorem dJ0_isLatin1_aae02_3 : decode cJ0_isLatin1_aae02 3 = .ok (.ifCond .eq 14, 3) := by decide +kernel
theorem dJ0_isLatin1_aae02_6 : decode cJ0_isLatin1_aae02 6 = .ok (.aload_n 0, 1) := by decide +kernel
theorem dJ0_isLatin1_aae02_7 : decode cJ0_isLatin1_aae02 7 = .ok (.getfield 15, 3) := by decide +kernel
theorem dJ0_isLatin1_aae02_10 : decode cJ0_isLatin1_aae02 10 = .ok (.ifCond .ne 7, 3) := by decide +kernel
theorem dJ0_isLatin1_aae02_13 : decode cJ0_isLatin1_aae02 13 = .ok (.iconst 1, 1) := by decide +kernel
theorem dJ0_isLatin1_aae02_14 : decode cJ0_isLatin1_aae02 14 = .ok (.goto 4, 3) := by decide +kernel
theorem dJ0_isLatin1_aae02_17 : decode cJ0_isLatin1_aae02 17 = .ok (.iconst 0, 1) := by decide +kernel
theorem dJ0_isLatin1_aae02_18 : decode cJ0_isLatin1_aae02 18 = .ok (.ireturn, 1) := by decide +kernel
theorem dJ0_checkBoundsBeginEnd_23922_0 : decode cJ0_checkBoundsBeginEnd_23922 0 = .ok (.iload_n 0, 1) := by decide +kernel
theorem dJ0_checkBoundsBeginEnd_23922_1 : decode cJ0_checkBoundsBeginEnd_23922 1 = .ok (.iload_n 1, 1) := by decide +kernel
theorem dJ0_checkBoundsBeginEnd_23922_2 : decode cJ0_checkBoundsBeginEnd_23922 2 = .ok (.iload_n 2, 1) := by decide +kernel
theorem dJ0_checkBoundsBeginEnd_23922_3 : decode cJ0_checkBoundsBeginEnd_23922 3 = .ok (.getstatic 1053, 3) := by decide +kernel
theorem dJ0_checkBoundsBeginEnd_23922_6 : decode cJ0_checkBoundsBeginEnd_23922 6 = .ok (.invokestatic 1062, 3) := by decide +kernel
theorem dJ0_checkBoundsBeginEnd_23922_9 : decode cJ0_checkBoundsBeginEnd_23922 9 = .ok (.pop, 1) := by decide +kernel
theorem dJ0_checkBoundsBeginEnd_23922_10 : decode cJ0_checkBoundsBeginEnd_23922 10 = .ok (.return_, 1) := by decide +kernel
theorem dJ1_canEncode_9a6ad_0 : decode cJ1_canEncode_9a6ad 0 = .ok (.iload_n 0, 1) := by decide +kernel
theorem dJ1_canEncode_9a6ad_1 : decode cJ1_canEncode_9a6ad 1 = .ok (.ifCond .lt 14, 3) := by decide +kernel
theorem dJ1_canEncode_9a6ad_4 : decode cJ1_canEncode_9a6ad 4 = .ok (.iload_n 0, 1) := by decide +kernel
theorem dJ1_canEncode_9a6ad_5 : decode cJ1_canEncode_9a6ad 5 = .ok (.sipush 255, 3) := by decide +kernel
theorem dJ1_canEncode_9a6ad_8 : decode cJ1_canEncode_9a6ad 8 = .ok (.if_icmp .gt 7, 3) := by decide +kernel
theorem dJ1_canEncode_9a6ad_11 : decode cJ1_canEncode_9a6ad 11 = .ok (.iconst 1, 1) := by decide +kernel
theorem dJ1_canEncode_9a6ad_12 : decode cJ1_canEncode_9a6ad 12 = .ok (.goto 4, 3) := by decide +kernel
theorem dJ1_canEncode_9a6ad_15 : decode cJ1_canEncode_9a6ad 15 = .ok (.iconst 0, 1) := by decide +kernel
theorem dJ1_canEncode_9a6ad_16 : decode cJ1_canEncode_9a6ad 16 = .ok (.ireturn, 1) := by decide +kernel
theorem dJ1_indexOf_4cfef_0 : decode cJ1_indexOf_4cfef 0 = .ok (.iload_n 1, 1) := by decide +kernel
theorem dJ1_indexOf_4cfef_1 : decode cJ1_indexOf_4cfef 1 = .ok (.invokestatic 88, 3) := by decide +kernel
theorem dJ1_indexOf_4cfef_4 : decode cJ1_indexOf_4cfef 4 = .ok (.ifCond .ne 5, 3) := by decide +kernel
theorem dJ1_indexOf_4cfef_7 : decode cJ1_indexOf_4cfef 7 = .ok (.iconst (-1), 1) := by decide +kernel
theorem dJ1_indexOf_4cfef_8 : decode cJ1_indexOf_4cfef 8 = .ok (.ireturn, 1) := by decide +kernel
theorem dJ1_indexOf_4cfef_9 : decode cJ1_indexOf_4cfef 9 = .ok (.iload_n 2, 1) := by decide +kernel
theorem dJ1_indexOf_4cfef_10 : decode cJ1_indexOf_4cfef 10 = .ok (.iconst 0, 1) := by decide +kernel
theorem dJ1_indexOf_4cfef_11 : decode cJ1_indexOf_4cfef 11 = .ok (.invokestatic 92, 3) := by decide +kernel
theorem dJ1_indexOf_4cfef_14 : decode cJ1_indexOf_4cfef 14 = .ok (.istore_n 2, 1) := by decide +kernel
theorem dJ1_indexOf_4cfef_15 : decode cJ1_indexOf_4cfef 15 = .ok (.iload_n 3, 1) := by decide +kernel
theorem dJ1_indexOf_4cfef_16 : decode cJ1_indexOf_4cfef 16 = .ok (.aload_n 0, 1) := by decide +kernel
theorem dJ1_indexOf_4cfef_17 : decode cJ1_indexOf_4cfef 17 = .ok (.arraylength, 1) := by decide +kernel
theorem dJ1_indexOf_4cfef_18 : decode cJ1_indexOf_4cfef 18 = .ok (.invokestatic 38, 3) := by decide +kernel
theorem dJ1_indexOf_4cfef_21 : decode cJ1_indexOf_4cfef 21 = .ok (.istore_n 3, 1) := by decide +kernel
theorem dJ1_indexOf_4cfef_22 : decode cJ1_indexOf_4cfef 22 = .ok (.iload_n 2, 1) := by decide +kernel
theorem dJ1_indexOf_4cfef_23 : decode cJ1_indexOf_4cfef 23 = .ok (.iload_n 3, 1) := by decide +kernel
theorem dJ1_indexOf_4cfef_24 : decode cJ1_indexOf_4cfef 24 = .ok (.if_icmp .lt 5, 3) := by decide +kernel
theorem dJ1_indexOf_4cfef_27 : decode cJ1_indexOf_4cfef 27 = .ok (.iconst (-1), 1) := by decide +kernel
theorem dJ1_indexOf_4cfef_28 : decode cJ1_indexOf_4cfef 28 = .ok (.ireturn, 1) := by decide +kernel
theorem dJ1_indexOf_4cfef_29 : decode cJ1_indexOf_4cfef 29 = .ok (.aload_n 0, 1) := by decide +kernel
theorem dJ1_indexOf_4cfef_30 : decode cJ1_indexOf_4cfef 30 = .ok (.iload_n 1, 1) := by decide +kernel
theorem dJ1_indexOf_4cfef_31 : decode cJ1_indexOf_4cfef 31 = .ok (.iload_n 2, 1) := by decide +kernel
theorem dJ1_indexOf_4cfef_32 : decode cJ1_indexOf_4cfef 32 = .ok (.iload_n 3, 1) := by decide +kernel
theorem dJ1_indexOf_4cfef_33 : decode cJ1_indexOf_4cfef 33 = .ok (.invokestatic 95, 3) := by decide +kernel
theorem dJ1_indexOf_4cfef_36 : decode cJ1_indexOf_4cfef 36 = .ok (.ireturn, 1) := by decide +kernel
theorem dJ1_indexOfChar_4cfef_0 : decode cJ1_indexOfChar_4cfef 0 = .ok (.iload_n 1, 1) := by decide +kernel
theorem dJ1_indexOfChar_4cfef_1 : decode cJ1_indexOfChar_4cfef 1 = .ok (.i2b, 1) := by decide +kernel
theorem dJ1_indexOfChar_4cfef_2 : decode cJ1_indexOfChar_4cfef 2 = .ok (.istore 4, 2) := by decide +kernel
theorem dJ1_indexOfChar_4cfef_4 : decode cJ1_indexOfChar_4cfef 4 = .ok (.iload_n 2, 1) := by decide +kernel
theorem dJ1_indexOfChar_4cfef_5 : decode cJ1_indexOfChar_4cfef 5 = .ok (.istore 5, 2) := by decide +kernel
theorem dJ1_indexOfChar_4cfef_7 : decode cJ1_indexOfChar_4cfef 7 = .ok (.iload 5, 2) := by decide +kernel
theorem dJ1_indexOfChar_4cfef_9 : decode cJ1_indexOfChar_4cfef 9 = .ok (.iload_n 3, 1) := by decide +kernel
theorem dJ1_indexOfChar_4cfef_10 : decode cJ1_indexOfChar_4cfef 10 = .ok (.if_icmp .ge 21, 3) := by decide +kernel
theorem dJ1_indexOfChar_4cfef_13 : decode cJ1_indexOfChar_4cfef 13 = .ok (.aload_n 0, 1) := by decide +kernel
theorem dJ1_indexOfChar_4cfef_14 : decode cJ1_indexOfChar_4cfef 14 = .ok (.iload 5, 2) := by decide +kernel
theorem dJ1_indexOfChar_4cfef_16 : decode cJ1_indexOfChar_4cfef 16 = .ok (.baload, 1) := by decide +kernel
theorem dJ1_indexOfChar_4cfef_17 : decode cJ1_indexOfChar_4cfef 17 = .ok (.iload 4, 2) := by decide +kernel
theorem dJ1_indexOfChar_4cfef_19 : decode cJ1_indexOfChar_4cfef 19 = .ok (.if_icmp .ne 6, 3) := by decide +kernel
theorem dJ1_indexOfChar_4cfef_22 : decode cJ1_indexOfChar_4cfef 22 = .ok (.iload 5, 2) := by decide +kernel
theorem dJ1_indexOfChar_4cfef_24 : decode cJ1_indexOfChar_4cfef 24 = .ok (.ireturn, 1) := by decide +kernel
theorem dJ1_indexOfChar_4cfef_25 : decode cJ1_indexOfChar_4cfef 25 = .ok (.iinc 5 1, 3) := by decide +kernel
theorem dJ1_indexOfChar_4cfef_28 : decode cJ1_indexOfChar_4cfef 28 = .ok (.goto (-21), 3) := by decide +kernel
theorem dJ1_indexOfChar_4cfef_31 : decode cJ1_indexOfChar_4cfef 31 = .ok (.iconst (-1), 1) := by decide +kernel
theorem dJ1_indexOfChar_4cfef_32 : decode cJ1_indexOfChar_4cfef 32 = .ok (.ireturn, 1) := by decide +kernel
theorem dJ2_getChar_3b067_0 : decode cJ2_getChar_3b067 0 = .ok (.getstatic 44, 3) := by decide +kernel
theorem dJ2_getChar_3b067_3 : decode cJ2_getChar_3b067 3 = .ok (.ifCond .ne 25, 3) := by decide +kernel
theorem dJ2_getChar_3b067_6 : decode cJ2_getChar_3b067 6 = .ok (.iload_n 1, 1) := by decide +kernel
theorem dJ2_getChar_3b067_7 : decode cJ2_getChar_3b067 7 = .ok (.ifCond .lt 11, 3) := by decide +kernel
theorem dJ2_getChar_3b067_10 : decode cJ2_getChar_3b067 10 = .ok (.iload_n 1, 1) := by decide +kernel
theorem dJ2_getChar_3b067_11 : decode cJ2_getChar_3b067 11 = .ok (.aload_n 0, 1) := by decide +kernel
theorem dJ2_getChar_3b067_12 : decode cJ2_getChar_3b067 12 = .ok (.invokestatic 48, 3) := by decide +kernel
theorem dJ2_getChar_3b067_15 : decode cJ2_getChar_3b067 15 = .ok (.if_icmp .lt 13, 3) := by decide +kernel
theorem dJ2_getChar_3b067_18 : decode cJ2_getChar_3b067 18 = .ok (.new 52, 3) := by decide +kernel
theorem dJ2_getChar_3b067_21 : decode cJ2_getChar_3b067 21 = .ok (.dup, 1) := by decide +kernel
theorem dJ2_getChar_3b067_22 : decode cJ2_getChar_3b067 22 = .ok (.ldc 54, 2) := by decide +kernel
theorem dJ2_getChar_3b067_24 : decode cJ2_getChar_3b067 24 = .ok (.invokespecial 56, 3) := by decide +kernel
theorem dJ2_getChar_3b067_27 : decode cJ2_getChar_3b067 27 = .ok (.athrow, 1) := by decide +kernel
theorem dJ2_getChar_3b067_28 : decode cJ2_getChar_3b067 28 = .ok (.iload_n 1, 1) := by decide +kernel
theorem dJ2_getChar_3b067_29 : decode cJ2_getChar_3b067 29 = .ok (.iconst 1, 1) := by decide +kernel
theorem dJ2_getChar_3b067_30 : decode cJ2_getChar_3b067 30 = .ok (.ishl, 1) := by decide +kernel
theorem dJ2_getChar_3b067_31 : decode cJ2_getChar_3b067 31 = .ok (.istore_n 1, 1) := by decide +kernel
theorem dJ2_getChar_3b067_32 : decode cJ2_getChar_3b067 32 = .ok (.aload_n 0, 1) := by decide +kernel
theorem dJ2_getChar_3b067_33 : decode cJ2_getChar_3b067 33 = .ok (.iload_n 1, 1) := by decide +kernel
theorem dJ2_getChar_3b067_34 : decode cJ2_getChar_3b067 34 = .ok (.iinc 1 1, 3) := by decide +kernel
theorem dJ2_getChar_3b067_37 : decode cJ2_getChar_3b067 37 = .ok (.baload, 1) := by decide +kernel
theorem dJ2_getChar_3b067_38 : decode cJ2_getChar_3b067 38 = .ok (.sipush 255, 3) := by decide +kernel
theorem dJ2_getChar_3b067_41 : decode cJ2_getChar_3b067 41 = .ok (.iand, 1) := by decide +kernel
theorem dJ2_getChar_3b067_42 : decode cJ2_getChar_3b067 42 = .ok (.getstatic 59, 3) := by decide +kernel
theorem dJ2_getChar_3b067_45 : decode cJ2_getChar_3b067 45 = .ok (.ishl, 1) := by decide +kernel
theorem dJ2_getChar_3b067_46 : decode cJ2_getChar_3b067 46 = .ok (.aload_n 0, 1) := by decide +kernel
theorem dJ2_getChar_3b067_47 : decode cJ2_getChar_3b067 47 = .ok (.iload_n 1, 1) := by decide +kernel
theorem dJ2_getChar_3b067_48 : decode cJ2_getChar_3b067 48 = .ok (.baload, 1) := by decide +kernel
theorem dJ2_getChar_3b067_49 : decode cJ2_getChar_3b067 49 = .ok (.sipush 255, 3) := by decide +kernel
theorem dJ2_getChar_3b067_52 : decode cJ2_getChar_3b067 52 = .ok (.iand, 1) := by decide +kernel
theorem dJ2_getChar_3b067_53 : decode cJ2_getChar_3b067 53 = .ok (.getstatic 63, 3) := by decide +kernel
theorem dJ2_getChar_3b067_56 : decode cJ2_getChar_3b067 56 = .ok (.ishl, 1) := by decide +kernel
theorem dJ2_getChar_3b067_57 : decode cJ2_getChar_3b067 57 = .ok (.ior, 1) := by decide +kernel
theorem dJ2_getChar_3b067_58 : decode cJ2_getChar_3b067 58 = .ok (.i2c, 1) := by decide +kernel
theorem dJ2_getChar_3b067_59 : decode cJ2_getChar_3b067 59 = .ok (.ireturn, 1) := by decide +kernel
theorem dJ2_length_9d52b_0 : decode cJ2_length_9d52b 0 = .ok (.aload_n 0, 1) := by decide +kernel
theorem dJ2_length_9d52b_1 : decode cJ2_length_9d52b 1 = .ok (.arraylength, 1) := by decide +kernel
theorem dJ2_length_9d52b_2 : decode cJ2_length_9d52b 2 = .ok (.iconst 1, 1) := by decide +kernel
theorem dJ2_length_9d52b_3 : decode cJ2_length_9d52b 3 = .ok (.ishr, 1) := by decide +kernel
theorem dJ2_length_9d52b_4 : decode cJ2_length_9d52b 4 = .ok (.ireturn, 1) := by decide +kernel
theorem dJ2_indexOf_4cfef_0 : decode cJ2_indexOf_4cfef 0 = .ok (.iload_n 2, 1) := by decide +kernel
theorem dJ2_indexOf_4cfef_1 : decode cJ2_indexOf_4cfef 1 = .ok (.iconst 0, 1) := by decide +kernel
theorem dJ2_indexOf_4cfef_2 : decode cJ2_indexOf_4cfef 2 = .ok (.invokestatic 224, 3) := by decide +kernel
theorem dJ2_indexOf_4cfef_5 : decode cJ2_indexOf_4cfef 5 = .ok (.istore_n 2, 1) := by decide +kernel
theorem dJ2_indexOf_4cfef_6 : decode cJ2_indexOf_4cfef 6 = .ok (.iload_n 3, 1) := by decide +kernel
theorem dJ2_indexOf_4cfef_7 : decode cJ2_indexOf_4cfef 7 = .ok (.aload_n 0, 1) := by decide +kernel
theorem dJ2_indexOf_4cfef_8 : decode cJ2_indexOf_4cfef 8 = .ok (.arraylength, 1) := by decide +kernel
theorem dJ2_indexOf_4cfef_9 : decode cJ2_indexOf_4cfef 9 = .ok (.iconst 1, 1) := by decide +kernel
theorem dJ2_indexOf_4cfef_10 : decode cJ2_indexOf_4cfef 10 = .ok (.ishr, 1) := by decide +kernel
theorem dJ2_indexOf_4cfef_11 : decode cJ2_indexOf_4cfef 11 = .ok (.invokestatic 183, 3) := by decide +kernel
theorem dJ2_indexOf_4cfef_14 : decode cJ2_indexOf_4cfef 14 = .ok (.istore_n 3, 1) := by decide +kernel
theorem dJ2_indexOf_4cfef_15 : decode cJ2_indexOf_4cfef 15 = .ok (.iload_n 2, 1) := by decide +kernel
theorem dJ2_indexOf_4cfef_16 : decode cJ2_indexOf_4cfef 16 = .ok (.iload_n 3, 1) := by decide +kernel
theorem dJ2_indexOf_4cfef_17 : decode cJ2_indexOf_4cfef 17 = .ok (.if_icmp .lt 5, 3) := by decide +kernel
theorem dJ2_indexOf_4cfef_20 : decode cJ2_indexOf_4cfef 20 = .ok (.iconst (-1), 1) := by decide +kernel
theorem dJ2_indexOf_4cfef_21 : decode cJ2_indexOf_4cfef 21 = .ok (.ireturn, 1) := by decide +kernel
theorem dJ2_indexOf_4cfef_22 : decode cJ2_indexOf_4cfef 22 = .ok (.iload_n 1, 1) := by decide +kernel
theorem dJ2_indexOf_4cfef_23 : decode cJ2_indexOf_4cfef 23 = .ok (.ldc 227, 2) := by decide +kernel
theorem dJ2_indexOf_4cfef_25 : decode cJ2_indexOf_4cfef 25 = .ok (.if_icmp .ge 11, 3) := by decide +kernel
theorem dJ2_indexOf_4cfef_28 : decode cJ2_indexOf_4cfef 28 = .ok (.aload_n 0, 1) := by decide +kernel
theorem dJ2_indexOf_4cfef_29 : decode cJ2_indexOf_4cfef 29 = .ok (.iload_n 1, 1) := by decide +kernel
theorem dJ2_indexOf_4cfef_30 : decode cJ2_indexOf_4cfef 30 = .ok (.iload_n 2, 1) := by decide +kernel
theorem dJ2_indexOf_4cfef_31 : decode cJ2_indexOf_4cfef 31 = .ok (.iload_n 3, 1) := by decide +kernel
theorem dJ2_indexOf_4cfef_32 : decode cJ2_indexOf_4cfef 32 = .ok (.invokestatic 228, 3) := by decide +kernel
theorem dJ2_indexOf_4cfef_35 : decode cJ2_indexOf_4cfef 35 = .ok (.ireturn, 1) := by decide +kernel
theorem dJ2_indexOf_4cfef_36 : decode cJ2_indexOf_4cfef 36 = .ok (.aload_n 0, 1) := by decide +kernel
theorem dJ2_indexOf_4cfef_37 : decode cJ2_indexOf_4cfef 37 = .ok (.iload_n 1, 1) := by decide +kernel
theorem dJ2_indexOf_4cfef_38 : decode cJ2_indexOf_4cfef 38 = .ok (.iload_n 2, 1) := by decide +kernel
theorem dJ2_indexOf_4cfef_39 : decode cJ2_indexOf_4cfef 39 = .ok (.iload_n 3, 1) := by decide +kernel
theorem dJ2_indexOf_4cfef_40 : decode cJ2_indexOf_4cfef 40 = .ok (.invokestatic 232, 3) := by decide +kernel
theorem dJ2_indexOf_4cfef_43 : decode cJ2_indexOf_4cfef 43 = .ok (.ireturn, 1) := by decide +kernel
theorem dJ2_indexOfChar_4cfef_0 : decode cJ2_indexOfChar_4cfef 0 = .ok (.iload_n 2, 1) := by decide +kernel
theorem dJ2_indexOfChar_4cfef_1 : decode cJ2_indexOfChar_4cfef 1 = .ok (.iload_n 3, 1) := by decide +kernel
theorem dJ2_indexOfChar_4cfef_2 : decode cJ2_indexOfChar_4cfef 2 = .ok (.aload_n 0, 1) := by decide +kernel
theorem dJ2_indexOfChar_4cfef_3 : decode cJ2_indexOfChar_4cfef 3 = .ok (.invokestatic 96, 3) := by decide +kernel
theorem dJ2_indexOfChar_4cfef_6 : decode cJ2_indexOfChar_4cfef 6 = .ok (.aload_n 0, 1) := by decide +kernel
theorem dJ2_indexOfChar_4cfef_7 : decode cJ2_indexOfChar_4cfef 7 = .ok (.iload_n 1, 1) := by decide +kernel
theorem dJ2_indexOfChar_4cfef_8 : decode cJ2_indexOfChar_4cfef 8 = .ok (.iload_n 2, 1) := by decide +kernel
theorem dJ2_indexOfChar_4cfef_9 : decode cJ2_indexOfChar_4cfef 9 = .ok (.iload_n 3, 1) := by decide +kernel
theorem dJ2_indexOfChar_4cfef_10 : decode cJ2_indexOfChar_4cfef 10 = .ok (.invokestatic 244, 3) := by decide +kernel
theorem dJ2_indexOfChar_4cfef_13 : decode cJ2_indexOfChar_4cfef 13 = .ok (.ireturn, 1) := by decide +kernel
theorem dJ2_indexOfCharUnsafe_4cfef_0 : decode cJ2_indexOfCharUnsafe_4cfef 0 = .ok (.iload_n 2, 1) := by decide +kernel
theorem dJ2_indexOfCharUnsafe_4cfef_1 : decode cJ2_indexOfCharUnsafe_4cfef 1 = .ok (.istore 4, 2) := by decide +kernel
theorem dJ2_indexOfCharUnsafe_4cfef_3 : decode cJ2_indexOfCharUnsafe_4cfef 3 = .ok (.iload 4, 2) := by decide +kernel
theorem dJ2_indexOfCharUnsafe_4cfef_5 : decode cJ2_indexOfCharUnsafe_4cfef 5 = .ok (.iload_n 3, 1) := by decide +kernel
theorem dJ2_indexOfCharUnsafe_4cfef_6 : decode cJ2_indexOfCharUnsafe_4cfef 6 = .ok (.if_icmp .ge 22, 3) := by decide +kernel
theorem dJ2_indexOfCharUnsafe_4cfef_9 : decode cJ2_indexOfCharUnsafe_4cfef 9 = .ok (.aload_n 0, 1) := by decide +kernel
theorem dJ2_indexOfCharUnsafe_4cfef_10 : decode cJ2_indexOfCharUnsafe_4cfef 10 = .ok (.iload 4, 2) := by decide +kernel
theorem dJ2_indexOfCharUnsafe_4cfef_12 : decode cJ2_indexOfCharUnsafe_4cfef 12 = .ok (.invokestatic 71, 3) := by decide +kernel
theorem dJ2_indexOfCharUnsafe_4cfef_15 : decode cJ2_indexOfCharUnsafe_4cfef 15 = .ok (.iload_n 1, 1) := by decide +kernel
theorem dJ2_indexOfCharUnsafe_4cfef_16 : decode cJ2_indexOfCharUnsafe_4cfef 16 = .ok (.if_icmp .ne 6, 3) := by decide +kernel
theorem dJ2_indexOfCharUnsafe_4cfef_19 : decode cJ2_indexOfCharUnsafe_4cfef 19 = .ok (.iload 4, 2) := by decide +kernel
theorem dJ2_indexOfCharUnsafe_4cfef_21 : decode cJ2_indexOfCharUnsafe_4cfef 21 = .ok (.ireturn, 1) := by decide +kernel
theorem dJ2_indexOfCharUnsafe_4cfef_22 : decode cJ2_indexOfCharUnsafe_4cfef 22 = .ok (.iinc 4 1, 3) := by decide +kernel
theorem dJ2_indexOfCharUnsafe_4cfef_25 : decode cJ2_indexOfCharUnsafe_4cfef 25 = .ok (.goto (-22), 3) := by decide +kernel
theorem dJ2_indexOfCharUnsafe_4cfef_28 : decode cJ2_indexOfCharUnsafe_4cfef 28 = .ok (.iconst (-1), 1) := by decide +kernel
theorem dJ2_indexOfCharUnsafe_4cfef_29 : decode cJ2_indexOfCharUnsafe_4cfef 29 = .ok (.ireturn, 1) := by decide +kernel
theorem dJ2_indexOfSupplementary_4cfef_0 : decode cJ2_indexOfSupplementary_4cfef 0 = .ok (.iload_n 1, 1) := by decide +kernel
theorem dJ2_indexOfSupplementary_4cfef_1 : decode cJ2_indexOfSupplementary_4cfef 1 = .ok (.invokestatic 164, 3) := by decide +kernel
theorem dJ2_indexOfSupplementary_4cfef_4 : decode cJ2_indexOfSupplementary_4cfef 4 = .ok (.ifCond .eq 65, 3) := by decide +kernel
theorem dJ2_indexOfSupplementary_4cfef_7 : decode cJ2_indexOfSupplementary_4cfef 7 = .ok (.iload_n 1, 1) := by decide +kernel
theorem dJ2_indexOfSupplementary_4cfef_8 : decode cJ2_indexOfSupplementary_4cfef 8 = .ok (.invokestatic 157, 3) := by decide +kernel
theorem dJ2_indexOfSupplementary_4cfef_11 : decode cJ2_indexOfSupplementary_4cfef 11 = .ok (.istore 4, 2) := by decide +kernel
theorem dJ2_indexOfSupplementary_4cfef_13 : decode cJ2_indexOfSupplementary_4cfef 13 = .ok (.iload_n 1, 1) := by decide +kernel
theorem dJ2_indexOfSupplementary_4cfef_14 : decode cJ2_indexOfSupplementary_4cfef 14 = .ok (.invokestatic 161, 3) := by decide +kernel
theorem dJ2_indexOfSupplementary_4cfef_17 : decode cJ2_indexOfSupplementary_4cfef 17 = .ok (.istore 5, 2) := by decide +kernel
theorem dJ2_indexOfSupplementary_4cfef_19 : decode cJ2_indexOfSupplementary_4cfef 19 = .ok (.iload_n 2, 1) := by decide +kernel
theorem dJ2_indexOfSupplementary_4cfef_20 : decode cJ2_indexOfSupplementary_4cfef 20 = .ok (.iload_n 3, 1) := by decide +kernel
theorem dJ2_indexOfSupplementary_4cfef_21 : decode cJ2_indexOfSupplementary_4cfef 21 = .ok (.aload_n 0, 1) := by decide +kernel
theorem dJ2_indexOfSupplementary_4cfef_22 : decode cJ2_indexOfSupplementary_4cfef 22 = .ok (.invokestatic 96, 3) := by decide +kernel
theorem dJ2_indexOfSupplementary_4cfef_25 : decode cJ2_indexOfSupplementary_4cfef 25 = .ok (.iload_n 2, 1) := by decide +kernel
theorem dJ2_indexOfSupplementary_4cfef_26 : decode cJ2_indexOfSupplementary_4cfef 26 = .ok (.istore 6, 2) := by decide +kernel
theorem dJ2_indexOfSupplementary_4cfef_28 : decode cJ2_indexOfSupplementary_4cfef 28 = .ok (.iload 6, 2) := by decide +kernel
theorem dJ2_indexOfSupplementary_4cfef_30 : decode cJ2_indexOfSupplementary_4cfef 30 = .ok (.iload_n 3, 1) := by decide +kernel
theorem dJ2_indexOfSupplementary_4cfef_31 : decode cJ2_indexOfSupplementary_4cfef 31 = .ok (.iconst 1, 1) := by decide +kernel
theorem dJ2_indexOfSupplementary_4cfef_32 : decode cJ2_indexOfSupplementary_4cfef 32 = .ok (.isub, 1) := by decide +kernel
theorem dJ2_indexOfSupplementary_4cfef_33 : decode cJ2_indexOfSupplementary_4cfef 33 = .ok (.if_icmp .ge 36, 3) := by decide +kernel
theorem dJ2_indexOfSupplementary_4cfef_36 : decode cJ2_indexOfSupplementary_4cfef 36 = .ok (.aload_n 0, 1) := by decide +kernel
theorem dJ2_indexOfSupplementary_4cfef_37 : decode cJ2_indexOfSupplementary_4cfef 37 = .ok (.iload 6, 2) := by decide +kernel
theorem dJ2_indexOfSupplementary_4cfef_39 : decode cJ2_indexOfSupplementary_4cfef 39 = .ok (.invokestatic 71, 3) := by decide +kernel
theorem dJ2_indexOfSupplementary_4cfef_42 : decode cJ2_indexOfSupplementary_4cfef 42 = .ok (.iload 4, 2) := by decide +kernel
theorem dJ2_indexOfSupplementary_4cfef_44 : decode cJ2_indexOfSupplementary_4cfef 44 = .ok (.if_icmp .ne 19, 3) := by decide +kernel
theorem dJ2_indexOfSupplementary_4cfef_47 : decode cJ2_indexOfSupplementary_4cfef 47 = .ok (.aload_n 0, 1) := by decide +kernel
theorem dJ2_indexOfSupplementary_4cfef_48 : decode cJ2_indexOfSupplementary_4cfef 48 = .ok (.iload 6, 2) := by decide +kernel
theorem dJ2_indexOfSupplementary_4cfef_50 : decode cJ2_indexOfSupplementary_4cfef 50 = .ok (.iconst 1, 1) := by decide +kernel
theorem dJ2_indexOfSupplementary_4cfef_51 : decode cJ2_indexOfSupplementary_4cfef 51 = .ok (.iadd, 1) := by decide +kernel
theorem dJ2_indexOfSupplementary_4cfef_52 : decode cJ2_indexOfSupplementary_4cfef 52 = .ok (.invokestatic 71, 3) := by decide +kernel
theorem dJ2_indexOfSupplementary_4cfef_55 : decode cJ2_indexOfSupplementary_4cfef 55 = .ok (.iload 5, 2) := by decide +kernel
theorem dJ2_indexOfSupplementary_4cfef_57 : decode cJ2_indexOfSupplementary_4cfef 57 = .ok (.if_icmp .ne 6, 3) := by decide +kernel
theorem dJ2_indexOfSupplementary_4cfef_60 : decode cJ2_indexOfSupplementary_4cfef 60 = .ok (.iload 6, 2) := by decide +kernel
theorem dJ2_indexOfSupplementary_4cfef_62 : decode cJ2_indexOfSupplementary_4cfef 62 = .ok (.ireturn, 1) := by decide +kernel
theorem dJ2_indexOfSupplementary_4cfef_63 : decode cJ2_indexOfSupplementary_4cfef 63 = .ok (.iinc 6 1, 3) := by decide +kernel
theorem dJ2_indexOfSupplementary_4cfef_66 : decode cJ2_indexOfSupplementary_4cfef 66 = .ok (.goto (-38), 3) := by decide +kernel
theorem dJ2_indexOfSupplementary_4cfef_69 : decode cJ2_indexOfSupplementary_4cfef 69 = .ok (.iconst (-1), 1) := by decide +kernel
theorem dJ2_indexOfSupplementary_4cfef_70 : decode cJ2_indexOfSupplementary_4cfef 70 = .ok (.ireturn, 1) := by decide +kernel
theorem dJ2_checkBoundsBeginEnd_d044e_0 : decode cJ2_checkBoundsBeginEnd_d044e 0 = .ok (.iload_n 0, 1) := by decide +kernel
theorem dJ2_checkBoundsBeginEnd_d044e_1 : decode cJ2_checkBoundsBeginEnd_d044e 1 = .ok (.iload_n 1, 1) := by decide +kernel
theorem dJ2_checkBoundsBeginEnd_d044e_2 : decode cJ2_checkBoundsBeginEnd_d044e 2 = .ok (.aload_n 2, 1) := by decide +kernel
theorem dJ2_checkBoundsBeginEnd_d044e_3 : decode cJ2_checkBoundsBeginEnd_d044e 3 = .ok (.invokestatic 48, 3) := by decide +kernel
theorem dJ2_checkBoundsBeginEnd_d044e_6 : decode cJ2_checkBoundsBeginEnd_d044e 6 = .ok (.invokestatic 241, 3) := by decide +kernel
theorem dJ2_checkBoundsBeginEnd_d044e_9 : decode cJ2_checkBoundsBeginEnd_d044e 9 = .ok (.return_, 1) := by decide +kernel
theorem dJ7_fill_53178_0 : decode cJ7_fill_53178 0 = .ok (.iconst 0, 1) := by decide +kernel
theorem dJ7_fill_53178_1 : decode cJ7_fill_53178 1 = .ok (.istore_n 2, 1) := by decide +kernel
theorem dJ7_fill_53178_2 : decode cJ7_fill_53178 2 = .ok (.aload_n 0, 1) := by decide +kernel
theorem dJ7_fill_53178_3 : decode cJ7_fill_53178 3 = .ok (.arraylength, 1) := by decide +kernel
theorem dJ7_fill_53178_4 : decode cJ7_fill_53178 4 = .ok (.istore_n 3, 1) := by decide +kernel
theorem dJ7_fill_53178_5 : decode cJ7_fill_53178 5 = .ok (.iload_n 2, 1) := by decide +kernel
theorem dJ7_fill_53178_6 : decode cJ7_fill_53178 6 = .ok (.iload_n 3, 1) := by decide +kernel
theorem dJ7_fill_53178_7 : decode cJ7_fill_53178 7 = .ok (.if_icmp .ge 13, 3) := by decide +kernel
theorem dJ7_fill_53178_10 : decode cJ7_fill_53178 10 = .ok (.aload_n 0, 1) := by decide +kernel
theorem dJ7_fill_53178_11 : decode cJ7_fill_53178 11 = .ok (.iload_n 2, 1) := by decide +kernel
theorem dJ7_fill_53178_12 : decode cJ7_fill_53178 12 = .ok (.iload_n 1, 1) := by decide +kernel
theorem dJ7_fill_53178_13 : decode cJ7_fill_53178 13 = .ok (.iastore, 1) := by decide +kernel
theorem dJ7_fill_53178_14 : decode cJ7_fill_53178 14 = .ok (.iinc 2 1, 3) := by decide +kernel
theorem dJ7_fill_53178_17 : decode cJ7_fill_53178 17 = .ok (.goto (-12), 3) := by decide +kernel
theorem dJ7_fill_53178_20 : decode cJ7_fill_53178 20 = .ok (.return_, 1) := by decide +kernel
theorem dJ3_checkFromToIndex_8c36e_0 : decode cJ3_checkFromToIndex_8c36e 0 = .ok (.iload_n 0, 1) := by decide +kernel
theorem dJ3_checkFromToIndex_8c36e_1 : decode cJ3_checkFromToIndex_8c36e 1 = .ok (.ifCond .lt 13, 3) := by decide +kernel
theorem dJ3_checkFromToIndex_8c36e_4 : decode cJ3_checkFromToIndex_8c36e 4 = .ok (.iload_n 0, 1) := by decide +kernel
theorem dJ3_checkFromToIndex_8c36e_5 : decode cJ3_checkFromToIndex_8c36e 5 = .ok (.iload_n 1, 1) := by decide +kernel
theorem dJ3_checkFromToIndex_8c36e_6 : decode cJ3_checkFromToIndex_8c36e 6 = .ok (.if_icmp .gt 8, 3) := by decide +kernel
theorem dJ3_checkFromToIndex_8c36e_9 : decode cJ3_checkFromToIndex_8c36e 9 = .ok (.iload_n 1, 1) := by decide +kernel
theorem dJ3_checkFromToIndex_8c36e_10 : decode cJ3_checkFromToIndex_8c36e 10 = .ok (.iload_n 2, 1) := by decide +kernel
theorem dJ3_checkFromToIndex_8c36e_11 : decode cJ3_checkFromToIndex_8c36e 11 = .ok (.if_icmp .le 11, 3) := by decide +kernel
theorem dJ3_checkFromToIndex_8c36e_14 : decode cJ3_checkFromToIndex_8c36e 14 = .ok (.aload_n 3, 1) := by decide +kernel
theorem dJ3_checkFromToIndex_8c36e_15 : decode cJ3_checkFromToIndex_8c36e 15 = .ok (.iload_n 0, 1) := by decide +kernel
theorem dJ3_checkFromToIndex_8c36e_16 : decode cJ3_checkFromToIndex_8c36e 16 = .ok (.iload_n 1, 1) := by decide +kernel
theorem dJ3_checkFromToIndex_8c36e_17 : decode cJ3_checkFromToIndex_8c36e 17 = .ok (.iload_n 2, 1) := by decide +kernel
theorem dJ3_checkFromToIndex_8c36e_18 : decode cJ3_checkFromToIndex_8c36e 18 = .ok (.invokestatic 99, 3) := by decide +kernel
theorem dJ3_checkFromToIndex_8c36e_21 : decode cJ3_checkFromToIndex_8c36e 21 = .ok (.athrow, 1) := by decide +kernel
theorem dJ3_checkFromToIndex_8c36e_22 : decode cJ3_checkFromToIndex_8c36e 22 = .ok (.iload_n 0, 1) := by decide +kernel
theorem dJ3_checkFromToIndex_8c36e_23 : decode cJ3_checkFromToIndex_8c36e 23 = .ok (.ireturn, 1) := by decide +kernel
theorem dL_law_0 : decode cL_law 0 = .ok (.new 7, 3) := by decide +kernel
theorem dL_law_3 : decode cL_law 3 = .ok (.dup, 1) := by decide +kernel
theorem dL_law_4 : decode cL_law 4 = .ok (.invokespecial 9, 3) := by decide +kernel
theorem dL_law_7 : decode cL_law 7 = .ok (.astore_n 1, 1) := by decide +kernel
theorem dL_law_8 : decode cL_law 8 = .ok (.new 10, 3) := by decide +kernel
theorem dL_law_11 : decode cL_law 11 = .ok (.dup, 1) := by decide +kernel
theorem dL_law_12 : decode cL_law 12 = .ok (.invokespecial 12, 3) := by decide +kernel
theorem dL_law_15 : decode cL_law 15 = .ok (.astore_n 2, 1) := by decide +kernel
theorem dL_law_16 : decode cL_law 16 = .ok (.iconst 0, 1) := by decide +kernel
theorem dL_law_17 : decode cL_law 17 = .ok (.istore_n 3, 1) := by decide +kernel
theorem dL_law_18 : decode cL_law 18 = .ok (.iload_n 3, 1) := by decide +kernel
theorem dL_law_19 : decode cL_law 19 = .ok (.aload_n 0, 1) := by decide +kernel
theorem dL_law_20 : decode cL_law 20 = .ok (.arraylength, 1) := by decide +kernel
theorem dL_law_21 : decode cL_law 21 = .ok (.bipush 7, 2) := by decide +kernel
theorem dL_law_23 : decode cL_law 23 = .ok (.isub, 1) := by decide +kernel
theorem dL_law_24 : decode cL_law 24 = .ok (.if_icmp .gt 1554, 3) := by decide +kernel
theorem dL_law_27 : decode cL_law 27 = .ok (.aload_n 0, 1) := by decide +kernel
theorem dL_law_28 : decode cL_law 28 = .ok (.iload_n 3, 1) := by decide +kernel
theorem dL_law_29 : decode cL_law 29 = .ok (.iaload, 1) := by decide +kernel
theorem dL_law_30 : decode cL_law 30 = .ok (.bipush 63, 2) := by decide +kernel
theorem dL_law_32 : decode cL_law 32 = .ok (.iand, 1) := by decide +kernel
theorem dL_law_33 : decode cL_law 33 = .ok (.tableswitch 1539 0 42 #[187, 230, 273, 336, 359, 382, 395, 408, 421, 444, 477, 500, 533, 566, 599, 632, 655, 698, 721, 744, 777, 790, 833, 886, 919, 952, 985, 1008, 1031, 1054, 1067, 1110, 1185, 1238, 1302, 1345, 1368, 1391, 1414, 1447, 1480, 1503, 1526], 187) := by decide +kernel
theorem dL_law_220 : decode cL_law 220 = .ok (.aload_n 1, 1) := by decide +kernel
theorem dL_law_221 : decode cL_law 221 = .ok (.aload_n 0, 1) := by decide +kernel
theorem dL_law_222 : decode cL_law 222 = .ok (.iload_n 3, 1) := by decide +kernel
theorem dL_law_223 : decode cL_law 223 = .ok (.iconst 1, 1) := by decide +kernel
theorem dL_law_224 : decode cL_law 224 = .ok (.iadd, 1) := by decide +kernel
theorem dL_law_225 : decode cL_law 225 = .ok (.iaload, 1) := by decide +kernel
theorem dL_law_226 : decode cL_law 226 = .ok (.aload_n 0, 1) := by decide +kernel
theorem dL_law_227 : decode cL_law 227 = .ok (.iload_n 3, 1) := by decide +kernel
theorem dL_law_228 : decode cL_law 228 = .ok (.iconst 2, 1) := by decide +kernel
theorem dL_law_229 : decode cL_law 229 = .ok (.iadd, 1) := by decide +kernel
theorem dL_law_230 : decode cL_law 230 = .ok (.iaload, 1) := by decide +kernel
theorem dL_law_231 : decode cL_law 231 = .ok (.aload_n 0, 1) := by decide +kernel
theorem dL_law_232 : decode cL_law 232 = .ok (.iload_n 3, 1) := by decide +kernel
theorem dL_law_233 : decode cL_law 233 = .ok (.iconst 3, 1) := by decide +kernel
theorem dL_law_234 : decode cL_law 234 = .ok (.iadd, 1) := by decide +kernel
theorem dL_law_235 : decode cL_law 235 = .ok (.iaload, 1) := by decide +kernel
theorem dL_law_236 : decode cL_law 236 = .ok (.invokevirtual 13, 3) := by decide +kernel
theorem dL_law_239 : decode cL_law 239 = .ok (.aload_n 2, 1) := by decide +kernel
theorem dL_law_240 : decode cL_law 240 = .ok (.aload_n 0, 1) := by decide +kernel
theorem dL_law_241 : decode cL_law 241 = .ok (.iload_n 3, 1) := by decide +kernel
theorem dL_law_242 : decode cL_law 242 = .ok (.iconst 1, 1) := by decide +kernel
theorem dL_law_243 : decode cL_law 243 = .ok (.iadd, 1) := by decide +kernel
theorem dL_law_244 : decode cL_law 244 = .ok (.iaload, 1) := by decide +kernel
theorem dL_law_245 : decode cL_law 245 = .ok (.aload_n 0, 1) := by decide +kernel
theorem dL_law_246 : decode cL_law 246 = .ok (.iload_n 3, 1) := by decide +kernel
theorem dL_law_247 : decode cL_law 247 = .ok (.iconst 2, 1) := by decide +kernel
theorem dL_law_248 : decode cL_law 248 = .ok (.iadd, 1) := by decide +kernel
theorem dL_law_249 : decode cL_law 249 = .ok (.iaload, 1) := by decide +kernel
theorem dL_law_250 : decode cL_law 250 = .ok (.aload_n 0, 1) := by decide +kernel
theorem dL_law_251 : decode cL_law 251 = .ok (.iload_n 3, 1) := by decide +kernel
theorem dL_law_252 : decode cL_law 252 = .ok (.iconst 3, 1) := by decide +kernel
theorem dL_law_253 : decode cL_law 253 = .ok (.iadd, 1) := by decide +kernel
theorem dL_law_254 : decode cL_law 254 = .ok (.iaload, 1) := by decide +kernel
theorem dL_law_255 : decode cL_law 255 = .ok (.invokevirtual 17, 3) := by decide +kernel
theorem dL_law_258 : decode cL_law 258 = .ok (.if_icmp .eq 1314, 3) := by decide +kernel
theorem dL_law_261 : decode cL_law 261 = .ok (.iconst 0, 1) := by decide +kernel
theorem dL_law_262 : decode cL_law 262 = .ok (.ireturn, 1) := by decide +kernel
theorem dL_law_263 : decode cL_law 263 = .ok (.aload_n 1, 1) := by decide +kernel
theorem dL_law_264 : decode cL_law 264 = .ok (.aload_n 0, 1) := by decide +kernel
theorem dL_law_265 : decode cL_law 265 = .ok (.iload_n 3, 1) := by decide +kernel
theorem dL_law_266 : decode cL_law 266 = .ok (.iconst 1, 1) := by decide +kernel
theorem dL_law_267 : decode cL_law 267 = .ok (.iadd, 1) := by decide +kernel
theorem dL_law_268 : decode cL_law 268 = .ok (.iaload, 1) := by decide +kernel
theorem dL_law_269 : decode cL_law 269 = .ok (.aload_n 0, 1) := by decide +kernel
theorem dL_law_270 : decode cL_law 270 = .ok (.iload_n 3, 1) := by decide +kernel
theorem dL_law_271 : decode cL_law 271 = .ok (.iconst 2, 1) := by decide +kernel
theorem dL_law_272 : decode cL_law 272 = .ok (.iadd, 1) := by decide +kernel
theorem dL_law_273 : decode cL_law 273 = .ok (.iaload, 1) := by decide +kernel
theorem dL_law_274 : decode cL_law 274 = .ok (.aload_n 0, 1) := by decide +kernel
theorem dL_law_275 : decode cL_law 275 = .ok (.iload_n 3, 1) := by decide +kernel
theorem dL_law_276 : decode cL_law 276 = .ok (.iconst 3, 1) := by decide +kernel
theorem dL_law_277 : decode cL_law 277 = .ok (.iadd, 1) := by decide +kernel
theorem dL_law_278 : decode cL_law 278 = .ok (.iaload, 1) := by decide +kernel
theorem dL_law_279 : decode cL_law 279 = .ok (.invokevirtual 18, 3) := by decide +kernel
theorem dL_law_282 : decode cL_law 282 = .ok (.aload_n 2, 1) := by decide +kernel
theorem dL_law_283 : decode cL_law 283 = .ok (.aload_n 0, 1) := by decide +kernel
theorem dL_law_284 : decode cL_law 284 = .ok (.iload_n 3, 1) := by decide +kernel
theorem dL_law_285 : decode cL_law 285 = .ok (.iconst 1, 1) := by decide +kernel
theorem dL_law_286 : decode cL_law 286 = .ok (.iadd, 1) := by decide +kernel
theorem dL_law_287 : decode cL_law 287 = .ok (.iaload, 1) := by decide +kernel
theorem dL_law_288 : decode cL_law 288 = .ok (.aload_n 0, 1) := by decide +kernel
theorem dL_law_289 : decode cL_law 289 = .ok (.iload_n 3, 1) := by decide +kernel
theorem dL_law_290 : decode cL_law 290 = .ok (.iconst 2, 1) := by decide +kernel
theorem dL_law_291 : decode cL_law 291 = .ok (.iadd, 1) := by decide +kernel
theorem dL_law_292 : decode cL_law 292 = .ok (.iaload, 1) := by decide +kernel
theorem dL_law_293 : decode cL_law 293 = .ok (.aload_n 0, 1) := by decide +kernel
theorem dL_law_294 : decode cL_law 294 = .ok (.iload_n 3, 1) := by decide +kernel
theorem dL_law_295 : decode cL_law 295 = .ok (.iconst 3, 1) := by decide +kernel
theorem dL_law_296 : decode cL_law 296 = .ok (.iadd, 1) := by decide +kernel
theorem dL_law_297 : decode cL_law 297 = .ok (.iaload, 1) := by decide +kernel
theorem dL_law_298 : decode cL_law 298 = .ok (.invokevirtual 21, 3) := by decide +kernel
theorem dL_law_301 : decode cL_law 301 = .ok (.if_icmp .eq 1271, 3) := by decide +kernel
theorem dL_law_304 : decode cL_law 304 = .ok (.iconst 0, 1) := by decide +kernel
theorem dL_law_305 : decode cL_law 305 = .ok (.ireturn, 1) := by decide +kernel
theorem dL_law_306 : decode cL_law 306 = .ok (.aload_n 1, 1) := by decide +kernel
theorem dL_law_307 : decode cL_law 307 = .ok (.aload_n 0, 1) := by decide +kernel
theorem dL_law_308 : decode cL_law 308 = .ok (.iload_n 3, 1) := by decide +kernel
theorem dL_law_309 : decode cL_law 309 = .ok (.iconst 1, 1) := by decide +kernel
theorem dL_law_310 : decode cL_law 310 = .ok (.iadd, 1) := by decide +kernel
theorem dL_law_311 : decode cL_law 311 = .ok (.iaload, 1) := by decide +kernel
theorem dL_law_312 : decode cL_law 312 = .ok (.aload_n 0, 1) := by decide +kernel
theorem dL_law_313 : decode cL_law 313 = .ok (.iload_n 3, 1) := by decide +kernel
theorem dL_law_314 : decode cL_law 314 = .ok (.iconst 2, 1) := by decide +kernel
theorem dL_law_315 : decode cL_law 315 = .ok (.iadd, 1) := by decide +kernel
theorem dL_law_316 : decode cL_law 316 = .ok (.iaload, 1) := by decide +kernel
theorem dL_law_317 : decode cL_law 317 = .ok (.aload_n 0, 1) := by decide +kernel
theorem dL_law_318 : decode cL_law 318 = .ok (.iload_n 3, 1) := by decide +kernel
theorem dL_law_319 : decode cL_law 319 = .ok (.iconst 3, 1) := by decide +kernel
theorem dL_law_320 : decode cL_law 320 = .ok (.iadd, 1) := by decide +kernel
theorem dL_law_321 : decode cL_law 321 = .ok (.iaload, 1) := by decide +kernel
theorem dL_law_322 : decode cL_law 322 = .ok (.aload_n 0, 1) := by decide +kernel
theorem dL_law_323 : decode cL_law 323 = .ok (.iload_n 3, 1) := by decide +kernel
theorem dL_law_324 : decode cL_law 324 = .ok (.iconst 4, 1) := by decide +kernel
theorem dL_law_325 : decode cL_law 325 = .ok (.iadd, 1) := by decide +kernel
theorem dL_law_326 : decode cL_law 326 = .ok (.iaload, 1) := by decide +kernel
theorem dL_law_327 : decode cL_law 327 = .ok (.aload_n 0, 1) := by decide +kernel
theorem dL_law_328 : decode cL_law 328 = .ok (.iload_n 3, 1) := by decide +kernel
theorem dL_law_329 : decode cL_law 329 = .ok (.iconst 5, 1) := by decide +kernel
theorem dL_law_330 : decode cL_law 330 = .ok (.iadd, 1) := by decide +kernel
theorem dL_law_331 : decode cL_law 331 = .ok (.iaload, 1) := by decide +kernel
theorem dL_law_332 : decode cL_law 332 = .ok (.invokevirtual 22, 3) := by decide +kernel
theorem dL_law_335 : decode cL_law 335 = .ok (.aload_n 2, 1) := by decide +kernel
theorem dL_law_336 : decode cL_law 336 = .ok (.aload_n 0, 1) := by decide +kernel
theorem dL_law_337 : decode cL_law 337 = .ok (.iload_n 3, 1) := by decide +kernel
theorem dL_law_338 : decode cL_law 338 = .ok (.iconst 1, 1) := by decide +kernel
theorem dL_law_339 : decode cL_law 339 = .ok (.iadd, 1) := by decide +kernel
theorem dL_law_340 : decode cL_law 340 = .ok (.iaload, 1) := by decide +kernel
theorem dL_law_341 : decode cL_law 341 = .ok (.aload_n 0, 1) := by decide +kernel
theorem dL_law_342 : decode cL_law 342 = .ok (.iload_n 3, 1) := by decide +kernel
theorem dL_law_343 : decode cL_law 343 = .ok (.iconst 2, 1) := by decide +kernel
theorem dL_law_344 : decode cL_law 344 = .ok (.iadd, 1) := by decide +kernel
theorem dL_law_345 : decode cL_law 345 = .ok (.iaload, 1) := by decide +kernel
theorem dL_law_346 : decode cL_law 346 = .ok (.aload_n 0, 1) := by decide +kernel
theorem dL_law_347 : decode cL_law 347 = .ok (.iload_n 3, 1) := by decide +kernel
theorem dL_law_348 : decode cL_law 348 = .ok (.iconst 3, 1) := by decide +kernel
theorem dL_law_349 : decode cL_law 349 = .ok (.iadd, 1) := by decide +kernel
theorem dL_law_350 : decode cL_law 350 = .ok (.iaload, 1) := by decide +kernel
theorem dL_law_351 : decode cL_law 351 = .ok (.aload_n 0, 1) := by decide +kernel
theorem dL_law_352 : decode cL_law 352 = .ok (.iload_n 3, 1) := by decide +kernel
theorem dL_law_353 : decode cL_law 353 = .ok (.iconst 4, 1) := by decide +kernel
theorem dL_law_354 : decode cL_law 354 = .ok (.iadd, 1) := by decide +kernel
theorem dL_law_355 : decode cL_law 355 = .ok (.iaload, 1) := by decide +kernel
theorem dL_law_356 : decode cL_law 356 = .ok (.aload_n 0, 1) := by decide +kernel
theorem dL_law_357 : decode cL_law 357 = .ok (.iload_n 3, 1) := by decide +kernel
theorem dL_law_358 : decode cL_law 358 = .ok (.iconst 5, 1) := by decide +kernel
theorem dL_law_359 : decode cL_law 359 = .ok (.iadd, 1) := by decide +kernel
theorem dL_law_360 : decode cL_law 360 = .ok (.iaload, 1) := by decide +kernel
theorem dL_law_361 : decode cL_law 361 = .ok (.invokevirtual 26, 3) := by decide +kernel
theorem dL_law_364 : decode cL_law 364 = .ok (.if_icmp .eq 1208, 3) := by decide +kernel
theorem dL_law_367 : decode cL_law 367 = .ok (.iconst 0, 1) := by decide +kernel
theorem dL_law_368 : decode cL_law 368 = .ok (.ireturn, 1) := by decide +kernel
theorem dL_law_369 : decode cL_law 369 = .ok (.aload_n 1, 1) := by decide +kernel
theorem dL_law_370 : decode cL_law 370 = .ok (.aload_n 0, 1) := by decide +kernel
theorem dL_law_371 : decode cL_law 371 = .ok (.iload_n 3, 1) := by decide +kernel
theorem dL_law_372 : decode cL_law 372 = .ok (.iconst 1, 1) := by decide +kernel
theorem dL_law_373 : decode cL_law 373 = .ok (.iadd, 1) := by decide +kernel
theorem dL_law_374 : decode cL_law 374 = .ok (.iaload, 1) := by decide +kernel
theorem dL_law_375 : decode cL_law 375 = .ok (.invokevirtual 27, 3) := by decide +kernel
theorem dL_law_378 : decode cL_law 378 = .ok (.aload_n 2, 1) := by decide +kernel
theorem dL_law_379 : decode cL_law 379 = .ok (.aload_n 0, 1) := by decide +kernel
theorem dL_law_380 : decode cL_law 380 = .ok (.iload_n 3, 1) := by decide +kernel
theorem dL_law_381 : decode cL_law 381 = .ok (.iconst 1, 1) := by decide +kernel
theorem dL_law_382 : decode cL_law 382 = .ok (.iadd, 1) := by decide +kernel
theorem dL_law_383 : decode cL_law 383 = .ok (.iaload, 1) := by decide +kernel
theorem dL_law_384 : decode cL_law 384 = .ok (.invokevirtual 31, 3) := by decide +kernel
theorem dL_law_387 : decode cL_law 387 = .ok (.if_icmp .eq 1185, 3) := by decide +kernel
theorem dL_law_390 : decode cL_law 390 = .ok (.iconst 0, 1) := by decide +kernel
theorem dL_law_391 : decode cL_law 391 = .ok (.ireturn, 1) := by decide +kernel
theorem dL_law_392 : decode cL_law 392 = .ok (.aload_n 1, 1) := by decide +kernel
theorem dL_law_393 : decode cL_law 393 = .ok (.aload_n 0, 1) := by decide +kernel
theorem dL_law_394 : decode cL_law 394 = .ok (.iload_n 3, 1) := by decide +kernel
theorem dL_law_395 : decode cL_law 395 = .ok (.iconst 1, 1) := by decide +kernel
theorem dL_law_396 : decode cL_law 396 = .ok (.iadd, 1) := by decide +kernel
theorem dL_law_397 : decode cL_law 397 = .ok (.iaload, 1) := by decide +kernel
theorem dL_law_398 : decode cL_law 398 = .ok (.invokevirtual 32, 3) := by decide +kernel
theorem dL_law_401 : decode cL_law 401 = .ok (.aload_n 2, 1) := by decide +kernel
theorem dL_law_402 : decode cL_law 402 = .ok (.aload_n 0, 1) := by decide +kernel
theorem dL_law_403 : decode cL_law 403 = .ok (.iload_n 3, 1) := by decide +kernel
theorem dL_law_404 : decode cL_law 404 = .ok (.iconst 1, 1) := by decide +kernel
theorem dL_law_405 : decode cL_law 405 = .ok (.iadd, 1) := by decide +kernel
theorem dL_law_406 : decode cL_law 406 = .ok (.iaload, 1) := by decide +kernel
theorem dL_law_407 : decode cL_law 407 = .ok (.invokevirtual 35, 3) := by decide +kernel
theorem dL_law_410 : decode cL_law 410 = .ok (.if_icmp .eq 1162, 3) := by decide +kernel
theorem dL_law_413 : decode cL_law 413 = .ok (.iconst 0, 1) := by decide +kernel
theorem dL_law_414 : decode cL_law 414 = .ok (.ireturn, 1) := by decide +kernel
theorem dL_law_415 : decode cL_law 415 = .ok (.aload_n 1, 1) := by decide +kernel
theorem dL_law_416 : decode cL_law 416 = .ok (.invokevirtual 36, 3) := by decide +kernel
theorem dL_law_419 : decode cL_law 419 = .ok (.aload_n 2, 1) := by decide +kernel
theorem dL_law_420 : decode cL_law 420 = .ok (.invokevirtual 40, 3) := by decide +kernel
theorem dL_law_423 : decode cL_law 423 = .ok (.if_icmp .eq 1149, 3) := by decide +kernel
theorem dL_law_426 : decode cL_law 426 = .ok (.iconst 0, 1) := by decide +kernel
theorem dL_law_427 : decode cL_law 427 = .ok (.ireturn, 1) := by decide +kernel
theorem dL_law_428 : decode cL_law 428 = .ok (.aload_n 1, 1) := by decide +kernel
theorem dL_law_429 : decode cL_law 429 = .ok (.invokevirtual 41, 3) := by decide +kernel
theorem dL_law_432 : decode cL_law 432 = .ok (.aload_n 2, 1) := by decide +kernel
theorem dL_law_433 : decode cL_law 433 = .ok (.invokevirtual 44, 3) := by decide +kernel
theorem dL_law_436 : decode cL_law 436 = .ok (.if_icmp .eq 1136, 3) := by decide +kernel
theorem dL_law_439 : decode cL_law 439 = .ok (.iconst 0, 1) := by decide +kernel
theorem dL_law_440 : decode cL_law 440 = .ok (.ireturn, 1) := by decide +kernel
theorem dL_law_441 : decode cL_law 441 = .ok (.aload_n 1, 1) := by decide +kernel
theorem dL_law_442 : decode cL_law 442 = .ok (.invokevirtual 45, 3) := by decide +kernel
theorem dL_law_445 : decode cL_law 445 = .ok (.aload_n 2, 1) := by decide +kernel
theorem dL_law_446 : decode cL_law 446 = .ok (.invokevirtual 48, 3) := by decide +kernel
theorem dL_law_449 : decode cL_law 449 = .ok (.if_icmp .eq 1123, 3) := by decide +kernel
theorem dL_law_452 : decode cL_law 452 = .ok (.iconst 0, 1) := by decide +kernel
theorem dL_law_453 : decode cL_law 453 = .ok (.ireturn, 1) := by decide +kernel
theorem dL_law_454 : decode cL_law 454 = .ok (.aload_n 1, 1) := by decide +kernel
theorem dL_law_455 : decode cL_law 455 = .ok (.aload_n 0, 1) := by decide +kernel
theorem dL_law_456 : decode cL_law 456 = .ok (.iload_n 3, 1) := by decide +kernel
theorem dL_law_457 : decode cL_law 457 = .ok (.iconst 1, 1) := by decide +kernel
theorem dL_law_458 : decode cL_law 458 = .ok (.iadd, 1) := by decide +kernel
theorem dL_law_459 : decode cL_law 459 = .ok (.iaload, 1) := by decide +kernel
theorem dL_law_460 : decode cL_law 460 = .ok (.invokevirtual 49, 3) := by decide +kernel
theorem dL_law_463 : decode cL_law 463 = .ok (.aload_n 2, 1) := by decide +kernel
theorem dL_law_464 : decode cL_law 464 = .ok (.aload_n 0, 1) := by decide +kernel
theorem dL_law_465 : decode cL_law 465 = .ok (.iload_n 3, 1) := by decide +kernel
theorem dL_law_466 : decode cL_law 466 = .ok (.iconst 1, 1) := by decide +kernel
theorem dL_law_467 : decode cL_law 467 = .ok (.iadd, 1) := by decide +kernel
theorem dL_law_468 : decode cL_law 468 = .ok (.iaload, 1) := by decide +kernel
theorem dL_law_469 : decode cL_law 469 = .ok (.invokevirtual 52, 3) := by decide +kernel
theorem dL_law_472 : decode cL_law 472 = .ok (.if_icmp .eq 1100, 3) := by decide +kernel
theorem dL_law_475 : decode cL_law 475 = .ok (.iconst 0, 1) := by decide +kernel
theorem dL_law_476 : decode cL_law 476 = .ok (.ireturn, 1) := by decide +kernel
theorem dL_law_477 : decode cL_law 477 = .ok (.aload_n 1, 1) := by decide +kernel
theorem dL_law_478 : decode cL_law 478 = .ok (.aload_n 0, 1) := by decide +kernel
theorem dL_law_479 : decode cL_law 479 = .ok (.iload_n 3, 1) := by decide +kernel
theorem dL_law_480 : decode cL_law 480 = .ok (.iconst 1, 1) := by decide +kernel
theorem dL_law_481 : decode cL_law 481 = .ok (.iadd, 1) := by decide +kernel
theorem dL_law_482 : decode cL_law 482 = .ok (.iaload, 1) := by decide +kernel
theorem dL_law_483 : decode cL_law 483 = .ok (.aload_n 0, 1) := by decide +kernel
theorem dL_law_484 : decode cL_law 484 = .ok (.iload_n 3, 1) := by decide +kernel
theorem dL_law_485 : decode cL_law 485 = .ok (.iconst 2, 1) := by decide +kernel
theorem dL_law_486 : decode cL_law 486 = .ok (.iadd, 1) := by decide +kernel
theorem dL_law_487 : decode cL_law 487 = .ok (.iaload, 1) := by decide +kernel
theorem dL_law_488 : decode cL_law 488 = .ok (.invokevirtual 53, 3) := by decide +kernel
theorem dL_law_491 : decode cL_law 491 = .ok (.aload_n 2, 1) := by decide +kernel
theorem dL_law_492 : decode cL_law 492 = .ok (.aload_n 0, 1) := by decide +kernel
theorem dL_law_493 : decode cL_law 493 = .ok (.iload_n 3, 1) := by decide +kernel
theorem dL_law_494 : decode cL_law 494 = .ok (.iconst 1, 1) := by decide +kernel
theorem dL_law_495 : decode cL_law 495 = .ok (.iadd, 1) := by decide +kernel
theorem dL_law_496 : decode cL_law 496 = .ok (.iaload, 1) := by decide +kernel
theorem dL_law_497 : decode cL_law 497 = .ok (.aload_n 0, 1) := by decide +kernel
theorem dL_law_498 : decode cL_law 498 = .ok (.iload_n 3, 1) := by decide +kernel
theorem dL_law_499 : decode cL_law 499 = .ok (.iconst 2, 1) := by decide +kernel
theorem dL_law_500 : decode cL_law 500 = .ok (.iadd, 1) := by decide +kernel
theorem dL_law_501 : decode cL_law 501 = .ok (.iaload, 1) := by decide +kernel
theorem dL_law_502 : decode cL_law 502 = .ok (.invokevirtual 57, 3) := by decide +kernel
theorem dL_law_505 : decode cL_law 505 = .ok (.if_icmp .eq 1067, 3) := by decide +kernel
theorem dL_law_508 : decode cL_law 508 = .ok (.iconst 0, 1) := by decide +kernel
theorem dL_law_509 : decode cL_law 509 = .ok (.ireturn, 1) := by decide +kernel
theorem dL_law_510 : decode cL_law 510 = .ok (.aload_n 1, 1) := by decide +kernel
theorem dL_law_511 : decode cL_law 511 = .ok (.aload_n 0, 1) := by decide +kernel
theorem dL_law_512 : decode cL_law 512 = .ok (.iload_n 3, 1) := by decide +kernel
theorem dL_law_513 : decode cL_law 513 = .ok (.iconst 1, 1) := by decide +kernel
theorem dL_law_514 : decode cL_law 514 = .ok (.iadd, 1) := by decide +kernel
theorem dL_law_515 : decode cL_law 515 = .ok (.iaload, 1) := by decide +kernel
theorem dL_law_516 : decode cL_law 516 = .ok (.invokevirtual 58, 3) := by decide +kernel
theorem dL_law_519 : decode cL_law 519 = .ok (.aload_n 2, 1) := by decide +kernel
theorem dL_law_520 : decode cL_law 520 = .ok (.aload_n 0, 1) := by decide +kernel
theorem dL_law_521 : decode cL_law 521 = .ok (.iload_n 3, 1) := by decide +kernel
theorem dL_law_522 : decode cL_law 522 = .ok (.iconst 1, 1) := by decide +kernel
theorem dL_law_523 : decode cL_law 523 = .ok (.iadd, 1) := by decide +kernel
theorem dL_law_524 : decode cL_law 524 = .ok (.iaload, 1) := by decide +kernel
theorem dL_law_525 : decode cL_law 525 = .ok (.invokevirtual 61, 3) := by decide +kernel
theorem dL_law_528 : decode cL_law 528 = .ok (.if_icmp .eq 1044, 3) := by decide +kernel
theorem dL_law_531 : decode cL_law 531 = .ok (.iconst 0, 1) := by decide +kernel
theorem dL_law_532 : decode cL_law 532 = .ok (.ireturn, 1) := by decide +kernel
theorem dL_law_533 : decode cL_law 533 = .ok (.aload_n 1, 1) := by decide +kernel
theorem dL_law_534 : decode cL_law 534 = .ok (.aload_n 0, 1) := by decide +kernel
theorem dL_law_535 : decode cL_law 535 = .ok (.iload_n 3, 1) := by decide +kernel
theorem dL_law_536 : decode cL_law 536 = .ok (.iconst 1, 1) := by decide +kernel
theorem dL_law_537 : decode cL_law 537 = .ok (.iadd, 1) := by decide +kernel
theorem dL_law_538 : decode cL_law 538 = .ok (.iaload, 1) := by decide +kernel
theorem dL_law_539 : decode cL_law 539 = .ok (.aload_n 0, 1) := by decide +kernel
theorem dL_law_540 : decode cL_law 540 = .ok (.iload_n 3, 1) := by decide +kernel
theorem dL_law_541 : decode cL_law 541 = .ok (.iconst 2, 1) := by decide +kernel
theorem dL_law_542 : decode cL_law 542 = .ok (.iadd, 1) := by decide +kernel
theorem dL_law_543 : decode cL_law 543 = .ok (.iaload, 1) := by decide +kernel
theorem dL_law_544 : decode cL_law 544 = .ok (.invokevirtual 62, 3) := by decide +kernel
theorem dL_law_547 : decode cL_law 547 = .ok (.aload_n 2, 1) := by decide +kernel
theorem dL_law_548 : decode cL_law 548 = .ok (.aload_n 0, 1) := by decide +kernel
theorem dL_law_549 : decode cL_law 549 = .ok (.iload_n 3, 1) := by decide +kernel
theorem dL_law_550 : decode cL_law 550 = .ok (.iconst 1, 1) := by decide +kernel
theorem dL_law_551 : decode cL_law 551 = .ok (.iadd, 1) := by decide +kernel
theorem dL_law_552 : decode cL_law 552 = .ok (.iaload, 1) := by decide +kernel
theorem dL_law_553 : decode cL_law 553 = .ok (.aload_n 0, 1) := by decide +kernel
theorem dL_law_554 : decode cL_law 554 = .ok (.iload_n 3, 1) := by decide +kernel
theorem dL_law_555 : decode cL_law 555 = .ok (.iconst 2, 1) := by decide +kernel
theorem dL_law_556 : decode cL_law 556 = .ok (.iadd, 1) := by decide +kernel
theorem dL_law_557 : decode cL_law 557 = .ok (.iaload, 1) := by decide +kernel
theorem dL_law_558 : decode cL_law 558 = .ok (.invokevirtual 65, 3) := by decide +kernel
theorem dL_law_561 : decode cL_law 561 = .ok (.if_icmp .eq 1011, 3) := by decide +kernel
theorem dL_law_564 : decode cL_law 564 = .ok (.iconst 0, 1) := by decide +kernel
theorem dL_law_565 : decode cL_law 565 = .ok (.ireturn, 1) := by decide +kernel
theorem dL_law_566 : decode cL_law 566 = .ok (.aload_n 1, 1) := by decide +kernel
theorem dL_law_567 : decode cL_law 567 = .ok (.aload_n 0, 1) := by decide +kernel
theorem dL_law_568 : decode cL_law 568 = .ok (.iload_n 3, 1) := by decide +kernel
theorem dL_law_569 : decode cL_law 569 = .ok (.iconst 1, 1) := by decide +kernel
theorem dL_law_570 : decode cL_law 570 = .ok (.iadd, 1) := by decide +kernel
theorem dL_law_571 : decode cL_law 571 = .ok (.iaload, 1) := by decide +kernel
theorem dL_law_572 : decode cL_law 572 = .ok (.aload_n 0, 1) := by decide +kernel
theorem dL_law_573 : decode cL_law 573 = .ok (.iload_n 3, 1) := by decide +kernel
theorem dL_law_574 : decode cL_law 574 = .ok (.iconst 2, 1) := by decide +kernel
theorem dL_law_575 : decode cL_law 575 = .ok (.iadd, 1) := by decide +kernel
theorem dL_law_576 : decode cL_law 576 = .ok (.iaload, 1) := by decide +kernel
theorem dL_law_577 : decode cL_law 577 = .ok (.invokevirtual 66, 3) := by decide +kernel
theorem dL_law_580 : decode cL_law 580 = .ok (.aload_n 2, 1) := by decide +kernel
theorem dL_law_581 : decode cL_law 581 = .ok (.aload_n 0, 1) := by decide +kernel
theorem dL_law_582 : decode cL_law 582 = .ok (.iload_n 3, 1) := by decide +kernel
theorem dL_law_583 : decode cL_law 583 = .ok (.iconst 1, 1) := by decide +kernel
theorem dL_law_584 : decode cL_law 584 = .ok (.iadd, 1) := by decide +kernel
theorem dL_law_585 : decode cL_law 585 = .ok (.iaload, 1) := by decide +kernel
theorem dL_law_586 : decode cL_law 586 = .ok (.aload_n 0, 1) := by decide +kernel
theorem dL_law_587 : decode cL_law 587 = .ok (.iload_n 3, 1) := by decide +kernel
theorem dL_law_588 : decode cL_law 588 = .ok (.iconst 2, 1) := by decide +kernel
theorem dL_law_589 : decode cL_law 589 = .ok (.iadd, 1) := by decide +kernel
theorem dL_law_590 : decode cL_law 590 = .ok (.iaload, 1) := by decide +kernel
theorem dL_law_591 : decode cL_law 591 = .ok (.invokevirtual 69, 3) := by decide +kernel
theorem dL_law_594 : decode cL_law 594 = .ok (.if_icmp .eq 978, 3) := by decide +kernel
theorem dL_law_597 : decode cL_law 597 = .ok (.iconst 0, 1) := by decide +kernel
theorem dL_law_598 : decode cL_law 598 = .ok (.ireturn, 1) := by decide +kernel
theorem dL_law_599 : decode cL_law 599 = .ok (.aload_n 1, 1) := by decide +kernel
theorem dL_law_600 : decode cL_law 600 = .ok (.aload_n 0, 1) := by decide +kernel
theorem dL_law_601 : decode cL_law 601 = .ok (.iload_n 3, 1) := by decide +kernel
theorem dL_law_602 : decode cL_law 602 = .ok (.iconst 1, 1) := by decide +kernel
theorem dL_law_603 : decode cL_law 603 = .ok (.iadd, 1) := by decide +kernel
theorem dL_law_604 : decode cL_law 604 = .ok (.iaload, 1) := by decide +kernel
theorem dL_law_605 : decode cL_law 605 = .ok (.aload_n 0, 1) := by decide +kernel
theorem dL_law_606 : decode cL_law 606 = .ok (.iload_n 3, 1) := by decide +kernel
theorem dL_law_607 : decode cL_law 607 = .ok (.iconst 2, 1) := by decide +kernel
theorem dL_law_608 : decode cL_law 608 = .ok (.iadd, 1) := by decide +kernel
theorem dL_law_609 : decode cL_law 609 = .ok (.iaload, 1) := by decide +kernel
theorem dL_law_610 : decode cL_law 610 = .ok (.invokevirtual 70, 3) := by decide +kernel
theorem dL_law_613 : decode cL_law 613 = .ok (.aload_n 2, 1) := by decide +kernel
theorem dL_law_614 : decode cL_law 614 = .ok (.aload_n 0, 1) := by decide +kernel
theorem dL_law_615 : decode cL_law 615 = .ok (.iload_n 3, 1) := by decide +kernel
theorem dL_law_616 : decode cL_law 616 = .ok (.iconst 1, 1) := by decide +kernel
theorem dL_law_617 : decode cL_law 617 = .ok (.iadd, 1) := by decide +kernel
theorem dL_law_618 : decode cL_law 618 = .ok (.iaload, 1) := by decide +kernel
theorem dL_law_619 : decode cL_law 619 = .ok (.aload_n 0, 1) := by decide +kernel
theorem dL_law_620 : decode cL_law 620 = .ok (.iload_n 3, 1) := by decide +kernel
theorem dL_law_621 : decode cL_law 621 = .ok (.iconst 2, 1) := by decide +kernel
theorem dL_law_622 : decode cL_law 622 = .ok (.iadd, 1) := by decide +kernel
theorem dL_law_623 : decode cL_law 623 = .ok (.iaload, 1) := by decide +kernel
theorem dL_law_624 : decode cL_law 624 = .ok (.invokevirtual 73, 3) := by decide +kernel
theorem dL_law_627 : decode cL_law 627 = .ok (.if_icmp .eq 945, 3) := by decide +kernel
theorem dL_law_630 : decode cL_law 630 = .ok (.iconst 0, 1) := by decide +kernel
theorem dL_law_631 : decode cL_law 631 = .ok (.ireturn, 1) := by decide +kernel
theorem dL_law_632 : decode cL_law 632 = .ok (.aload_n 1, 1) := by decide +kernel
theorem dL_law_633 : decode cL_law 633 = .ok (.aload_n 0, 1) := by decide +kernel
theorem dL_law_634 : decode cL_law 634 = .ok (.iload_n 3, 1) := by decide +kernel
theorem dL_law_635 : decode cL_law 635 = .ok (.iconst 1, 1) := by decide +kernel
theorem dL_law_636 : decode cL_law 636 = .ok (.iadd, 1) := by decide +kernel
theorem dL_law_637 : decode cL_law 637 = .ok (.iaload, 1) := by decide +kernel
theorem dL_law_638 : decode cL_law 638 = .ok (.aload_n 0, 1) := by decide +kernel
theorem dL_law_639 : decode cL_law 639 = .ok (.iload_n 3, 1) := by decide +kernel
theorem dL_law_640 : decode cL_law 640 = .ok (.iconst 2, 1) := by decide +kernel
theorem dL_law_641 : decode cL_law 641 = .ok (.iadd, 1) := by decide +kernel
theorem dL_law_642 : decode cL_law 642 = .ok (.iaload, 1) := by decide +kernel
theorem dL_law_643 : decode cL_law 643 = .ok (.invokevirtual 74, 3) := by decide +kernel
theorem dL_law_646 : decode cL_law 646 = .ok (.aload_n 2, 1) := by decide +kernel
theorem dL_law_647 : decode cL_law 647 = .ok (.aload_n 0, 1) := by decide +kernel
theorem dL_law_648 : decode cL_law 648 = .ok (.iload_n 3, 1) := by decide +kernel
theorem dL_law_649 : decode cL_law 649 = .ok (.iconst 1, 1) := by decide +kernel
theorem dL_law_650 : decode cL_law 650 = .ok (.iadd, 1) := by decide +kernel
theorem dL_law_651 : decode cL_law 651 = .ok (.iaload, 1) := by decide +kernel
theorem dL_law_652 : decode cL_law 652 = .ok (.aload_n 0, 1) := by decide +kernel
theorem dL_law_653 : decode cL_law 653 = .ok (.iload_n 3, 1) := by decide +kernel
theorem dL_law_654 : decode cL_law 654 = .ok (.iconst 2, 1) := by decide +kernel
theorem dL_law_655 : decode cL_law 655 = .ok (.iadd, 1) := by decide +kernel
theorem dL_law_656 : decode cL_law 656 = .ok (.iaload, 1) := by decide +kernel
theorem dL_law_657 : decode cL_law 657 = .ok (.invokevirtual 77, 3) := by decide +kernel
theorem dL_law_660 : decode cL_law 660 = .ok (.if_icmp .eq 912, 3) := by decide +kernel
theorem dL_law_663 : decode cL_law 663 = .ok (.iconst 0, 1) := by decide +kernel
theorem dL_law_664 : decode cL_law 664 = .ok (.ireturn, 1) := by decide +kernel
theorem dL_law_665 : decode cL_law 665 = .ok (.aload_n 1, 1) := by decide +kernel
theorem dL_law_666 : decode cL_law 666 = .ok (.aload_n 0, 1) := by decide +kernel
theorem dL_law_667 : decode cL_law 667 = .ok (.iload_n 3, 1) := by decide +kernel
theorem dL_law_668 : decode cL_law 668 = .ok (.iconst 1, 1) := by decide +kernel
theorem dL_law_669 : decode cL_law 669 = .ok (.iadd, 1) := by decide +kernel
theorem dL_law_670 : decode cL_law 670 = .ok (.iaload, 1) := by decide +kernel
theorem dL_law_671 : decode cL_law 671 = .ok (.invokevirtual 78, 3) := by decide +kernel
theorem dL_law_674 : decode cL_law 674 = .ok (.aload_n 2, 1) := by decide +kernel
theorem dL_law_675 : decode cL_law 675 = .ok (.aload_n 0, 1) := by decide +kernel
theorem dL_law_676 : decode cL_law 676 = .ok (.iload_n 3, 1) := by decide +kernel
theorem dL_law_677 : decode cL_law 677 = .ok (.iconst 1, 1) := by decide +kernel
theorem dL_law_678 : decode cL_law 678 = .ok (.iadd, 1) := by decide +kernel
theorem dL_law_679 : decode cL_law 679 = .ok (.iaload, 1) := by decide +kernel
theorem dL_law_680 : decode cL_law 680 = .ok (.invokevirtual 81, 3) := by decide +kernel
theorem dL_law_683 : decode cL_law 683 = .ok (.if_icmp .eq 889, 3) := by decide +kernel
theorem dL_law_686 : decode cL_law 686 = .ok (.iconst 0, 1) := by decide +kernel
theorem dL_law_687 : decode cL_law 687 = .ok (.ireturn, 1) := by decide +kernel
theorem dL_law_688 : decode cL_law 688 = .ok (.aload_n 1, 1) := by decide +kernel
theorem dL_law_689 : decode cL_law 689 = .ok (.aload_n 0, 1) := by decide +kernel
theorem dL_law_690 : decode cL_law 690 = .ok (.iload_n 3, 1) := by decide +kernel
theorem dL_law_691 : decode cL_law 691 = .ok (.iconst 1, 1) := by decide +kernel
theorem dL_law_692 : decode cL_law 692 = .ok (.iadd, 1) := by decide +kernel
theorem dL_law_693 : decode cL_law 693 = .ok (.iaload, 1) := by decide +kernel
theorem dL_law_694 : decode cL_law 694 = .ok (.aload_n 0, 1) := by decide +kernel
theorem dL_law_695 : decode cL_law 695 = .ok (.iload_n 3, 1) := by decide +kernel
theorem dL_law_696 : decode cL_law 696 = .ok (.iconst 2, 1) := by decide +kernel
theorem dL_law_697 : decode cL_law 697 = .ok (.iadd, 1) := by decide +kernel
theorem dL_law_698 : decode cL_law 698 = .ok (.iaload, 1) := by decide +kernel
theorem dL_law_699 : decode cL_law 699 = .ok (.aload_n 0, 1) := by decide +kernel
theorem dL_law_700 : decode cL_law 700 = .ok (.iload_n 3, 1) := by decide +kernel
theorem dL_law_701 : decode cL_law 701 = .ok (.iconst 3, 1) := by decide +kernel
theorem dL_law_702 : decode cL_law 702 = .ok (.iadd, 1) := by decide +kernel
theorem dL_law_703 : decode cL_law 703 = .ok (.iaload, 1) := by decide +kernel
theorem dL_law_704 : decode cL_law 704 = .ok (.invokevirtual 82, 3) := by decide +kernel
theorem dL_law_707 : decode cL_law 707 = .ok (.aload_n 2, 1) := by decide +kernel
theorem dL_law_708 : decode cL_law 708 = .ok (.aload_n 0, 1) := by decide +kernel
theorem dL_law_709 : decode cL_law 709 = .ok (.iload_n 3, 1) := by decide +kernel
theorem dL_law_710 : decode cL_law 710 = .ok (.iconst 1, 1) := by decide +kernel
theorem dL_law_711 : decode cL_law 711 = .ok (.iadd, 1) := by decide +kernel
theorem dL_law_712 : decode cL_law 712 = .ok (.iaload, 1) := by decide +kernel
theorem dL_law_713 : decode cL_law 713 = .ok (.aload_n 0, 1) := by decide +kernel
theorem dL_law_714 : decode cL_law 714 = .ok (.iload_n 3, 1) := by decide +kernel
theorem dL_law_715 : decode cL_law 715 = .ok (.iconst 2, 1) := by decide +kernel
theorem dL_law_716 : decode cL_law 716 = .ok (.iadd, 1) := by decide +kernel
theorem dL_law_717 : decode cL_law 717 = .ok (.iaload, 1) := by decide +kernel
theorem dL_law_718 : decode cL_law 718 = .ok (.aload_n 0, 1) := by decide +kernel
theorem dL_law_719 : decode cL_law 719 = .ok (.iload_n 3, 1) := by decide +kernel
theorem dL_law_720 : decode cL_law 720 = .ok (.iconst 3, 1) := by decide +kernel
theorem dL_law_721 : decode cL_law 721 = .ok (.iadd, 1) := by decide +kernel
theorem dL_law_722 : decode cL_law 722 = .ok (.iaload, 1) := by decide +kernel
theorem dL_law_723 : decode cL_law 723 = .ok (.invokevirtual 85, 3) := by decide +kernel
theorem dL_law_726 : decode cL_law 726 = .ok (.if_icmp .eq 846, 3) := by decide +kernel
theorem dL_law_729 : decode cL_law 729 = .ok (.iconst 0, 1) := by decide +kernel
theorem dL_law_730 : decode cL_law 730 = .ok (.ireturn, 1) := by decide +kernel
theorem dL_law_731 : decode cL_law 731 = .ok (.aload_n 1, 1) := by decide +kernel
theorem dL_law_732 : decode cL_law 732 = .ok (.aload_n 0, 1) := by decide +kernel
theorem dL_law_733 : decode cL_law 733 = .ok (.iload_n 3, 1) := by decide +kernel
theorem dL_law_734 : decode cL_law 734 = .ok (.iconst 1, 1) := by decide +kernel
theorem dL_law_735 : decode cL_law 735 = .ok (.iadd, 1) := by decide +kernel
theorem dL_law_736 : decode cL_law 736 = .ok (.iaload, 1) := by decide +kernel
theorem dL_law_737 : decode cL_law 737 = .ok (.invokevirtual 86, 3) := by decide +kernel
theorem dL_law_740 : decode cL_law 740 = .ok (.aload_n 2, 1) := by decide +kernel
theorem dL_law_741 : decode cL_law 741 = .ok (.aload_n 0, 1) := by decide +kernel
theorem dL_law_742 : decode cL_law 742 = .ok (.iload_n 3, 1) := by decide +kernel
theorem dL_law_743 : decode cL_law 743 = .ok (.iconst 1, 1) := by decide +kernel
theorem dL_law_744 : decode cL_law 744 = .ok (.iadd, 1) := by decide +kernel
theorem dL_law_745 : decode cL_law 745 = .ok (.iaload, 1) := by decide +kernel
theorem dL_law_746 : decode cL_law 746 = .ok (.invokevirtual 89, 3) := by decide +kernel
theorem dL_law_749 : decode cL_law 749 = .ok (.if_icmp .eq 823, 3) := by decide +kernel
theorem dL_law_752 : decode cL_law 752 = .ok (.iconst 0, 1) := by decide +kernel
theorem dL_law_753 : decode cL_law 753 = .ok (.ireturn, 1) := by decide +kernel
theorem dL_law_754 : decode cL_law 754 = .ok (.aload_n 1, 1) := by decide +kernel
theorem dL_law_755 : decode cL_law 755 = .ok (.aload_n 0, 1) := by decide +kernel
theorem dL_law_756 : decode cL_law 756 = .ok (.iload_n 3, 1) := by decide +kernel
theorem dL_law_757 : decode cL_law 757 = .ok (.iconst 1, 1) := by decide +kernel
theorem dL_law_758 : decode cL_law 758 = .ok (.iadd, 1) := by decide +kernel
theorem dL_law_759 : decode cL_law 759 = .ok (.iaload, 1) := by decide +kernel
theorem dL_law_760 : decode cL_law 760 = .ok (.invokevirtual 90, 3) := by decide +kernel
theorem dL_law_763 : decode cL_law 763 = .ok (.aload_n 2, 1) := by decide +kernel
theorem dL_law_764 : decode cL_law 764 = .ok (.aload_n 0, 1) := by decide +kernel
theorem dL_law_765 : decode cL_law 765 = .ok (.iload_n 3, 1) := by decide +kernel
theorem dL_law_766 : decode cL_law 766 = .ok (.iconst 1, 1) := by decide +kernel
theorem dL_law_767 : decode cL_law 767 = .ok (.iadd, 1) := by decide +kernel
theorem dL_law_768 : decode cL_law 768 = .ok (.iaload, 1) := by decide +kernel
theorem dL_law_769 : decode cL_law 769 = .ok (.invokevirtual 93, 3) := by decide +kernel
theorem dL_law_772 : decode cL_law 772 = .ok (.if_icmp .eq 800, 3) := by decide +kernel
theorem dL_law_775 : decode cL_law 775 = .ok (.iconst 0, 1) := by decide +kernel
theorem dL_law_776 : decode cL_law 776 = .ok (.ireturn, 1) := by decide +kernel
theorem dL_law_777 : decode cL_law 777 = .ok (.aload_n 1, 1) := by decide +kernel
theorem dL_law_778 : decode cL_law 778 = .ok (.aload_n 0, 1) := by decide +kernel
theorem dL_law_779 : decode cL_law 779 = .ok (.iload_n 3, 1) := by decide +kernel
theorem dL_law_780 : decode cL_law 780 = .ok (.iconst 1, 1) := by decide +kernel
theorem dL_law_781 : decode cL_law 781 = .ok (.iadd, 1) := by decide +kernel
theorem dL_law_782 : decode cL_law 782 = .ok (.iaload, 1) := by decide +kernel
theorem dL_law_783 : decode cL_law 783 = .ok (.aload_n 0, 1) := by decide +kernel
theorem dL_law_784 : decode cL_law 784 = .ok (.iload_n 3, 1) := by decide +kernel
theorem dL_law_785 : decode cL_law 785 = .ok (.iconst 2, 1) := by decide +kernel
theorem dL_law_786 : decode cL_law 786 = .ok (.iadd, 1) := by decide +kernel
theorem dL_law_787 : decode cL_law 787 = .ok (.iaload, 1) := by decide +kernel
theorem dL_law_788 : decode cL_law 788 = .ok (.invokevirtual 94, 3) := by decide +kernel
theorem dL_law_791 : decode cL_law 791 = .ok (.aload_n 2, 1) := by decide +kernel
theorem dL_law_792 : decode cL_law 792 = .ok (.aload_n 0, 1) := by decide +kernel
theorem dL_law_793 : decode cL_law 793 = .ok (.iload_n 3, 1) := by decide +kernel
theorem dL_law_794 : decode cL_law 794 = .ok (.iconst 1, 1) := by decide +kernel
theorem dL_law_795 : decode cL_law 795 = .ok (.iadd, 1) := by decide +kernel
theorem dL_law_796 : decode cL_law 796 = .ok (.iaload, 1) := by decide +kernel
theorem dL_law_797 : decode cL_law 797 = .ok (.aload_n 0, 1) := by decide +kernel
theorem dL_law_798 : decode cL_law 798 = .ok (.iload_n 3, 1) := by decide +kernel
theorem dL_law_799 : decode cL_law 799 = .ok (.iconst 2, 1) := by decide +kernel
theorem dL_law_800 : decode cL_law 800 = .ok (.iadd, 1) := by decide +kernel
theorem dL_law_801 : decode cL_law 801 = .ok (.iaload, 1) := by decide +kernel
theorem dL_law_802 : decode cL_law 802 = .ok (.invokevirtual 97, 3) := by decide +kernel
theorem dL_law_805 : decode cL_law 805 = .ok (.if_icmp .eq 767, 3) := by decide +kernel
theorem dL_law_808 : decode cL_law 808 = .ok (.iconst 0, 1) := by decide +kernel
theorem dL_law_809 : decode cL_law 809 = .ok (.ireturn, 1) := by decide +kernel
theorem dL_law_810 : decode cL_law 810 = .ok (.aload_n 1, 1) := by decide +kernel
theorem dL_law_811 : decode cL_law 811 = .ok (.invokevirtual 98, 3) := by decide +kernel
theorem dL_law_814 : decode cL_law 814 = .ok (.aload_n 2, 1) := by decide +kernel
theorem dL_law_815 : decode cL_law 815 = .ok (.invokevirtual 101, 3) := by decide +kernel
theorem dL_law_818 : decode cL_law 818 = .ok (.if_icmp .eq 754, 3) := by decide +kernel
theorem dL_law_821 : decode cL_law 821 = .ok (.iconst 0, 1) := by decide +kernel
theorem dL_law_822 : decode cL_law 822 = .ok (.ireturn, 1) := by decide +kernel
theorem dL_law_823 : decode cL_law 823 = .ok (.aload_n 1, 1) := by decide +kernel
theorem dL_law_824 : decode cL_law 824 = .ok (.aload_n 0, 1) := by decide +kernel
theorem dL_law_825 : decode cL_law 825 = .ok (.iload_n 3, 1) := by decide +kernel
theorem dL_law_826 : decode cL_law 826 = .ok (.iconst 1, 1) := by decide +kernel
theorem dL_law_827 : decode cL_law 827 = .ok (.iadd, 1) := by decide +kernel
theorem dL_law_828 : decode cL_law 828 = .ok (.iaload, 1) := by decide +kernel
theorem dL_law_829 : decode cL_law 829 = .ok (.aload_n 0, 1) := by decide +kernel
theorem dL_law_830 : decode cL_law 830 = .ok (.iload_n 3, 1) := by decide +kernel
theorem dL_law_831 : decode cL_law 831 = .ok (.iconst 2, 1) := by decide +kernel
theorem dL_law_832 : decode cL_law 832 = .ok (.iadd, 1) := by decide +kernel
theorem dL_law_833 : decode cL_law 833 = .ok (.iaload, 1) := by decide +kernel
theorem dL_law_834 : decode cL_law 834 = .ok (.aload_n 0, 1) := by decide +kernel
theorem dL_law_835 : decode cL_law 835 = .ok (.iload_n 3, 1) := by decide +kernel
theorem dL_law_836 : decode cL_law 836 = .ok (.iconst 3, 1) := by decide +kernel
theorem dL_law_837 : decode cL_law 837 = .ok (.iadd, 1) := by decide +kernel
theorem dL_law_838 : decode cL_law 838 = .ok (.iaload, 1) := by decide +kernel
theorem dL_law_839 : decode cL_law 839 = .ok (.invokevirtual 102, 3) := by decide +kernel
theorem dL_law_842 : decode cL_law 842 = .ok (.aload_n 2, 1) := by decide +kernel
theorem dL_law_843 : decode cL_law 843 = .ok (.aload_n 0, 1) := by decide +kernel
theorem dL_law_844 : decode cL_law 844 = .ok (.iload_n 3, 1) := by decide +kernel
theorem dL_law_845 : decode cL_law 845 = .ok (.iconst 1, 1) := by decide +kernel
theorem dL_law_846 : decode cL_law 846 = .ok (.iadd, 1) := by decide +kernel
theorem dL_law_847 : decode cL_law 847 = .ok (.iaload, 1) := by decide +kernel
theorem dL_law_848 : decode cL_law 848 = .ok (.aload_n 0, 1) := by decide +kernel
theorem dL_law_849 : decode cL_law 849 = .ok (.iload_n 3, 1) := by decide +kernel
theorem dL_law_850 : decode cL_law 850 = .ok (.iconst 2, 1) := by decide +kernel
theorem dL_law_851 : decode cL_law 851 = .ok (.iadd, 1) := by decide +kernel
theorem dL_law_852 : decode cL_law 852 = .ok (.iaload, 1) := by decide +kernel
theorem dL_law_853 : decode cL_law 853 = .ok (.aload_n 0, 1) := by decide +kernel
theorem dL_law_854 : decode cL_law 854 = .ok (.iload_n 3, 1) := by decide +kernel
theorem dL_law_855 : decode cL_law 855 = .ok (.iconst 3, 1) := by decide +kernel
theorem dL_law_856 : decode cL_law 856 = .ok (.iadd, 1) := by decide +kernel
theorem dL_law_857 : decode cL_law 857 = .ok (.iaload, 1) := by decide +kernel
theorem dL_law_858 : decode cL_law 858 = .ok (.invokevirtual 105, 3) := by decide +kernel
theorem dL_law_861 : decode cL_law 861 = .ok (.if_icmp .eq 711, 3) := by decide +kernel
theorem dL_law_864 : decode cL_law 864 = .ok (.iconst 0, 1) := by decide +kernel
theorem dL_law_865 : decode cL_law 865 = .ok (.ireturn, 1) := by decide +kernel
theorem dL_law_866 : decode cL_law 866 = .ok (.aload_n 1, 1) := by decide +kernel
theorem dL_law_867 : decode cL_law 867 = .ok (.aload_n 0, 1) := by decide +kernel
theorem dL_law_868 : decode cL_law 868 = .ok (.iload_n 3, 1) := by decide +kernel
theorem dL_law_869 : decode cL_law 869 = .ok (.iconst 1, 1) := by decide +kernel
theorem dL_law_870 : decode cL_law 870 = .ok (.iadd, 1) := by decide +kernel
theorem dL_law_871 : decode cL_law 871 = .ok (.iaload, 1) := by decide +kernel
theorem dL_law_872 : decode cL_law 872 = .ok (.aload_n 0, 1) := by decide +kernel
theorem dL_law_873 : decode cL_law 873 = .ok (.iload_n 3, 1) := by decide +kernel
theorem dL_law_874 : decode cL_law 874 = .ok (.iconst 2, 1) := by decide +kernel
theorem dL_law_875 : decode cL_law 875 = .ok (.iadd, 1) := by decide +kernel
theorem dL_law_876 : decode cL_law 876 = .ok (.iaload, 1) := by decide +kernel
theorem dL_law_877 : decode cL_law 877 = .ok (.aload_n 0, 1) := by decide +kernel
theorem dL_law_878 : decode cL_law 878 = .ok (.iload_n 3, 1) := by decide +kernel
theorem dL_law_879 : decode cL_law 879 = .ok (.iconst 3, 1) := by decide +kernel
theorem dL_law_880 : decode cL_law 880 = .ok (.iadd, 1) := by decide +kernel
theorem dL_law_881 : decode cL_law 881 = .ok (.iaload, 1) := by decide +kernel
theorem dL_law_882 : decode cL_law 882 = .ok (.aload_n 0, 1) := by decide +kernel
theorem dL_law_883 : decode cL_law 883 = .ok (.iload_n 3, 1) := by decide +kernel
theorem dL_law_884 : decode cL_law 884 = .ok (.iconst 4, 1) := by decide +kernel
theorem dL_law_885 : decode cL_law 885 = .ok (.iadd, 1) := by decide +kernel
theorem dL_law_886 : decode cL_law 886 = .ok (.iaload, 1) := by decide +kernel
theorem dL_law_887 : decode cL_law 887 = .ok (.invokevirtual 106, 3) := by decide +kernel
theorem dL_law_890 : decode cL_law 890 = .ok (.aload_n 2, 1) := by decide +kernel
theorem dL_law_891 : decode cL_law 891 = .ok (.aload_n 0, 1) := by decide +kernel
theorem dL_law_892 : decode cL_law 892 = .ok (.iload_n 3, 1) := by decide +kernel
theorem dL_law_893 : decode cL_law 893 = .ok (.iconst 1, 1) := by decide +kernel
theorem dL_law_894 : decode cL_law 894 = .ok (.iadd, 1) := by decide +kernel
theorem dL_law_895 : decode cL_law 895 = .ok (.iaload, 1) := by decide +kernel
theorem dL_law_896 : decode cL_law 896 = .ok (.aload_n 0, 1) := by decide +kernel
theorem dL_law_897 : decode cL_law 897 = .ok (.iload_n 3, 1) := by decide +kernel
theorem dL_law_898 : decode cL_law 898 = .ok (.iconst 2, 1) := by decide +kernel
theorem dL_law_899 : decode cL_law 899 = .ok (.iadd, 1) := by decide +kernel
theorem dL_law_900 : decode cL_law 900 = .ok (.iaload, 1) := by decide +kernel
theorem dL_law_901 : decode cL_law 901 = .ok (.aload_n 0, 1) := by decide +kernel
theorem dL_law_902 : decode cL_law 902 = .ok (.iload_n 3, 1) := by decide +kernel
theorem dL_law_903 : decode cL_law 903 = .ok (.iconst 3, 1) := by decide +kernel
theorem dL_law_904 : decode cL_law 904 = .ok (.iadd, 1) := by decide +kernel
theorem dL_law_905 : decode cL_law 905 = .ok (.iaload, 1) := by decide +kernel
theorem dL_law_906 : decode cL_law 906 = .ok (.aload_n 0, 1) := by decide +kernel
theorem dL_law_907 : decode cL_law 907 = .ok (.iload_n 3, 1) := by decide +kernel
theorem dL_law_908 : decode cL_law 908 = .ok (.iconst 4, 1) := by decide +kernel
theorem dL_law_909 : decode cL_law 909 = .ok (.iadd, 1) := by decide +kernel
theorem dL_law_910 : decode cL_law 910 = .ok (.iaload, 1) := by decide +kernel
theorem dL_law_911 : decode cL_law 911 = .ok (.invokevirtual 110, 3) := by decide +kernel
theorem dL_law_914 : decode cL_law 914 = .ok (.if_icmp .eq 658, 3) := by decide +kernel
theorem dL_law_917 : decode cL_law 917 = .ok (.iconst 0, 1) := by decide +kernel
theorem dL_law_918 : decode cL_law 918 = .ok (.ireturn, 1) := by decide +kernel
theorem dL_law_919 : decode cL_law 919 = .ok (.aload_n 1, 1) := by decide +kernel
theorem dL_law_920 : decode cL_law 920 = .ok (.aload_n 0, 1) := by decide +kernel
theorem dL_law_921 : decode cL_law 921 = .ok (.iload_n 3, 1) := by decide +kernel
theorem dL_law_922 : decode cL_law 922 = .ok (.iconst 1, 1) := by decide +kernel
theorem dL_law_923 : decode cL_law 923 = .ok (.iadd, 1) := by decide +kernel
theorem dL_law_924 : decode cL_law 924 = .ok (.iaload, 1) := by decide +kernel
theorem dL_law_925 : decode cL_law 925 = .ok (.aload_n 0, 1) := by decide +kernel
theorem dL_law_926 : decode cL_law 926 = .ok (.iload_n 3, 1) := by decide +kernel
theorem dL_law_927 : decode cL_law 927 = .ok (.iconst 2, 1) := by decide +kernel
theorem dL_law_928 : decode cL_law 928 = .ok (.iadd, 1) := by decide +kernel
theorem dL_law_929 : decode cL_law 929 = .ok (.iaload, 1) := by decide +kernel
theorem dL_law_930 : decode cL_law 930 = .ok (.invokevirtual 111, 3) := by decide +kernel
theorem dL_law_933 : decode cL_law 933 = .ok (.aload_n 2, 1) := by decide +kernel
theorem dL_law_934 : decode cL_law 934 = .ok (.aload_n 0, 1) := by decide +kernel
theorem dL_law_935 : decode cL_law 935 = .ok (.iload_n 3, 1) := by decide +kernel
theorem dL_law_936 : decode cL_law 936 = .ok (.iconst 1, 1) := by decide +kernel
theorem dL_law_937 : decode cL_law 937 = .ok (.iadd, 1) := by decide +kernel
theorem dL_law_938 : decode cL_law 938 = .ok (.iaload, 1) := by decide +kernel
theorem dL_law_939 : decode cL_law 939 = .ok (.aload_n 0, 1) := by decide +kernel
theorem dL_law_940 : decode cL_law 940 = .ok (.iload_n 3, 1) := by decide +kernel
theorem dL_law_941 : decode cL_law 941 = .ok (.iconst 2, 1) := by decide +kernel
theorem dL_law_942 : decode cL_law 942 = .ok (.iadd, 1) := by decide +kernel
theorem dL_law_943 : decode cL_law 943 = .ok (.iaload, 1) := by decide +kernel
theorem dL_law_944 : decode cL_law 944 = .ok (.invokevirtual 114, 3) := by decide +kernel
theorem dL_law_947 : decode cL_law 947 = .ok (.if_icmp .eq 625, 3) := by decide +kernel
theorem dL_law_950 : decode cL_law 950 = .ok (.iconst 0, 1) := by decide +kernel
theorem dL_law_951 : decode cL_law 951 = .ok (.ireturn, 1) := by decide +kernel
theorem dL_law_952 : decode cL_law 952 = .ok (.aload_n 1, 1) := by decide +kernel
theorem dL_law_953 : decode cL_law 953 = .ok (.aload_n 0, 1) := by decide +kernel
theorem dL_law_954 : decode cL_law 954 = .ok (.iload_n 3, 1) := by decide +kernel
theorem dL_law_955 : decode cL_law 955 = .ok (.iconst 1, 1) := by decide +kernel
theorem dL_law_956 : decode cL_law 956 = .ok (.iadd, 1) := by decide +kernel
theorem dL_law_957 : decode cL_law 957 = .ok (.iaload, 1) := by decide +kernel
theorem dL_law_958 : decode cL_law 958 = .ok (.aload_n 0, 1) := by decide +kernel
theorem dL_law_959 : decode cL_law 959 = .ok (.iload_n 3, 1) := by decide +kernel
theorem dL_law_960 : decode cL_law 960 = .ok (.iconst 2, 1) := by decide +kernel
theorem dL_law_961 : decode cL_law 961 = .ok (.iadd, 1) := by decide +kernel
theorem dL_law_962 : decode cL_law 962 = .ok (.iaload, 1) := by decide +kernel
theorem dL_law_963 : decode cL_law 963 = .ok (.invokevirtual 115, 3) := by decide +kernel
theorem dL_law_966 : decode cL_law 966 = .ok (.aload_n 2, 1) := by decide +kernel
theorem dL_law_967 : decode cL_law 967 = .ok (.aload_n 0, 1) := by decide +kernel
theorem dL_law_968 : decode cL_law 968 = .ok (.iload_n 3, 1) := by decide +kernel
theorem dL_law_969 : decode cL_law 969 = .ok (.iconst 1, 1) := by decide +kernel
theorem dL_law_970 : decode cL_law 970 = .ok (.iadd, 1) := by decide +kernel
theorem dL_law_971 : decode cL_law 971 = .ok (.iaload, 1) := by decide +kernel
theorem dL_law_972 : decode cL_law 972 = .ok (.aload_n 0, 1) := by decide +kernel
theorem dL_law_973 : decode cL_law 973 = .ok (.iload_n 3, 1) := by decide +kernel
theorem dL_law_974 : decode cL_law 974 = .ok (.iconst 2, 1) := by decide +kernel
theorem dL_law_975 : decode cL_law 975 = .ok (.iadd, 1) := by decide +kernel
theorem dL_law_976 : decode cL_law 976 = .ok (.iaload, 1) := by decide +kernel
theorem dL_law_977 : decode cL_law 977 = .ok (.invokevirtual 118, 3) := by decide +kernel
theorem dL_law_980 : decode cL_law 980 = .ok (.if_icmp .eq 592, 3) := by decide +kernel
theorem dL_law_983 : decode cL_law 983 = .ok (.iconst 0, 1) := by decide +kernel
theorem dL_law_984 : decode cL_law 984 = .ok (.ireturn, 1) := by decide +kernel
theorem dL_law_985 : decode cL_law 985 = .ok (.aload_n 1, 1) := by decide +kernel
theorem dL_law_986 : decode cL_law 986 = .ok (.aload_n 0, 1) := by decide +kernel
theorem dL_law_987 : decode cL_law 987 = .ok (.iload_n 3, 1) := by decide +kernel
theorem dL_law_988 : decode cL_law 988 = .ok (.iconst 1, 1) := by decide +kernel
theorem dL_law_989 : decode cL_law 989 = .ok (.iadd, 1) := by decide +kernel
theorem dL_law_990 : decode cL_law 990 = .ok (.iaload, 1) := by decide +kernel
theorem dL_law_991 : decode cL_law 991 = .ok (.aload_n 0, 1) := by decide +kernel
theorem dL_law_992 : decode cL_law 992 = .ok (.iload_n 3, 1) := by decide +kernel
theorem dL_law_993 : decode cL_law 993 = .ok (.iconst 2, 1) := by decide +kernel
theorem dL_law_994 : decode cL_law 994 = .ok (.iadd, 1) := by decide +kernel
theorem dL_law_995 : decode cL_law 995 = .ok (.iaload, 1) := by decide +kernel
theorem dL_law_996 : decode cL_law 996 = .ok (.invokevirtual 119, 3) := by decide +kernel
theorem dL_law_999 : decode cL_law 999 = .ok (.aload_n 2, 1) := by decide +kernel
theorem dL_law_1000 : decode cL_law 1000 = .ok (.aload_n 0, 1) := by decide +kernel
theorem dL_law_1001 : decode cL_law 1001 = .ok (.iload_n 3, 1) := by decide +kernel
theorem dL_law_1002 : decode cL_law 1002 = .ok (.iconst 1, 1) := by decide +kernel
theorem dL_law_1003 : decode cL_law 1003 = .ok (.iadd, 1) := by decide +kernel
theorem dL_law_1004 : decode cL_law 1004 = .ok (.iaload, 1) := by decide +kernel
theorem dL_law_1005 : decode cL_law 1005 = .ok (.aload_n 0, 1) := by decide +kernel
theorem dL_law_1006 : decode cL_law 1006 = .ok (.iload_n 3, 1) := by decide +kernel
theorem dL_law_1007 : decode cL_law 1007 = .ok (.iconst 2, 1) := by decide +kernel
theorem dL_law_1008 : decode cL_law 1008 = .ok (.iadd, 1) := by decide +kernel
theorem dL_law_1009 : decode cL_law 1009 = .ok (.iaload, 1) := by decide +kernel
theorem dL_law_1010 : decode cL_law 1010 = .ok (.invokevirtual 122, 3) := by decide +kernel
theorem dL_law_1013 : decode cL_law 1013 = .ok (.if_icmp .eq 559, 3) := by decide +kernel
theorem dL_law_1016 : decode cL_law 1016 = .ok (.iconst 0, 1) := by decide +kernel
theorem dL_law_1017 : decode cL_law 1017 = .ok (.ireturn, 1) := by decide +kernel
theorem dL_law_1018 : decode cL_law 1018 = .ok (.aload_n 1, 1) := by decide +kernel
theorem dL_law_1019 : decode cL_law 1019 = .ok (.aload_n 0, 1) := by decide +kernel
theorem dL_law_1020 : decode cL_law 1020 = .ok (.iload_n 3, 1) := by decide +kernel
theorem dL_law_1021 : decode cL_law 1021 = .ok (.iconst 1, 1) := by decide +kernel
theorem dL_law_1022 : decode cL_law 1022 = .ok (.iadd, 1) := by decide +kernel
theorem dL_law_1023 : decode cL_law 1023 = .ok (.iaload, 1) := by decide +kernel
theorem dL_law_1024 : decode cL_law 1024 = .ok (.invokevirtual 123, 3) := by decide +kernel
theorem dL_law_1027 : decode cL_law 1027 = .ok (.aload_n 2, 1) := by decide +kernel
theorem dL_law_1028 : decode cL_law 1028 = .ok (.aload_n 0, 1) := by decide +kernel
theorem dL_law_1029 : decode cL_law 1029 = .ok (.iload_n 3, 1) := by decide +kernel
theorem dL_law_1030 : decode cL_law 1030 = .ok (.iconst 1, 1) := by decide +kernel
theorem dL_law_1031 : decode cL_law 1031 = .ok (.iadd, 1) := by decide +kernel
theorem dL_law_1032 : decode cL_law 1032 = .ok (.iaload, 1) := by decide +kernel
theorem dL_law_1033 : decode cL_law 1033 = .ok (.invokevirtual 126, 3) := by decide +kernel
theorem dL_law_1036 : decode cL_law 1036 = .ok (.if_icmp .eq 536, 3) := by decide +kernel
theorem dL_law_1039 : decode cL_law 1039 = .ok (.iconst 0, 1) := by decide +kernel
theorem dL_law_1040 : decode cL_law 1040 = .ok (.ireturn, 1) := by decide +kernel
theorem dL_law_1041 : decode cL_law 1041 = .ok (.aload_n 1, 1) := by decide +kernel
theorem dL_law_1042 : decode cL_law 1042 = .ok (.aload_n 0, 1) := by decide +kernel
theorem dL_law_1043 : decode cL_law 1043 = .ok (.iload_n 3, 1) := by decide +kernel
theorem dL_law_1044 : decode cL_law 1044 = .ok (.iconst 1, 1) := by decide +kernel
theorem dL_law_1045 : decode cL_law 1045 = .ok (.iadd, 1) := by decide +kernel
theorem dL_law_1046 : decode cL_law 1046 = .ok (.iaload, 1) := by decide +kernel
theorem dL_law_1047 : decode cL_law 1047 = .ok (.invokevirtual 127, 3) := by decide +kernel
theorem dL_law_1050 : decode cL_law 1050 = .ok (.aload_n 2, 1) := by decide +kernel
theorem dL_law_1051 : decode cL_law 1051 = .ok (.aload_n 0, 1) := by decide +kernel
theorem dL_law_1052 : decode cL_law 1052 = .ok (.iload_n 3, 1) := by decide +kernel
theorem dL_law_1053 : decode cL_law 1053 = .ok (.iconst 1, 1) := by decide +kernel
theorem dL_law_1054 : decode cL_law 1054 = .ok (.iadd, 1) := by decide +kernel
theorem dL_law_1055 : decode cL_law 1055 = .ok (.iaload, 1) := by decide +kernel
theorem dL_law_1056 : decode cL_law 1056 = .ok (.invokevirtual 130, 3) := by decide +kernel
theorem dL_law_1059 : decode cL_law 1059 = .ok (.if_icmp .eq 513, 3) := by decide +kernel
theorem dL_law_1062 : decode cL_law 1062 = .ok (.iconst 0, 1) := by decide +kernel
theorem dL_law_1063 : decode cL_law 1063 = .ok (.ireturn, 1) := by decide +kernel
theorem dL_law_1064 : decode cL_law 1064 = .ok (.aload_n 1, 1) := by decide +kernel
theorem dL_law_1065 : decode cL_law 1065 = .ok (.aload_n 0, 1) := by decide +kernel
theorem dL_law_1066 : decode cL_law 1066 = .ok (.iload_n 3, 1) := by decide +kernel
theorem dL_law_1067 : decode cL_law 1067 = .ok (.iconst 1, 1) := by decide +kernel
theorem dL_law_1068 : decode cL_law 1068 = .ok (.iadd, 1) := by decide +kernel
theorem dL_law_1069 : decode cL_law 1069 = .ok (.iaload, 1) := by decide +kernel
theorem dL_law_1070 : decode cL_law 1070 = .ok (.invokevirtual 131, 3) := by decide +kernel
theorem dL_law_1073 : decode cL_law 1073 = .ok (.aload_n 2, 1) := by decide +kernel
theorem dL_law_1074 : decode cL_law 1074 = .ok (.aload_n 0, 1) := by decide +kernel
theorem dL_law_1075 : decode cL_law 1075 = .ok (.iload_n 3, 1) := by decide +kernel
theorem dL_law_1076 : decode cL_law 1076 = .ok (.iconst 1, 1) := by decide +kernel
theorem dL_law_1077 : decode cL_law 1077 = .ok (.iadd, 1) := by decide +kernel
theorem dL_law_1078 : decode cL_law 1078 = .ok (.iaload, 1) := by decide +kernel
theorem dL_law_1079 : decode cL_law 1079 = .ok (.invokevirtual 134, 3) := by decide +kernel
theorem dL_law_1082 : decode cL_law 1082 = .ok (.if_icmp .eq 490, 3) := by decide +kernel
theorem dL_law_1085 : decode cL_law 1085 = .ok (.iconst 0, 1) := by decide +kernel
theorem dL_law_1086 : decode cL_law 1086 = .ok (.ireturn, 1) := by decide +kernel
theorem dL_law_1087 : decode cL_law 1087 = .ok (.aload_n 1, 1) := by decide +kernel
theorem dL_law_1088 : decode cL_law 1088 = .ok (.invokevirtual 135, 3) := by decide +kernel
theorem dL_law_1091 : decode cL_law 1091 = .ok (.aload_n 2, 1) := by decide +kernel
theorem dL_law_1092 : decode cL_law 1092 = .ok (.invokevirtual 138, 3) := by decide +kernel
theorem dL_law_1095 : decode cL_law 1095 = .ok (.if_icmp .eq 477, 3) := by decide +kernel
theorem dL_law_1098 : decode cL_law 1098 = .ok (.iconst 0, 1) := by decide +kernel
theorem dL_law_1099 : decode cL_law 1099 = .ok (.ireturn, 1) := by decide +kernel
theorem dL_law_1100 : decode cL_law 1100 = .ok (.aload_n 1, 1) := by decide +kernel
theorem dL_law_1101 : decode cL_law 1101 = .ok (.aload_n 0, 1) := by decide +kernel
theorem dL_law_1102 : decode cL_law 1102 = .ok (.iload_n 3, 1) := by decide +kernel
theorem dL_law_1103 : decode cL_law 1103 = .ok (.iconst 1, 1) := by decide +kernel
theorem dL_law_1104 : decode cL_law 1104 = .ok (.iadd, 1) := by decide +kernel
theorem dL_law_1105 : decode cL_law 1105 = .ok (.iaload, 1) := by decide +kernel
theorem dL_law_1106 : decode cL_law 1106 = .ok (.aload_n 0, 1) := by decide +kernel
theorem dL_law_1107 : decode cL_law 1107 = .ok (.iload_n 3, 1) := by decide +kernel
theorem dL_law_1108 : decode cL_law 1108 = .ok (.iconst 2, 1) := by decide +kernel
theorem dL_law_1109 : decode cL_law 1109 = .ok (.iadd, 1) := by decide +kernel
theorem dL_law_1110 : decode cL_law 1110 = .ok (.iaload, 1) := by decide +kernel
theorem dL_law_1111 : decode cL_law 1111 = .ok (.aload_n 0, 1) := by decide +kernel
theorem dL_law_1112 : decode cL_law 1112 = .ok (.iload_n 3, 1) := by decide +kernel
theorem dL_law_1113 : decode cL_law 1113 = .ok (.iconst 3, 1) := by decide +kernel
theorem dL_law_1114 : decode cL_law 1114 = .ok (.iadd, 1) := by decide +kernel
theorem dL_law_1115 : decode cL_law 1115 = .ok (.iaload, 1) := by decide +kernel
theorem dL_law_1116 : decode cL_law 1116 = .ok (.invokevirtual 139, 3) := by decide +kernel
theorem dL_law_1119 : decode cL_law 1119 = .ok (.aload_n 2, 1) := by decide +kernel
theorem dL_law_1120 : decode cL_law 1120 = .ok (.aload_n 0, 1) := by decide +kernel
theorem dL_law_1121 : decode cL_law 1121 = .ok (.iload_n 3, 1) := by decide +kernel
theorem dL_law_1122 : decode cL_law 1122 = .ok (.iconst 1, 1) := by decide +kernel
theorem dL_law_1123 : decode cL_law 1123 = .ok (.iadd, 1) := by decide +kernel
theorem dL_law_1124 : decode cL_law 1124 = .ok (.iaload, 1) := by decide +kernel
theorem dL_law_1125 : decode cL_law 1125 = .ok (.aload_n 0, 1) := by decide +kernel
theorem dL_law_1126 : decode cL_law 1126 = .ok (.iload_n 3, 1) := by decide +kernel
theorem dL_law_1127 : decode cL_law 1127 = .ok (.iconst 2, 1) := by decide +kernel
theorem dL_law_1128 : decode cL_law 1128 = .ok (.iadd, 1) := by decide +kernel
theorem dL_law_1129 : decode cL_law 1129 = .ok (.iaload, 1) := by decide +kernel
theorem dL_law_1130 : decode cL_law 1130 = .ok (.aload_n 0, 1) := by decide +kernel
theorem dL_law_1131 : decode cL_law 1131 = .ok (.iload_n 3, 1) := by decide +kernel
theorem dL_law_1132 : decode cL_law 1132 = .ok (.iconst 3, 1) := by decide +kernel
theorem dL_law_1133 : decode cL_law 1133 = .ok (.iadd, 1) := by decide +kernel
theorem dL_law_1134 : decode cL_law 1134 = .ok (.iaload, 1) := by decide +kernel
theorem dL_law_1135 : decode cL_law 1135 = .ok (.invokevirtual 142, 3) := by decide +kernel
theorem dL_law_1138 : decode cL_law 1138 = .ok (.if_icmp .eq 434, 3) := by decide +kernel
theorem dL_law_1141 : decode cL_law 1141 = .ok (.iconst 0, 1) := by decide +kernel
theorem dL_law_1142 : decode cL_law 1142 = .ok (.ireturn, 1) := by decide +kernel
theorem dL_law_1143 : decode cL_law 1143 = .ok (.aload_n 1, 1) := by decide +kernel
theorem dL_law_1144 : decode cL_law 1144 = .ok (.aload_n 0, 1) := by decide +kernel
theorem dL_law_1145 : decode cL_law 1145 = .ok (.iload_n 3, 1) := by decide +kernel
theorem dL_law_1146 : decode cL_law 1146 = .ok (.iconst 1, 1) := by decide +kernel
theorem dL_law_1147 : decode cL_law 1147 = .ok (.iadd, 1) := by decide +kernel
theorem dL_law_1148 : decode cL_law 1148 = .ok (.iaload, 1) := by decide +kernel
theorem dL_law_1149 : decode cL_law 1149 = .ok (.aload_n 0, 1) := by decide +kernel
theorem dL_law_1150 : decode cL_law 1150 = .ok (.iload_n 3, 1) := by decide +kernel
theorem dL_law_1151 : decode cL_law 1151 = .ok (.iconst 2, 1) := by decide +kernel
theorem dL_law_1152 : decode cL_law 1152 = .ok (.iadd, 1) := by decide +kernel
theorem dL_law_1153 : decode cL_law 1153 = .ok (.iaload, 1) := by decide +kernel
theorem dL_law_1154 : decode cL_law 1154 = .ok (.aload_n 0, 1) := by decide +kernel
theorem dL_law_1155 : decode cL_law 1155 = .ok (.iload_n 3, 1) := by decide +kernel
theorem dL_law_1156 : decode cL_law 1156 = .ok (.iconst 3, 1) := by decide +kernel
theorem dL_law_1157 : decode cL_law 1157 = .ok (.iadd, 1) := by decide +kernel
theorem dL_law_1158 : decode cL_law 1158 = .ok (.iaload, 1) := by decide +kernel
theorem dL_law_1159 : decode cL_law 1159 = .ok (.aload_n 0, 1) := by decide +kernel
theorem dL_law_1160 : decode cL_law 1160 = .ok (.iload_n 3, 1) := by decide +kernel
theorem dL_law_1161 : decode cL_law 1161 = .ok (.iconst 4, 1) := by decide +kernel
theorem dL_law_1162 : decode cL_law 1162 = .ok (.iadd, 1) := by decide +kernel
theorem dL_law_1163 : decode cL_law 1163 = .ok (.iaload, 1) := by decide +kernel
theorem dL_law_1164 : decode cL_law 1164 = .ok (.aload_n 0, 1) := by decide +kernel
theorem dL_law_1165 : decode cL_law 1165 = .ok (.iload_n 3, 1) := by decide +kernel
theorem dL_law_1166 : decode cL_law 1166 = .ok (.iconst 5, 1) := by decide +kernel
theorem dL_law_1167 : decode cL_law 1167 = .ok (.iadd, 1) := by decide +kernel
theorem dL_law_1168 : decode cL_law 1168 = .ok (.iaload, 1) := by decide +kernel
theorem dL_law_1169 : decode cL_law 1169 = .ok (.aload_n 0, 1) := by decide +kernel
theorem dL_law_1170 : decode cL_law 1170 = .ok (.iload_n 3, 1) := by decide +kernel
theorem dL_law_1171 : decode cL_law 1171 = .ok (.bipush 6, 2) := by decide +kernel
theorem dL_law_1173 : decode cL_law 1173 = .ok (.iadd, 1) := by decide +kernel
theorem dL_law_1174 : decode cL_law 1174 = .ok (.iaload, 1) := by decide +kernel
theorem dL_law_1175 : decode cL_law 1175 = .ok (.invokevirtual 143, 3) := by decide +kernel
theorem dL_law_1178 : decode cL_law 1178 = .ok (.aload_n 2, 1) := by decide +kernel
theorem dL_law_1179 : decode cL_law 1179 = .ok (.aload_n 0, 1) := by decide +kernel
theorem dL_law_1180 : decode cL_law 1180 = .ok (.iload_n 3, 1) := by decide +kernel
theorem dL_law_1181 : decode cL_law 1181 = .ok (.iconst 1, 1) := by decide +kernel
theorem dL_law_1182 : decode cL_law 1182 = .ok (.iadd, 1) := by decide +kernel
theorem dL_law_1183 : decode cL_law 1183 = .ok (.iaload, 1) := by decide +kernel
theorem dL_law_1184 : decode cL_law 1184 = .ok (.aload_n 0, 1) := by decide +kernel
theorem dL_law_1185 : decode cL_law 1185 = .ok (.iload_n 3, 1) := by decide +kernel
theorem dL_law_1186 : decode cL_law 1186 = .ok (.iconst 2, 1) := by decide +kernel
theorem dL_law_1187 : decode cL_law 1187 = .ok (.iadd, 1) := by decide +kernel
theorem dL_law_1188 : decode cL_law 1188 = .ok (.iaload, 1) := by decide +kernel
theorem dL_law_1189 : decode cL_law 1189 = .ok (.aload_n 0, 1) := by decide +kernel
theorem dL_law_1190 : decode cL_law 1190 = .ok (.iload_n 3, 1) := by decide +kernel
theorem dL_law_1191 : decode cL_law 1191 = .ok (.iconst 3, 1) := by decide +kernel
theorem dL_law_1192 : decode cL_law 1192 = .ok (.iadd, 1) := by decide +kernel
theorem dL_law_1193 : decode cL_law 1193 = .ok (.iaload, 1) := by decide +kernel
theorem dL_law_1194 : decode cL_law 1194 = .ok (.aload_n 0, 1) := by decide +kernel
theorem dL_law_1195 : decode cL_law 1195 = .ok (.iload_n 3, 1) := by decide +kernel
theorem dL_law_1196 : decode cL_law 1196 = .ok (.iconst 4, 1) := by decide +kernel
theorem dL_law_1197 : decode cL_law 1197 = .ok (.iadd, 1) := by decide +kernel
theorem dL_law_1198 : decode cL_law 1198 = .ok (.iaload, 1) := by decide +kernel
theorem dL_law_1199 : decode cL_law 1199 = .ok (.aload_n 0, 1) := by decide +kernel
theorem dL_law_1200 : decode cL_law 1200 = .ok (.iload_n 3, 1) := by decide +kernel
theorem dL_law_1201 : decode cL_law 1201 = .ok (.iconst 5, 1) := by decide +kernel
theorem dL_law_1202 : decode cL_law 1202 = .ok (.iadd, 1) := by decide +kernel
theorem dL_law_1203 : decode cL_law 1203 = .ok (.iaload, 1) := by decide +kernel
theorem dL_law_1204 : decode cL_law 1204 = .ok (.aload_n 0, 1) := by decide +kernel
theorem dL_law_1205 : decode cL_law 1205 = .ok (.iload_n 3, 1) := by decide +kernel
theorem dL_law_1206 : decode cL_law 1206 = .ok (.bipush 6, 2) := by decide +kernel
theorem dL_law_1208 : decode cL_law 1208 = .ok (.iadd, 1) := by decide +kernel
theorem dL_law_1209 : decode cL_law 1209 = .ok (.iaload, 1) := by decide +kernel
theorem dL_law_1210 : decode cL_law 1210 = .ok (.invokevirtual 147, 3) := by decide +kernel
theorem dL_law_1213 : decode cL_law 1213 = .ok (.if_icmp .eq 359, 3) := by decide +kernel
theorem dL_law_1216 : decode cL_law 1216 = .ok (.iconst 0, 1) := by decide +kernel
theorem dL_law_1217 : decode cL_law 1217 = .ok (.ireturn, 1) := by decide +kernel
theorem dL_law_1218 : decode cL_law 1218 = .ok (.aload_n 1, 1) := by decide +kernel
theorem dL_law_1219 : decode cL_law 1219 = .ok (.aload_n 0, 1) := by decide +kernel
theorem dL_law_1220 : decode cL_law 1220 = .ok (.iload_n 3, 1) := by decide +kernel
theorem dL_law_1221 : decode cL_law 1221 = .ok (.iconst 1, 1) := by decide +kernel
theorem dL_law_1222 : decode cL_law 1222 = .ok (.iadd, 1) := by decide +kernel
theorem dL_law_1223 : decode cL_law 1223 = .ok (.iaload, 1) := by decide +kernel
theorem dL_law_1224 : decode cL_law 1224 = .ok (.aload_n 0, 1) := by decide +kernel
theorem dL_law_1225 : decode cL_law 1225 = .ok (.iload_n 3, 1) := by decide +kernel
theorem dL_law_1226 : decode cL_law 1226 = .ok (.iconst 2, 1) := by decide +kernel
theorem dL_law_1227 : decode cL_law 1227 = .ok (.iadd, 1) := by decide +kernel
theorem dL_law_1228 : decode cL_law 1228 = .ok (.iaload, 1) := by decide +kernel
theorem dL_law_1229 : decode cL_law 1229 = .ok (.aload_n 0, 1) := by decide +kernel
theorem dL_law_1230 : decode cL_law 1230 = .ok (.iload_n 3, 1) := by decide +kernel
theorem dL_law_1231 : decode cL_law 1231 = .ok (.iconst 3, 1) := by decide +kernel
theorem dL_law_1232 : decode cL_law 1232 = .ok (.iadd, 1) := by decide +kernel
theorem dL_law_1233 : decode cL_law 1233 = .ok (.iaload, 1) := by decide +kernel
theorem dL_law_1234 : decode cL_law 1234 = .ok (.aload_n 0, 1) := by decide +kernel
theorem dL_law_1235 : decode cL_law 1235 = .ok (.iload_n 3, 1) := by decide +kernel
theorem dL_law_1236 : decode cL_law 1236 = .ok (.iconst 4, 1) := by decide +kernel
theorem dL_law_1237 : decode cL_law 1237 = .ok (.iadd, 1) := by decide +kernel
theorem dL_law_1238 : decode cL_law 1238 = .ok (.iaload, 1) := by decide +kernel
theorem dL_law_1239 : decode cL_law 1239 = .ok (.invokevirtual 148, 3) := by decide +kernel
theorem dL_law_1242 : decode cL_law 1242 = .ok (.aload_n 2, 1) := by decide +kernel
theorem dL_law_1243 : decode cL_law 1243 = .ok (.aload_n 0, 1) := by decide +kernel
theorem dL_law_1244 : decode cL_law 1244 = .ok (.iload_n 3, 1) := by decide +kernel
theorem dL_law_1245 : decode cL_law 1245 = .ok (.iconst 1, 1) := by decide +kernel
theorem dL_law_1246 : decode cL_law 1246 = .ok (.iadd, 1) := by decide +kernel
theorem dL_law_1247 : decode cL_law 1247 = .ok (.iaload, 1) := by decide +kernel
theorem dL_law_1248 : decode cL_law 1248 = .ok (.aload_n 0, 1) := by decide +kernel
theorem dL_law_1249 : decode cL_law 1249 = .ok (.iload_n 3, 1) := by decide +kernel
theorem dL_law_1250 : decode cL_law 1250 = .ok (.iconst 2, 1) := by decide +kernel
theorem dL_law_1251 : decode cL_law 1251 = .ok (.iadd, 1) := by decide +kernel
theorem dL_law_1252 : decode cL_law 1252 = .ok (.iaload, 1) := by decide +kernel
theorem dL_law_1253 : decode cL_law 1253 = .ok (.aload_n 0, 1) := by decide +kernel
theorem dL_law_1254 : decode cL_law 1254 = .ok (.iload_n 3, 1) := by decide +kernel
theorem dL_law_1255 : decode cL_law 1255 = .ok (.iconst 3, 1) := by decide +kernel
theorem dL_law_1256 : decode cL_law 1256 = .ok (.iadd, 1) := by decide +kernel
theorem dL_law_1257 : decode cL_law 1257 = .ok (.iaload, 1) := by decide +kernel
theorem dL_law_1258 : decode cL_law 1258 = .ok (.aload_n 0, 1) := by decide +kernel
theorem dL_law_1259 : decode cL_law 1259 = .ok (.iload_n 3, 1) := by decide +kernel
theorem dL_law_1260 : decode cL_law 1260 = .ok (.iconst 4, 1) := by decide +kernel
theorem dL_law_1261 : decode cL_law 1261 = .ok (.iadd, 1) := by decide +kernel
theorem dL_law_1262 : decode cL_law 1262 = .ok (.iaload, 1) := by decide +kernel
theorem dL_law_1263 : decode cL_law 1263 = .ok (.invokevirtual 151, 3) := by decide +kernel
theorem dL_law_1266 : decode cL_law 1266 = .ok (.if_icmp .eq 306, 3) := by decide +kernel
theorem dL_law_1269 : decode cL_law 1269 = .ok (.iconst 0, 1) := by decide +kernel
theorem dL_law_1270 : decode cL_law 1270 = .ok (.ireturn, 1) := by decide +kernel
theorem dL_law_1271 : decode cL_law 1271 = .ok (.aload_n 1, 1) := by decide +kernel
theorem dL_law_1272 : decode cL_law 1272 = .ok (.aload_n 0, 1) := by decide +kernel
theorem dL_law_1273 : decode cL_law 1273 = .ok (.iload_n 3, 1) := by decide +kernel
theorem dL_law_1274 : decode cL_law 1274 = .ok (.iconst 1, 1) := by decide +kernel
theorem dL_law_1275 : decode cL_law 1275 = .ok (.iadd, 1) := by decide +kernel
theorem dL_law_1276 : decode cL_law 1276 = .ok (.iaload, 1) := by decide +kernel
theorem dL_law_1277 : decode cL_law 1277 = .ok (.aload_n 0, 1) := by decide +kernel
theorem dL_law_1278 : decode cL_law 1278 = .ok (.iload_n 3, 1) := by decide +kernel
theorem dL_law_1279 : decode cL_law 1279 = .ok (.iconst 2, 1) := by decide +kernel
theorem dL_law_1280 : decode cL_law 1280 = .ok (.iadd, 1) := by decide +kernel
theorem dL_law_1281 : decode cL_law 1281 = .ok (.iaload, 1) := by decide +kernel
theorem dL_law_1282 : decode cL_law 1282 = .ok (.aload_n 0, 1) := by decide +kernel
theorem dL_law_1283 : decode cL_law 1283 = .ok (.iload_n 3, 1) := by decide +kernel
theorem dL_law_1284 : decode cL_law 1284 = .ok (.iconst 3, 1) := by decide +kernel
theorem dL_law_1285 : decode cL_law 1285 = .ok (.iadd, 1) := by decide +kernel
theorem dL_law_1286 : decode cL_law 1286 = .ok (.iaload, 1) := by decide +kernel
theorem dL_law_1287 : decode cL_law 1287 = .ok (.aload_n 0, 1) := by decide +kernel
theorem dL_law_1288 : decode cL_law 1288 = .ok (.iload_n 3, 1) := by decide +kernel
theorem dL_law_1289 : decode cL_law 1289 = .ok (.iconst 4, 1) := by decide +kernel
theorem dL_law_1290 : decode cL_law 1290 = .ok (.iadd, 1) := by decide +kernel
theorem dL_law_1291 : decode cL_law 1291 = .ok (.iaload, 1) := by decide +kernel
theorem dL_law_1292 : decode cL_law 1292 = .ok (.aload_n 0, 1) := by decide +kernel
theorem dL_law_1293 : decode cL_law 1293 = .ok (.iload_n 3, 1) := by decide +kernel
theorem dL_law_1294 : decode cL_law 1294 = .ok (.iconst 5, 1) := by decide +kernel
theorem dL_law_1295 : decode cL_law 1295 = .ok (.iadd, 1) := by decide +kernel
theorem dL_law_1296 : decode cL_law 1296 = .ok (.iaload, 1) := by decide +kernel
theorem dL_law_1297 : decode cL_law 1297 = .ok (.invokevirtual 152, 3) := by decide +kernel
theorem dL_law_1300 : decode cL_law 1300 = .ok (.aload_n 2, 1) := by decide +kernel
theorem dL_law_1301 : decode cL_law 1301 = .ok (.aload_n 0, 1) := by decide +kernel
theorem dL_law_1302 : decode cL_law 1302 = .ok (.iload_n 3, 1) := by decide +kernel
theorem dL_law_1303 : decode cL_law 1303 = .ok (.iconst 1, 1) := by decide +kernel
theorem dL_law_1304 : decode cL_law 1304 = .ok (.iadd, 1) := by decide +kernel
theorem dL_law_1305 : decode cL_law 1305 = .ok (.iaload, 1) := by decide +kernel
theorem dL_law_1306 : decode cL_law 1306 = .ok (.aload_n 0, 1) := by decide +kernel
theorem dL_law_1307 : decode cL_law 1307 = .ok (.iload_n 3, 1) := by decide +kernel
theorem dL_law_1308 : decode cL_law 1308 = .ok (.iconst 2, 1) := by decide +kernel
theorem dL_law_1309 : decode cL_law 1309 = .ok (.iadd, 1) := by decide +kernel
theorem dL_law_1310 : decode cL_law 1310 = .ok (.iaload, 1) := by decide +kernel
theorem dL_law_1311 : decode cL_law 1311 = .ok (.aload_n 0, 1) := by decide +kernel
theorem dL_law_1312 : decode cL_law 1312 = .ok (.iload_n 3, 1) := by decide +kernel
theorem dL_law_1313 : decode cL_law 1313 = .ok (.iconst 3, 1) := by decide +kernel
theorem dL_law_1314 : decode cL_law 1314 = .ok (.iadd, 1) := by decide +kernel
theorem dL_law_1315 : decode cL_law 1315 = .ok (.iaload, 1) := by decide +kernel
theorem dL_law_1316 : decode cL_law 1316 = .ok (.aload_n 0, 1) := by decide +kernel
theorem dL_law_1317 : decode cL_law 1317 = .ok (.iload_n 3, 1) := by decide +kernel
theorem dL_law_1318 : decode cL_law 1318 = .ok (.iconst 4, 1) := by decide +kernel
theorem dL_law_1319 : decode cL_law 1319 = .ok (.iadd, 1) := by decide +kernel
theorem dL_law_1320 : decode cL_law 1320 = .ok (.iaload, 1) := by decide +kernel
theorem dL_law_1321 : decode cL_law 1321 = .ok (.aload_n 0, 1) := by decide +kernel
theorem dL_law_1322 : decode cL_law 1322 = .ok (.iload_n 3, 1) := by decide +kernel
theorem dL_law_1323 : decode cL_law 1323 = .ok (.iconst 5, 1) := by decide +kernel
theorem dL_law_1324 : decode cL_law 1324 = .ok (.iadd, 1) := by decide +kernel
theorem dL_law_1325 : decode cL_law 1325 = .ok (.iaload, 1) := by decide +kernel
theorem dL_law_1326 : decode cL_law 1326 = .ok (.invokevirtual 156, 3) := by decide +kernel
theorem dL_law_1329 : decode cL_law 1329 = .ok (.lcmp, 1) := by decide +kernel
theorem dL_law_1330 : decode cL_law 1330 = .ok (.ifCond .eq 242, 3) := by decide +kernel
theorem dL_law_1333 : decode cL_law 1333 = .ok (.iconst 0, 1) := by decide +kernel
theorem dL_law_1334 : decode cL_law 1334 = .ok (.ireturn, 1) := by decide +kernel
theorem dL_law_1335 : decode cL_law 1335 = .ok (.aload_n 1, 1) := by decide +kernel
theorem dL_law_1336 : decode cL_law 1336 = .ok (.aload_n 0, 1) := by decide +kernel
theorem dL_law_1337 : decode cL_law 1337 = .ok (.iload_n 3, 1) := by decide +kernel
theorem dL_law_1338 : decode cL_law 1338 = .ok (.iconst 1, 1) := by decide +kernel
theorem dL_law_1339 : decode cL_law 1339 = .ok (.iadd, 1) := by decide +kernel
theorem dL_law_1340 : decode cL_law 1340 = .ok (.iaload, 1) := by decide +kernel
theorem dL_law_1341 : decode cL_law 1341 = .ok (.aload_n 0, 1) := by decide +kernel
theorem dL_law_1342 : decode cL_law 1342 = .ok (.iload_n 3, 1) := by decide +kernel
theorem dL_law_1343 : decode cL_law 1343 = .ok (.iconst 2, 1) := by decide +kernel
theorem dL_law_1344 : decode cL_law 1344 = .ok (.iadd, 1) := by decide +kernel
theorem dL_law_1345 : decode cL_law 1345 = .ok (.iaload, 1) := by decide +kernel
theorem dL_law_1346 : decode cL_law 1346 = .ok (.aload_n 0, 1) := by decide +kernel
theorem dL_law_1347 : decode cL_law 1347 = .ok (.iload_n 3, 1) := by decide +kernel
theorem dL_law_1348 : decode cL_law 1348 = .ok (.iconst 3, 1) := by decide +kernel
theorem dL_law_1349 : decode cL_law 1349 = .ok (.iadd, 1) := by decide +kernel
theorem dL_law_1350 : decode cL_law 1350 = .ok (.iaload, 1) := by decide +kernel
theorem dL_law_1351 : decode cL_law 1351 = .ok (.invokevirtual 157, 3) := by decide +kernel
theorem dL_law_1354 : decode cL_law 1354 = .ok (.aload_n 2, 1) := by decide +kernel
theorem dL_law_1355 : decode cL_law 1355 = .ok (.aload_n 0, 1) := by decide +kernel
theorem dL_law_1356 : decode cL_law 1356 = .ok (.iload_n 3, 1) := by decide +kernel
theorem dL_law_1357 : decode cL_law 1357 = .ok (.iconst 1, 1) := by decide +kernel
theorem dL_law_1358 : decode cL_law 1358 = .ok (.iadd, 1) := by decide +kernel
theorem dL_law_1359 : decode cL_law 1359 = .ok (.iaload, 1) := by decide +kernel
theorem dL_law_1360 : decode cL_law 1360 = .ok (.aload_n 0, 1) := by decide +kernel
theorem dL_law_1361 : decode cL_law 1361 = .ok (.iload_n 3, 1) := by decide +kernel
theorem dL_law_1362 : decode cL_law 1362 = .ok (.iconst 2, 1) := by decide +kernel
theorem dL_law_1363 : decode cL_law 1363 = .ok (.iadd, 1) := by decide +kernel
theorem dL_law_1364 : decode cL_law 1364 = .ok (.iaload, 1) := by decide +kernel
theorem dL_law_1365 : decode cL_law 1365 = .ok (.aload_n 0, 1) := by decide +kernel
theorem dL_law_1366 : decode cL_law 1366 = .ok (.iload_n 3, 1) := by decide +kernel
theorem dL_law_1367 : decode cL_law 1367 = .ok (.iconst 3, 1) := by decide +kernel
theorem dL_law_1368 : decode cL_law 1368 = .ok (.iadd, 1) := by decide +kernel
theorem dL_law_1369 : decode cL_law 1369 = .ok (.iaload, 1) := by decide +kernel
theorem dL_law_1370 : decode cL_law 1370 = .ok (.invokevirtual 160, 3) := by decide +kernel
theorem dL_law_1373 : decode cL_law 1373 = .ok (.if_icmp .eq 199, 3) := by decide +kernel
theorem dL_law_1376 : decode cL_law 1376 = .ok (.iconst 0, 1) := by decide +kernel
theorem dL_law_1377 : decode cL_law 1377 = .ok (.ireturn, 1) := by decide +kernel
theorem dL_law_1378 : decode cL_law 1378 = .ok (.aload_n 1, 1) := by decide +kernel
theorem dL_law_1379 : decode cL_law 1379 = .ok (.aload_n 0, 1) := by decide +kernel
theorem dL_law_1380 : decode cL_law 1380 = .ok (.iload_n 3, 1) := by decide +kernel
theorem dL_law_1381 : decode cL_law 1381 = .ok (.iconst 1, 1) := by decide +kernel
theorem dL_law_1382 : decode cL_law 1382 = .ok (.iadd, 1) := by decide +kernel
theorem dL_law_1383 : decode cL_law 1383 = .ok (.iaload, 1) := by decide +kernel
theorem dL_law_1384 : decode cL_law 1384 = .ok (.invokevirtual 161, 3) := by decide +kernel
theorem dL_law_1387 : decode cL_law 1387 = .ok (.aload_n 2, 1) := by decide +kernel
theorem dL_law_1388 : decode cL_law 1388 = .ok (.aload_n 0, 1) := by decide +kernel
theorem dL_law_1389 : decode cL_law 1389 = .ok (.iload_n 3, 1) := by decide +kernel
theorem dL_law_1390 : decode cL_law 1390 = .ok (.iconst 1, 1) := by decide +kernel
theorem dL_law_1391 : decode cL_law 1391 = .ok (.iadd, 1) := by decide +kernel
theorem dL_law_1392 : decode cL_law 1392 = .ok (.iaload, 1) := by decide +kernel
theorem dL_law_1393 : decode cL_law 1393 = .ok (.invokevirtual 164, 3) := by decide +kernel
theorem dL_law_1396 : decode cL_law 1396 = .ok (.if_icmp .eq 176, 3) := by decide +kernel
theorem dL_law_1399 : decode cL_law 1399 = .ok (.iconst 0, 1) := by decide +kernel
theorem dL_law_1400 : decode cL_law 1400 = .ok (.ireturn, 1) := by decide +kernel
theorem dL_law_1401 : decode cL_law 1401 = .ok (.aload_n 1, 1) := by decide +kernel
theorem dL_law_1402 : decode cL_law 1402 = .ok (.aload_n 0, 1) := by decide +kernel
theorem dL_law_1403 : decode cL_law 1403 = .ok (.iload_n 3, 1) := by decide +kernel
theorem dL_law_1404 : decode cL_law 1404 = .ok (.iconst 1, 1) := by decide +kernel
theorem dL_law_1405 : decode cL_law 1405 = .ok (.iadd, 1) := by decide +kernel
theorem dL_law_1406 : decode cL_law 1406 = .ok (.iaload, 1) := by decide +kernel
theorem dL_law_1407 : decode cL_law 1407 = .ok (.invokevirtual 165, 3) := by decide +kernel
theorem dL_law_1410 : decode cL_law 1410 = .ok (.aload_n 2, 1) := by decide +kernel
theorem dL_law_1411 : decode cL_law 1411 = .ok (.aload_n 0, 1) := by decide +kernel
theorem dL_law_1412 : decode cL_law 1412 = .ok (.iload_n 3, 1) := by decide +kernel
theorem dL_law_1413 : decode cL_law 1413 = .ok (.iconst 1, 1) := by decide +kernel
theorem dL_law_1414 : decode cL_law 1414 = .ok (.iadd, 1) := by decide +kernel
theorem dL_law_1415 : decode cL_law 1415 = .ok (.iaload, 1) := by decide +kernel
theorem dL_law_1416 : decode cL_law 1416 = .ok (.invokevirtual 168, 3) := by decide +kernel
theorem dL_law_1419 : decode cL_law 1419 = .ok (.if_icmp .eq 153, 3) := by decide +kernel
theorem dL_law_1422 : decode cL_law 1422 = .ok (.iconst 0, 1) := by decide +kernel
theorem dL_law_1423 : decode cL_law 1423 = .ok (.ireturn, 1) := by decide +kernel
theorem dL_law_1424 : decode cL_law 1424 = .ok (.aload_n 1, 1) := by decide +kernel
theorem dL_law_1425 : decode cL_law 1425 = .ok (.aload_n 0, 1) := by decide +kernel
theorem dL_law_1426 : decode cL_law 1426 = .ok (.iload_n 3, 1) := by decide +kernel
theorem dL_law_1427 : decode cL_law 1427 = .ok (.iconst 1, 1) := by decide +kernel
theorem dL_law_1428 : decode cL_law 1428 = .ok (.iadd, 1) := by decide +kernel
theorem dL_law_1429 : decode cL_law 1429 = .ok (.iaload, 1) := by decide +kernel
theorem dL_law_1430 : decode cL_law 1430 = .ok (.invokevirtual 169, 3) := by decide +kernel
theorem dL_law_1433 : decode cL_law 1433 = .ok (.aload_n 2, 1) := by decide +kernel
theorem dL_law_1434 : decode cL_law 1434 = .ok (.aload_n 0, 1) := by decide +kernel
theorem dL_law_1435 : decode cL_law 1435 = .ok (.iload_n 3, 1) := by decide +kernel
theorem dL_law_1436 : decode cL_law 1436 = .ok (.iconst 1, 1) := by decide +kernel
theorem dL_law_1437 : decode cL_law 1437 = .ok (.iadd, 1) := by decide +kernel
theorem dL_law_1438 : decode cL_law 1438 = .ok (.iaload, 1) := by decide +kernel
theorem dL_law_1439 : decode cL_law 1439 = .ok (.invokevirtual 172, 3) := by decide +kernel
theorem dL_law_1442 : decode cL_law 1442 = .ok (.if_icmp .eq 130, 3) := by decide +kernel
theorem dL_law_1445 : decode cL_law 1445 = .ok (.iconst 0, 1) := by decide +kernel
theorem dL_law_1446 : decode cL_law 1446 = .ok (.ireturn, 1) := by decide +kernel
theorem dL_law_1447 : decode cL_law 1447 = .ok (.aload_n 1, 1) := by decide +kernel
theorem dL_law_1448 : decode cL_law 1448 = .ok (.aload_n 0, 1) := by decide +kernel
theorem dL_law_1449 : decode cL_law 1449 = .ok (.iload_n 3, 1) := by decide +kernel
theorem dL_law_1450 : decode cL_law 1450 = .ok (.iconst 1, 1) := by decide +kernel
theorem dL_law_1451 : decode cL_law 1451 = .ok (.iadd, 1) := by decide +kernel
theorem dL_law_1452 : decode cL_law 1452 = .ok (.iaload, 1) := by decide +kernel
theorem dL_law_1453 : decode cL_law 1453 = .ok (.aload_n 0, 1) := by decide +kernel
theorem dL_law_1454 : decode cL_law 1454 = .ok (.iload_n 3, 1) := by decide +kernel
theorem dL_law_1455 : decode cL_law 1455 = .ok (.iconst 2, 1) := by decide +kernel
theorem dL_law_1456 : decode cL_law 1456 = .ok (.iadd, 1) := by decide +kernel
theorem dL_law_1457 : decode cL_law 1457 = .ok (.iaload, 1) := by decide +kernel
theorem dL_law_1458 : decode cL_law 1458 = .ok (.invokevirtual 173, 3) := by decide +kernel
theorem dL_law_1461 : decode cL_law 1461 = .ok (.aload_n 2, 1) := by decide +kernel
theorem dL_law_1462 : decode cL_law 1462 = .ok (.aload_n 0, 1) := by decide +kernel
theorem dL_law_1463 : decode cL_law 1463 = .ok (.iload_n 3, 1) := by decide +kernel
theorem dL_law_1464 : decode cL_law 1464 = .ok (.iconst 1, 1) := by decide +kernel
theorem dL_law_1465 : decode cL_law 1465 = .ok (.iadd, 1) := by decide +kernel
theorem dL_law_1466 : decode cL_law 1466 = .ok (.iaload, 1) := by decide +kernel
theorem dL_law_1467 : decode cL_law 1467 = .ok (.aload_n 0, 1) := by decide +kernel
theorem dL_law_1468 : decode cL_law 1468 = .ok (.iload_n 3, 1) := by decide +kernel
theorem dL_law_1469 : decode cL_law 1469 = .ok (.iconst 2, 1) := by decide +kernel
theorem dL_law_1470 : decode cL_law 1470 = .ok (.iadd, 1) := by decide +kernel
theorem dL_law_1471 : decode cL_law 1471 = .ok (.iaload, 1) := by decide +kernel
theorem dL_law_1472 : decode cL_law 1472 = .ok (.invokevirtual 176, 3) := by decide +kernel
theorem dL_law_1475 : decode cL_law 1475 = .ok (.if_icmp .eq 97, 3) := by decide +kernel
theorem dL_law_1478 : decode cL_law 1478 = .ok (.iconst 0, 1) := by decide +kernel
theorem dL_law_1479 : decode cL_law 1479 = .ok (.ireturn, 1) := by decide +kernel
theorem dL_law_1480 : decode cL_law 1480 = .ok (.aload_n 1, 1) := by decide +kernel
theorem dL_law_1481 : decode cL_law 1481 = .ok (.aload_n 0, 1) := by decide +kernel
theorem dL_law_1482 : decode cL_law 1482 = .ok (.iload_n 3, 1) := by decide +kernel
theorem dL_law_1483 : decode cL_law 1483 = .ok (.iconst 1, 1) := by decide +kernel
theorem dL_law_1484 : decode cL_law 1484 = .ok (.iadd, 1) := by decide +kernel
theorem dL_law_1485 : decode cL_law 1485 = .ok (.iaload, 1) := by decide +kernel
theorem dL_law_1486 : decode cL_law 1486 = .ok (.aload_n 0, 1) := by decide +kernel
theorem dL_law_1487 : decode cL_law 1487 = .ok (.iload_n 3, 1) := by decide +kernel
theorem dL_law_1488 : decode cL_law 1488 = .ok (.iconst 2, 1) := by decide +kernel
theorem dL_law_1489 : decode cL_law 1489 = .ok (.iadd, 1) := by decide +kernel
theorem dL_law_1490 : decode cL_law 1490 = .ok (.iaload, 1) := by decide +kernel
theorem dL_law_1491 : decode cL_law 1491 = .ok (.invokevirtual 177, 3) := by decide +kernel
theorem dL_law_1494 : decode cL_law 1494 = .ok (.aload_n 2, 1) := by decide +kernel
theorem dL_law_1495 : decode cL_law 1495 = .ok (.aload_n 0, 1) := by decide +kernel
theorem dL_law_1496 : decode cL_law 1496 = .ok (.iload_n 3, 1) := by decide +kernel
theorem dL_law_1497 : decode cL_law 1497 = .ok (.iconst 1, 1) := by decide +kernel
theorem dL_law_1498 : decode cL_law 1498 = .ok (.iadd, 1) := by decide +kernel
theorem dL_law_1499 : decode cL_law 1499 = .ok (.iaload, 1) := by decide +kernel
theorem dL_law_1500 : decode cL_law 1500 = .ok (.aload_n 0, 1) := by decide +kernel
theorem dL_law_1501 : decode cL_law 1501 = .ok (.iload_n 3, 1) := by decide +kernel
theorem dL_law_1502 : decode cL_law 1502 = .ok (.iconst 2, 1) := by decide +kernel
theorem dL_law_1503 : decode cL_law 1503 = .ok (.iadd, 1) := by decide +kernel
theorem dL_law_1504 : decode cL_law 1504 = .ok (.iaload, 1) := by decide +kernel
theorem dL_law_1505 : decode cL_law 1505 = .ok (.invokevirtual 180, 3) := by decide +kernel
theorem dL_law_1508 : decode cL_law 1508 = .ok (.if_icmp .eq 64, 3) := by decide +kernel
theorem dL_law_1511 : decode cL_law 1511 = .ok (.iconst 0, 1) := by decide +kernel
theorem dL_law_1512 : decode cL_law 1512 = .ok (.ireturn, 1) := by decide +kernel
theorem dL_law_1513 : decode cL_law 1513 = .ok (.aload_n 1, 1) := by decide +kernel
theorem dL_law_1514 : decode cL_law 1514 = .ok (.aload_n 0, 1) := by decide +kernel
theorem dL_law_1515 : decode cL_law 1515 = .ok (.iload_n 3, 1) := by decide +kernel
theorem dL_law_1516 : decode cL_law 1516 = .ok (.iconst 1, 1) := by decide +kernel
theorem dL_law_1517 : decode cL_law 1517 = .ok (.iadd, 1) := by decide +kernel
theorem dL_law_1518 : decode cL_law 1518 = .ok (.iaload, 1) := by decide +kernel
theorem dL_law_1519 : decode cL_law 1519 = .ok (.invokevirtual 181, 3) := by decide +kernel
theorem dL_law_1522 : decode cL_law 1522 = .ok (.aload_n 2, 1) := by decide +kernel
theorem dL_law_1523 : decode cL_law 1523 = .ok (.aload_n 0, 1) := by decide +kernel
theorem dL_law_1524 : decode cL_law 1524 = .ok (.iload_n 3, 1) := by decide +kernel
theorem dL_law_1525 : decode cL_law 1525 = .ok (.iconst 1, 1) := by decide +kernel
theorem dL_law_1526 : decode cL_law 1526 = .ok (.iadd, 1) := by decide +kernel
theorem dL_law_1527 : decode cL_law 1527 = .ok (.iaload, 1) := by decide +kernel
theorem dL_law_1528 : decode cL_law 1528 = .ok (.invokevirtual 184, 3) := by decide +kernel
theorem dL_law_1531 : decode cL_law 1531 = .ok (.if_icmp .eq 41, 3) := by decide +kernel
theorem dL_law_1534 : decode cL_law 1534 = .ok (.iconst 0, 1) := by decide +kernel
theorem dL_law_1535 : decode cL_law 1535 = .ok (.ireturn, 1) := by decide +kernel
theorem dL_law_1536 : decode cL_law 1536 = .ok (.aload_n 1, 1) := by decide +kernel
theorem dL_law_1537 : decode cL_law 1537 = .ok (.aload_n 0, 1) := by decide +kernel
theorem dL_law_1538 : decode cL_law 1538 = .ok (.iload_n 3, 1) := by decide +kernel
theorem dL_law_1539 : decode cL_law 1539 = .ok (.iconst 1, 1) := by decide +kernel
theorem dL_law_1540 : decode cL_law 1540 = .ok (.iadd, 1) := by decide +kernel
theorem dL_law_1541 : decode cL_law 1541 = .ok (.iaload, 1) := by decide +kernel
theorem dL_law_1542 : decode cL_law 1542 = .ok (.invokevirtual 185, 3) := by decide +kernel
theorem dL_law_1545 : decode cL_law 1545 = .ok (.aload_n 2, 1) := by decide +kernel
theorem dL_law_1546 : decode cL_law 1546 = .ok (.aload_n 0, 1) := by decide +kernel
theorem dL_law_1547 : decode cL_law 1547 = .ok (.iload_n 3, 1) := by decide +kernel
theorem dL_law_1548 : decode cL_law 1548 = .ok (.iconst 1, 1) := by decide +kernel
theorem dL_law_1549 : decode cL_law 1549 = .ok (.iadd, 1) := by decide +kernel
theorem dL_law_1550 : decode cL_law 1550 = .ok (.iaload, 1) := by decide +kernel
theorem dL_law_1551 : decode cL_law 1551 = .ok (.invokevirtual 188, 3) := by decide +kernel
theorem dL_law_1554 : decode cL_law 1554 = .ok (.if_icmp .eq 18, 3) := by decide +kernel
theorem dL_law_1557 : decode cL_law 1557 = .ok (.iconst 0, 1) := by decide +kernel
theorem dL_law_1558 : decode cL_law 1558 = .ok (.ireturn, 1) := by decide +kernel
theorem dL_law_1559 : decode cL_law 1559 = .ok (.aload_n 1, 1) := by decide +kernel
theorem dL_law_1560 : decode cL_law 1560 = .ok (.invokevirtual 189, 3) := by decide +kernel
theorem dL_law_1563 : decode cL_law 1563 = .ok (.aload_n 2, 1) := by decide +kernel
theorem dL_law_1564 : decode cL_law 1564 = .ok (.invokevirtual 192, 3) := by decide +kernel
theorem dL_law_1567 : decode cL_law 1567 = .ok (.if_icmp .eq 5, 3) := by decide +kernel
theorem dL_law_1570 : decode cL_law 1570 = .ok (.iconst 0, 1) := by decide +kernel
theorem dL_law_1571 : decode cL_law 1571 = .ok (.ireturn, 1) := by decide +kernel
theorem dL_law_1572 : decode cL_law 1572 = .ok (.iinc 3 7, 3) := by decide +kernel
theorem dL_law_1575 : decode cL_law 1575 = .ok (.goto (-1557), 3) := by decide +kernel
theorem dL_law_1578 : decode cL_law 1578 = .ok (.iconst 1, 1) := by decide +kernel
theorem dL_law_1579 : decode cL_law 1579 = .ok (.ireturn, 1) := by decide +kernel
end
section
/-! MEMORY: cell number, place, int. 0..13 the reference, 14..86 the class; what refers to what is fixed -/
abbrev Mem : Type := Nat → Nat → Int32
def setA (M : Mem) (k : Nat) (g : Nat → Int32) : Mem := fun q => if q = k then g else M q
def mset (M : Mem) (k j : Nat) (v : Int32) : Mem := setA M k (upd (M k) j v)
theorem setA_eq (M : Mem) (k : Nat) (g : Nat → Int32) : setA M k g k = g := if_pos rfl
theorem setA_ne (M : Mem) {k q : Nat} (g : Nat → Int32) (h : q ≠ k) : setA M k g q = M q := if_neg h
theorem mset_eq (M : Mem) (k j : Nat) (v : Int32) : mset M k j v k = upd (M k) j v := setA_eq _ _ _
theorem mset_ne (M : Mem) {k q : Nat} (j : Nat) (v : Int32) (h : q ≠ k) : mset M k j v q = M q := setA_ne _ _ h
/-- class numbers and slots; int[], boolean[], Row[], int[][]; addresses -/
abbrev Gx : Type := va_G × ClassId × ClassId × ClassId × ClassId × (Nat → Nat)
abbrev gA (G : Gx) : Nat → Nat := G.2.2.2.2.2
def clsO (k : Nat) : Option Nat := if k = 0 then some 6 else if k = 14 then some 5 else if k = 16 then some 4 else if k = 18 then some 2 else if k = 28 then some 2 else if k = 40 then some 1 else if k = 43 then some 0 else if 45 ≤ k ∧ k < 53 then some 3 else none
def lenA (k : Nat) : Nat := if k = 1 then 8 else if k = 2 then 8 else if k = 3 then 320 else if k = 5 then 40 else if k = 6 then 120 else if k = 8 then 6 else if k = 9 then 984 else if k = 11 then 2 else if k = 12 then 82 else if k = 13 then 16 else if k = 17 then 120 else if k = 39 then 6 else if k = 44 then 16 else if 19 ≤ k ∧ k < 38 then 6 else if 53 ≤ k ∧ k < 61 then 40 else 41
def fsO (G : Gx) (c k : Nat) (m : Nat → Int32) : List Value := match c with
  | 0 => [.ref (gA G (k + 1)), .int (m 1)]
  | 1 => [.ref (gA G (k + 1)), .int (m 1), .int (m 2)]
  | 2 => [.int (m 0), .int (m 1), .int (m 2), .int (m 3), .int (m 4), .ref (gA G (k + 1)), .ref (gA G (k + 2)), .ref (gA G (k + 3)), .ref (gA G (k + 4)), .ref (gA G (k + 5)), .ref (gA G (k + 6)), .ref (gA G (k + 7)), .ref (gA G (k + 8)), .ref (gA G (k + 9))]
  | 3 => [.ref (gA G (k + 8)), .int (m 1), .int (m 2)]
  | 4 => [.ref (gA G (k + 1)), .int (m 1), .int (m 2), .int (m 3)]
  | 5 => [.ref (gA G 15), .ref (gA G 16), .ref (gA G 18), .ref (gA G 28), .ref (gA G 38), .ref (gA G 39), .ref (gA G 40), .ref (gA G 42), .ref (gA G 43), .int (m 9), .int (m 10), .int (m 11)]
  | _ => [.ref (gA G 1), .ref (gA G 2), .ref (gA G 3), .int (m 3), .int (m 4), .ref (gA G 4), .ref (gA G 5), .ref (gA G 6), .int (m 8), .int (m 9), .int (m 10), .int (m 11), .int (m 12), .int (m 13), .int (m 14), .ref (gA G 7), .ref (gA G 8), .int (m 17), .ref (gA G 9), .int (m 19), .ref (gA G 10), .ref (gA G 11), .ref (gA G 12), .ref (gA G 13), .int (m 24)]
def isIA (k : Nat) : Bool := (clsO k == none) && (k != 11 && (k != 15 && (k != 41 && (k != 42 && decide (k < 87)))))
def contE (G : Gx) (k : Nat) (m : Nat → Int32) : va_E := match clsO k with
  | some c => .inr (c, fsO G c k m)
  | none => if k = 15 then .inl (G.2.2.2.1, 8, .inr (.inr (.inr (.inr (fun j => some (gA G (45 + j))))))) else if k = 41 then .inl (G.2.2.2.2.1, 24, .inr (.inr (.inr (.inr (fun j => some (gA G (61 + j))))))) else if k = 42 then .inl (G.2.2.2.2.1, 2, .inr (.inr (.inr (.inr (fun j => some (gA G (85 + j))))))) else if k = 11 then .inl (G.2.2.1, 2, .inl m) else .inl (G.2.1, lenA k, .inl m)
def Wd (G : Gx) (M : Mem) : va_W := (List.range 87).map (fun k => (gA G k, contE G k (M k)))
theorem Wd_at (G : Gx) (M : Mem) {k : Nat} (h : k < 87) : (Wd G M)[k]? = some (gA G k, contE G k (M k)) := by
  unfold Wd
  rw [List.getElem?_map, List.getElem?_range h]
  rfl
theorem Wd_len (G : Gx) (M : Mem) : (Wd G M).length = 87 := by simp [Wd]
theorem Wd_set (G : Gx) (M : Mem) {k : Nat} (h : k < 87) (g : Nat → Int32) {e : va_E} (he : contE G k g = e) : (Wd G M).set k (gA G k, e) = Wd G (setA M k g) := by
  apply List.ext_getElem?
  intro i
  by_cases hi : i < 87
  · by_cases e : i = k
    · subst e
      rw [List.getElem?_set_self (by rw [Wd_len]; exact h), Wd_at _ _ h, setA_eq, he]
    · rw [List.getElem?_set_ne (Ne.symm e), Wd_at _ _ hi, Wd_at _ _ hi, setA_ne _ _ e]
  · rw [List.getElem?_eq_none (by rw [List.length_set, Wd_len]; omega), List.getElem?_eq_none (by rw [Wd_len]; omega)]
theorem contE_IA (G : Gx) {k : Nat} (m : Nat → Int32) (h : isIA k = true) : contE G k m = .inl (G.2.1, lenA k, .inl m) := by
  simp only [isIA, Bool.and_eq_true, beq_iff_eq, bne_iff_ne, ne_eq, decide_eq_true_eq] at h
  obtain ⟨h1, h2, h3, h4, h5, -⟩ := h
  simp only [contE, h1, if_neg h2, if_neg h3, if_neg h4, if_neg h5]
theorem isIA_lt {k : Nat} (h : isIA k = true) : k < 87 := by
  simp only [isIA, Bool.and_eq_true, decide_eq_true_eq] at h
  exact h.2.2.2.2.2
theorem contE_cls (G : Gx) {k c : Nat} (m : Nat → Int32) (h : clsO k = some c) : contE G k m = .inr (c, fsO G c k m) := by
  simp only [contE, h]
theorem clsO_lt {k c : Nat} (h : clsO k = some c) : k < 87 := by
  unfold clsO at h
  repeat' split at h
  all_goals first | omega | cases h
theorem isIA_hi {k : Nat} (h1 : 53 ≤ k) (h2 : k < 87) : isIA k = true := by
  have : clsO k = none := by
    unfold clsO
    repeat' split
    all_goals first | omega | rfl
  simp only [isIA, this]
  simp
  omega
theorem clsO_row {k : Nat} (h1 : 45 ≤ k) (h2 : k < 53) : clsO k = some 3 := by
  unfold clsO
  repeat' split
  all_goals first | omega | rfl
theorem lenA_items {k : Nat} (h1 : 53 ≤ k) (h2 : k < 61) : lenA k = 40 := (by decide : ∀ k : Nat, k < 61 → 53 ≤ k → lenA k = 40) k h2 h1
theorem lenA_cells {k : Nat} (h1 : 61 ≤ k) (h2 : k < 87) : lenA k = 41 := (by decide : ∀ k : Nat, k < 87 → 61 ≤ k → lenA k = 41) k h2 h1
theorem lenA_le {o : Nat} (h : isIA o = true) : lenA o ≤ 984 := (by decide : ∀ k : Nat, k < 87 → lenA k ≤ 984) o (isIA_lt h)
/-- the cells of the world -/
def Ax (G : Gx) : Nat → Prop := fun q => ∃ k, k < 87 ∧ q = gA G k
def Inj (G : Gx) : Prop := ∀ i j : Nat, i < 87 → j < 87 → gA G i = gA G j → i = j
theorem Wd_mem {G : Gx} {M : Mem} {i : Nat} {p : Nat × va_E} (h : (Wd G M)[i]? = some p) : i < 87 ∧ p = (gA G i, contE G i (M i)) := by
  have hi : i < 87 := by
    have := (List.getElem?_eq_some_iff.mp h).1
    rwa [Wd_len] at this
  rw [Wd_at _ _ hi] at h
  exact ⟨hi, (Option.some.inj h).symm⟩
theorem Wd_D {G : Gx} (hG : Inj G) (M : Mem) : va_D (Ax G) (Wd G M) := by
  refine ⟨fun i j p q hp hq hpq => ?_, fun k q hk => ?_⟩
  · obtain ⟨h1, rfl⟩ := Wd_mem hp
    obtain ⟨h2, rfl⟩ := Wd_mem hq
    exact hG i j h1 h2 hpq
  · obtain ⟨h1, rfl⟩ := Wd_mem hk
    exact ⟨k, h1, rfl⟩
/-! WORDS -/
def gtbl : List Cond := lw_tbl.filter goodWord
def isNest : Cond → Bool
  | .methodLinkNest _ _ _ _ => true
  | _ => false
def ntbl : List Cond := lw_tbl.filter isNest
theorem in_g {w : Cond} (h : w ∈ lw_tbl) (hg : goodWord w = true) : w ∈ gtbl := List.mem_filter.mpr ⟨h, hg⟩
theorem in_n {w : Cond} (h : w ∈ lw_tbl) (hg : isNest w = true) : w ∈ ntbl := List.mem_filter.mpr ⟨h, hg⟩
theorem gtbl_good {w : Cond} (h : w ∈ gtbl) : (w.onTables && w.keeps) = true ∨ ∃ ty, w = .arrayClass ty := good_of_word (List.mem_filter.mp h).2
theorem good_gg {c c' : Cond} (h : c' ∈ gtbl) : GoodIn (c :: gtbl) (c' :: gtbl) := by
  intro w hw
  have hg : w ∈ gtbl := by
    rcases List.mem_cons.mp hw with rfl | h1
    · exact h
    · exact h1
  exact ⟨List.mem_cons_of_mem _ hg, gtbl_good hg⟩
theorem good_g {c' : Cond} (h : c' ∈ gtbl) : GoodIn gtbl (c' :: gtbl) := by
  intro w hw
  have hg : w ∈ gtbl := by
    rcases List.mem_cons.mp hw with rfl | h1
    · exact h
    · exact h1
  exact ⟨hg, gtbl_good hg⟩
def tysG (G : Gx) : List (ClassId × FieldType) := [(G.2.1, .int), (G.2.2.1, .boolean), (G.2.2.2.1, .object "ChairRanks$Row"), (G.2.2.2.2.1, .array .int)]
def kaF : Nat → Value := fun j => if j = 0 then .int (-1000000) else if j = 1 then .int 0 else if j = 2 then .int 1 else if j = 3 then .int 1 else if j = 4 then .int 0 else .int 4
/-- what stands besides the world: the table of kinds, the text of sorts -/
def Ex (G : Gx) (U : State) (H : Heap) : Prop :=
  (∃ t : Nat, va_Z "ChairRanks" "KIND_ABOVE" "[I" (.ref t) (Ax G) U H ∧ va_T .int t 6 kaF (Ax G) U H) ∧
  (∃ adK adV : Nat → Nat, vk_R "ChairRanks$Tape" 51 "prcot" (adK 0) U ∧ vk_S 1 [5] [[112, 114, 99, 111, 116]] adK adV (Ax G) U H) ∧
  va_Z "java/lang/String" "COMPACT_STRINGS" "Z" (.int 1) (Ax G) U H
theorem Ex.same {G : Gx} {u U : State} {H : Heap} (hv : U.vm = u.vm) (h : Ex G u H) : Ex G U H := by
  have hal : u.vm.Alike U.vm := by rw [hv]; exact Vm.Alike.refl _
  obtain ⟨⟨t, h1, h2⟩, ⟨k, v, h3, h4⟩, h5⟩ := h
  exact ⟨⟨t, h1.moved hal, h2.moved hal⟩, ⟨k, v, h3.same hv, h4.moved hal⟩, h5.moved hal⟩
theorem Ex.go {G : Gx} {s U : State} {H H1 : Heap} (hW : s.WarmedH U.vm) (hq : ∀ a : Nat, a < H.size → ¬ Ax G a → H1[a]? = H[a]?) (h : Ex G s H) : Ex G U H1 := by
  obtain ⟨⟨t, h1, h2⟩, ⟨k, v, h3, h4⟩, h5⟩ := h
  exact ⟨⟨t, (h1.moved hW.alike).kept hq, (h2.moved hW.alike).kept hq⟩, ⟨k, v, h3.warm hW, (h4.moved hW.alike).kept hq⟩, (h5.moved hW.alike).kept hq⟩
def KK (G : Gx) (U : State) : Prop := Inj G ∧ va_K G.1 vwCl (tysG G) U ∧ ∀ w ∈ ntbl, va_Nw w U
theorem KK.same {G : Gx} {u U : State} (hv : U.vm = u.vm) (h : KK G u) : KK G U := by
  have hal : u.vm.Alike U.vm := by rw [hv]; exact Vm.Alike.refl _
  refine ⟨h.1, h.2.1.moved hal, fun w hw => va_Nw.same ?_ hv.symm (h.2.2 w hw)⟩
  have hn := (List.mem_filter.mp hw).2
  cases w <;> first | rfl | (simp [isNest] at hn)
theorem KK.go {G : Gx} {s U : State} (hW : s.WarmedH U.vm) (h : KK G s) : KK G U := by
  refine ⟨h.1, h.2.1.moved hW.alike, fun w hw => ?_⟩
  have hn := (List.mem_filter.mp hw).2
  have h2 := h.2.2 w hw
  cases w <;> first | exact va_Nw.warmM hW h2 | (simp [isNest] at hn)
/-! CONTRACTS -/
abbrev rmx (fr lo : Nat) : Room := { frames := fr, cells := 0, slots := 0, locals := lo }
def QcG (G : Gx) (P : Option Value → Mem → Prop) : Array Value → State → Outcome → State → Prop := fun _ st oc t => (∃ (v : Option Value) (M' : Mem), oc = .returned v ∧ P v M' ∧ va_P G.1 vwCl (Wd G M') t.heap) ∧ va_F (Ax G) st t
def PcG (G : Gx) (As : List Value) (M : Mem) : Array Value → State → Prop := va_Pc As (fun U => va_P G.1 vwCl (Wd G M) U.heap ∧ KK G U ∧ Ex G U U.heap)
/-- the contract of a method: with these arguments, in this memory, it returns, P holds of answer and memory; fr frames, lo words of locals below it -/
def Con (l : Launch) (G : Gx) (y : MethodName) (cc : ByteArray) (nL : Nat) (ret : Option FieldType) (fr lo : Nat) (As : List Value) (M : Mem) (P : Option Value → Mem → Prop) : Prop :=
  Met l y (.code y cc nL ret :: gtbl) (rmx fr lo) (PcG G As M) (QcG G P) 0 0 (Ax G)
theorem PcG_blind (G : Gx) (As : List Value) (M : Mem) : FrameBlind (PcG G As M) := by
  intro a U g mk h
  obtain ⟨h0, h1, h2, h3⟩ := h
  exact ⟨h0, h1, KK.same (u := U) (U := U.calling g mk a) rfl h2, Ex.same (u := U) (U := U.calling g mk a) rfl h3⟩
/-! THE JUDGEMENT -/
abbrev Kx : Type := Program × Launch × Env × State × MethodId × Array Value × List Frame × Method × Code × Gx × Nat × Nat
abbrev Kx.p (κ : Kx) : Program := κ.1
abbrev Kx.l (κ : Kx) : Launch := κ.2.1
abbrev Kx.e (κ : Kx) : Env := κ.2.2.1
abbrev Kx.s (κ : Kx) : State := κ.2.2.2.1
abbrev Kx.m (κ : Kx) : MethodId := κ.2.2.2.2.1
abbrev Kx.a (κ : Kx) : Array Value := κ.2.2.2.2.2.1
abbrev Kx.b (κ : Kx) : List Frame := κ.2.2.2.2.2.2.1
abbrev Kx.h (κ : Kx) : Method := κ.2.2.2.2.2.2.2.1
abbrev Kx.c (κ : Kx) : Code := κ.2.2.2.2.2.2.2.2.1
abbrev Kx.G (κ : Kx) : Gx := κ.2.2.2.2.2.2.2.2.2.1
abbrev Kx.k (κ : Kx) : Nat := κ.2.2.2.2.2.2.2.2.2.2.1
abbrev Kx.n (κ : Kx) : Nat := κ.2.2.2.2.2.2.2.2.2.2.2
def lfl : Nat → List (Option Value) → List (Nat × Value)
  | _, [] => []
  | i, some v :: t => (i, v) :: lfl (i + 1) t
  | i, none :: t => lfl (i + 1) t
theorem lfl_mem {f : List (Option Value)} : ∀ {i j : Nat} {v : Value}, (j, v) ∈ lfl i f ↔ i ≤ j ∧ f[j - i]? = some (some v) := by
  induction f with
  | nil => intro i j v; simp [lfl]
  | cons x t ih =>
    intro i j v
    have key : (j, v) ∈ lfl (i + 1) t ↔ i + 1 ≤ j ∧ (x :: t)[j - i]? = some (some v) := by
      rw [ih]
      constructor
      · rintro ⟨h1, h2⟩
        refine ⟨h1, ?_⟩
        rw [show j - i = (j - (i + 1)) + 1 by omega, List.getElem?_cons_succ]
        exact h2
      · rintro ⟨h1, h2⟩
        refine ⟨h1, ?_⟩
        rw [show j - i = (j - (i + 1)) + 1 by omega, List.getElem?_cons_succ] at h2
        exact h2
    have zero : ∀ h : j = i, (x :: t)[j - i]? = some x := by
      intro h
      subst h
      rw [Nat.sub_self, List.getElem?_cons_zero]
    cases x with
    | none =>
      show (j, v) ∈ lfl (i + 1) t ↔ _
      rw [key]
      constructor
      · rintro ⟨h1, h2⟩; exact ⟨by omega, h2⟩
      · rintro ⟨h1, h2⟩
        refine ⟨?_, h2⟩
        rcases Nat.lt_or_ge i j with h | h
        · exact h
        · rw [zero (by omega)] at h2
          cases h2
    | some w =>
      show (j, v) ∈ (i, w) :: lfl (i + 1) t ↔ _
      rw [List.mem_cons, key]
      constructor
      · rintro (h | ⟨h1, h2⟩)
        · cases h
          exact ⟨Nat.le_refl _, zero rfl⟩
        · exact ⟨by omega, h2⟩
      · rintro ⟨h1, h2⟩
        rcases Nat.lt_or_ge i j with h | h
        · exact Or.inr ⟨h, h2⟩
        · have hj : j = i := by omega
          rw [zero hj] at h2
          cases h2
          rw [hj]
          exact Or.inl rfl
theorem lfl_at {ls : Array Slot} {nL : Nat} {f : List (Option Value)} (h : lv_has ls nL (lfl 0 f)) {i : Nat} {v : Value} (hi : f[i]? = some (some v)) : ls[i]? = some (.val v) := h.2.2 (i, v) (lfl_mem.mpr ⟨Nat.zero_le _, hi⟩)
/-- no value of two words stands just ahead of place i -/
def okS (f : List (Option Value)) (i : Nat) : Bool := match i with
  | 0 => true
  | j + 1 => match f[j]? with
    | some (some v) => v.category != 2
    | _ => true
theorem lfl_set1 {ls : Array Slot} {nL : Nat} {f : List (Option Value)} {i : Nat} {v : Value} (ho : okS f i = true) (h : lv_has ls nL ((i, v) :: (lfl 0 f).filter (fun q => !(q.1 == i) && !(q.1 + 1 == i && q.2.category == 2)))) : lv_has ls nL (lfl 0 (f.set i (some v))) := by
  refine ⟨h.1, h.2.1, fun q hq => ?_⟩
  obtain ⟨j, u⟩ := q
  have hr := (lfl_mem.mp hq).2
  rw [Nat.sub_zero] at hr
  by_cases e : i = j
  · subst e
    rw [List.getElem?_set, if_pos rfl] at hr
    by_cases hlt : i < f.length
    · rw [if_pos hlt] at hr
      have hu := Option.some.inj (Option.some.inj hr)
      subst hu
      exact h.2.2 _ List.mem_cons_self
    · rw [if_neg hlt] at hr
      exact absurd hr (by simp)
  · rw [List.getElem?_set_ne e] at hr
    refine h.2.2 _ (List.mem_cons_of_mem _ (List.mem_filter.mpr ⟨lfl_mem.mpr ⟨Nat.zero_le _, hr⟩, ?_⟩))
    have h1 : (j == i) = false := by simp; omega
    have h2 : (j + 1 == i && u.category == 2) = false := by
      by_cases e2 : j + 1 = i
      · subst e2
        simp only [okS, hr, bne_iff_ne, ne_eq] at ho
        simp [ho]
      · simp [e2]
    simp [h1, h2]
theorem lfl_set2 {ls : Array Slot} {nL : Nat} {f : List (Option Value)} {i : Nat} {v : Value} (ho : okS f i = true) (h : lv_has ls nL ((i, v) :: (lfl 0 f).filter (fun q => !(q.1 == i) && (!(q.1 == i + 1) && !(q.1 + 1 == i && q.2.category == 2))))) : lv_has ls nL (lfl 0 ((f.set i (some v)).set (i + 1) none)) := by
  refine ⟨h.1, h.2.1, fun q hq => ?_⟩
  obtain ⟨j, u⟩ := q
  have hr := (lfl_mem.mp hq).2
  rw [Nat.sub_zero] at hr
  by_cases e1 : i + 1 = j
  · subst e1
    rw [List.getElem?_set, if_pos rfl] at hr
    exact absurd hr (by split <;> simp)
  rw [List.getElem?_set_ne e1] at hr
  by_cases e : i = j
  · subst e
    rw [List.getElem?_set, if_pos rfl] at hr
    by_cases hlt : i < f.length
    · rw [if_pos hlt] at hr
      have hu := Option.some.inj (Option.some.inj hr)
      subst hu
      exact h.2.2 _ List.mem_cons_self
    · rw [if_neg hlt] at hr
      exact absurd hr (by simp)
  · rw [List.getElem?_set_ne e] at hr
    refine h.2.2 _ (List.mem_cons_of_mem _ (List.mem_filter.mpr ⟨lfl_mem.mpr ⟨Nat.zero_le _, hr⟩, ?_⟩))
    have h1 : (j == i) = false := by simp; omega
    have h3 : (j == i + 1) = false := by simp; omega
    have h2 : (j + 1 == i && u.category == 2) = false := by
      by_cases e2 : j + 1 = i
      · subst e2
        simp only [okS, hr, bne_iff_ne, ne_eq] at ho
        simp [ho]
      · simp [e2]
    simp [h1, h2, h3]
def Cx (κ : Kx) (cc : ByteArray) (own : String) (nL : Nat) (ret : Option FieldType) : Prop :=
  κ.p.tables.exec = Jvm.exec ∧ κ.c.code = cc ∧ κ.c.maxLocals = nL ∧ κ.s.vm.findClass own = some κ.m.cls ∧ (∀ w ∈ gtbl, w.before κ.a κ.s = true) ∧ KK κ.G κ.s ∧ Ex κ.G κ.s κ.s.heap ∧ κ.h.locks = false ∧ κ.h.sig.returnType = ret
/-- the machine, at pc with locals f, stack st and memory M, comes to a state with Q -/
def V (κ : Kx) (cc : ByteArray) (own : String) (nL : Nat) (ret : Option FieldType) (R : Room) (Q : State → Prop) (M : Mem) (pc : Nat) (f : List (Option Value)) (st : List Value) : Prop :=
  Cx κ cc own nL ret → ∀ (H : Heap) (locs : List Loc) (ls : Array Slot), va_P κ.G.1 vwCl (Wd κ.G M) H → va_S (Ax κ.G) κ.s.heap H locs → lv_has ls nL (lfl 0 f) → W κ.p κ.l κ.e R κ.s κ.m κ.a κ.b κ.h κ.c H locs κ.k κ.n Q (F0 κ.m pc ls st)
/-- a method's own end -/
abbrev QM (κ : Kx) (P : Option Value → Mem → Prop) : State → Prop := MQ κ.b (QcG κ.G P) κ.a κ.s κ.k κ.n (Ax κ.G)
theorem Con.ofV {l : Launch} {G : Gx} {y : MethodName} {cc : ByteArray} {nL : Nat} {ret : Option FieldType} {fr lo : Nat} {As : List Value} {M : Mem} {P : Option Value → Mem → Prop} (f : List (Option Value)) (own : String) (hy : plainName y.cls = true) (ho : y.cls = own) (hlen : (lg_sl As).length ≤ nL) (hf : lfl 0 f = lv_args 0 As)
    (h : ∀ κ : Kx, κ.l = l → κ.G = G → κ.k = 0 → κ.n = 0 → V κ cc own nL ret (rmx fr lo) (QM κ P) M 0 f []) : Con l G y cc nL ret fr lo As M P := by
  refine Met.ofW (cc := cc) (maxL := nL) (ret := ret) hy rfl ?_
  intro p e s m args below meth c s₁ B hml hv
  obtain ⟨rfl, hP, hK, hE⟩ := hv
  have hts := atoms_spec (ws := .code y cc nL ret :: gtbl) B.pre
  have hown : s.vm.findClass y.cls = some m.cls := findClass_of_methodNamed B.named
  rw [lg_entry_eq]
  refine h (p, l, e, s, m, As.toArray, below, meth, c, G, 0, 0) rfl rfl rfl rfl ⟨B.exec, B.bytes, hml, by rw [← ho]; exact hown, fun w hw => hts w (List.mem_cons_of_mem _ hw), hK, hE, B.notSynchronized, B.returns⟩ s.heap [] _ hP va_S.rf ?_
  rw [hf]
  exact lv_entry As hlen
section ROWS
variable {κ : Kx} {cc : ByteArray} {own : String} {nL : Nat} {ret : Option FieldType} {R : Room} {Q : State → Prop} {M : Mem} {pc : Nat} {f : List (Option Value)} {st : List Value}
theorem V.eq {pc' : Nat} {f' : List (Option Value)} {st' : List Value} {M' : Mem} (hM : M = M') (hp : pc = pc') (hf : f = f') (hs : st = st') (k : V κ cc own nL ret R Q M' pc' f' st') : V κ cc own nL ret R Q M pc f st := by subst hM hp hf hs; exact k
theorem r_iload {i : Nat} {x : Int32} (hd : decode cc pc = .ok (.iload i, 2)) (hi : f[i]? = some (some (.int x))) (k : V κ cc own nL ret R Q M (pc + 2) f (.int x :: st)) : V κ cc own nL ret R Q M pc f st := fun cx H locs ls hP hS hl => lv_iload cx.1 cx.2.1 hd (lfl_at hl hi) (k cx H locs ls hP hS hl)
theorem r_iload_n {i : Fin 4} {x : Int32} (hd : decode cc pc = .ok (.iload_n i, 1)) (hi : f[(i : Nat)]? = some (some (.int x))) (k : V κ cc own nL ret R Q M (pc + 1) f (.int x :: st)) : V κ cc own nL ret R Q M pc f st := fun cx H locs ls hP hS hl => lv_iload_n cx.1 cx.2.1 hd rfl (lfl_at hl hi) (k cx H locs ls hP hS hl)
theorem r_lload {i : Nat} {x : Int64} (hd : decode cc pc = .ok (.lload i, 2)) (hi : f[i]? = some (some (.long x))) (k : V κ cc own nL ret R Q M (pc + 2) f (.long x :: st)) : V κ cc own nL ret R Q M pc f st := fun cx H locs ls hP hS hl => lv_lload cx.1 cx.2.1 hd (lfl_at hl hi) (k cx H locs ls hP hS hl)
theorem r_lload_n {i : Fin 4} {x : Int64} (hd : decode cc pc = .ok (.lload_n i, 1)) (hi : f[(i : Nat)]? = some (some (.long x))) (k : V κ cc own nL ret R Q M (pc + 1) f (.long x :: st)) : V κ cc own nL ret R Q M pc f st := fun cx H locs ls hP hS hl => lv_lload_n cx.1 cx.2.1 hd rfl (lfl_at hl hi) (k cx H locs ls hP hS hl)
theorem r_aload {i : Nat} {x : Nat} (hd : decode cc pc = .ok (.aload i, 2)) (hi : f[i]? = some (some (.ref x))) (k : V κ cc own nL ret R Q M (pc + 2) f (.ref x :: st)) : V κ cc own nL ret R Q M pc f st := fun cx H locs ls hP hS hl => lv_aload cx.1 cx.2.1 hd (lfl_at hl hi) (k cx H locs ls hP hS hl)
theorem r_aload_n {i : Fin 4} {x : Nat} (hd : decode cc pc = .ok (.aload_n i, 1)) (hi : f[(i : Nat)]? = some (some (.ref x))) (k : V κ cc own nL ret R Q M (pc + 1) f (.ref x :: st)) : V κ cc own nL ret R Q M pc f st := fun cx H locs ls hP hS hl => lv_aload_n cx.1 cx.2.1 hd rfl (lfl_at hl hi) (k cx H locs ls hP hS hl)
theorem r_istore {i : Nat} {x : Int32} (hd : decode cc pc = .ok (.istore i, 2)) (hn : i < nL) (ho : okS f i = true) (k : V κ cc own nL ret R Q M (pc + 2) (f.set i (some (.int x))) st) : V κ cc own nL ret R Q M pc f (.int x :: st) := fun cx H locs ls hP hS hl => lv_istore cx.1 cx.2.1 hd hl hn rfl (fun ls hl => k cx H locs ls hP hS (lfl_set1 ho hl))
theorem r_istore_n {i : Fin 4} {x : Int32} (hd : decode cc pc = .ok (.istore_n i, 1)) (hn : (i : Nat) < nL) (ho : okS f (i : Nat) = true) (k : V κ cc own nL ret R Q M (pc + 1) (f.set (i : Nat) (some (.int x))) st) : V κ cc own nL ret R Q M pc f (.int x :: st) := fun cx H locs ls hP hS hl => lv_istore_n cx.1 cx.2.1 hd rfl hl hn rfl (fun ls hl => k cx H locs ls hP hS (lfl_set1 ho hl))
theorem r_astore {i : Nat} {x : Nat} (hd : decode cc pc = .ok (.astore i, 2)) (hn : i < nL) (ho : okS f i = true) (k : V κ cc own nL ret R Q M (pc + 2) (f.set i (some (.ref x))) st) : V κ cc own nL ret R Q M pc f (.ref x :: st) := fun cx H locs ls hP hS hl => lv_astore cx.1 cx.2.1 hd hl hn rfl (fun ls hl => k cx H locs ls hP hS (lfl_set1 ho hl))
theorem r_astore_n {i : Fin 4} {x : Nat} (hd : decode cc pc = .ok (.astore_n i, 1)) (hn : (i : Nat) < nL) (ho : okS f (i : Nat) = true) (k : V κ cc own nL ret R Q M (pc + 1) (f.set (i : Nat) (some (.ref x))) st) : V κ cc own nL ret R Q M pc f (.ref x :: st) := fun cx H locs ls hP hS hl => lv_astore_n cx.1 cx.2.1 hd rfl hl hn rfl (fun ls hl => k cx H locs ls hP hS (lfl_set1 ho hl))
theorem r_lstore {i : Nat} {x : Int64} (hd : decode cc pc = .ok (.lstore i, 2)) (hn : i + 1 < nL) (ho : okS f i = true) (k : V κ cc own nL ret R Q M (pc + 2) ((f.set i (some (.long x))).set (i + 1) none) st) : V κ cc own nL ret R Q M pc f (.long x :: st) := fun cx H locs ls hP hS hl => lv_lstore cx.1 cx.2.1 hd hl hn rfl (fun ls hl => k cx H locs ls hP hS (lfl_set2 ho hl))
theorem r_lstore_n {i : Fin 4} {x : Int64} (hd : decode cc pc = .ok (.lstore_n i, 1)) (hn : (i : Nat) + 1 < nL) (ho : okS f (i : Nat) = true) (k : V κ cc own nL ret R Q M (pc + 1) ((f.set (i : Nat) (some (.long x))).set ((i : Nat) + 1) none) st) : V κ cc own nL ret R Q M pc f (.long x :: st) := fun cx H locs ls hP hS hl => lv_lstore_n cx.1 cx.2.1 hd rfl hl hn rfl (fun ls hl => k cx H locs ls hP hS (lfl_set2 ho hl))
theorem r_iinc {i : Nat} {n : Int} {x v : Int32} (hd : decode cc pc = .ok (.iinc i n, 3)) (hi : f[i]? = some (some (.int x))) (hv : x + Int32.ofInt n = v) (hn : i < nL) (ho : okS f i = true) (k : V κ cc own nL ret R Q M (pc + 3) (f.set i (some (.int v))) st) : V κ cc own nL ret R Q M pc f st := by
  intro cx H locs ls hP hS hl
  obtain ⟨q, hq⟩ := List.getElem?_of_mem (lfl_mem.mpr ⟨Nat.zero_le i, hi⟩ : (i, Value.int x) ∈ lfl 0 f)
  exact lv_iinc cx.1 cx.2.1 hd hl hq hv hn rfl (fun ls hl => k cx H locs ls hP hS (lfl_set1 ho hl))
theorem r_iconst {n : Int} {v : Int32} (hd : decode cc pc = .ok (.iconst n, 1)) (hv : Int32.ofInt n = v) (k : V κ cc own nL ret R Q M (pc + 1) f (.int v :: st)) : V κ cc own nL ret R Q M pc f st := fun cx H locs ls hP hS hl => lv_iconst cx.1 cx.2.1 hd hv (k cx H locs ls hP hS hl)
theorem r_bipush {n : Int} {v : Int32} (hd : decode cc pc = .ok (.bipush n, 2)) (hv : (Int8.ofInt n).toInt32 = v) (k : V κ cc own nL ret R Q M (pc + 2) f (.int v :: st)) : V κ cc own nL ret R Q M pc f st := fun cx H locs ls hP hS hl => lv_bipush cx.1 cx.2.1 hd hv (k cx H locs ls hP hS hl)
theorem r_sipush {n : Int} {v : Int32} (hd : decode cc pc = .ok (.sipush n, 3)) (hv : (Int16.ofInt n).toInt32 = v) (k : V κ cc own nL ret R Q M (pc + 3) f (.int v :: st)) : V κ cc own nL ret R Q M pc f st := fun cx H locs ls hP hS hl => lv_sipush cx.1 cx.2.1 hd hv (k cx H locs ls hP hS hl)
theorem r_lconst {n : Fin 2} {v : Int64} (hd : decode cc pc = .ok (.lconst n, 1)) (hv : Int64.ofNat (n : Nat) = v) (k : V κ cc own nL ret R Q M (pc + 1) f (.long v :: st)) : V κ cc own nL ret R Q M pc f st := fun cx H locs ls hP hS hl => lv_lconst cx.1 cx.2.1 hd hv (k cx H locs ls hP hS hl)
theorem r_ldc {i : Nat} {v : Int32} (hd : decode cc pc = .ok (.ldc i, 2)) (hw : Cond.constant own i v ∈ gtbl) (k : V κ cc own nL ret R Q M (pc + 2) f (.int v :: st)) : V κ cc own nL ret R Q M pc f st := fun cx H locs ls hP hS hl => lv_ldc cx.1 cx.2.1 cx.2.2.2.1 (cx.2.2.2.2.1 _ hw) hd (k cx H locs ls hP hS hl)
theorem r_ldcw {i : Nat} {v : Int32} (hd : decode cc pc = .ok (.ldc_w i, 3)) (hw : Cond.constant own i v ∈ gtbl) (k : V κ cc own nL ret R Q M (pc + 3) f (.int v :: st)) : V κ cc own nL ret R Q M pc f st := fun cx H locs ls hP hS hl => lv_ldcw cx.1 cx.2.1 cx.2.2.2.1 (cx.2.2.2.2.1 _ hw) hd (k cx H locs ls hP hS hl)
theorem r_ldc2 {i : Nat} {v : Int64} (hd : decode cc pc = .ok (.ldc2_w i, 3)) (hw : Cond.constantLong own i v ∈ gtbl) (k : V κ cc own nL ret R Q M (pc + 3) f (.long v :: st)) : V κ cc own nL ret R Q M pc f st := fun cx H locs ls hP hS hl => lv_ldc2 cx.1 cx.2.1 cx.2.2.2.1 (cx.2.2.2.2.1 _ hw) hd (k cx H locs ls hP hS hl)
theorem r_iadd {x y : Int32} (hd : decode cc pc = .ok (.iadd, 1)) (k : V κ cc own nL ret R Q M (pc + 1) f (.int (x + y) :: st)) : V κ cc own nL ret R Q M pc f (.int y :: .int x :: st) := fun cx H locs ls hP hS hl => lv_iadd cx.1 cx.2.1 hd (k cx H locs ls hP hS hl)
theorem r_isub {x y : Int32} (hd : decode cc pc = .ok (.isub, 1)) (k : V κ cc own nL ret R Q M (pc + 1) f (.int (x - y) :: st)) : V κ cc own nL ret R Q M pc f (.int y :: .int x :: st) := fun cx H locs ls hP hS hl => lv_isub cx.1 cx.2.1 hd (k cx H locs ls hP hS hl)
theorem r_imul {x y : Int32} (hd : decode cc pc = .ok (.imul, 1)) (k : V κ cc own nL ret R Q M (pc + 1) f (.int (x * y) :: st)) : V κ cc own nL ret R Q M pc f (.int y :: .int x :: st) := fun cx H locs ls hP hS hl => lv_imul cx.1 cx.2.1 hd (k cx H locs ls hP hS hl)
theorem r_iand {x y : Int32} (hd : decode cc pc = .ok (.iand, 1)) (k : V κ cc own nL ret R Q M (pc + 1) f (.int (x &&& y) :: st)) : V κ cc own nL ret R Q M pc f (.int y :: .int x :: st) := fun cx H locs ls hP hS hl => lv_iand cx.1 cx.2.1 hd (k cx H locs ls hP hS hl)
theorem r_ior {x y : Int32} (hd : decode cc pc = .ok (.ior, 1)) (k : V κ cc own nL ret R Q M (pc + 1) f (.int (x ||| y) :: st)) : V κ cc own nL ret R Q M pc f (.int y :: .int x :: st) := fun cx H locs ls hP hS hl => lv_ior cx.1 cx.2.1 hd (k cx H locs ls hP hS hl)
theorem r_ixor {x y : Int32} (hd : decode cc pc = .ok (.ixor, 1)) (k : V κ cc own nL ret R Q M (pc + 1) f (.int (x ^^^ y) :: st)) : V κ cc own nL ret R Q M pc f (.int y :: .int x :: st) := fun cx H locs ls hP hS hl => lv_ixor cx.1 cx.2.1 hd (k cx H locs ls hP hS hl)
theorem r_ishl {x y : Int32} (hd : decode cc pc = .ok (.ishl, 1)) (k : V κ cc own nL ret R Q M (pc + 1) f (.int (x <<< (y &&& 31)) :: st)) : V κ cc own nL ret R Q M pc f (.int y :: .int x :: st) := fun cx H locs ls hP hS hl => lv_ishl cx.1 cx.2.1 hd (k cx H locs ls hP hS hl)
theorem r_ishr {x y : Int32} (hd : decode cc pc = .ok (.ishr, 1)) (k : V κ cc own nL ret R Q M (pc + 1) f (.int (x >>> (y &&& 31)) :: st)) : V κ cc own nL ret R Q M pc f (.int y :: .int x :: st) := fun cx H locs ls hP hS hl => lv_ishr cx.1 cx.2.1 hd (k cx H locs ls hP hS hl)
theorem r_idiv {x y : Int32} (hd : decode cc pc = .ok (.idiv, 1)) (hne : ¬ y = 0) (k : V κ cc own nL ret R Q M (pc + 1) f (.int (x / y) :: st)) : V κ cc own nL ret R Q M pc f (.int y :: .int x :: st) := fun cx H locs ls hP hS hl => lv_idiv cx.1 cx.2.1 hd hne (k cx H locs ls hP hS hl)
theorem r_irem {x y : Int32} (hd : decode cc pc = .ok (.irem, 1)) (hne : ¬ y = 0) (k : V κ cc own nL ret R Q M (pc + 1) f (.int (x - x / y * y) :: st)) : V κ cc own nL ret R Q M pc f (.int y :: .int x :: st) := fun cx H locs ls hP hS hl => lv_irem cx.1 cx.2.1 hd hne (k cx H locs ls hP hS hl)
theorem r_ineg {x : Int32} (hd : decode cc pc = .ok (.ineg, 1)) (k : V κ cc own nL ret R Q M (pc + 1) f (.int (-x) :: st)) : V κ cc own nL ret R Q M pc f (.int x :: st) := fun cx H locs ls hP hS hl => lv_ineg cx.1 cx.2.1 hd (k cx H locs ls hP hS hl)
theorem r_ladd {x y : Int64} (hd : decode cc pc = .ok (.ladd, 1)) (k : V κ cc own nL ret R Q M (pc + 1) f (.long (x + y) :: st)) : V κ cc own nL ret R Q M pc f (.long y :: .long x :: st) := fun cx H locs ls hP hS hl => lv_ladd cx.1 cx.2.1 hd (k cx H locs ls hP hS hl)
theorem r_lsub {x y : Int64} (hd : decode cc pc = .ok (.lsub, 1)) (k : V κ cc own nL ret R Q M (pc + 1) f (.long (x - y) :: st)) : V κ cc own nL ret R Q M pc f (.long y :: .long x :: st) := fun cx H locs ls hP hS hl => lv_lsub cx.1 cx.2.1 hd (k cx H locs ls hP hS hl)
theorem r_lmul {x y : Int64} (hd : decode cc pc = .ok (.lmul, 1)) (k : V κ cc own nL ret R Q M (pc + 1) f (.long (x * y) :: st)) : V κ cc own nL ret R Q M pc f (.long y :: .long x :: st) := fun cx H locs ls hP hS hl => lv_lmul cx.1 cx.2.1 hd (k cx H locs ls hP hS hl)
theorem r_ldiv {x y : Int64} (hd : decode cc pc = .ok (.ldiv, 1)) (hne : ¬ y = 0) (k : V κ cc own nL ret R Q M (pc + 1) f (.long (x / y) :: st)) : V κ cc own nL ret R Q M pc f (.long y :: .long x :: st) := fun cx H locs ls hP hS hl => lv_ldiv cx.1 cx.2.1 hd hne (k cx H locs ls hP hS hl)
theorem r_lrem {x y : Int64} (hd : decode cc pc = .ok (.lrem, 1)) (hne : ¬ y = 0) (k : V κ cc own nL ret R Q M (pc + 1) f (.long (x - x / y * y) :: st)) : V κ cc own nL ret R Q M pc f (.long y :: .long x :: st) := fun cx H locs ls hP hS hl => lv_lrem cx.1 cx.2.1 hd hne (k cx H locs ls hP hS hl)
theorem r_lcmp {x y : Int64} (hd : decode cc pc = .ok (.lcmp, 1)) (k : V κ cc own nL ret R Q M (pc + 1) f (.int (lg_cmp x y) :: st)) : V κ cc own nL ret R Q M pc f (.long y :: .long x :: st) := fun cx H locs ls hP hS hl => W.lcmp cx.1 cx.2.1 hd (k cx H locs ls hP hS hl)
theorem r_i2l {x : Int32} (hd : decode cc pc = .ok (.i2l, 1)) (k : V κ cc own nL ret R Q M (pc + 1) f (.long x.toInt64 :: st)) : V κ cc own nL ret R Q M pc f (.int x :: st) := fun cx H locs ls hP hS hl => lv_i2l cx.1 cx.2.1 hd rfl (k cx H locs ls hP hS hl)
theorem r_l2i {x : Int64} (hd : decode cc pc = .ok (.l2i, 1)) (k : V κ cc own nL ret R Q M (pc + 1) f (.int x.toInt32 :: st)) : V κ cc own nL ret R Q M pc f (.long x :: st) := fun cx H locs ls hP hS hl => lv_l2i cx.1 cx.2.1 hd rfl (k cx H locs ls hP hS hl)
theorem r_i2b {x : Int32} (hd : decode cc pc = .ok (.i2b, 1)) (k : V κ cc own nL ret R Q M (pc + 1) f (.int x.toInt8.toInt32 :: st)) : V κ cc own nL ret R Q M pc f (.int x :: st) := fun cx H locs ls hP hS hl => lv_i2b cx.1 cx.2.1 hd rfl (k cx H locs ls hP hS hl)
theorem r_i2s {x : Int32} (hd : decode cc pc = .ok (.i2s, 1)) (k : V κ cc own nL ret R Q M (pc + 1) f (.int x.toInt16.toInt32 :: st)) : V κ cc own nL ret R Q M pc f (.int x :: st) := fun cx H locs ls hP hS hl => lv_i2s cx.1 cx.2.1 hd rfl (k cx H locs ls hP hS hl)
theorem r_i2c {x : Int32} (hd : decode cc pc = .ok (.i2c, 1)) (k : V κ cc own nL ret R Q M (pc + 1) f (.int (x.toUInt32 % 65536).toInt32 :: st)) : V κ cc own nL ret R Q M pc f (.int x :: st) := fun cx H locs ls hP hS hl => lv_i2c cx.1 cx.2.1 hd rfl (k cx H locs ls hP hS hl)
theorem r_dup {v : Value} (hd : decode cc pc = .ok (.dup, 1)) (hv : v.category = 1) (k : V κ cc own nL ret R Q M (pc + 1) f (v :: v :: st)) : V κ cc own nL ret R Q M pc f (v :: st) := fun cx H locs ls hP hS hl => lv_dup cx.1 cx.2.1 hd hv (k cx H locs ls hP hS hl)
theorem r_pop {v : Value} (hd : decode cc pc = .ok (.pop, 1)) (hv : v.category = 1) (k : V κ cc own nL ret R Q M (pc + 1) f st) : V κ cc own nL ret R Q M pc f (v :: st) := fun cx H locs ls hP hS hl => lv_pop cx.1 cx.2.1 hd hv (k cx H locs ls hP hS hl)
theorem r_dup2 {v u : Value} (hd : decode cc pc = .ok (.dup2, 1)) (hv : v.category = 1) (hu : u.category = 1) (k : V κ cc own nL ret R Q M (pc + 1) f (v :: u :: v :: u :: st)) : V κ cc own nL ret R Q M pc f (v :: u :: st) := fun cx H locs ls hP hS hl => lv_dup2_11 cx.1 cx.2.1 hd hv hu (k cx H locs ls hP hS hl)
theorem r_goto {off : Int} {tgt : Nat} (hd : decode cc pc = .ok (.goto off, 3)) (ht : (pc : Int) + off = (tgt : Int)) (k : V κ cc own nL ret R Q M tgt f st) : V κ cc own nL ret R Q M pc f st := fun cx H locs ls hP hS hl => lv_goto cx.1 cx.2.1 hd ht (k cx H locs ls hP hS hl)
theorem r_if_eq {x : Int32} {off : Int} {tgt : Nat} (hd : decode cc pc = .ok (.ifCond .eq off, 3)) (ht : (pc : Int) + off = (tgt : Int)) (kt : x = 0 → V κ cc own nL ret R Q M tgt f st) (kf : ¬ x = 0 → V κ cc own nL ret R Q M (pc + 3) f st) : V κ cc own nL ret R Q M pc f (.int x :: st) := fun cx H locs ls hP hS hl => lv_if_eq cx.1 cx.2.1 hd ht (fun h => kt h cx H locs ls hP hS hl) (fun h => kf h cx H locs ls hP hS hl)
theorem r_icmp_eq {x y : Int32} {off : Int} {tgt : Nat} (hd : decode cc pc = .ok (.if_icmp .eq off, 3)) (ht : (pc : Int) + off = (tgt : Int)) (kt : x = y → V κ cc own nL ret R Q M tgt f st) (kf : ¬ x = y → V κ cc own nL ret R Q M (pc + 3) f st) : V κ cc own nL ret R Q M pc f (.int y :: .int x :: st) := fun cx H locs ls hP hS hl => lv_icmp_eq cx.1 cx.2.1 hd ht (fun h => kt h cx H locs ls hP hS hl) (fun h => kf h cx H locs ls hP hS hl)
theorem r_if_ne {x : Int32} {off : Int} {tgt : Nat} (hd : decode cc pc = .ok (.ifCond .ne off, 3)) (ht : (pc : Int) + off = (tgt : Int)) (kt : ¬ x = 0 → V κ cc own nL ret R Q M tgt f st) (kf : x = 0 → V κ cc own nL ret R Q M (pc + 3) f st) : V κ cc own nL ret R Q M pc f (.int x :: st) := fun cx H locs ls hP hS hl => lv_if_ne cx.1 cx.2.1 hd ht (fun h => kt h cx H locs ls hP hS hl) (fun h => kf h cx H locs ls hP hS hl)
theorem r_icmp_ne {x y : Int32} {off : Int} {tgt : Nat} (hd : decode cc pc = .ok (.if_icmp .ne off, 3)) (ht : (pc : Int) + off = (tgt : Int)) (kt : ¬ x = y → V κ cc own nL ret R Q M tgt f st) (kf : x = y → V κ cc own nL ret R Q M (pc + 3) f st) : V κ cc own nL ret R Q M pc f (.int y :: .int x :: st) := fun cx H locs ls hP hS hl => lv_icmp_ne cx.1 cx.2.1 hd ht (fun h => kt h cx H locs ls hP hS hl) (fun h => kf h cx H locs ls hP hS hl)
theorem r_if_lt {x : Int32} {off : Int} {tgt : Nat} (hd : decode cc pc = .ok (.ifCond .lt off, 3)) (ht : (pc : Int) + off = (tgt : Int)) (kt : x < 0 → V κ cc own nL ret R Q M tgt f st) (kf : ¬ x < 0 → V κ cc own nL ret R Q M (pc + 3) f st) : V κ cc own nL ret R Q M pc f (.int x :: st) := fun cx H locs ls hP hS hl => lv_if_lt cx.1 cx.2.1 hd ht (fun h => kt h cx H locs ls hP hS hl) (fun h => kf h cx H locs ls hP hS hl)
theorem r_icmp_lt {x y : Int32} {off : Int} {tgt : Nat} (hd : decode cc pc = .ok (.if_icmp .lt off, 3)) (ht : (pc : Int) + off = (tgt : Int)) (kt : x < y → V κ cc own nL ret R Q M tgt f st) (kf : ¬ x < y → V κ cc own nL ret R Q M (pc + 3) f st) : V κ cc own nL ret R Q M pc f (.int y :: .int x :: st) := fun cx H locs ls hP hS hl => lv_icmp_lt cx.1 cx.2.1 hd ht (fun h => kt h cx H locs ls hP hS hl) (fun h => kf h cx H locs ls hP hS hl)
theorem r_if_ge {x : Int32} {off : Int} {tgt : Nat} (hd : decode cc pc = .ok (.ifCond .ge off, 3)) (ht : (pc : Int) + off = (tgt : Int)) (kt : 0 ≤ x → V κ cc own nL ret R Q M tgt f st) (kf : ¬ 0 ≤ x → V κ cc own nL ret R Q M (pc + 3) f st) : V κ cc own nL ret R Q M pc f (.int x :: st) := fun cx H locs ls hP hS hl => lv_if_ge cx.1 cx.2.1 hd ht (fun h => kt h cx H locs ls hP hS hl) (fun h => kf h cx H locs ls hP hS hl)
theorem r_icmp_ge {x y : Int32} {off : Int} {tgt : Nat} (hd : decode cc pc = .ok (.if_icmp .ge off, 3)) (ht : (pc : Int) + off = (tgt : Int)) (kt : y ≤ x → V κ cc own nL ret R Q M tgt f st) (kf : ¬ y ≤ x → V κ cc own nL ret R Q M (pc + 3) f st) : V κ cc own nL ret R Q M pc f (.int y :: .int x :: st) := fun cx H locs ls hP hS hl => lv_icmp_ge cx.1 cx.2.1 hd ht (fun h => kt h cx H locs ls hP hS hl) (fun h => kf h cx H locs ls hP hS hl)
theorem r_if_gt {x : Int32} {off : Int} {tgt : Nat} (hd : decode cc pc = .ok (.ifCond .gt off, 3)) (ht : (pc : Int) + off = (tgt : Int)) (kt : 0 < x → V κ cc own nL ret R Q M tgt f st) (kf : ¬ 0 < x → V κ cc own nL ret R Q M (pc + 3) f st) : V κ cc own nL ret R Q M pc f (.int x :: st) := fun cx H locs ls hP hS hl => lv_if_gt cx.1 cx.2.1 hd ht (fun h => kt h cx H locs ls hP hS hl) (fun h => kf h cx H locs ls hP hS hl)
theorem r_icmp_gt {x y : Int32} {off : Int} {tgt : Nat} (hd : decode cc pc = .ok (.if_icmp .gt off, 3)) (ht : (pc : Int) + off = (tgt : Int)) (kt : y < x → V κ cc own nL ret R Q M tgt f st) (kf : ¬ y < x → V κ cc own nL ret R Q M (pc + 3) f st) : V κ cc own nL ret R Q M pc f (.int y :: .int x :: st) := fun cx H locs ls hP hS hl => lv_icmp_gt cx.1 cx.2.1 hd ht (fun h => kt h cx H locs ls hP hS hl) (fun h => kf h cx H locs ls hP hS hl)
theorem r_if_le {x : Int32} {off : Int} {tgt : Nat} (hd : decode cc pc = .ok (.ifCond .le off, 3)) (ht : (pc : Int) + off = (tgt : Int)) (kt : x ≤ 0 → V κ cc own nL ret R Q M tgt f st) (kf : ¬ x ≤ 0 → V κ cc own nL ret R Q M (pc + 3) f st) : V κ cc own nL ret R Q M pc f (.int x :: st) := fun cx H locs ls hP hS hl => lv_if_le cx.1 cx.2.1 hd ht (fun h => kt h cx H locs ls hP hS hl) (fun h => kf h cx H locs ls hP hS hl)
theorem r_icmp_le {x y : Int32} {off : Int} {tgt : Nat} (hd : decode cc pc = .ok (.if_icmp .le off, 3)) (ht : (pc : Int) + off = (tgt : Int)) (kt : x ≤ y → V κ cc own nL ret R Q M tgt f st) (kf : ¬ x ≤ y → V κ cc own nL ret R Q M (pc + 3) f st) : V κ cc own nL ret R Q M pc f (.int y :: .int x :: st) := fun cx H locs ls hP hS hl => lv_icmp_le cx.1 cx.2.1 hd ht (fun h => kt h cx H locs ls hP hS hl) (fun h => kf h cx H locs ls hP hS hl)
theorem r_tableIn {dflt lo hi : Int} {offs : Array Int} {len : Nat} {x : Int32} {off : Int} {tgt : Nat} (hd : decode cc pc = .ok (.tableswitch dflt lo hi offs, len)) (h1 : ¬ x.toInt < lo) (h2 : ¬ hi < x.toInt) (ho : offs[(x.toInt - lo).toNat]? = some off) (ht : (pc : Int) + off = (tgt : Int)) (k : V κ cc own nL ret R Q M tgt f st) : V κ cc own nL ret R Q M pc f (.int x :: st) := fun cx H locs ls hP hS hl => lv_tableIn cx.1 cx.2.1 hd h1 h2 ho ht (k cx H locs ls hP hS hl)
theorem r_tableOut {dflt lo hi : Int} {offs : Array Int} {len : Nat} {x : Int32} {tgt : Nat} (hd : decode cc pc = .ok (.tableswitch dflt lo hi offs, len)) (h : x.toInt < lo ∨ hi < x.toInt) (ht : (pc : Int) + dflt = (tgt : Int)) (k : V κ cc own nL ret R Q M tgt f st) : V κ cc own nL ret R Q M pc f (.int x :: st) := fun cx H locs ls hP hS hl => lv_tableOut cx.1 cx.2.1 hd h ht (k cx H locs ls hP hS hl)
/-! fields -/
theorem r_get {C : String} {T : u_T} {N i ci o j : Nat} {v : Value} (hin : ∀ w ∈ u_ws C T N, w ∈ gtbl) (hc : vwCl[ci]? = some (C, T, N)) (hj : j < N) (hw : Cond.fieldLink own i (T j).1 (T j).2.1 (T j).2.2.1 ∈ gtbl) (ho : clsO o = some ci) (hv : (fsO κ.G ci o (M o))[j]? = some v) (hd : decode cc pc = .ok (.getfield i, 3)) (k : V κ cc own nL ret R Q M (pc + 3) f (v :: st)) : V κ cc own nL ret R Q M pc f (.ref (gA κ.G o) :: st) := fun cx H locs ls hP hS hl =>
  va_get (D := κ.G.1) (ci := ci) cx.1 cx.2.1 cx.2.2.2.2.1 hin cx.2.2.2.1 cx.2.2.2.2.2.1.2.1 hP o (by rw [Wd_at _ _ (clsO_lt ho), contE_cls _ _ ho]) hc j hj (cx.2.2.2.2.1 _ hw) (fun _ h => h) hv hd (k cx H locs ls hP hS hl)
theorem r_put {C : String} {T : u_T} {N i ci o j : Nat} {v : Int32} {ty : FieldType} (hin : ∀ w ∈ u_ws C T N, w ∈ gtbl) (ty0 : Nat → FieldType) (hty : ∀ k, k < N → parseFieldDescriptor (T k).2.2.1 = some (ty0 k)) (hnm : ∀ a, a < N → ∀ b, b < N → a ≠ b → (T a).2.1 ≠ (T b).2.1) (hc : vwCl[ci]? = some (C, T, N)) (hj : j < N) (hw : Cond.fieldLink own i (T j).1 (T j).2.1 (T j).2.2.1 ∈ gtbl) (hfin : (T j).2.2.2 = false) (hpd : parseFieldDescriptor (T j).2.2.1 = some ty) (hn : narrow ty (.int v) = .int v) (hfit : fits ty (.int v) = true) (hlen : ∀ (G : Gx) (m : Nat → Int32), j < (fsO G ci o m).length) (hset : ∀ (G : Gx) (m : Nat → Int32) (v : Int32), (fsO G ci o m).set j (.int v) = fsO G ci o (upd m j v)) (ho : clsO o = some ci) (hd : decode cc pc = .ok (.putfield i, 3)) (k : V κ cc own nL ret R Q (mset M o j v) (pc + 3) f st) : V κ cc own nL ret R Q M pc f (.int v :: .ref (gA κ.G o) :: st) := fun cx H locs ls hP hS hl =>
  va_put (D := κ.G.1) (ci := ci) (v := .int v) cx.1 cx.2.1 cx.2.2.2.2.1 hin ty0 hty hnm cx.2.2.2.1 cx.2.2.2.2.2.1.2.1 hP (Wd_D cx.2.2.2.2.2.1.1 M) hS o (by rw [Wd_at _ _ (clsO_lt ho), contE_cls _ _ ho]) hc j hj (cx.2.2.2.2.1 _ hw) (fun _ h => h) hfin hpd hn hfit (hlen _ _) hd (fun H1 locs1 hP1 _ hS1 => k cx H1 locs1 ls (by
    rw [hset, Wd_set _ _ (clsO_lt ho) (upd (M o) j v) (contE_cls _ _ ho)] at hP1
    exact hP1) hS1 hl)
/-! arrays -/
theorem r_ialdx {o : Nat} {i : Int32} (hd : decode cc pc = .ok (.iaload, 1)) (ho : isIA o = true) (hin : vp_in i (lenA o)) (k : V κ cc own nL ret R Q M (pc + 1) f (.int (M o i.toNatClampNeg) :: st)) : V κ cc own nL ret R Q M pc f (.int i :: .ref (gA κ.G o) :: st) := fun cx H locs ls hP hS hl =>
  va_iald cx.1 cx.2.1 cx.2.2.2.2.2.1.2.1 hP o 0 (by rw [Wd_at _ _ (isIA_lt ho), contE_IA _ _ ho]) rfl hin hd (k cx H locs ls hP hS hl)
theorem r_iald {o n : Nat} (hd : decode cc pc = .ok (.iaload, 1)) (ho : isIA o = true) (hn : n < lenA o) (k : V κ cc own nL ret R Q M (pc + 1) f (.int (M o n) :: st)) : V κ cc own nL ret R Q M pc f (.int (nI n) :: .ref (gA κ.G o) :: st) := by
  have h984 := lenA_le ho
  refine r_ialdx hd ho (vp_in_nI hn (by omega)) ?_
  rw [nI_clamp (by omega)]
  exact k
theorem r_iastx {o : Nat} {i x : Int32} (hd : decode cc pc = .ok (.iastore, 1)) (ho : isIA o = true) (hin : vp_in i (lenA o)) (k : V κ cc own nL ret R Q (mset M o i.toNatClampNeg x) (pc + 1) f st) : V κ cc own nL ret R Q M pc f (.int x :: .int i :: .ref (gA κ.G o) :: st) := fun cx H locs ls hP hS hl =>
  va_iast cx.1 cx.2.1 cx.2.2.2.2.2.1.2.1 hP (Wd_D cx.2.2.2.2.2.1.1 M) hS o 0 (by rw [Wd_at _ _ (isIA_lt ho), contE_IA _ _ ho]) rfl hin hd (fun H1 locs1 hP1 _ hS1 => k cx H1 locs1 ls (by
    rw [Wd_set _ _ (isIA_lt ho) _ (contE_IA _ _ ho)] at hP1
    exact hP1) hS1 hl)
theorem r_iast {o n : Nat} {x : Int32} (hd : decode cc pc = .ok (.iastore, 1)) (ho : isIA o = true) (hn : n < lenA o) (k : V κ cc own nL ret R Q (mset M o n x) (pc + 1) f st) : V κ cc own nL ret R Q M pc f (.int x :: .int (nI n) :: .ref (gA κ.G o) :: st) := by
  have h984 := lenA_le ho
  refine r_iastx hd ho (vp_in_nI hn (by omega)) ?_
  rw [nI_clamp (by omega)]
  exact k
theorem r_zald {n : Nat} (hd : decode cc pc = .ok (.baload, 1)) (hn : n < 2) (k : V κ cc own nL ret R Q M (pc + 1) f (.int (M 11 n) :: st)) : V κ cc own nL ret R Q M pc f (.int (nI n) :: .ref (gA κ.G 11) :: st) := by
  intro cx H locs ls hP hS hl
  refine va_zald cx.1 cx.2.1 cx.2.2.2.2.2.1.2.1 hP 11 1 (n := 2) (f := M 11) (by rw [Wd_at _ _ (by decide)]; rfl) rfl (vp_in_nI hn (by omega)) hd ?_
  rw [nI_clamp (by omega)]
  exact k cx H locs ls hP hS hl
theorem r_zast1 {n : Nat} (hd : decode cc pc = .ok (.bastore, 1)) (hn : n < 2) (k : V κ cc own nL ret R Q (mset M 11 n 1) (pc + 1) f st) : V κ cc own nL ret R Q M pc f (.int 1 :: .int (nI n) :: .ref (gA κ.G 11) :: st) := by
  intro cx H locs ls hP hS hl
  refine va_zast cx.1 cx.2.1 cx.2.2.2.2.2.1.2.1 hP (Wd_D cx.2.2.2.2.2.1.1 M) hS 11 1 (n := 2) (f := M 11) (by rw [Wd_at _ _ (by decide)]; rfl) rfl (vp_in_nI hn (by omega)) hd (fun H1 locs1 hP1 _ hS1 => k cx H1 locs1 ls ?_ hS1 hl)
  rw [nI_clamp (by omega), show vp_nar .boolean 1 = 1 from rfl, Wd_set κ.G M (k := 11) (by decide) (upd (M 11) n 1) (e := .inl (κ.G.2.2.1, 2, .inl (upd (M 11) n 1))) rfl] at hP1
  exact hP1
theorem r_aaR {n : Nat} (hd : decode cc pc = .ok (.aaload, 1)) (hn : n < 8) (k : V κ cc own nL ret R Q M (pc + 1) f (.ref (gA κ.G (45 + n)) :: st)) : V κ cc own nL ret R Q M pc f (.int (nI n) :: .ref (gA κ.G 15) :: st) := by
  intro cx H locs ls hP hS hl
  refine va_aldq cx.1 cx.2.1 cx.2.2.2.2.2.1.2.1 hP 15 2 (n := 8) (f := fun j => some (gA κ.G (45 + j))) (by rw [Wd_at _ _ (by decide)]; rfl) rfl (vp_in_nI hn (by omega)) hd ?_
  rw [nI_clamp (by omega)]
  exact k cx H locs ls hP hS hl
theorem va_aldA {p : Program} {l : Launch} {e : Env} {R : Room} {s : State} {m : MethodId} {args : Array Value} {below : List Frame} {meth : Method} {c : Code} {H : Heap} {locs : List Loc} {cells slots : Nat} {Q : State → Prop} {cc : ByteArray} {pc : Nat} {ls : Array Slot} {rest : List Value} {D : va_G} {cl : List vw_C} {a : Nat} {tys : List (ClassId × FieldType)} {ws : va_W} (hexec : p.tables.exec = Jvm.exec) (hb : c.code = cc) (hK : va_K D cl tys s) (hP : va_P D cl ws H) (q0 t0 : Nat) {cA : ClassId} {n : Nat} {f : Nat → Option Nat} (ha : ws[q0]? = some (a, .inl (cA, n, .inr (.inr (.inr (.inr f)))))) (ht : tys[t0]? = some (cA, .array .int)) {i : Int32} (hin : vp_in i n) (hdg : decode cc pc = .ok (.aaload, 1))
    (kk : W p l e R s m args below meth c H locs cells slots Q (F0 m (pc + 1) ls (va_rf (f i.toNatClampNeg) :: rest))) : W p l e R s m args below meth c H locs cells slots Q (F0 m pc ls (.int i :: .ref a :: rest)) := by
  have hlt : i.toNatClampNeg < n := Nat.not_le.mp fun q => hin (Or.inr q)
  exact W.aald (v := va_rf (f i.toNatClampNeg)) (ty := .array .int) hexec hb (hP q0 _ ha) ((hK.2 t0 _ ht).1 n (fun j => va_rf (f j))) rfl (fun q => by cases q) (by show ¬ (i < 0 ∨ (arrV _ _ _).slots.size ≤ _); rw [arrV_size]; exact hin) (by show (arrV _ _ _).slots[_]? = _; rw [arrV_read _ _ hlt]) rfl rfl hdg kk
theorem r_aaK {n : Nat} (hd : decode cc pc = .ok (.aaload, 1)) (hn : n < 24) (k : V κ cc own nL ret R Q M (pc + 1) f (.ref (gA κ.G (61 + n)) :: st)) : V κ cc own nL ret R Q M pc f (.int (nI n) :: .ref (gA κ.G 41) :: st) := by
  intro cx H locs ls hP hS hl
  refine va_aldA cx.1 cx.2.1 cx.2.2.2.2.2.1.2.1 hP 41 3 (n := 24) (f := fun j => some (gA κ.G (61 + j))) (by rw [Wd_at _ _ (by decide)]; rfl) rfl (vp_in_nI hn (by omega)) hd ?_
  rw [nI_clamp (by omega)]
  exact k cx H locs ls hP hS hl
theorem r_aaI {n : Nat} (hd : decode cc pc = .ok (.aaload, 1)) (hn : n < 2) (k : V κ cc own nL ret R Q M (pc + 1) f (.ref (gA κ.G (85 + n)) :: st)) : V κ cc own nL ret R Q M pc f (.int (nI n) :: .ref (gA κ.G 42) :: st) := by
  intro cx H locs ls hP hS hl
  refine va_aldA cx.1 cx.2.1 cx.2.2.2.2.2.1.2.1 hP 42 3 (n := 2) (f := fun j => some (gA κ.G (85 + j))) (by rw [Wd_at _ _ (by decide)]; rfl) rfl (vp_in_nI hn (by omega)) hd ?_
  rw [nI_clamp (by omega)]
  exact k cx H locs ls hP hS hl
/-- System.arraycopy of ints -/
theorem r_acopy {i a b x y n : Nat} (hd : decode cc pc = .ok (.invokestatic i, 3)) (hw : Cond.methodLink own i arraycopyName ∈ gtbl) (h1 : Cond.native arraycopyName ∈ gtbl) (h2 : Cond.static arraycopyName ∈ gtbl) (h3 : Cond.initialized "java/lang/System" ∈ gtbl) (ha : isIA a = true) (hb : isIA b = true) (hx : x + n ≤ lenA a) (hy : y + n ≤ lenA b) (hfr : 1 ≤ R.frames) (hlo : (st.map fun v => v.category).sum + (nativeFrameWords "java/lang/System" "arraycopy" 5 + 11) ≤ R.locals)
    (k : V κ cc own nL ret R Q (setA M b (va_cpy (M a) (M b) x y n)) (pc + 3) f st) : V κ cc own nL ret R Q M pc f (.int (nI n) :: .int (nI y) :: .ref (gA κ.G b) :: .int (nI x) :: .ref (gA κ.G a) :: st) := by
  intro cx H locs ls hP hS hl
  have l1 := lenA_le ha
  have l2 := lenA_le hb
  have ex : (nI x).toNatClampNeg = x := nI_clamp (by omega)
  have ey : (nI y).toNatClampNeg = y := nI_clamp (by omega)
  have en : (nI n).toNatClampNeg = n := nI_clamp (by omega)
  refine va_copyi cx.1 cx.2.1 (by rw [hl.1]; exact cx.2.2.1) cx.2.2.2.1 (cx.2.2.2.2.1 _ hw) (cx.2.2.2.2.1 _ h1) (cx.2.2.2.2.1 _ h2) (cx.2.2.2.2.1 _ h3) cx.2.2.2.2.2.1.2.1 hP (Wd_D cx.2.2.2.2.2.1.1 M) hS a b 0 0 (ty := .int) (by rw [Wd_at _ _ (isIA_lt ha), contE_IA _ _ ha]) (by rw [Wd_at _ _ (isIA_lt hb), contE_IA _ _ hb]) rfl rfl rfl (nI_pos (by omega)) (nI_pos (by omega)) (nI_pos (by omega)) (by rw [ex, en]; exact hx) (by rw [ey, en]; exact hy) (fun _ _ => rfl) hfr hlo hd (fun H1 locs1 hP1 _ hS1 => k cx H1 locs1 ls ?_ hS1 hl)
  rw [ex, ey, en, Wd_set _ _ (isIA_lt hb) _ (contE_IA _ _ hb)] at hP1
  exact hP1
theorem r_max {i : Nat} {x y : Int32} (hd : decode cc pc = .ok (.invokestatic i, 3)) (hw : Cond.methodLink own i Lib.Math.max.name ∈ gtbl) (h1 : Cond.static Lib.Math.max.name ∈ gtbl) (h2 : Cond.initialized "java/lang/Math" ∈ gtbl) (h3 : Cond.code Lib.Math.max.name Lib.Math.max.code 2 (some .int) ∈ gtbl) (hfr : 1 ≤ R.frames) (hlo : (st.map fun v => v.category).sum + 13 ≤ R.locals) (hc : κ.k ≤ R.cells) (hs : κ.n ≤ R.slots) (k : V κ cc own nL ret R Q M (pc + 3) f (.int (if x < y then y else x) :: st)) : V κ cc own nL ret R Q M pc f (.int y :: .int x :: st) := fun cx H locs ls hP hS hl =>
  va_mmax cx.1 cx.2.1 (by rw [hl.1]; exact cx.2.2.1) cx.2.2.2.1 (cx.2.2.2.2.1 _ hw) (cx.2.2.2.2.1 _ h1) (cx.2.2.2.2.1 _ h2) (cx.2.2.2.2.1 _ h3) hfr hlo hc hs hd (k cx H locs ls hP hS hl)
/-! ends -/
theorem r_iret {P : Option Value → Mem → Prop} {v : Int32} (hd : decode cc pc = .ok (.ireturn, 1)) (hr : ret = some .int) (hp : P (some (.int v)) M) : V κ cc own nL ret R (QM κ P) M pc f [.int v] := fun cx H locs ls hP hS hl =>
  W.iret (Qc := QcG κ.G P) cx.1 cx.2.1 (by rw [← hr]; exact cx.2.2.2.2.2.2.2.2) (fun t ht _ => ⟨⟨_, M, rfl, hp, by rw [ht]; exact hP⟩, hS.F ht⟩) hS.2.2 hd (hlocks := cx.2.2.2.2.2.2.2.1)
theorem r_zret {P : Option Value → Mem → Prop} {v : Int32} (hd : decode cc pc = .ok (.ireturn, 1)) (hr : ret = some .boolean) (hn : narrow .boolean (.int v) = .int v) (hp : P (some (.int v)) M) : V κ cc own nL ret R (QM κ P) M pc f [.int v] := fun cx H locs ls hP hS hl =>
  W.zret (Qc := QcG κ.G P) (ty := .boolean) cx.1 cx.2.1 (by rw [← hr]; exact cx.2.2.2.2.2.2.2.2) hn (fun t ht _ => ⟨⟨_, M, rfl, hp, by rw [ht]; exact hP⟩, hS.F ht⟩) hS.2.2 hd (hlocks := cx.2.2.2.2.2.2.2.1)
theorem r_lret {P : Option Value → Mem → Prop} {v : Int64} (hd : decode cc pc = .ok (.lreturn, 1)) (hr : ret = some .long) (hp : P (some (.long v)) M) : V κ cc own nL ret R (QM κ P) M pc f [.long v] := fun cx H locs ls hP hS hl =>
  W.lret (Qc := QcG κ.G P) cx.1 cx.2.1 (by rw [← hr]; exact cx.2.2.2.2.2.2.2.2) (fun t ht _ => ⟨⟨_, M, rfl, hp, by rw [ht]; exact hP⟩, hS.F ht⟩) hS.2.2 hd (hlocks := cx.2.2.2.2.2.2.2.1)
theorem r_vret {P : Option Value → Mem → Prop} (hd : decode cc pc = .ok (.return_, 1)) (hr : ret = none) (hp : P none M) : V κ cc own nL ret R (QM κ P) M pc f [] := fun cx H locs ls hP hS hl =>
  W.vret (Qc := QcG κ.G P) cx.1 cx.2.1 (by rw [← hr]; exact cx.2.2.2.2.2.2.2.2) (fun t ht _ => ⟨⟨_, M, rfl, hp, by rw [ht]; exact hP⟩, hS.F ht⟩) hS.2.2 hd (hlocks := cx.2.2.2.2.2.2.2.1)
/-! calls -/
theorem va_callG {p : Program} {l : Launch} {e : Env} {R : Room} {s : State} {m : MethodId} {args : Array Value} {below : List Frame} {meth : Method} {c : Code} {H : Heap} {locs : List Loc} {cells slots : Nat} {Q : State → Prop} {pc : Nat} {ls : Array Slot} {rest st0 : List Value} {a : Array Value} {G : Gx} {P : Option Value → Mem → Prop} (hr : va_Run p l e R s m args below meth c H locs cells slots 0 0 (F0 m pc ls st0) rest (QcG G P a) (Ax G)) (hS : va_S (Ax G) s.heap H locs)
    (kk : ∀ (v : Option Value) (M' : Mem) (H1 : Heap) (locs1 : List Loc), P v M' → va_P G.1 vwCl (Wd G M') H1 → va_S (Ax G) s.heap H1 locs1 → W p l e R s m args below meth c H1 locs1 cells slots Q (F0 m (pc + 3) ls (v.toList ++ rest))) : W p l e R s m args below meth c H locs cells slots Q (F0 m pc ls st0) := by
  intro T hT X
  obtain ⟨v, st₀, t, T', L, h0, X', hL, e1, e2, ⟨⟨v', M', hv, hp, hw⟩, hz, hk⟩, st⟩ := hr T hT X
  cases hv
  rw [h0] at hz hk
  obtain ⟨t2, a1, b1⟩ := kk v M' T'.heap (locs ++ L) hp (by rw [e1]; exact hw)
    ⟨Nat.le_trans hS.1 (by rw [e1]; exact hz), fun q h1 h2 => by rw [e1, hk q (Nat.lt_of_lt_of_le h1 hS.1) h2]; exact hS.2.1 q h1 h2, fun q hq => by
      rcases List.mem_append.mp hq with h | h
      · exact hS.2.2 q h
      · exact hL q h⟩ T' rfl X'
  exact ⟨t2, st t2 a1, b1⟩
theorem preG {cx : Cx κ cc own nL ret} {H : Heap} {locs : List Loc} (hP : va_P κ.G.1 vwCl (Wd κ.G M) H) (hS : va_S (Ax κ.G) κ.s.heap H locs) (As : List Value) : ∀ U : State, U.heap = H → κ.s.WarmedH U.vm → PcG κ.G As M As.toArray U := fun U hU hW =>
  ⟨rfl, by rw [hU]; exact hP, cx.2.2.2.2.2.1.go hW, by rw [hU]; exact Ex.go hW (fun a h1 h2 => hS.2.1 a h1 h2) cx.2.2.2.2.2.2.1⟩
theorem recvG {cx : Cx κ cc own nL ret} {H : Heap} (hP : va_P κ.G.1 vwCl (Wd κ.G M) H) {o ci N : Nat} {C : String} {T : u_T} (ho : clsO o = some ci) (hc : vwCl[ci]? = some (C, T, N)) : ∃ cellB : Cell, H[gA κ.G o]? = some cellB ∧ cellB.vm.isStatics = false ∧ κ.s.vm.findClass C = some cellB.cls :=
  va_recv (ci := ci) (q0 := o) (ws := Wd κ.G M) cx.2.2.2.2.2.1.2.1 hP hc (by rw [Wd_at _ _ (clsO_lt ho), contE_cls _ _ ho])
theorem r_callV {y : MethodName} {cb : ByteArray} {n fr lo i n' o ci N : Nat} {rt : Option FieldType} {C : String} {T : u_T} {As : List Value} {P : Option Value → Mem → Prop} (hw : Cond.methodLink own i y ∈ gtbl) (h1 : Cond.instanceMethod y ∈ gtbl) (h2 : Cond.selects C y y ∈ gtbl) (h3 : Cond.initialized C ∈ gtbl) (h4 : Cond.code y cb n rt ∈ gtbl) (hy : y.cls = C ∧ y.cls ≠ "java/lang/invoke/MethodHandle" ∧ y.cls ≠ "java/lang/invoke/VarHandle" ∧ (parseMethodDescriptor y.desc).map (fun d => d.parameters.length) = some n') (hn : As.length = n') (hc : vwCl[ci]? = some (C, T, N)) (ho : clsO o = some ci)
    (hC : Con κ.l κ.G y cb n rt fr lo (.ref (gA κ.G o) :: As) M P) (hR : fr + 1 ≤ R.frames ∧ 8 + (n + 11) + lo ≤ R.locals) (hst : (st.map fun v => v.category).sum ≤ 8) (hcs : κ.k ≤ R.cells ∧ κ.n ≤ R.slots) (hd : decode cc pc = .ok (.invokevirtual i, 3)) (k : ∀ (v : Option Value) (M' : Mem), P v M' → V κ cc own nL ret R Q M' (pc + 3) f (v.toList ++ st)) : V κ cc own nL ret R Q M pc f (As.reverse ++ .ref (gA κ.G o) :: st) := fun cx H locs ls hP hS hl =>
  va_callG (va_runV (As := As) (rest := st) (C := C) (bytes := cb) (maxL := n) (ret := rt) ⟨cx.1, cx.2.1, cx.2.2.1, cx.2.2.2.1, cx.2.2.2.2.1⟩ hC (cwV n' cx.2.2.2.2.1 (by
      intro w hw'
      rcases List.mem_append.mp hw' with h | h
      · have : w ∈ gtbl := by
          simp only [List.mem_cons, List.not_mem_nil, or_false] at h
          rcases h with rfl | rfl | rfl | rfl <;> assumption
        exact ⟨this, gtbl_good this⟩
      · exact good_g h4 w h) rfl rfl rfl hy hR) ⟨PcG_blind _ _ _, recvG (cx := cx) hP ho hc, preG (cx := cx) hP hS _⟩ rfl hn hl.1 rfl (lv_room hst) hd hcs) hS (fun v M' H1 locs1 hp hP1 hS1 => k v M' hp cx H1 locs1 ls hP1 hS1 hl)
theorem r_callN {y : MethodName} {cb : ByteArray} {n fr lo i n' o ci N : Nat} {rt : Option FieldType} {C host : String} {T : u_T} {As : List Value} {P : Option Value → Mem → Prop} (hw : Cond.methodLinkNest own i y host ∈ ntbl) (h1 : Cond.instanceMethod y ∈ gtbl) (h2 : Cond.selects C y y ∈ gtbl) (h3 : Cond.initialized y.cls ∈ gtbl) (h4 : Cond.code y cb n rt ∈ gtbl) (hy : y.cls ≠ "java/lang/invoke/MethodHandle" ∧ y.cls ≠ "java/lang/invoke/VarHandle" ∧ (parseMethodDescriptor y.desc).map (fun d => d.parameters.length) = some n') (hn : As.length = n') (hc : vwCl[ci]? = some (C, T, N)) (ho : clsO o = some ci)
    (hC : Con κ.l κ.G y cb n rt fr lo (.ref (gA κ.G o) :: As) M P) (hR : fr + 1 ≤ R.frames ∧ 8 + (n + 11) + lo ≤ R.locals) (hst : (st.map fun v => v.category).sum ≤ 8) (hcs : κ.k ≤ R.cells ∧ κ.n ≤ R.slots) (hd : decode cc pc = .ok (.invokevirtual i, 3)) (k : ∀ (v : Option Value) (M' : Mem), P v M' → V κ cc own nL ret R Q M' (pc + 3) f (v.toList ++ st)) : V κ cc own nL ret R Q M pc f (As.reverse ++ .ref (gA κ.G o) :: st) := fun cx H locs ls hP hS hl =>
  va_callG (va_runVN (As := As) (rest := st) (C := C) (bytes := cb) (maxL := n) (ret := rt) ⟨cx.1, cx.2.1, cx.2.2.1, cx.2.2.2.1, cx.2.2.2.2.1⟩ hC ⟨va_cnB n' cx.2.2.2.2.1 (good_g h4) rfl rfl rfl (cx.2.2.2.2.2.1.2.2 _ hw) (cx.2.2.2.2.1 _ h3) hy hR, cx.2.2.2.2.1 _ h1, cx.2.2.2.2.1 _ h2⟩ ⟨PcG_blind _ _ _, recvG (cx := cx) hP ho hc, preG (cx := cx) hP hS _⟩ rfl hn hl.1 rfl (lv_room hst) hd hcs) hS (fun v M' H1 locs1 hp hP1 hS1 => k v M' hp cx H1 locs1 ls hP1 hS1 hl)
theorem r_callS {y : MethodName} {cb : ByteArray} {n fr lo i n' : Nat} {rt : Option FieldType} {As : List Value} {P : Option Value → Mem → Prop} (hw : Cond.methodLink own i y ∈ gtbl) (h1 : Cond.static y ∈ gtbl) (h3 : Cond.initialized y.cls ∈ gtbl) (h4 : Cond.code y cb n rt ∈ gtbl) (hy : y.cls ≠ "java/lang/invoke/MethodHandle" ∧ y.cls ≠ "java/lang/invoke/VarHandle" ∧ (parseMethodDescriptor y.desc).map (fun d => d.parameters.length) = some n') (hn : As.length = n')
    (hC : Con κ.l κ.G y cb n rt fr lo As M P) (hR : fr + 1 ≤ R.frames ∧ 8 + (n + 11) + lo ≤ R.locals) (hst : (st.map fun v => v.category).sum ≤ 8) (hcs : κ.k ≤ R.cells ∧ κ.n ≤ R.slots) (hd : decode cc pc = .ok (.invokestatic i, 3)) (k : ∀ (v : Option Value) (M' : Mem), P v M' → V κ cc own nL ret R Q M' (pc + 3) f (v.toList ++ st)) : V κ cc own nL ret R Q M pc f (As.reverse ++ st) := fun cx H locs ls hP hS hl =>
  va_callG (va_runS (As := As) (rest := st) (bytes := cb) (maxL := n) (ret := rt) ⟨cx.1, cx.2.1, cx.2.2.1, cx.2.2.2.1, cx.2.2.2.2.1⟩ hC (va_cwS n' cx.2.2.2.2.1 (by
      intro w hw'
      rcases List.mem_append.mp hw' with h | h
      · have : w ∈ gtbl := by
          simp only [List.mem_cons, List.not_mem_nil, or_false] at h
          rcases h with rfl | rfl | rfl <;> assumption
        exact ⟨this, gtbl_good this⟩
      · exact good_g h4 w h) rfl rfl rfl hy hR) ⟨PcG_blind _ _ _, preG (cx := cx) hP hS _⟩ rfl hn hl.1 rfl (lv_room hst) hd hcs) hS (fun v M' H1 locs1 hp hP1 hS1 => k v M' hp cx H1 locs1 ls hP1 hS1 hl)
theorem r_callT {y : MethodName} {cb : ByteArray} {n fr lo i n' : Nat} {rt : Option FieldType} {host : String} {As : List Value} {P : Option Value → Mem → Prop} (hw : Cond.methodLinkNest own i y host ∈ ntbl) (h1 : Cond.static y ∈ gtbl) (h3 : Cond.initialized y.cls ∈ gtbl) (h4 : Cond.code y cb n rt ∈ gtbl) (hy : y.cls ≠ "java/lang/invoke/MethodHandle" ∧ y.cls ≠ "java/lang/invoke/VarHandle" ∧ (parseMethodDescriptor y.desc).map (fun d => d.parameters.length) = some n') (hn : As.length = n')
    (hC : Con κ.l κ.G y cb n rt fr lo As M P) (hR : fr + 1 ≤ R.frames ∧ 8 + (n + 11) + lo ≤ R.locals) (hst : (st.map fun v => v.category).sum ≤ 8) (hcs : κ.k ≤ R.cells ∧ κ.n ≤ R.slots) (hd : decode cc pc = .ok (.invokestatic i, 3)) (k : ∀ (v : Option Value) (M' : Mem), P v M' → V κ cc own nL ret R Q M' (pc + 3) f (v.toList ++ st)) : V κ cc own nL ret R Q M pc f (As.reverse ++ st) := fun cx H locs ls hP hS hl =>
  va_callG (va_runSN (As := As) (rest := st) (bytes := cb) (maxL := n) (ret := rt) ⟨cx.1, cx.2.1, cx.2.2.1, cx.2.2.2.1, cx.2.2.2.2.1⟩ hC ⟨va_cnB n' cx.2.2.2.2.1 (good_g h4) rfl rfl rfl (cx.2.2.2.2.2.1.2.2 _ hw) (cx.2.2.2.2.1 _ h3) hy hR, cx.2.2.2.2.1 _ h1, trivial⟩ ⟨PcG_blind _ _ _, preG (cx := cx) hP hS _⟩ rfl hn hl.1 rfl (lv_room hst) hd hcs) hS (fun v M' H1 locs1 hp hP1 hS1 => k v M' hp cx H1 locs1 ls hP1 hS1 hl)
end ROWS
end
