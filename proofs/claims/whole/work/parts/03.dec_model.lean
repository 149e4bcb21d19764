theorem dX6_init_0 : decode cX6_init 0 = .ok (.aload_n 0, 1) := by decide +kernel
theorem dX6_init_1 : decode cX6_init 1 = .ok (.invokespecial 1, 3) := by decide +kernel
theorem dX6_init_4 : decode cX6_init 4 = .ok (.aload_n 0, 1) := by decide +kernel
theorem dX6_init_5 : decode cX6_init 5 = .ok (.bipush 8, 2) := by decide +kernel
theorem dX6_init_7 : decode cX6_init 7 = .ok (.newarray .int, 2) := by decide +kernel
theorem dX6_init_9 : decode cX6_init 9 = .ok (.putfield 7, 3) := by decide +kernel
theorem dX6_init_12 : decode cX6_init 12 = .ok (.aload_n 0, 1) := by decide +kernel
theorem dX6_init_13 : decode cX6_init 13 = .ok (.bipush 8, 2) := by decide +kernel
theorem dX6_init_15 : decode cX6_init 15 = .ok (.newarray .int, 2) := by decide +kernel
theorem dX6_init_17 : decode cX6_init 17 = .ok (.putfield 13, 3) := by decide +kernel
theorem dX6_init_20 : decode cX6_init 20 = .ok (.aload_n 0, 1) := by decide +kernel
theorem dX6_init_21 : decode cX6_init 21 = .ok (.sipush 320, 3) := by decide +kernel
theorem dX6_init_24 : decode cX6_init 24 = .ok (.newarray .int, 2) := by decide +kernel
theorem dX6_init_26 : decode cX6_init 26 = .ok (.putfield 16, 3) := by decide +kernel
theorem dX6_init_29 : decode cX6_init 29 = .ok (.aload_n 0, 1) := by decide +kernel
theorem dX6_init_30 : decode cX6_init 30 = .ok (.bipush 41, 2) := by decide +kernel
theorem dX6_init_32 : decode cX6_init 32 = .ok (.newarray .int, 2) := by decide +kernel
theorem dX6_init_34 : decode cX6_init 34 = .ok (.putfield 19, 3) := by decide +kernel
theorem dX6_init_37 : decode cX6_init 37 = .ok (.aload_n 0, 1) := by decide +kernel
theorem dX6_init_38 : decode cX6_init 38 = .ok (.bipush 40, 2) := by decide +kernel
theorem dX6_init_40 : decode cX6_init 40 = .ok (.newarray .int, 2) := by decide +kernel
theorem dX6_init_42 : decode cX6_init 42 = .ok (.putfield 22, 3) := by decide +kernel
theorem dX6_init_45 : decode cX6_init 45 = .ok (.aload_n 0, 1) := by decide +kernel
theorem dX6_init_46 : decode cX6_init 46 = .ok (.bipush 120, 2) := by decide +kernel
theorem dX6_init_48 : decode cX6_init 48 = .ok (.newarray .int, 2) := by decide +kernel
theorem dX6_init_50 : decode cX6_init 50 = .ok (.putfield 25, 3) := by decide +kernel
theorem dX6_init_53 : decode cX6_init 53 = .ok (.aload_n 0, 1) := by decide +kernel
theorem dX6_init_54 : decode cX6_init 54 = .ok (.bipush 41, 2) := by decide +kernel
theorem dX6_init_56 : decode cX6_init 56 = .ok (.newarray .int, 2) := by decide +kernel
theorem dX6_init_58 : decode cX6_init 58 = .ok (.putfield 28, 3) := by decide +kernel
theorem dX6_init_61 : decode cX6_init 61 = .ok (.aload_n 0, 1) := by decide +kernel
theorem dX6_init_62 : decode cX6_init 62 = .ok (.bipush 6, 2) := by decide +kernel
theorem dX6_init_64 : decode cX6_init 64 = .ok (.newarray .int, 2) := by decide +kernel
theorem dX6_init_66 : decode cX6_init 66 = .ok (.putfield 31, 3) := by decide +kernel
theorem dX6_init_69 : decode cX6_init 69 = .ok (.aload_n 0, 1) := by decide +kernel
theorem dX6_init_70 : decode cX6_init 70 = .ok (.sipush 984, 3) := by decide +kernel
theorem dX6_init_73 : decode cX6_init 73 = .ok (.newarray .int, 2) := by decide +kernel
theorem dX6_init_75 : decode cX6_init 75 = .ok (.putfield 34, 3) := by decide +kernel
theorem dX6_init_78 : decode cX6_init 78 = .ok (.aload_n 0, 1) := by decide +kernel
theorem dX6_init_79 : decode cX6_init 79 = .ok (.bipush 41, 2) := by decide +kernel
theorem dX6_init_81 : decode cX6_init 81 = .ok (.newarray .int, 2) := by decide +kernel
theorem dX6_init_83 : decode cX6_init 83 = .ok (.putfield 37, 3) := by decide +kernel
theorem dX6_init_86 : decode cX6_init 86 = .ok (.aload_n 0, 1) := by decide +kernel
theorem dX6_init_87 : decode cX6_init 87 = .ok (.iconst 2, 1) := by decide +kernel
theorem dX6_init_88 : decode cX6_init 88 = .ok (.newarray .boolean, 2) := by decide +kernel
theorem dX6_init_90 : decode cX6_init 90 = .ok (.putfield 40, 3) := by decide +kernel
theorem dX6_init_93 : decode cX6_init 93 = .ok (.aload_n 0, 1) := by decide +kernel
theorem dX6_init_94 : decode cX6_init 94 = .ok (.bipush 82, 2) := by decide +kernel
theorem dX6_init_96 : decode cX6_init 96 = .ok (.newarray .int, 2) := by decide +kernel
theorem dX6_init_98 : decode cX6_init 98 = .ok (.putfield 44, 3) := by decide +kernel
theorem dX6_init_101 : decode cX6_init 101 = .ok (.aload_n 0, 1) := by decide +kernel
theorem dX6_init_102 : decode cX6_init 102 = .ok (.bipush 16, 2) := by decide +kernel
theorem dX6_init_104 : decode cX6_init 104 = .ok (.newarray .int, 2) := by decide +kernel
theorem dX6_init_106 : decode cX6_init 106 = .ok (.putfield 47, 3) := by decide +kernel
theorem dX6_init_109 : decode cX6_init 109 = .ok (.iconst 0, 1) := by decide +kernel
theorem dX6_init_110 : decode cX6_init 110 = .ok (.istore_n 1, 1) := by decide +kernel
theorem dX6_init_111 : decode cX6_init 111 = .ok (.iload_n 1, 1) := by decide +kernel
theorem dX6_init_112 : decode cX6_init 112 = .ok (.bipush 8, 2) := by decide +kernel
theorem dX6_init_114 : decode cX6_init 114 = .ok (.if_icmp .ge 16, 3) := by decide +kernel
theorem dX6_init_117 : decode cX6_init 117 = .ok (.aload_n 0, 1) := by decide +kernel
theorem dX6_init_118 : decode cX6_init 118 = .ok (.getfield 13, 3) := by decide +kernel
theorem dX6_init_121 : decode cX6_init 121 = .ok (.iload_n 1, 1) := by decide +kernel
theorem dX6_init_122 : decode cX6_init 122 = .ok (.iconst (-1), 1) := by decide +kernel
theorem dX6_init_123 : decode cX6_init 123 = .ok (.iastore, 1) := by decide +kernel
theorem dX6_init_124 : decode cX6_init 124 = .ok (.iinc 1 1, 3) := by decide +kernel
theorem dX6_init_127 : decode cX6_init 127 = .ok (.goto (-16), 3) := by decide +kernel
theorem dX6_init_130 : decode cX6_init 130 = .ok (.return_, 1) := by decide +kernel
theorem dX6_in_0 : decode cX6_in 0 = .ok (.lload_n 0, 1) := by decide +kernel
theorem dX6_in_1 : decode cX6_in 1 = .ok (.lload_n 2, 1) := by decide +kernel
theorem dX6_in_2 : decode cX6_in 2 = .ok (.lcmp, 1) := by decide +kernel
theorem dX6_in_3 : decode cX6_in 3 = .ok (.ifCond .lt 14, 3) := by decide +kernel
theorem dX6_in_6 : decode cX6_in 6 = .ok (.lload_n 0, 1) := by decide +kernel
theorem dX6_in_7 : decode cX6_in 7 = .ok (.lload 4, 2) := by decide +kernel
theorem dX6_in_9 : decode cX6_in 9 = .ok (.lcmp, 1) := by decide +kernel
theorem dX6_in_10 : decode cX6_in 10 = .ok (.ifCond .gt 7, 3) := by decide +kernel
theorem dX6_in_13 : decode cX6_in 13 = .ok (.iconst 1, 1) := by decide +kernel
theorem dX6_in_14 : decode cX6_in 14 = .ok (.goto 4, 3) := by decide +kernel
theorem dX6_in_17 : decode cX6_in 17 = .ok (.iconst 0, 1) := by decide +kernel
theorem dX6_in_18 : decode cX6_in 18 = .ok (.ireturn, 1) := by decide +kernel
theorem dX6_has_0 : decode cX6_has 0 = .ok (.iload_n 0, 1) := by decide +kernel
theorem dX6_has_1 : decode cX6_has 1 = .ok (.iload_n 1, 1) := by decide +kernel
theorem dX6_has_2 : decode cX6_has 2 = .ok (.ishr, 1) := by decide +kernel
theorem dX6_has_3 : decode cX6_has 3 = .ok (.iconst 1, 1) := by decide +kernel
theorem dX6_has_4 : decode cX6_has 4 = .ok (.iand, 1) := by decide +kernel
theorem dX6_has_5 : decode cX6_has 5 = .ok (.iconst 1, 1) := by decide +kernel
theorem dX6_has_6 : decode cX6_has 6 = .ok (.if_icmp .ne 7, 3) := by decide +kernel
theorem dX6_has_9 : decode cX6_has 9 = .ok (.iconst 1, 1) := by decide +kernel
theorem dX6_has_10 : decode cX6_has 10 = .ok (.goto 4, 3) := by decide +kernel
theorem dX6_has_13 : decode cX6_has 13 = .ok (.iconst 0, 1) := by decide +kernel
theorem dX6_has_14 : decode cX6_has 14 = .ok (.ireturn, 1) := by decide +kernel
theorem dX6_ones_0 : decode cX6_ones 0 = .ok (.iconst 0, 1) := by decide +kernel
theorem dX6_ones_1 : decode cX6_ones 1 = .ok (.istore_n 1, 1) := by decide +kernel
theorem dX6_ones_2 : decode cX6_ones 2 = .ok (.iload_n 0, 1) := by decide +kernel
theorem dX6_ones_3 : decode cX6_ones 3 = .ok (.istore_n 2, 1) := by decide +kernel
theorem dX6_ones_4 : decode cX6_ones 4 = .ok (.iload_n 2, 1) := by decide +kernel
theorem dX6_ones_5 : decode cX6_ones 5 = .ok (.ifCond .eq 15, 3) := by decide +kernel
theorem dX6_ones_8 : decode cX6_ones 8 = .ok (.iinc 1 1, 3) := by decide +kernel
theorem dX6_ones_11 : decode cX6_ones 11 = .ok (.iload_n 2, 1) := by decide +kernel
theorem dX6_ones_12 : decode cX6_ones 12 = .ok (.iload_n 2, 1) := by decide +kernel
theorem dX6_ones_13 : decode cX6_ones 13 = .ok (.iconst 1, 1) := by decide +kernel
theorem dX6_ones_14 : decode cX6_ones 14 = .ok (.isub, 1) := by decide +kernel
theorem dX6_ones_15 : decode cX6_ones 15 = .ok (.iand, 1) := by decide +kernel
theorem dX6_ones_16 : decode cX6_ones 16 = .ok (.istore_n 2, 1) := by decide +kernel
theorem dX6_ones_17 : decode cX6_ones 17 = .ok (.goto (-13), 3) := by decide +kernel
theorem dX6_ones_20 : decode cX6_ones 20 = .ok (.iload_n 1, 1) := by decide +kernel
theorem dX6_ones_21 : decode cX6_ones 21 = .ok (.ireturn, 1) := by decide +kernel
theorem dX6_find_0 : decode cX6_find 0 = .ok (.aload_n 0, 1) := by decide +kernel
theorem dX6_find_1 : decode cX6_find 1 = .ok (.iload_n 1, 1) := by decide +kernel
theorem dX6_find_2 : decode cX6_find 2 = .ok (.putfield 50, 3) := by decide +kernel
theorem dX6_find_5 : decode cX6_find 5 = .ok (.ldc 54, 2) := by decide +kernel
theorem dX6_find_7 : decode cX6_find 7 = .ok (.iload_n 1, 1) := by decide +kernel
theorem dX6_find_8 : decode cX6_find 8 = .ok (.isub, 1) := by decide +kernel
theorem dX6_find_9 : decode cX6_find 9 = .ok (.ireturn, 1) := by decide +kernel
theorem dX6_well_0 : decode cX6_well 0 = .ok (.aload_n 0, 1) := by decide +kernel
theorem dX6_well_1 : decode cX6_well 1 = .ok (.iconst 0, 1) := by decide +kernel
theorem dX6_well_2 : decode cX6_well 2 = .ok (.putfield 50, 3) := by decide +kernel
theorem dX6_well_5 : decode cX6_well 5 = .ok (.iload_n 1, 1) := by decide +kernel
theorem dX6_well_6 : decode cX6_well 6 = .ok (.ireturn, 1) := by decide +kernel
theorem dX6_isRow_0 : decode cX6_isRow 0 = .ok (.iload_n 0, 1) := by decide +kernel
theorem dX6_isRow_1 : decode cX6_isRow 1 = .ok (.i2l, 1) := by decide +kernel
theorem dX6_isRow_2 : decode cX6_isRow 2 = .ok (.lconst 0, 1) := by decide +kernel
theorem dX6_isRow_3 : decode cX6_isRow 3 = .ok (.ldc2_w 55, 3) := by decide +kernel
theorem dX6_isRow_6 : decode cX6_isRow 6 = .ok (.invokestatic 57, 3) := by decide +kernel
theorem dX6_isRow_9 : decode cX6_isRow 9 = .ok (.ireturn, 1) := by decide +kernel
theorem dX6_row_0 : decode cX6_row 0 = .ok (.iload_n 1, 1) := by decide +kernel
theorem dX6_row_1 : decode cX6_row 1 = .ok (.invokestatic 61, 3) := by decide +kernel
theorem dX6_row_4 : decode cX6_row 4 = .ok (.ifCond .eq 21, 3) := by decide +kernel
theorem dX6_row_7 : decode cX6_row 7 = .ok (.iload_n 2, 1) := by decide +kernel
theorem dX6_row_8 : decode cX6_row 8 = .ok (.i2l, 1) := by decide +kernel
theorem dX6_row_9 : decode cX6_row 9 = .ok (.lconst 0, 1) := by decide +kernel
theorem dX6_row_10 : decode cX6_row 10 = .ok (.ldc2_w 65, 3) := by decide +kernel
theorem dX6_row_13 : decode cX6_row 13 = .ok (.invokestatic 57, 3) := by decide +kernel
theorem dX6_row_16 : decode cX6_row 16 = .ok (.ifCond .eq 9, 3) := by decide +kernel
theorem dX6_row_19 : decode cX6_row 19 = .ok (.iload_n 3, 1) := by decide +kernel
theorem dX6_row_20 : decode cX6_row 20 = .ok (.bipush 40, 2) := by decide +kernel
theorem dX6_row_22 : decode cX6_row 22 = .ok (.if_icmp .le 6, 3) := by decide +kernel
theorem dX6_row_25 : decode cX6_row 25 = .ok (.ldc 67, 2) := by decide +kernel
theorem dX6_row_27 : decode cX6_row 27 = .ok (.ireturn, 1) := by decide +kernel
theorem dX6_row_28 : decode cX6_row 28 = .ok (.iload_n 3, 1) := by decide +kernel
theorem dX6_row_29 : decode cX6_row 29 = .ok (.ifCond .ge 9, 3) := by decide +kernel
theorem dX6_row_32 : decode cX6_row 32 = .ok (.aload_n 0, 1) := by decide +kernel
theorem dX6_row_33 : decode cX6_row 33 = .ok (.iconst 4, 1) := by decide +kernel
theorem dX6_row_34 : decode cX6_row 34 = .ok (.invokevirtual 68, 3) := by decide +kernel
theorem dX6_row_37 : decode cX6_row 37 = .ok (.ireturn, 1) := by decide +kernel
theorem dX6_row_38 : decode cX6_row 38 = .ok (.aload_n 0, 1) := by decide +kernel
theorem dX6_row_39 : decode cX6_row 39 = .ok (.getfield 7, 3) := by decide +kernel
theorem dX6_row_42 : decode cX6_row 42 = .ok (.iload_n 1, 1) := by decide +kernel
theorem dX6_row_43 : decode cX6_row 43 = .ok (.iload_n 2, 1) := by decide +kernel
theorem dX6_row_44 : decode cX6_row 44 = .ok (.iastore, 1) := by decide +kernel
theorem dX6_row_45 : decode cX6_row 45 = .ok (.aload_n 0, 1) := by decide +kernel
theorem dX6_row_46 : decode cX6_row 46 = .ok (.getfield 13, 3) := by decide +kernel
theorem dX6_row_49 : decode cX6_row 49 = .ok (.iload_n 1, 1) := by decide +kernel
theorem dX6_row_50 : decode cX6_row 50 = .ok (.iload_n 3, 1) := by decide +kernel
theorem dX6_row_51 : decode cX6_row 51 = .ok (.iastore, 1) := by decide +kernel
theorem dX6_row_52 : decode cX6_row 52 = .ok (.iconst 0, 1) := by decide +kernel
theorem dX6_row_53 : decode cX6_row 53 = .ok (.istore 4, 2) := by decide +kernel
theorem dX6_row_55 : decode cX6_row 55 = .ok (.iload 4, 2) := by decide +kernel
theorem dX6_row_57 : decode cX6_row 57 = .ok (.bipush 40, 2) := by decide +kernel
theorem dX6_row_59 : decode cX6_row 59 = .ok (.if_icmp .ge 22, 3) := by decide +kernel
theorem dX6_row_62 : decode cX6_row 62 = .ok (.aload_n 0, 1) := by decide +kernel
theorem dX6_row_63 : decode cX6_row 63 = .ok (.getfield 16, 3) := by decide +kernel
theorem dX6_row_66 : decode cX6_row 66 = .ok (.bipush 40, 2) := by decide +kernel
theorem dX6_row_68 : decode cX6_row 68 = .ok (.iload_n 1, 1) := by decide +kernel
theorem dX6_row_69 : decode cX6_row 69 = .ok (.imul, 1) := by decide +kernel
theorem dX6_row_70 : decode cX6_row 70 = .ok (.iload 4, 2) := by decide +kernel
theorem dX6_row_72 : decode cX6_row 72 = .ok (.iadd, 1) := by decide +kernel
theorem dX6_row_73 : decode cX6_row 73 = .ok (.iconst 0, 1) := by decide +kernel
theorem dX6_row_74 : decode cX6_row 74 = .ok (.iastore, 1) := by decide +kernel
theorem dX6_row_75 : decode cX6_row 75 = .ok (.iinc 4 1, 3) := by decide +kernel
theorem dX6_row_78 : decode cX6_row 78 = .ok (.goto (-23), 3) := by decide +kernel
theorem dX6_row_81 : decode cX6_row 81 = .ok (.aload_n 0, 1) := by decide +kernel
theorem dX6_row_82 : decode cX6_row 82 = .ok (.iload_n 3, 1) := by decide +kernel
theorem dX6_row_83 : decode cX6_row 83 = .ok (.invokevirtual 72, 3) := by decide +kernel
theorem dX6_row_86 : decode cX6_row 86 = .ok (.ireturn, 1) := by decide +kernel
theorem dX6_asLane_0 : decode cX6_asLane 0 = .ok (.iload_n 0, 1) := by decide +kernel
theorem dX6_asLane_1 : decode cX6_asLane 1 = .ok (.ifCond .ne 13, 3) := by decide +kernel
theorem dX6_asLane_4 : decode cX6_asLane 4 = .ok (.iload_n 1, 1) := by decide +kernel
theorem dX6_asLane_5 : decode cX6_asLane 5 = .ok (.bipush 24, 2) := by decide +kernel
theorem dX6_asLane_7 : decode cX6_asLane 7 = .ok (.ishl, 1) := by decide +kernel
theorem dX6_asLane_8 : decode cX6_asLane 8 = .ok (.bipush 24, 2) := by decide +kernel
theorem dX6_asLane_10 : decode cX6_asLane 10 = .ok (.ishr, 1) := by decide +kernel
theorem dX6_asLane_11 : decode cX6_asLane 11 = .ok (.goto 19, 3) := by decide +kernel
theorem dX6_asLane_14 : decode cX6_asLane 14 = .ok (.iload_n 0, 1) := by decide +kernel
theorem dX6_asLane_15 : decode cX6_asLane 15 = .ok (.iconst 1, 1) := by decide +kernel
theorem dX6_asLane_16 : decode cX6_asLane 16 = .ok (.if_icmp .ne 13, 3) := by decide +kernel
theorem dX6_asLane_19 : decode cX6_asLane 19 = .ok (.iload_n 1, 1) := by decide +kernel
theorem dX6_asLane_20 : decode cX6_asLane 20 = .ok (.bipush 16, 2) := by decide +kernel
theorem dX6_asLane_22 : decode cX6_asLane 22 = .ok (.ishl, 1) := by decide +kernel
theorem dX6_asLane_23 : decode cX6_asLane 23 = .ok (.bipush 16, 2) := by decide +kernel
theorem dX6_asLane_25 : decode cX6_asLane 25 = .ok (.ishr, 1) := by decide +kernel
theorem dX6_asLane_26 : decode cX6_asLane 26 = .ok (.goto 4, 3) := by decide +kernel
theorem dX6_asLane_29 : decode cX6_asLane 29 = .ok (.iload_n 1, 1) := by decide +kernel
theorem dX6_asLane_30 : decode cX6_asLane 30 = .ok (.ireturn, 1) := by decide +kernel
theorem dX6_set_0 : decode cX6_set 0 = .ok (.iload_n 1, 1) := by decide +kernel
theorem dX6_set_1 : decode cX6_set 1 = .ok (.invokestatic 61, 3) := by decide +kernel
theorem dX6_set_4 : decode cX6_set 4 = .ok (.ifCond .ne 6, 3) := by decide +kernel
theorem dX6_set_7 : decode cX6_set 7 = .ok (.ldc 67, 2) := by decide +kernel
theorem dX6_set_9 : decode cX6_set 9 = .ok (.ireturn, 1) := by decide +kernel
theorem dX6_set_10 : decode cX6_set 10 = .ok (.aload_n 0, 1) := by decide +kernel
theorem dX6_set_11 : decode cX6_set 11 = .ok (.getfield 13, 3) := by decide +kernel
theorem dX6_set_14 : decode cX6_set 14 = .ok (.iload_n 1, 1) := by decide +kernel
theorem dX6_set_15 : decode cX6_set 15 = .ok (.iaload, 1) := by decide +kernel
theorem dX6_set_16 : decode cX6_set 16 = .ok (.ifCond .ge 9, 3) := by decide +kernel
theorem dX6_set_19 : decode cX6_set 19 = .ok (.aload_n 0, 1) := by decide +kernel
theorem dX6_set_20 : decode cX6_set 20 = .ok (.iconst 1, 1) := by decide +kernel
theorem dX6_set_21 : decode cX6_set 21 = .ok (.invokevirtual 68, 3) := by decide +kernel
theorem dX6_set_24 : decode cX6_set 24 = .ok (.ireturn, 1) := by decide +kernel
theorem dX6_set_25 : decode cX6_set 25 = .ok (.iload_n 2, 1) := by decide +kernel
theorem dX6_set_26 : decode cX6_set 26 = .ok (.i2l, 1) := by decide +kernel
theorem dX6_set_27 : decode cX6_set 27 = .ok (.lconst 0, 1) := by decide +kernel
theorem dX6_set_28 : decode cX6_set 28 = .ok (.aload_n 0, 1) := by decide +kernel
theorem dX6_set_29 : decode cX6_set 29 = .ok (.getfield 13, 3) := by decide +kernel
theorem dX6_set_32 : decode cX6_set 32 = .ok (.iload_n 1, 1) := by decide +kernel
theorem dX6_set_33 : decode cX6_set 33 = .ok (.iaload, 1) := by decide +kernel
theorem dX6_set_34 : decode cX6_set 34 = .ok (.iconst 1, 1) := by decide +kernel
theorem dX6_set_35 : decode cX6_set 35 = .ok (.isub, 1) := by decide +kernel
theorem dX6_set_36 : decode cX6_set 36 = .ok (.i2l, 1) := by decide +kernel
theorem dX6_set_37 : decode cX6_set 37 = .ok (.invokestatic 57, 3) := by decide +kernel
theorem dX6_set_40 : decode cX6_set 40 = .ok (.ifCond .ne 9, 3) := by decide +kernel
theorem dX6_set_43 : decode cX6_set 43 = .ok (.aload_n 0, 1) := by decide +kernel
theorem dX6_set_44 : decode cX6_set 44 = .ok (.iconst 2, 1) := by decide +kernel
theorem dX6_set_45 : decode cX6_set 45 = .ok (.invokevirtual 68, 3) := by decide +kernel
theorem dX6_set_48 : decode cX6_set 48 = .ok (.ireturn, 1) := by decide +kernel
theorem dX6_set_49 : decode cX6_set 49 = .ok (.aload_n 0, 1) := by decide +kernel
theorem dX6_set_50 : decode cX6_set 50 = .ok (.getfield 16, 3) := by decide +kernel
theorem dX6_set_53 : decode cX6_set 53 = .ok (.bipush 40, 2) := by decide +kernel
theorem dX6_set_55 : decode cX6_set 55 = .ok (.iload_n 1, 1) := by decide +kernel
theorem dX6_set_56 : decode cX6_set 56 = .ok (.imul, 1) := by decide +kernel
theorem dX6_set_57 : decode cX6_set 57 = .ok (.iload_n 2, 1) := by decide +kernel
theorem dX6_set_58 : decode cX6_set 58 = .ok (.iadd, 1) := by decide +kernel
theorem dX6_set_59 : decode cX6_set 59 = .ok (.aload_n 0, 1) := by decide +kernel
theorem dX6_set_60 : decode cX6_set 60 = .ok (.getfield 7, 3) := by decide +kernel
theorem dX6_set_63 : decode cX6_set 63 = .ok (.iload_n 1, 1) := by decide +kernel
theorem dX6_set_64 : decode cX6_set 64 = .ok (.iaload, 1) := by decide +kernel
theorem dX6_set_65 : decode cX6_set 65 = .ok (.iload_n 3, 1) := by decide +kernel
theorem dX6_set_66 : decode cX6_set 66 = .ok (.invokestatic 75, 3) := by decide +kernel
theorem dX6_set_69 : decode cX6_set 69 = .ok (.iastore, 1) := by decide +kernel
theorem dX6_set_70 : decode cX6_set 70 = .ok (.aload_n 0, 1) := by decide +kernel
theorem dX6_set_71 : decode cX6_set 71 = .ok (.aload_n 0, 1) := by decide +kernel
theorem dX6_set_72 : decode cX6_set 72 = .ok (.getfield 16, 3) := by decide +kernel
theorem dX6_set_75 : decode cX6_set 75 = .ok (.bipush 40, 2) := by decide +kernel
theorem dX6_set_77 : decode cX6_set 77 = .ok (.iload_n 1, 1) := by decide +kernel
theorem dX6_set_78 : decode cX6_set 78 = .ok (.imul, 1) := by decide +kernel
theorem dX6_set_79 : decode cX6_set 79 = .ok (.iload_n 2, 1) := by decide +kernel
theorem dX6_set_80 : decode cX6_set 80 = .ok (.iadd, 1) := by decide +kernel
theorem dX6_set_81 : decode cX6_set 81 = .ok (.iaload, 1) := by decide +kernel
theorem dX6_set_82 : decode cX6_set 82 = .ok (.invokevirtual 72, 3) := by decide +kernel
theorem dX6_set_85 : decode cX6_set 85 = .ok (.ireturn, 1) := by decide +kernel
theorem dX6_copy_0 : decode cX6_copy 0 = .ok (.iload_n 1, 1) := by decide +kernel
theorem dX6_copy_1 : decode cX6_copy 1 = .ok (.invokestatic 61, 3) := by decide +kernel
theorem dX6_copy_4 : decode cX6_copy 4 = .ok (.ifCond .eq 10, 3) := by decide +kernel
theorem dX6_copy_7 : decode cX6_copy 7 = .ok (.iload_n 3, 1) := by decide +kernel
theorem dX6_copy_8 : decode cX6_copy 8 = .ok (.invokestatic 61, 3) := by decide +kernel
theorem dX6_copy_11 : decode cX6_copy 11 = .ok (.ifCond .ne 6, 3) := by decide +kernel
theorem dX6_copy_14 : decode cX6_copy 14 = .ok (.ldc 67, 2) := by decide +kernel
theorem dX6_copy_16 : decode cX6_copy 16 = .ok (.ireturn, 1) := by decide +kernel
theorem dX6_copy_17 : decode cX6_copy 17 = .ok (.aload_n 0, 1) := by decide +kernel
theorem dX6_copy_18 : decode cX6_copy 18 = .ok (.getfield 13, 3) := by decide +kernel
theorem dX6_copy_21 : decode cX6_copy 21 = .ok (.iload_n 1, 1) := by decide +kernel
theorem dX6_copy_22 : decode cX6_copy 22 = .ok (.iaload, 1) := by decide +kernel
theorem dX6_copy_23 : decode cX6_copy 23 = .ok (.ifCond .lt 12, 3) := by decide +kernel
theorem dX6_copy_26 : decode cX6_copy 26 = .ok (.aload_n 0, 1) := by decide +kernel
theorem dX6_copy_27 : decode cX6_copy 27 = .ok (.getfield 13, 3) := by decide +kernel
theorem dX6_copy_30 : decode cX6_copy 30 = .ok (.iload_n 3, 1) := by decide +kernel
theorem dX6_copy_31 : decode cX6_copy 31 = .ok (.iaload, 1) := by decide +kernel
theorem dX6_copy_32 : decode cX6_copy 32 = .ok (.ifCond .ge 9, 3) := by decide +kernel
theorem dX6_copy_35 : decode cX6_copy 35 = .ok (.aload_n 0, 1) := by decide +kernel
theorem dX6_copy_36 : decode cX6_copy 36 = .ok (.iconst 1, 1) := by decide +kernel
theorem dX6_copy_37 : decode cX6_copy 37 = .ok (.invokevirtual 68, 3) := by decide +kernel
theorem dX6_copy_40 : decode cX6_copy 40 = .ok (.ireturn, 1) := by decide +kernel
theorem dX6_copy_41 : decode cX6_copy 41 = .ok (.aload_n 0, 1) := by decide +kernel
theorem dX6_copy_42 : decode cX6_copy 42 = .ok (.getfield 7, 3) := by decide +kernel
theorem dX6_copy_45 : decode cX6_copy 45 = .ok (.iload_n 1, 1) := by decide +kernel
theorem dX6_copy_46 : decode cX6_copy 46 = .ok (.iaload, 1) := by decide +kernel
theorem dX6_copy_47 : decode cX6_copy 47 = .ok (.aload_n 0, 1) := by decide +kernel
theorem dX6_copy_48 : decode cX6_copy 48 = .ok (.getfield 7, 3) := by decide +kernel
theorem dX6_copy_51 : decode cX6_copy 51 = .ok (.iload_n 3, 1) := by decide +kernel
theorem dX6_copy_52 : decode cX6_copy 52 = .ok (.iaload, 1) := by decide +kernel
theorem dX6_copy_53 : decode cX6_copy 53 = .ok (.if_icmp .eq 9, 3) := by decide +kernel
theorem dX6_copy_56 : decode cX6_copy 56 = .ok (.aload_n 0, 1) := by decide +kernel
theorem dX6_copy_57 : decode cX6_copy 57 = .ok (.iconst 5, 1) := by decide +kernel
theorem dX6_copy_58 : decode cX6_copy 58 = .ok (.invokevirtual 68, 3) := by decide +kernel
theorem dX6_copy_61 : decode cX6_copy 61 = .ok (.ireturn, 1) := by decide +kernel
theorem dX6_copy_62 : decode cX6_copy 62 = .ok (.iload 5, 2) := by decide +kernel
theorem dX6_copy_64 : decode cX6_copy 64 = .ok (.ifCond .lt 44, 3) := by decide +kernel
theorem dX6_copy_67 : decode cX6_copy 67 = .ok (.iload_n 2, 1) := by decide +kernel
theorem dX6_copy_68 : decode cX6_copy 68 = .ok (.i2l, 1) := by decide +kernel
theorem dX6_copy_69 : decode cX6_copy 69 = .ok (.lconst 0, 1) := by decide +kernel
theorem dX6_copy_70 : decode cX6_copy 70 = .ok (.aload_n 0, 1) := by decide +kernel
theorem dX6_copy_71 : decode cX6_copy 71 = .ok (.getfield 13, 3) := by decide +kernel
theorem dX6_copy_74 : decode cX6_copy 74 = .ok (.iload_n 1, 1) := by decide +kernel
theorem dX6_copy_75 : decode cX6_copy 75 = .ok (.iaload, 1) := by decide +kernel
theorem dX6_copy_76 : decode cX6_copy 76 = .ok (.i2l, 1) := by decide +kernel
theorem dX6_copy_77 : decode cX6_copy 77 = .ok (.iload 5, 2) := by decide +kernel
theorem dX6_copy_79 : decode cX6_copy 79 = .ok (.i2l, 1) := by decide +kernel
theorem dX6_copy_80 : decode cX6_copy 80 = .ok (.lsub, 1) := by decide +kernel
theorem dX6_copy_81 : decode cX6_copy 81 = .ok (.invokestatic 57, 3) := by decide +kernel
theorem dX6_copy_84 : decode cX6_copy 84 = .ok (.ifCond .eq 24, 3) := by decide +kernel
theorem dX6_copy_87 : decode cX6_copy 87 = .ok (.iload 4, 2) := by decide +kernel
theorem dX6_copy_89 : decode cX6_copy 89 = .ok (.i2l, 1) := by decide +kernel
theorem dX6_copy_90 : decode cX6_copy 90 = .ok (.lconst 0, 1) := by decide +kernel
theorem dX6_copy_91 : decode cX6_copy 91 = .ok (.aload_n 0, 1) := by decide +kernel
theorem dX6_copy_92 : decode cX6_copy 92 = .ok (.getfield 13, 3) := by decide +kernel
theorem dX6_copy_95 : decode cX6_copy 95 = .ok (.iload_n 3, 1) := by decide +kernel
theorem dX6_copy_96 : decode cX6_copy 96 = .ok (.iaload, 1) := by decide +kernel
theorem dX6_copy_97 : decode cX6_copy 97 = .ok (.i2l, 1) := by decide +kernel
theorem dX6_copy_98 : decode cX6_copy 98 = .ok (.iload 5, 2) := by decide +kernel
theorem dX6_copy_100 : decode cX6_copy 100 = .ok (.i2l, 1) := by decide +kernel
theorem dX6_copy_101 : decode cX6_copy 101 = .ok (.lsub, 1) := by decide +kernel
theorem dX6_copy_102 : decode cX6_copy 102 = .ok (.invokestatic 57, 3) := by decide +kernel
theorem dX6_copy_105 : decode cX6_copy 105 = .ok (.ifCond .ne 9, 3) := by decide +kernel
theorem dX6_copy_108 : decode cX6_copy 108 = .ok (.aload_n 0, 1) := by decide +kernel
theorem dX6_copy_109 : decode cX6_copy 109 = .ok (.iconst 2, 1) := by decide +kernel
theorem dX6_copy_110 : decode cX6_copy 110 = .ok (.invokevirtual 68, 3) := by decide +kernel
theorem dX6_copy_113 : decode cX6_copy 113 = .ok (.ireturn, 1) := by decide +kernel
theorem dX6_copy_114 : decode cX6_copy 114 = .ok (.iconst 0, 1) := by decide +kernel
theorem dX6_copy_115 : decode cX6_copy 115 = .ok (.istore 6, 2) := by decide +kernel
theorem dX6_copy_117 : decode cX6_copy 117 = .ok (.iload 6, 2) := by decide +kernel
theorem dX6_copy_119 : decode cX6_copy 119 = .ok (.iload 5, 2) := by decide +kernel
theorem dX6_copy_121 : decode cX6_copy 121 = .ok (.if_icmp .ge 30, 3) := by decide +kernel
theorem dX6_copy_124 : decode cX6_copy 124 = .ok (.aload_n 0, 1) := by decide +kernel
theorem dX6_copy_125 : decode cX6_copy 125 = .ok (.getfield 22, 3) := by decide +kernel
theorem dX6_copy_128 : decode cX6_copy 128 = .ok (.iload 6, 2) := by decide +kernel
theorem dX6_copy_130 : decode cX6_copy 130 = .ok (.aload_n 0, 1) := by decide +kernel
theorem dX6_copy_131 : decode cX6_copy 131 = .ok (.getfield 16, 3) := by decide +kernel
theorem dX6_copy_134 : decode cX6_copy 134 = .ok (.bipush 40, 2) := by decide +kernel
theorem dX6_copy_136 : decode cX6_copy 136 = .ok (.iload_n 1, 1) := by decide +kernel
theorem dX6_copy_137 : decode cX6_copy 137 = .ok (.imul, 1) := by decide +kernel
theorem dX6_copy_138 : decode cX6_copy 138 = .ok (.iload_n 2, 1) := by decide +kernel
theorem dX6_copy_139 : decode cX6_copy 139 = .ok (.iadd, 1) := by decide +kernel
theorem dX6_copy_140 : decode cX6_copy 140 = .ok (.iload 6, 2) := by decide +kernel
theorem dX6_copy_142 : decode cX6_copy 142 = .ok (.iadd, 1) := by decide +kernel
theorem dX6_copy_143 : decode cX6_copy 143 = .ok (.iaload, 1) := by decide +kernel
theorem dX6_copy_144 : decode cX6_copy 144 = .ok (.iastore, 1) := by decide +kernel
theorem dX6_copy_145 : decode cX6_copy 145 = .ok (.iinc 6 1, 3) := by decide +kernel
theorem dX6_copy_148 : decode cX6_copy 148 = .ok (.goto (-31), 3) := by decide +kernel
theorem dX6_copy_151 : decode cX6_copy 151 = .ok (.iconst 0, 1) := by decide +kernel
theorem dX6_copy_152 : decode cX6_copy 152 = .ok (.istore 6, 2) := by decide +kernel
theorem dX6_copy_154 : decode cX6_copy 154 = .ok (.iload 6, 2) := by decide +kernel
theorem dX6_copy_156 : decode cX6_copy 156 = .ok (.iload 5, 2) := by decide +kernel
theorem dX6_copy_158 : decode cX6_copy 158 = .ok (.if_icmp .ge 31, 3) := by decide +kernel
theorem dX6_copy_161 : decode cX6_copy 161 = .ok (.aload_n 0, 1) := by decide +kernel
theorem dX6_copy_162 : decode cX6_copy 162 = .ok (.getfield 16, 3) := by decide +kernel
theorem dX6_copy_165 : decode cX6_copy 165 = .ok (.bipush 40, 2) := by decide +kernel
theorem dX6_copy_167 : decode cX6_copy 167 = .ok (.iload_n 3, 1) := by decide +kernel
theorem dX6_copy_168 : decode cX6_copy 168 = .ok (.imul, 1) := by decide +kernel
theorem dX6_copy_169 : decode cX6_copy 169 = .ok (.iload 4, 2) := by decide +kernel
theorem dX6_copy_171 : decode cX6_copy 171 = .ok (.iadd, 1) := by decide +kernel
theorem dX6_copy_172 : decode cX6_copy 172 = .ok (.iload 6, 2) := by decide +kernel
theorem dX6_copy_174 : decode cX6_copy 174 = .ok (.iadd, 1) := by decide +kernel
theorem dX6_copy_175 : decode cX6_copy 175 = .ok (.aload_n 0, 1) := by decide +kernel
theorem dX6_copy_176 : decode cX6_copy 176 = .ok (.getfield 22, 3) := by decide +kernel
theorem dX6_copy_179 : decode cX6_copy 179 = .ok (.iload 6, 2) := by decide +kernel
theorem dX6_copy_181 : decode cX6_copy 181 = .ok (.iaload, 1) := by decide +kernel
theorem dX6_copy_182 : decode cX6_copy 182 = .ok (.iastore, 1) := by decide +kernel
theorem dX6_copy_183 : decode cX6_copy 183 = .ok (.iinc 6 1, 3) := by decide +kernel
theorem dX6_copy_186 : decode cX6_copy 186 = .ok (.goto (-32), 3) := by decide +kernel
theorem dX6_copy_189 : decode cX6_copy 189 = .ok (.aload_n 0, 1) := by decide +kernel
theorem dX6_copy_190 : decode cX6_copy 190 = .ok (.iload 5, 2) := by decide +kernel
theorem dX6_copy_192 : decode cX6_copy 192 = .ok (.invokevirtual 72, 3) := by decide +kernel
theorem dX6_copy_195 : decode cX6_copy 195 = .ok (.ireturn, 1) := by decide +kernel
theorem dX6_drop_0 : decode cX6_drop 0 = .ok (.iload_n 1, 1) := by decide +kernel
theorem dX6_drop_1 : decode cX6_drop 1 = .ok (.invokestatic 61, 3) := by decide +kernel
theorem dX6_drop_4 : decode cX6_drop 4 = .ok (.ifCond .ne 6, 3) := by decide +kernel
theorem dX6_drop_7 : decode cX6_drop 7 = .ok (.ldc 67, 2) := by decide +kernel
theorem dX6_drop_9 : decode cX6_drop 9 = .ok (.ireturn, 1) := by decide +kernel
theorem dX6_drop_10 : decode cX6_drop 10 = .ok (.aload_n 0, 1) := by decide +kernel
theorem dX6_drop_11 : decode cX6_drop 11 = .ok (.getfield 13, 3) := by decide +kernel
theorem dX6_drop_14 : decode cX6_drop 14 = .ok (.iload_n 1, 1) := by decide +kernel
theorem dX6_drop_15 : decode cX6_drop 15 = .ok (.iaload, 1) := by decide +kernel
theorem dX6_drop_16 : decode cX6_drop 16 = .ok (.ifCond .ge 9, 3) := by decide +kernel
theorem dX6_drop_19 : decode cX6_drop 19 = .ok (.aload_n 0, 1) := by decide +kernel
theorem dX6_drop_20 : decode cX6_drop 20 = .ok (.iconst 1, 1) := by decide +kernel
theorem dX6_drop_21 : decode cX6_drop 21 = .ok (.invokevirtual 68, 3) := by decide +kernel
theorem dX6_drop_24 : decode cX6_drop 24 = .ok (.ireturn, 1) := by decide +kernel
theorem dX6_drop_25 : decode cX6_drop 25 = .ok (.aload_n 0, 1) := by decide +kernel
theorem dX6_drop_26 : decode cX6_drop 26 = .ok (.getfield 13, 3) := by decide +kernel
theorem dX6_drop_29 : decode cX6_drop 29 = .ok (.iload_n 1, 1) := by decide +kernel
theorem dX6_drop_30 : decode cX6_drop 30 = .ok (.iaload, 1) := by decide +kernel
theorem dX6_drop_31 : decode cX6_drop 31 = .ok (.istore_n 2, 1) := by decide +kernel
theorem dX6_drop_32 : decode cX6_drop 32 = .ok (.aload_n 0, 1) := by decide +kernel
theorem dX6_drop_33 : decode cX6_drop 33 = .ok (.getfield 13, 3) := by decide +kernel
theorem dX6_drop_36 : decode cX6_drop 36 = .ok (.iload_n 1, 1) := by decide +kernel
theorem dX6_drop_37 : decode cX6_drop 37 = .ok (.iconst (-1), 1) := by decide +kernel
theorem dX6_drop_38 : decode cX6_drop 38 = .ok (.iastore, 1) := by decide +kernel
theorem dX6_drop_39 : decode cX6_drop 39 = .ok (.aload_n 0, 1) := by decide +kernel
theorem dX6_drop_40 : decode cX6_drop 40 = .ok (.iload_n 2, 1) := by decide +kernel
theorem dX6_drop_41 : decode cX6_drop 41 = .ok (.invokevirtual 72, 3) := by decide +kernel
theorem dX6_drop_44 : decode cX6_drop 44 = .ok (.ireturn, 1) := by decide +kernel
theorem dX6_feed_0 : decode cX6_feed 0 = .ok (.iload_n 1, 1) := by decide +kernel
theorem dX6_feed_1 : decode cX6_feed 1 = .ok (.i2l, 1) := by decide +kernel
theorem dX6_feed_2 : decode cX6_feed 2 = .ok (.lconst 0, 1) := by decide +kernel
theorem dX6_feed_3 : decode cX6_feed 3 = .ok (.ldc2_w 79, 3) := by decide +kernel
theorem dX6_feed_6 : decode cX6_feed 6 = .ok (.invokestatic 57, 3) := by decide +kernel
theorem dX6_feed_9 : decode cX6_feed 9 = .ok (.ifCond .ne 6, 3) := by decide +kernel
theorem dX6_feed_12 : decode cX6_feed 12 = .ok (.ldc 67, 2) := by decide +kernel
theorem dX6_feed_14 : decode cX6_feed 14 = .ok (.ireturn, 1) := by decide +kernel
theorem dX6_feed_15 : decode cX6_feed 15 = .ok (.aload_n 0, 1) := by decide +kernel
theorem dX6_feed_16 : decode cX6_feed 16 = .ok (.getfield 81, 3) := by decide +kernel
theorem dX6_feed_19 : decode cX6_feed 19 = .ok (.bipush 120, 2) := by decide +kernel
theorem dX6_feed_21 : decode cX6_feed 21 = .ok (.if_icmp .ne 6, 3) := by decide +kernel
theorem dX6_feed_24 : decode cX6_feed 24 = .ok (.ldc 84, 2) := by decide +kernel
theorem dX6_feed_26 : decode cX6_feed 26 = .ok (.ireturn, 1) := by decide +kernel
theorem dX6_feed_27 : decode cX6_feed 27 = .ok (.aload_n 0, 1) := by decide +kernel
theorem dX6_feed_28 : decode cX6_feed 28 = .ok (.getfield 25, 3) := by decide +kernel
theorem dX6_feed_31 : decode cX6_feed 31 = .ok (.aload_n 0, 1) := by decide +kernel
theorem dX6_feed_32 : decode cX6_feed 32 = .ok (.getfield 81, 3) := by decide +kernel
theorem dX6_feed_35 : decode cX6_feed 35 = .ok (.iload_n 1, 1) := by decide +kernel
theorem dX6_feed_36 : decode cX6_feed 36 = .ok (.iastore, 1) := by decide +kernel
theorem dX6_feed_37 : decode cX6_feed 37 = .ok (.aload_n 0, 1) := by decide +kernel
theorem dX6_feed_38 : decode cX6_feed 38 = .ok (.dup, 1) := by decide +kernel
theorem dX6_feed_39 : decode cX6_feed 39 = .ok (.getfield 81, 3) := by decide +kernel
theorem dX6_feed_42 : decode cX6_feed 42 = .ok (.iconst 1, 1) := by decide +kernel
theorem dX6_feed_43 : decode cX6_feed 43 = .ok (.iadd, 1) := by decide +kernel
theorem dX6_feed_44 : decode cX6_feed 44 = .ok (.putfield 81, 3) := by decide +kernel
theorem dX6_feed_47 : decode cX6_feed 47 = .ok (.aload_n 0, 1) := by decide +kernel
theorem dX6_feed_48 : decode cX6_feed 48 = .ok (.getfield 81, 3) := by decide +kernel
theorem dX6_feed_51 : decode cX6_feed 51 = .ok (.ireturn, 1) := by decide +kernel
theorem dX6_nextToken_0 : decode cX6_nextToken 0 = .ok (.aload_n 0, 1) := by decide +kernel
theorem dX6_nextToken_1 : decode cX6_nextToken 1 = .ok (.aload_n 0, 1) := by decide +kernel
theorem dX6_nextToken_2 : decode cX6_nextToken 2 = .ok (.getfield 85, 3) := by decide +kernel
theorem dX6_nextToken_5 : decode cX6_nextToken 5 = .ok (.putfield 88, 3) := by decide +kernel
theorem dX6_nextToken_8 : decode cX6_nextToken 8 = .ok (.aload_n 0, 1) := by decide +kernel
theorem dX6_nextToken_9 : decode cX6_nextToken 9 = .ok (.aload_n 0, 1) := by decide +kernel
theorem dX6_nextToken_10 : decode cX6_nextToken 10 = .ok (.getfield 85, 3) := by decide +kernel
theorem dX6_nextToken_13 : decode cX6_nextToken 13 = .ok (.aload_n 0, 1) := by decide +kernel
theorem dX6_nextToken_14 : decode cX6_nextToken 14 = .ok (.getfield 81, 3) := by decide +kernel
theorem dX6_nextToken_17 : decode cX6_nextToken 17 = .ok (.if_icmp .ne 7, 3) := by decide +kernel
theorem dX6_nextToken_20 : decode cX6_nextToken 20 = .ok (.iconst 3, 1) := by decide +kernel
theorem dX6_nextToken_21 : decode cX6_nextToken 21 = .ok (.goto 4, 3) := by decide +kernel
theorem dX6_nextToken_24 : decode cX6_nextToken 24 = .ok (.iconst 0, 1) := by decide +kernel
theorem dX6_nextToken_25 : decode cX6_nextToken 25 = .ok (.putfield 91, 3) := by decide +kernel
theorem dX6_nextToken_28 : decode cX6_nextToken 28 = .ok (.aload_n 0, 1) := by decide +kernel
theorem dX6_nextToken_29 : decode cX6_nextToken 29 = .ok (.iconst 0, 1) := by decide +kernel
theorem dX6_nextToken_30 : decode cX6_nextToken 30 = .ok (.putfield 94, 3) := by decide +kernel
theorem dX6_nextToken_33 : decode cX6_nextToken 33 = .ok (.aload_n 0, 1) := by decide +kernel
theorem dX6_nextToken_34 : decode cX6_nextToken 34 = .ok (.getfield 85, 3) := by decide +kernel
theorem dX6_nextToken_37 : decode cX6_nextToken 37 = .ok (.aload_n 0, 1) := by decide +kernel
theorem dX6_nextToken_38 : decode cX6_nextToken 38 = .ok (.getfield 81, 3) := by decide +kernel
theorem dX6_nextToken_41 : decode cX6_nextToken 41 = .ok (.if_icmp .ge 78, 3) := by decide +kernel
theorem dX6_nextToken_44 : decode cX6_nextToken 44 = .ok (.aload_n 0, 1) := by decide +kernel
theorem dX6_nextToken_45 : decode cX6_nextToken 45 = .ok (.getfield 25, 3) := by decide +kernel
theorem dX6_nextToken_48 : decode cX6_nextToken 48 = .ok (.aload_n 0, 1) := by decide +kernel
theorem dX6_nextToken_49 : decode cX6_nextToken 49 = .ok (.getfield 85, 3) := by decide +kernel
theorem dX6_nextToken_52 : decode cX6_nextToken 52 = .ok (.iaload, 1) := by decide +kernel
theorem dX6_nextToken_53 : decode cX6_nextToken 53 = .ok (.i2l, 1) := by decide +kernel
theorem dX6_nextToken_54 : decode cX6_nextToken 54 = .ok (.ldc2_w 97, 3) := by decide +kernel
theorem dX6_nextToken_57 : decode cX6_nextToken 57 = .ok (.ldc2_w 99, 3) := by decide +kernel
theorem dX6_nextToken_60 : decode cX6_nextToken 60 = .ok (.invokestatic 57, 3) := by decide +kernel
theorem dX6_nextToken_63 : decode cX6_nextToken 63 = .ok (.ifCond .eq 56, 3) := by decide +kernel
theorem dX6_nextToken_66 : decode cX6_nextToken 66 = .ok (.aload_n 0, 1) := by decide +kernel
theorem dX6_nextToken_67 : decode cX6_nextToken 67 = .ok (.aload_n 0, 1) := by decide +kernel
theorem dX6_nextToken_68 : decode cX6_nextToken 68 = .ok (.getfield 94, 3) := by decide +kernel
theorem dX6_nextToken_71 : decode cX6_nextToken 71 = .ok (.bipush 99, 2) := by decide +kernel
theorem dX6_nextToken_73 : decode cX6_nextToken 73 = .ok (.if_icmp .le 10, 3) := by decide +kernel
theorem dX6_nextToken_76 : decode cX6_nextToken 76 = .ok (.aload_n 0, 1) := by decide +kernel
theorem dX6_nextToken_77 : decode cX6_nextToken 77 = .ok (.getfield 94, 3) := by decide +kernel
theorem dX6_nextToken_80 : decode cX6_nextToken 80 = .ok (.goto 23, 3) := by decide +kernel
theorem dX6_nextToken_83 : decode cX6_nextToken 83 = .ok (.bipush 10, 2) := by decide +kernel
theorem dX6_nextToken_85 : decode cX6_nextToken 85 = .ok (.aload_n 0, 1) := by decide +kernel
theorem dX6_nextToken_86 : decode cX6_nextToken 86 = .ok (.getfield 94, 3) := by decide +kernel
theorem dX6_nextToken_89 : decode cX6_nextToken 89 = .ok (.imul, 1) := by decide +kernel
theorem dX6_nextToken_90 : decode cX6_nextToken 90 = .ok (.aload_n 0, 1) := by decide +kernel
theorem dX6_nextToken_91 : decode cX6_nextToken 91 = .ok (.getfield 25, 3) := by decide +kernel
theorem dX6_nextToken_94 : decode cX6_nextToken 94 = .ok (.aload_n 0, 1) := by decide +kernel
theorem dX6_nextToken_95 : decode cX6_nextToken 95 = .ok (.getfield 85, 3) := by decide +kernel
theorem dX6_nextToken_98 : decode cX6_nextToken 98 = .ok (.iaload, 1) := by decide +kernel
theorem dX6_nextToken_99 : decode cX6_nextToken 99 = .ok (.iadd, 1) := by decide +kernel
theorem dX6_nextToken_100 : decode cX6_nextToken 100 = .ok (.bipush 48, 2) := by decide +kernel
theorem dX6_nextToken_102 : decode cX6_nextToken 102 = .ok (.isub, 1) := by decide +kernel
theorem dX6_nextToken_103 : decode cX6_nextToken 103 = .ok (.putfield 94, 3) := by decide +kernel
theorem dX6_nextToken_106 : decode cX6_nextToken 106 = .ok (.aload_n 0, 1) := by decide +kernel
theorem dX6_nextToken_107 : decode cX6_nextToken 107 = .ok (.dup, 1) := by decide +kernel
theorem dX6_nextToken_108 : decode cX6_nextToken 108 = .ok (.getfield 85, 3) := by decide +kernel
theorem dX6_nextToken_111 : decode cX6_nextToken 111 = .ok (.iconst 1, 1) := by decide +kernel
theorem dX6_nextToken_112 : decode cX6_nextToken 112 = .ok (.iadd, 1) := by decide +kernel
theorem dX6_nextToken_113 : decode cX6_nextToken 113 = .ok (.putfield 85, 3) := by decide +kernel
theorem dX6_nextToken_116 : decode cX6_nextToken 116 = .ok (.goto (-83), 3) := by decide +kernel
theorem dX6_nextToken_119 : decode cX6_nextToken 119 = .ok (.aload_n 0, 1) := by decide +kernel
theorem dX6_nextToken_120 : decode cX6_nextToken 120 = .ok (.getfield 85, 3) := by decide +kernel
theorem dX6_nextToken_123 : decode cX6_nextToken 123 = .ok (.aload_n 0, 1) := by decide +kernel
theorem dX6_nextToken_124 : decode cX6_nextToken 124 = .ok (.getfield 88, 3) := by decide +kernel
theorem dX6_nextToken_127 : decode cX6_nextToken 127 = .ok (.if_icmp .le 28, 3) := by decide +kernel
theorem dX6_nextToken_130 : decode cX6_nextToken 130 = .ok (.aload_n 0, 1) := by decide +kernel
theorem dX6_nextToken_131 : decode cX6_nextToken 131 = .ok (.aload_n 0, 1) := by decide +kernel
theorem dX6_nextToken_132 : decode cX6_nextToken 132 = .ok (.getfield 85, 3) := by decide +kernel
theorem dX6_nextToken_135 : decode cX6_nextToken 135 = .ok (.aload_n 0, 1) := by decide +kernel
theorem dX6_nextToken_136 : decode cX6_nextToken 136 = .ok (.getfield 88, 3) := by decide +kernel
theorem dX6_nextToken_139 : decode cX6_nextToken 139 = .ok (.isub, 1) := by decide +kernel
theorem dX6_nextToken_140 : decode cX6_nextToken 140 = .ok (.iconst 2, 1) := by decide +kernel
theorem dX6_nextToken_141 : decode cX6_nextToken 141 = .ok (.if_icmp .le 7, 3) := by decide +kernel
theorem dX6_nextToken_144 : decode cX6_nextToken 144 = .ok (.iconst 0, 1) := by decide +kernel
theorem dX6_nextToken_145 : decode cX6_nextToken 145 = .ok (.goto 4, 3) := by decide +kernel
theorem dX6_nextToken_148 : decode cX6_nextToken 148 = .ok (.iconst 2, 1) := by decide +kernel
theorem dX6_nextToken_149 : decode cX6_nextToken 149 = .ok (.putfield 91, 3) := by decide +kernel
theorem dX6_nextToken_152 : decode cX6_nextToken 152 = .ok (.goto 77, 3) := by decide +kernel
theorem dX6_nextToken_155 : decode cX6_nextToken 155 = .ok (.aload_n 0, 1) := by decide +kernel
theorem dX6_nextToken_156 : decode cX6_nextToken 156 = .ok (.getfield 91, 3) := by decide +kernel
theorem dX6_nextToken_159 : decode cX6_nextToken 159 = .ok (.ifCond .ne 70, 3) := by decide +kernel
theorem dX6_nextToken_162 : decode cX6_nextToken 162 = .ok (.aload_n 0, 1) := by decide +kernel
theorem dX6_nextToken_163 : decode cX6_nextToken 163 = .ok (.aload_n 0, 1) := by decide +kernel
theorem dX6_nextToken_164 : decode cX6_nextToken 164 = .ok (.getfield 25, 3) := by decide +kernel
theorem dX6_nextToken_167 : decode cX6_nextToken 167 = .ok (.aload_n 0, 1) := by decide +kernel
theorem dX6_nextToken_168 : decode cX6_nextToken 168 = .ok (.getfield 85, 3) := by decide +kernel
theorem dX6_nextToken_171 : decode cX6_nextToken 171 = .ok (.iaload, 1) := by decide +kernel
theorem dX6_nextToken_172 : decode cX6_nextToken 172 = .ok (.putfield 94, 3) := by decide +kernel
theorem dX6_nextToken_175 : decode cX6_nextToken 175 = .ok (.aload_n 0, 1) := by decide +kernel
theorem dX6_nextToken_176 : decode cX6_nextToken 176 = .ok (.aload_n 0, 1) := by decide +kernel
theorem dX6_nextToken_177 : decode cX6_nextToken 177 = .ok (.getfield 94, 3) := by decide +kernel
theorem dX6_nextToken_180 : decode cX6_nextToken 180 = .ok (.i2l, 1) := by decide +kernel
theorem dX6_nextToken_181 : decode cX6_nextToken 181 = .ok (.ldc2_w 101, 3) := by decide +kernel
theorem dX6_nextToken_184 : decode cX6_nextToken 184 = .ok (.ldc2_w 103, 3) := by decide +kernel
theorem dX6_nextToken_187 : decode cX6_nextToken 187 = .ok (.invokestatic 57, 3) := by decide +kernel
theorem dX6_nextToken_190 : decode cX6_nextToken 190 = .ok (.ifCond .ne 21, 3) := by decide +kernel
theorem dX6_nextToken_193 : decode cX6_nextToken 193 = .ok (.aload_n 0, 1) := by decide +kernel
theorem dX6_nextToken_194 : decode cX6_nextToken 194 = .ok (.getfield 94, 3) := by decide +kernel
theorem dX6_nextToken_197 : decode cX6_nextToken 197 = .ok (.bipush 44, 2) := by decide +kernel
theorem dX6_nextToken_199 : decode cX6_nextToken 199 = .ok (.if_icmp .eq 12, 3) := by decide +kernel
theorem dX6_nextToken_202 : decode cX6_nextToken 202 = .ok (.aload_n 0, 1) := by decide +kernel
theorem dX6_nextToken_203 : decode cX6_nextToken 203 = .ok (.getfield 94, 3) := by decide +kernel
theorem dX6_nextToken_206 : decode cX6_nextToken 206 = .ok (.bipush 59, 2) := by decide +kernel
theorem dX6_nextToken_208 : decode cX6_nextToken 208 = .ok (.if_icmp .ne 7, 3) := by decide +kernel
theorem dX6_nextToken_211 : decode cX6_nextToken 211 = .ok (.iconst 1, 1) := by decide +kernel
theorem dX6_nextToken_212 : decode cX6_nextToken 212 = .ok (.goto 4, 3) := by decide +kernel
theorem dX6_nextToken_215 : decode cX6_nextToken 215 = .ok (.iconst 0, 1) := by decide +kernel
theorem dX6_nextToken_216 : decode cX6_nextToken 216 = .ok (.putfield 91, 3) := by decide +kernel
theorem dX6_nextToken_219 : decode cX6_nextToken 219 = .ok (.aload_n 0, 1) := by decide +kernel
theorem dX6_nextToken_220 : decode cX6_nextToken 220 = .ok (.dup, 1) := by decide +kernel
theorem dX6_nextToken_221 : decode cX6_nextToken 221 = .ok (.getfield 85, 3) := by decide +kernel
theorem dX6_nextToken_224 : decode cX6_nextToken 224 = .ok (.iconst 1, 1) := by decide +kernel
theorem dX6_nextToken_225 : decode cX6_nextToken 225 = .ok (.iadd, 1) := by decide +kernel
theorem dX6_nextToken_226 : decode cX6_nextToken 226 = .ok (.putfield 85, 3) := by decide +kernel
theorem dX6_nextToken_229 : decode cX6_nextToken 229 = .ok (.return_, 1) := by decide +kernel
theorem dX6_faults_0 : decode cX6_faults 0 = .ok (.aload_n 0, 1) := by decide +kernel
theorem dX6_faults_1 : decode cX6_faults 1 = .ok (.iload_n 1, 1) := by decide +kernel
theorem dX6_faults_2 : decode cX6_faults 2 = .ok (.putfield 105, 3) := by decide +kernel
theorem dX6_faults_5 : decode cX6_faults 5 = .ok (.iconst 0, 1) := by decide +kernel
theorem dX6_faults_6 : decode cX6_faults 6 = .ok (.ireturn, 1) := by decide +kernel
theorem dX6_isLetter_0 : decode cX6_isLetter 0 = .ok (.aload_n 0, 1) := by decide +kernel
theorem dX6_isLetter_1 : decode cX6_isLetter 1 = .ok (.getfield 91, 3) := by decide +kernel
theorem dX6_isLetter_4 : decode cX6_isLetter 4 = .ok (.iconst 1, 1) := by decide +kernel
theorem dX6_isLetter_5 : decode cX6_isLetter 5 = .ok (.if_icmp .ne 15, 3) := by decide +kernel
theorem dX6_isLetter_8 : decode cX6_isLetter 8 = .ok (.aload_n 0, 1) := by decide +kernel
theorem dX6_isLetter_9 : decode cX6_isLetter 9 = .ok (.getfield 94, 3) := by decide +kernel
theorem dX6_isLetter_12 : decode cX6_isLetter 12 = .ok (.iload_n 1, 1) := by decide +kernel
theorem dX6_isLetter_13 : decode cX6_isLetter 13 = .ok (.if_icmp .ne 7, 3) := by decide +kernel
theorem dX6_isLetter_16 : decode cX6_isLetter 16 = .ok (.iconst 1, 1) := by decide +kernel
theorem dX6_isLetter_17 : decode cX6_isLetter 17 = .ok (.goto 4, 3) := by decide +kernel
theorem dX6_isLetter_20 : decode cX6_isLetter 20 = .ok (.iconst 0, 1) := by decide +kernel
theorem dX6_isLetter_21 : decode cX6_isLetter 21 = .ok (.ireturn, 1) := by decide +kernel
theorem dX6_takes_0 : decode cX6_takes 0 = .ok (.aload_n 0, 1) := by decide +kernel
theorem dX6_takes_1 : decode cX6_takes 1 = .ok (.iload_n 1, 1) := by decide +kernel
theorem dX6_takes_2 : decode cX6_takes 2 = .ok (.invokevirtual 108, 3) := by decide +kernel
theorem dX6_takes_5 : decode cX6_takes 5 = .ok (.ifCond .ne 9, 3) := by decide +kernel
theorem dX6_takes_8 : decode cX6_takes 8 = .ok (.aload_n 0, 1) := by decide +kernel
theorem dX6_takes_9 : decode cX6_takes 9 = .ok (.iconst 1, 1) := by decide +kernel
theorem dX6_takes_10 : decode cX6_takes 10 = .ok (.invokevirtual 111, 3) := by decide +kernel
theorem dX6_takes_13 : decode cX6_takes 13 = .ok (.ireturn, 1) := by decide +kernel
theorem dX6_takes_14 : decode cX6_takes 14 = .ok (.aload_n 0, 1) := by decide +kernel
theorem dX6_takes_15 : decode cX6_takes 15 = .ok (.invokevirtual 114, 3) := by decide +kernel
theorem dX6_takes_18 : decode cX6_takes 18 = .ok (.iconst 1, 1) := by decide +kernel
theorem dX6_takes_19 : decode cX6_takes 19 = .ok (.ireturn, 1) := by decide +kernel
theorem dX6_takesNumber_0 : decode cX6_takesNumber 0 = .ok (.aload_n 0, 1) := by decide +kernel
theorem dX6_takesNumber_1 : decode cX6_takesNumber 1 = .ok (.getfield 91, 3) := by decide +kernel
theorem dX6_takesNumber_4 : decode cX6_takesNumber 4 = .ok (.iconst 2, 1) := by decide +kernel
theorem dX6_takesNumber_5 : decode cX6_takesNumber 5 = .ok (.if_icmp .ne 18, 3) := by decide +kernel
theorem dX6_takesNumber_8 : decode cX6_takesNumber 8 = .ok (.aload_n 0, 1) := by decide +kernel
theorem dX6_takesNumber_9 : decode cX6_takesNumber 9 = .ok (.getfield 94, 3) := by decide +kernel
theorem dX6_takesNumber_12 : decode cX6_takesNumber 12 = .ok (.i2l, 1) := by decide +kernel
theorem dX6_takesNumber_13 : decode cX6_takesNumber 13 = .ok (.iload_n 1, 1) := by decide +kernel
theorem dX6_takesNumber_14 : decode cX6_takesNumber 14 = .ok (.i2l, 1) := by decide +kernel
theorem dX6_takesNumber_15 : decode cX6_takesNumber 15 = .ok (.iload_n 2, 1) := by decide +kernel
theorem dX6_takesNumber_16 : decode cX6_takesNumber 16 = .ok (.i2l, 1) := by decide +kernel
theorem dX6_takesNumber_17 : decode cX6_takesNumber 17 = .ok (.invokestatic 57, 3) := by decide +kernel
theorem dX6_takesNumber_20 : decode cX6_takesNumber 20 = .ok (.ifCond .ne 21, 3) := by decide +kernel
theorem dX6_takesNumber_23 : decode cX6_takesNumber 23 = .ok (.aload_n 0, 1) := by decide +kernel
theorem dX6_takesNumber_24 : decode cX6_takesNumber 24 = .ok (.aload_n 0, 1) := by decide +kernel
theorem dX6_takesNumber_25 : decode cX6_takesNumber 25 = .ok (.getfield 91, 3) := by decide +kernel
theorem dX6_takesNumber_28 : decode cX6_takesNumber 28 = .ok (.iconst 2, 1) := by decide +kernel
theorem dX6_takesNumber_29 : decode cX6_takesNumber 29 = .ok (.if_icmp .ne 7, 3) := by decide +kernel
theorem dX6_takesNumber_32 : decode cX6_takesNumber 32 = .ok (.iconst 2, 1) := by decide +kernel
theorem dX6_takesNumber_33 : decode cX6_takesNumber 33 = .ok (.goto 4, 3) := by decide +kernel
theorem dX6_takesNumber_36 : decode cX6_takesNumber 36 = .ok (.iconst 1, 1) := by decide +kernel
theorem dX6_takesNumber_37 : decode cX6_takesNumber 37 = .ok (.invokevirtual 111, 3) := by decide +kernel
theorem dX6_takesNumber_40 : decode cX6_takesNumber 40 = .ok (.ireturn, 1) := by decide +kernel
theorem dX6_takesNumber_41 : decode cX6_takesNumber 41 = .ok (.aload_n 0, 1) := by decide +kernel
theorem dX6_takesNumber_42 : decode cX6_takesNumber 42 = .ok (.getfield 28, 3) := by decide +kernel
theorem dX6_takesNumber_45 : decode cX6_takesNumber 45 = .ok (.iload_n 3, 1) := by decide +kernel
theorem dX6_takesNumber_46 : decode cX6_takesNumber 46 = .ok (.aload_n 0, 1) := by decide +kernel
theorem dX6_takesNumber_47 : decode cX6_takesNumber 47 = .ok (.getfield 94, 3) := by decide +kernel
theorem dX6_takesNumber_50 : decode cX6_takesNumber 50 = .ok (.iastore, 1) := by decide +kernel
theorem dX6_takesNumber_51 : decode cX6_takesNumber 51 = .ok (.aload_n 0, 1) := by decide +kernel
theorem dX6_takesNumber_52 : decode cX6_takesNumber 52 = .ok (.invokevirtual 114, 3) := by decide +kernel
theorem dX6_takesNumber_55 : decode cX6_takesNumber 55 = .ok (.aload_n 0, 1) := by decide +kernel
theorem dX6_takesNumber_56 : decode cX6_takesNumber 56 = .ok (.iload 4, 2) := by decide +kernel
theorem dX6_takesNumber_58 : decode cX6_takesNumber 58 = .ok (.invokevirtual 117, 3) := by decide +kernel
theorem dX6_takesNumber_61 : decode cX6_takesNumber 61 = .ok (.ireturn, 1) := by decide +kernel
theorem dX6_readChair_0 : decode cX6_readChair 0 = .ok (.aload_n 0, 1) := by decide +kernel
theorem dX6_readChair_1 : decode cX6_readChair 1 = .ok (.bipush 112, 2) := by decide +kernel
theorem dX6_readChair_3 : decode cX6_readChair 3 = .ok (.invokevirtual 108, 3) := by decide +kernel
theorem dX6_readChair_6 : decode cX6_readChair 6 = .ok (.ifCond .eq 7, 3) := by decide +kernel
theorem dX6_readChair_9 : decode cX6_readChair 9 = .ok (.iconst 1, 1) := by decide +kernel
theorem dX6_readChair_10 : decode cX6_readChair 10 = .ok (.goto 56, 3) := by decide +kernel
theorem dX6_readChair_13 : decode cX6_readChair 13 = .ok (.aload_n 0, 1) := by decide +kernel
theorem dX6_readChair_14 : decode cX6_readChair 14 = .ok (.bipush 114, 2) := by decide +kernel
theorem dX6_readChair_16 : decode cX6_readChair 16 = .ok (.invokevirtual 108, 3) := by decide +kernel
theorem dX6_readChair_19 : decode cX6_readChair 19 = .ok (.ifCond .eq 7, 3) := by decide +kernel
theorem dX6_readChair_22 : decode cX6_readChair 22 = .ok (.iconst 2, 1) := by decide +kernel
theorem dX6_readChair_23 : decode cX6_readChair 23 = .ok (.goto 43, 3) := by decide +kernel
theorem dX6_readChair_26 : decode cX6_readChair 26 = .ok (.aload_n 0, 1) := by decide +kernel
theorem dX6_readChair_27 : decode cX6_readChair 27 = .ok (.bipush 99, 2) := by decide +kernel
theorem dX6_readChair_29 : decode cX6_readChair 29 = .ok (.invokevirtual 108, 3) := by decide +kernel
theorem dX6_readChair_32 : decode cX6_readChair 32 = .ok (.ifCond .eq 7, 3) := by decide +kernel
theorem dX6_readChair_35 : decode cX6_readChair 35 = .ok (.iconst 3, 1) := by decide +kernel
theorem dX6_readChair_36 : decode cX6_readChair 36 = .ok (.goto 30, 3) := by decide +kernel
theorem dX6_readChair_39 : decode cX6_readChair 39 = .ok (.aload_n 0, 1) := by decide +kernel
theorem dX6_readChair_40 : decode cX6_readChair 40 = .ok (.bipush 111, 2) := by decide +kernel
theorem dX6_readChair_42 : decode cX6_readChair 42 = .ok (.invokevirtual 108, 3) := by decide +kernel
theorem dX6_readChair_45 : decode cX6_readChair 45 = .ok (.ifCond .eq 7, 3) := by decide +kernel
theorem dX6_readChair_48 : decode cX6_readChair 48 = .ok (.iconst 4, 1) := by decide +kernel
theorem dX6_readChair_49 : decode cX6_readChair 49 = .ok (.goto 17, 3) := by decide +kernel
theorem dX6_readChair_52 : decode cX6_readChair 52 = .ok (.aload_n 0, 1) := by decide +kernel
theorem dX6_readChair_53 : decode cX6_readChair 53 = .ok (.bipush 116, 2) := by decide +kernel
theorem dX6_readChair_55 : decode cX6_readChair 55 = .ok (.invokevirtual 108, 3) := by decide +kernel
theorem dX6_readChair_58 : decode cX6_readChair 58 = .ok (.ifCond .eq 7, 3) := by decide +kernel
theorem dX6_readChair_61 : decode cX6_readChair 61 = .ok (.iconst 5, 1) := by decide +kernel
theorem dX6_readChair_62 : decode cX6_readChair 62 = .ok (.goto 4, 3) := by decide +kernel
theorem dX6_readChair_65 : decode cX6_readChair 65 = .ok (.iconst 0, 1) := by decide +kernel
theorem dX6_readChair_66 : decode cX6_readChair 66 = .ok (.istore_n 1, 1) := by decide +kernel
theorem dX6_readChair_67 : decode cX6_readChair 67 = .ok (.aload_n 0, 1) := by decide +kernel
theorem dX6_readChair_68 : decode cX6_readChair 68 = .ok (.getfield 28, 3) := by decide +kernel
theorem dX6_readChair_71 : decode cX6_readChair 71 = .ok (.iconst 2, 1) := by decide +kernel
theorem dX6_readChair_72 : decode cX6_readChair 72 = .ok (.iaload, 1) := by decide +kernel
theorem dX6_readChair_73 : decode cX6_readChair 73 = .ok (.istore_n 2, 1) := by decide +kernel
theorem dX6_readChair_74 : decode cX6_readChair 74 = .ok (.iload_n 1, 1) := by decide +kernel
theorem dX6_readChair_75 : decode cX6_readChair 75 = .ok (.ifCond .eq 9, 3) := by decide +kernel
theorem dX6_readChair_78 : decode cX6_readChair 78 = .ok (.iload_n 2, 1) := by decide +kernel
theorem dX6_readChair_79 : decode cX6_readChair 79 = .ok (.bipush 6, 2) := by decide +kernel
theorem dX6_readChair_81 : decode cX6_readChair 81 = .ok (.if_icmp .ne 17, 3) := by decide +kernel
theorem dX6_readChair_84 : decode cX6_readChair 84 = .ok (.aload_n 0, 1) := by decide +kernel
theorem dX6_readChair_85 : decode cX6_readChair 85 = .ok (.iload_n 1, 1) := by decide +kernel
theorem dX6_readChair_86 : decode cX6_readChair 86 = .ok (.ifCond .ne 7, 3) := by decide +kernel
theorem dX6_readChair_89 : decode cX6_readChair 89 = .ok (.iconst 1, 1) := by decide +kernel
theorem dX6_readChair_90 : decode cX6_readChair 90 = .ok (.goto 4, 3) := by decide +kernel
theorem dX6_readChair_93 : decode cX6_readChair 93 = .ok (.iconst 3, 1) := by decide +kernel
theorem dX6_readChair_94 : decode cX6_readChair 94 = .ok (.invokevirtual 111, 3) := by decide +kernel
theorem dX6_readChair_97 : decode cX6_readChair 97 = .ok (.ireturn, 1) := by decide +kernel
theorem dX6_readChair_98 : decode cX6_readChair 98 = .ok (.aload_n 0, 1) := by decide +kernel
theorem dX6_readChair_99 : decode cX6_readChair 99 = .ok (.invokevirtual 114, 3) := by decide +kernel
theorem dX6_readChair_102 : decode cX6_readChair 102 = .ok (.aload_n 0, 1) := by decide +kernel
theorem dX6_readChair_103 : decode cX6_readChair 103 = .ok (.getfield 28, 3) := by decide +kernel
theorem dX6_readChair_106 : decode cX6_readChair 106 = .ok (.iconst 5, 1) := by decide +kernel
theorem dX6_readChair_107 : decode cX6_readChair 107 = .ok (.iload_n 2, 1) := by decide +kernel
theorem dX6_readChair_108 : decode cX6_readChair 108 = .ok (.iadd, 1) := by decide +kernel
theorem dX6_readChair_109 : decode cX6_readChair 109 = .ok (.iload_n 1, 1) := by decide +kernel
theorem dX6_readChair_110 : decode cX6_readChair 110 = .ok (.iastore, 1) := by decide +kernel
theorem dX6_readChair_111 : decode cX6_readChair 111 = .ok (.aload_n 0, 1) := by decide +kernel
theorem dX6_readChair_112 : decode cX6_readChair 112 = .ok (.getfield 28, 3) := by decide +kernel
theorem dX6_readChair_115 : decode cX6_readChair 115 = .ok (.iconst 2, 1) := by decide +kernel
theorem dX6_readChair_116 : decode cX6_readChair 116 = .ok (.dup2, 1) := by decide +kernel
theorem dX6_readChair_117 : decode cX6_readChair 117 = .ok (.iaload, 1) := by decide +kernel
theorem dX6_readChair_118 : decode cX6_readChair 118 = .ok (.iconst 1, 1) := by decide +kernel
theorem dX6_readChair_119 : decode cX6_readChair 119 = .ok (.iadd, 1) := by decide +kernel
theorem dX6_readChair_120 : decode cX6_readChair 120 = .ok (.iastore, 1) := by decide +kernel
theorem dX6_readChair_121 : decode cX6_readChair 121 = .ok (.aload_n 0, 1) := by decide +kernel
theorem dX6_readChair_122 : decode cX6_readChair 122 = .ok (.iconst 0, 1) := by decide +kernel
theorem dX6_readChair_123 : decode cX6_readChair 123 = .ok (.bipush 60, 2) := by decide +kernel
theorem dX6_readChair_125 : decode cX6_readChair 125 = .ok (.bipush 11, 2) := by decide +kernel
theorem dX6_readChair_127 : decode cX6_readChair 127 = .ok (.iload_n 2, 1) := by decide +kernel
theorem dX6_readChair_128 : decode cX6_readChair 128 = .ok (.iadd, 1) := by decide +kernel
theorem dX6_readChair_129 : decode cX6_readChair 129 = .ok (.bipush 44, 2) := by decide +kernel
theorem dX6_readChair_131 : decode cX6_readChair 131 = .ok (.invokevirtual 120, 3) := by decide +kernel
theorem dX6_readChair_134 : decode cX6_readChair 134 = .ok (.ifCond .eq 38, 3) := by decide +kernel
theorem dX6_readChair_137 : decode cX6_readChair 137 = .ok (.aload_n 0, 1) := by decide +kernel
theorem dX6_readChair_138 : decode cX6_readChair 138 = .ok (.iconst 0, 1) := by decide +kernel
theorem dX6_readChair_139 : decode cX6_readChair 139 = .ok (.bipush 9, 2) := by decide +kernel
theorem dX6_readChair_141 : decode cX6_readChair 141 = .ok (.bipush 17, 2) := by decide +kernel
theorem dX6_readChair_143 : decode cX6_readChair 143 = .ok (.iload_n 2, 1) := by decide +kernel
theorem dX6_readChair_144 : decode cX6_readChair 144 = .ok (.iadd, 1) := by decide +kernel
theorem dX6_readChair_145 : decode cX6_readChair 145 = .ok (.bipush 44, 2) := by decide +kernel
theorem dX6_readChair_147 : decode cX6_readChair 147 = .ok (.invokevirtual 120, 3) := by decide +kernel
theorem dX6_readChair_150 : decode cX6_readChair 150 = .ok (.ifCond .eq 22, 3) := by decide +kernel
theorem dX6_readChair_153 : decode cX6_readChair 153 = .ok (.aload_n 0, 1) := by decide +kernel
theorem dX6_readChair_154 : decode cX6_readChair 154 = .ok (.iconst 0, 1) := by decide +kernel
theorem dX6_readChair_155 : decode cX6_readChair 155 = .ok (.iconst 3, 1) := by decide +kernel
theorem dX6_readChair_156 : decode cX6_readChair 156 = .ok (.bipush 23, 2) := by decide +kernel
theorem dX6_readChair_158 : decode cX6_readChair 158 = .ok (.iload_n 2, 1) := by decide +kernel
theorem dX6_readChair_159 : decode cX6_readChair 159 = .ok (.iadd, 1) := by decide +kernel
theorem dX6_readChair_160 : decode cX6_readChair 160 = .ok (.bipush 59, 2) := by decide +kernel
theorem dX6_readChair_162 : decode cX6_readChair 162 = .ok (.invokevirtual 120, 3) := by decide +kernel
theorem dX6_readChair_165 : decode cX6_readChair 165 = .ok (.ifCond .eq 7, 3) := by decide +kernel
theorem dX6_readChair_168 : decode cX6_readChair 168 = .ok (.iconst 1, 1) := by decide +kernel
theorem dX6_readChair_169 : decode cX6_readChair 169 = .ok (.goto 4, 3) := by decide +kernel
theorem dX6_readChair_172 : decode cX6_readChair 172 = .ok (.iconst 0, 1) := by decide +kernel
theorem dX6_readChair_173 : decode cX6_readChair 173 = .ok (.ireturn, 1) := by decide +kernel
theorem dX6_readMinistry_0 : decode cX6_readMinistry 0 = .ok (.aload_n 0, 1) := by decide +kernel
theorem dX6_readMinistry_1 : decode cX6_readMinistry 1 = .ok (.iconst 0, 1) := by decide +kernel
theorem dX6_readMinistry_2 : decode cX6_readMinistry 2 = .ok (.putfield 85, 3) := by decide +kernel
theorem dX6_readMinistry_5 : decode cX6_readMinistry 5 = .ok (.iconst 0, 1) := by decide +kernel
theorem dX6_readMinistry_6 : decode cX6_readMinistry 6 = .ok (.istore_n 1, 1) := by decide +kernel
theorem dX6_readMinistry_7 : decode cX6_readMinistry 7 = .ok (.iload_n 1, 1) := by decide +kernel
theorem dX6_readMinistry_8 : decode cX6_readMinistry 8 = .ok (.bipush 41, 2) := by decide +kernel
theorem dX6_readMinistry_10 : decode cX6_readMinistry 10 = .ok (.if_icmp .ge 16, 3) := by decide +kernel
theorem dX6_readMinistry_13 : decode cX6_readMinistry 13 = .ok (.aload_n 0, 1) := by decide +kernel
theorem dX6_readMinistry_14 : decode cX6_readMinistry 14 = .ok (.getfield 28, 3) := by decide +kernel
theorem dX6_readMinistry_17 : decode cX6_readMinistry 17 = .ok (.iload_n 1, 1) := by decide +kernel
theorem dX6_readMinistry_18 : decode cX6_readMinistry 18 = .ok (.iconst 0, 1) := by decide +kernel
theorem dX6_readMinistry_19 : decode cX6_readMinistry 19 = .ok (.iastore, 1) := by decide +kernel
theorem dX6_readMinistry_20 : decode cX6_readMinistry 20 = .ok (.iinc 1 1, 3) := by decide +kernel
theorem dX6_readMinistry_23 : decode cX6_readMinistry 23 = .ok (.goto (-16), 3) := by decide +kernel
theorem dX6_readMinistry_26 : decode cX6_readMinistry 26 = .ok (.aload_n 0, 1) := by decide +kernel
theorem dX6_readMinistry_27 : decode cX6_readMinistry 27 = .ok (.invokevirtual 114, 3) := by decide +kernel
theorem dX6_readMinistry_30 : decode cX6_readMinistry 30 = .ok (.aload_n 0, 1) := by decide +kernel
theorem dX6_readMinistry_31 : decode cX6_readMinistry 31 = .ok (.bipush 109, 2) := by decide +kernel
theorem dX6_readMinistry_33 : decode cX6_readMinistry 33 = .ok (.invokevirtual 117, 3) := by decide +kernel
theorem dX6_readMinistry_36 : decode cX6_readMinistry 36 = .ok (.ifCond .eq 28, 3) := by decide +kernel
theorem dX6_readMinistry_39 : decode cX6_readMinistry 39 = .ok (.aload_n 0, 1) := by decide +kernel
theorem dX6_readMinistry_40 : decode cX6_readMinistry 40 = .ok (.iconst 0, 1) := by decide +kernel
theorem dX6_readMinistry_41 : decode cX6_readMinistry 41 = .ok (.iconst 5, 1) := by decide +kernel
theorem dX6_readMinistry_42 : decode cX6_readMinistry 42 = .ok (.iconst 0, 1) := by decide +kernel
theorem dX6_readMinistry_43 : decode cX6_readMinistry 43 = .ok (.bipush 44, 2) := by decide +kernel
theorem dX6_readMinistry_45 : decode cX6_readMinistry 45 = .ok (.invokevirtual 120, 3) := by decide +kernel
theorem dX6_readMinistry_48 : decode cX6_readMinistry 48 = .ok (.ifCond .eq 16, 3) := by decide +kernel
theorem dX6_readMinistry_51 : decode cX6_readMinistry 51 = .ok (.aload_n 0, 1) := by decide +kernel
theorem dX6_readMinistry_52 : decode cX6_readMinistry 52 = .ok (.iconst 1, 1) := by decide +kernel
theorem dX6_readMinistry_53 : decode cX6_readMinistry 53 = .ok (.bipush 9, 2) := by decide +kernel
theorem dX6_readMinistry_55 : decode cX6_readMinistry 55 = .ok (.iconst 1, 1) := by decide +kernel
theorem dX6_readMinistry_56 : decode cX6_readMinistry 56 = .ok (.bipush 59, 2) := by decide +kernel
theorem dX6_readMinistry_58 : decode cX6_readMinistry 58 = .ok (.invokevirtual 120, 3) := by decide +kernel
theorem dX6_readMinistry_61 : decode cX6_readMinistry 61 = .ok (.ifCond .ne 5, 3) := by decide +kernel
theorem dX6_readMinistry_64 : decode cX6_readMinistry 64 = .ok (.iconst 0, 1) := by decide +kernel
theorem dX6_readMinistry_65 : decode cX6_readMinistry 65 = .ok (.ireturn, 1) := by decide +kernel
theorem dX6_readMinistry_66 : decode cX6_readMinistry 66 = .ok (.iconst 1, 1) := by decide +kernel
theorem dX6_readMinistry_67 : decode cX6_readMinistry 67 = .ok (.istore_n 1, 1) := by decide +kernel
theorem dX6_readMinistry_68 : decode cX6_readMinistry 68 = .ok (.iload_n 1, 1) := by decide +kernel
theorem dX6_readMinistry_69 : decode cX6_readMinistry 69 = .ok (.ifCond .eq 28, 3) := by decide +kernel
theorem dX6_readMinistry_72 : decode cX6_readMinistry 72 = .ok (.aload_n 0, 1) := by decide +kernel
theorem dX6_readMinistry_73 : decode cX6_readMinistry 73 = .ok (.getfield 91, 3) := by decide +kernel
theorem dX6_readMinistry_76 : decode cX6_readMinistry 76 = .ok (.iconst 3, 1) := by decide +kernel
theorem dX6_readMinistry_77 : decode cX6_readMinistry 77 = .ok (.if_icmp .ne 12, 3) := by decide +kernel
theorem dX6_readMinistry_80 : decode cX6_readMinistry 80 = .ok (.aload_n 0, 1) := by decide +kernel
theorem dX6_readMinistry_81 : decode cX6_readMinistry 81 = .ok (.getfield 28, 3) := by decide +kernel
theorem dX6_readMinistry_84 : decode cX6_readMinistry 84 = .ok (.iconst 2, 1) := by decide +kernel
theorem dX6_readMinistry_85 : decode cX6_readMinistry 85 = .ok (.iaload, 1) := by decide +kernel
theorem dX6_readMinistry_86 : decode cX6_readMinistry 86 = .ok (.ifCond .ne 11, 3) := by decide +kernel
theorem dX6_readMinistry_89 : decode cX6_readMinistry 89 = .ok (.aload_n 0, 1) := by decide +kernel
theorem dX6_readMinistry_90 : decode cX6_readMinistry 90 = .ok (.invokevirtual 124, 3) := by decide +kernel
theorem dX6_readMinistry_93 : decode cX6_readMinistry 93 = .ok (.istore_n 1, 1) := by decide +kernel
theorem dX6_readMinistry_94 : decode cX6_readMinistry 94 = .ok (.goto (-26), 3) := by decide +kernel
theorem dX6_readMinistry_97 : decode cX6_readMinistry 97 = .ok (.iload_n 1, 1) := by decide +kernel
theorem dX6_readMinistry_98 : decode cX6_readMinistry 98 = .ok (.ireturn, 1) := by decide +kernel
theorem dX6_ministry_0 : decode cX6_ministry 0 = .ok (.aload_n 0, 1) := by decide +kernel
theorem dX6_ministry_1 : decode cX6_ministry 1 = .ok (.invokevirtual 128, 3) := by decide +kernel
theorem dX6_ministry_4 : decode cX6_ministry 4 = .ok (.istore_n 1, 1) := by decide +kernel
theorem dX6_ministry_5 : decode cX6_ministry 5 = .ok (.aload_n 0, 1) := by decide +kernel
theorem dX6_ministry_6 : decode cX6_ministry 6 = .ok (.iconst 0, 1) := by decide +kernel
theorem dX6_ministry_7 : decode cX6_ministry 7 = .ok (.putfield 81, 3) := by decide +kernel
theorem dX6_ministry_10 : decode cX6_ministry 10 = .ok (.iload_n 1, 1) := by decide +kernel
theorem dX6_ministry_11 : decode cX6_ministry 11 = .ok (.ifCond .ne 19, 3) := by decide +kernel
theorem dX6_ministry_14 : decode cX6_ministry 14 = .ok (.aload_n 0, 1) := by decide +kernel
theorem dX6_ministry_15 : decode cX6_ministry 15 = .ok (.aload_n 0, 1) := by decide +kernel
theorem dX6_ministry_16 : decode cX6_ministry 16 = .ok (.getfield 105, 3) := by decide +kernel
theorem dX6_ministry_19 : decode cX6_ministry 19 = .ok (.putfield 131, 3) := by decide +kernel
theorem dX6_ministry_22 : decode cX6_ministry 22 = .ok (.ldc 134, 2) := by decide +kernel
theorem dX6_ministry_24 : decode cX6_ministry 24 = .ok (.aload_n 0, 1) := by decide +kernel
theorem dX6_ministry_25 : decode cX6_ministry 25 = .ok (.getfield 88, 3) := by decide +kernel
theorem dX6_ministry_28 : decode cX6_ministry 28 = .ok (.isub, 1) := by decide +kernel
theorem dX6_ministry_29 : decode cX6_ministry 29 = .ok (.ireturn, 1) := by decide +kernel
theorem dX6_ministry_30 : decode cX6_ministry 30 = .ok (.iconst 0, 1) := by decide +kernel
theorem dX6_ministry_31 : decode cX6_ministry 31 = .ok (.istore_n 2, 1) := by decide +kernel
theorem dX6_ministry_32 : decode cX6_ministry 32 = .ok (.iload_n 2, 1) := by decide +kernel
theorem dX6_ministry_33 : decode cX6_ministry 33 = .ok (.bipush 41, 2) := by decide +kernel
theorem dX6_ministry_35 : decode cX6_ministry 35 = .ok (.if_icmp .ge 21, 3) := by decide +kernel
theorem dX6_ministry_38 : decode cX6_ministry 38 = .ok (.aload_n 0, 1) := by decide +kernel
theorem dX6_ministry_39 : decode cX6_ministry 39 = .ok (.getfield 19, 3) := by decide +kernel
theorem dX6_ministry_42 : decode cX6_ministry 42 = .ok (.iload_n 2, 1) := by decide +kernel
theorem dX6_ministry_43 : decode cX6_ministry 43 = .ok (.aload_n 0, 1) := by decide +kernel
theorem dX6_ministry_44 : decode cX6_ministry 44 = .ok (.getfield 28, 3) := by decide +kernel
theorem dX6_ministry_47 : decode cX6_ministry 47 = .ok (.iload_n 2, 1) := by decide +kernel
theorem dX6_ministry_48 : decode cX6_ministry 48 = .ok (.iaload, 1) := by decide +kernel
theorem dX6_ministry_49 : decode cX6_ministry 49 = .ok (.iastore, 1) := by decide +kernel
theorem dX6_ministry_50 : decode cX6_ministry 50 = .ok (.iinc 2 1, 3) := by decide +kernel
theorem dX6_ministry_53 : decode cX6_ministry 53 = .ok (.goto (-21), 3) := by decide +kernel
theorem dX6_ministry_56 : decode cX6_ministry 56 = .ok (.aload_n 0, 1) := by decide +kernel
theorem dX6_ministry_57 : decode cX6_ministry 57 = .ok (.iconst 1, 1) := by decide +kernel
theorem dX6_ministry_58 : decode cX6_ministry 58 = .ok (.putfield 135, 3) := by decide +kernel
theorem dX6_ministry_61 : decode cX6_ministry 61 = .ok (.aload_n 0, 1) := by decide +kernel
theorem dX6_ministry_62 : decode cX6_ministry 62 = .ok (.iconst 0, 1) := by decide +kernel
theorem dX6_ministry_63 : decode cX6_ministry 63 = .ok (.putfield 139, 3) := by decide +kernel
theorem dX6_ministry_66 : decode cX6_ministry 66 = .ok (.aload_n 0, 1) := by decide +kernel
theorem dX6_ministry_67 : decode cX6_ministry 67 = .ok (.getfield 19, 3) := by decide +kernel
theorem dX6_ministry_70 : decode cX6_ministry 70 = .ok (.iconst 2, 1) := by decide +kernel
theorem dX6_ministry_71 : decode cX6_ministry 71 = .ok (.iaload, 1) := by decide +kernel
theorem dX6_ministry_72 : decode cX6_ministry 72 = .ok (.ireturn, 1) := by decide +kernel
theorem dX6_fault_0 : decode cX6_fault 0 = .ok (.aload_n 0, 1) := by decide +kernel
theorem dX6_fault_1 : decode cX6_fault 1 = .ok (.getfield 131, 3) := by decide +kernel
theorem dX6_fault_4 : decode cX6_fault 4 = .ok (.ireturn, 1) := by decide +kernel
theorem dX6_isChair_0 : decode cX6_isChair 0 = .ok (.iload_n 1, 1) := by decide +kernel
theorem dX6_isChair_1 : decode cX6_isChair 1 = .ok (.i2l, 1) := by decide +kernel
theorem dX6_isChair_2 : decode cX6_isChair 2 = .ok (.lconst 0, 1) := by decide +kernel
theorem dX6_isChair_3 : decode cX6_isChair 3 = .ok (.aload_n 0, 1) := by decide +kernel
theorem dX6_isChair_4 : decode cX6_isChair 4 = .ok (.getfield 19, 3) := by decide +kernel
theorem dX6_isChair_7 : decode cX6_isChair 7 = .ok (.iconst 2, 1) := by decide +kernel
theorem dX6_isChair_8 : decode cX6_isChair 8 = .ok (.iaload, 1) := by decide +kernel
theorem dX6_isChair_9 : decode cX6_isChair 9 = .ok (.iconst 1, 1) := by decide +kernel
theorem dX6_isChair_10 : decode cX6_isChair 10 = .ok (.isub, 1) := by decide +kernel
theorem dX6_isChair_11 : decode cX6_isChair 11 = .ok (.i2l, 1) := by decide +kernel
theorem dX6_isChair_12 : decode cX6_isChair 12 = .ok (.invokestatic 57, 3) := by decide +kernel
theorem dX6_isChair_15 : decode cX6_isChair 15 = .ok (.ireturn, 1) := by decide +kernel
theorem dX6_highBy_0 : decode cX6_highBy 0 = .ok (.iload_n 0, 1) := by decide +kernel
theorem dX6_highBy_1 : decode cX6_highBy 1 = .ok (.tableswitch 59 2 5 #[31, 39, 45, 47], 31) := by decide +kernel
theorem dX6_highBy_32 : decode cX6_highBy 32 = .ok (.iload_n 1, 1) := by decide +kernel
theorem dX6_highBy_33 : decode cX6_highBy 33 = .ok (.iload_n 2, 1) := by decide +kernel
theorem dX6_highBy_34 : decode cX6_highBy 34 = .ok (.iadd, 1) := by decide +kernel
theorem dX6_highBy_35 : decode cX6_highBy 35 = .ok (.iconst 2, 1) := by decide +kernel
theorem dX6_highBy_36 : decode cX6_highBy 36 = .ok (.idiv, 1) := by decide +kernel
theorem dX6_highBy_37 : decode cX6_highBy 37 = .ok (.iconst 2, 1) := by decide +kernel
theorem dX6_highBy_38 : decode cX6_highBy 38 = .ok (.imul, 1) := by decide +kernel
theorem dX6_highBy_39 : decode cX6_highBy 39 = .ok (.ireturn, 1) := by decide +kernel
theorem dX6_highBy_40 : decode cX6_highBy 40 = .ok (.iload_n 1, 1) := by decide +kernel
theorem dX6_highBy_41 : decode cX6_highBy 41 = .ok (.iconst 2, 1) := by decide +kernel
theorem dX6_highBy_42 : decode cX6_highBy 42 = .ok (.iload_n 2, 1) := by decide +kernel
theorem dX6_highBy_43 : decode cX6_highBy 43 = .ok (.imul, 1) := by decide +kernel
theorem dX6_highBy_44 : decode cX6_highBy 44 = .ok (.iadd, 1) := by decide +kernel
theorem dX6_highBy_45 : decode cX6_highBy 45 = .ok (.ireturn, 1) := by decide +kernel
theorem dX6_highBy_46 : decode cX6_highBy 46 = .ok (.iload_n 1, 1) := by decide +kernel
theorem dX6_highBy_47 : decode cX6_highBy 47 = .ok (.ireturn, 1) := by decide +kernel
theorem dX6_highBy_48 : decode cX6_highBy 48 = .ok (.iload_n 1, 1) := by decide +kernel
theorem dX6_highBy_49 : decode cX6_highBy 49 = .ok (.ifCond .le 9, 3) := by decide +kernel
theorem dX6_highBy_52 : decode cX6_highBy 52 = .ok (.iload_n 1, 1) := by decide +kernel
theorem dX6_highBy_53 : decode cX6_highBy 53 = .ok (.iconst 5, 1) := by decide +kernel
theorem dX6_highBy_54 : decode cX6_highBy 54 = .ok (.iadd, 1) := by decide +kernel
theorem dX6_highBy_55 : decode cX6_highBy 55 = .ok (.goto 4, 3) := by decide +kernel
theorem dX6_highBy_58 : decode cX6_highBy 58 = .ok (.iconst 0, 1) := by decide +kernel
theorem dX6_highBy_59 : decode cX6_highBy 59 = .ok (.ireturn, 1) := by decide +kernel
theorem dX6_highBy_60 : decode cX6_highBy 60 = .ok (.iload_n 1, 1) := by decide +kernel
theorem dX6_highBy_61 : decode cX6_highBy 61 = .ok (.iload_n 2, 1) := by decide +kernel
theorem dX6_highBy_62 : decode cX6_highBy 62 = .ok (.iadd, 1) := by decide +kernel
theorem dX6_highBy_63 : decode cX6_highBy 63 = .ok (.ireturn, 1) := by decide +kernel
theorem dX6_highOf_0 : decode cX6_highOf 0 = .ok (.aload_n 0, 1) := by decide +kernel
theorem dX6_highOf_1 : decode cX6_highOf 1 = .ok (.getfield 19, 3) := by decide +kernel
theorem dX6_highOf_4 : decode cX6_highOf 4 = .ok (.iconst 5, 1) := by decide +kernel
theorem dX6_highOf_5 : decode cX6_highOf 5 = .ok (.iload_n 1, 1) := by decide +kernel
theorem dX6_highOf_6 : decode cX6_highOf 6 = .ok (.iadd, 1) := by decide +kernel
theorem dX6_highOf_7 : decode cX6_highOf 7 = .ok (.iaload, 1) := by decide +kernel
theorem dX6_highOf_8 : decode cX6_highOf 8 = .ok (.aload_n 0, 1) := by decide +kernel
theorem dX6_highOf_9 : decode cX6_highOf 9 = .ok (.getfield 19, 3) := by decide +kernel
theorem dX6_highOf_12 : decode cX6_highOf 12 = .ok (.bipush 11, 2) := by decide +kernel
theorem dX6_highOf_14 : decode cX6_highOf 14 = .ok (.iload_n 1, 1) := by decide +kernel
theorem dX6_highOf_15 : decode cX6_highOf 15 = .ok (.iadd, 1) := by decide +kernel
theorem dX6_highOf_16 : decode cX6_highOf 16 = .ok (.iaload, 1) := by decide +kernel
theorem dX6_highOf_17 : decode cX6_highOf 17 = .ok (.aload_n 0, 1) := by decide +kernel
theorem dX6_highOf_18 : decode cX6_highOf 18 = .ok (.getfield 19, 3) := by decide +kernel
theorem dX6_highOf_21 : decode cX6_highOf 21 = .ok (.bipush 29, 2) := by decide +kernel
theorem dX6_highOf_23 : decode cX6_highOf 23 = .ok (.iload_n 1, 1) := by decide +kernel
theorem dX6_highOf_24 : decode cX6_highOf 24 = .ok (.iadd, 1) := by decide +kernel
theorem dX6_highOf_25 : decode cX6_highOf 25 = .ok (.iaload, 1) := by decide +kernel
theorem dX6_highOf_26 : decode cX6_highOf 26 = .ok (.invokestatic 142, 3) := by decide +kernel
theorem dX6_highOf_29 : decode cX6_highOf 29 = .ok (.ireturn, 1) := by decide +kernel
theorem dX6_rankOf_0 : decode cX6_rankOf 0 = .ok (.iconst 0, 1) := by decide +kernel
theorem dX6_rankOf_1 : decode cX6_rankOf 1 = .ok (.istore_n 2, 1) := by decide +kernel
theorem dX6_rankOf_2 : decode cX6_rankOf 2 = .ok (.iconst 0, 1) := by decide +kernel
theorem dX6_rankOf_3 : decode cX6_rankOf 3 = .ok (.istore_n 3, 1) := by decide +kernel
theorem dX6_rankOf_4 : decode cX6_rankOf 4 = .ok (.iload_n 3, 1) := by decide +kernel
theorem dX6_rankOf_5 : decode cX6_rankOf 5 = .ok (.aload_n 0, 1) := by decide +kernel
theorem dX6_rankOf_6 : decode cX6_rankOf 6 = .ok (.getfield 19, 3) := by decide +kernel
theorem dX6_rankOf_9 : decode cX6_rankOf 9 = .ok (.iconst 2, 1) := by decide +kernel
theorem dX6_rankOf_10 : decode cX6_rankOf 10 = .ok (.iaload, 1) := by decide +kernel
theorem dX6_rankOf_11 : decode cX6_rankOf 11 = .ok (.if_icmp .ge 48, 3) := by decide +kernel
theorem dX6_rankOf_14 : decode cX6_rankOf 14 = .ok (.iload_n 2, 1) := by decide +kernel
theorem dX6_rankOf_15 : decode cX6_rankOf 15 = .ok (.aload_n 0, 1) := by decide +kernel
theorem dX6_rankOf_16 : decode cX6_rankOf 16 = .ok (.iload_n 3, 1) := by decide +kernel
theorem dX6_rankOf_17 : decode cX6_rankOf 17 = .ok (.invokevirtual 146, 3) := by decide +kernel
theorem dX6_rankOf_20 : decode cX6_rankOf 20 = .ok (.aload_n 0, 1) := by decide +kernel
theorem dX6_rankOf_21 : decode cX6_rankOf 21 = .ok (.iload_n 1, 1) := by decide +kernel
theorem dX6_rankOf_22 : decode cX6_rankOf 22 = .ok (.invokevirtual 146, 3) := by decide +kernel
theorem dX6_rankOf_25 : decode cX6_rankOf 25 = .ok (.if_icmp .gt 21, 3) := by decide +kernel
theorem dX6_rankOf_28 : decode cX6_rankOf 28 = .ok (.aload_n 0, 1) := by decide +kernel
theorem dX6_rankOf_29 : decode cX6_rankOf 29 = .ok (.iload_n 3, 1) := by decide +kernel
theorem dX6_rankOf_30 : decode cX6_rankOf 30 = .ok (.invokevirtual 146, 3) := by decide +kernel
theorem dX6_rankOf_33 : decode cX6_rankOf 33 = .ok (.aload_n 0, 1) := by decide +kernel
theorem dX6_rankOf_34 : decode cX6_rankOf 34 = .ok (.iload_n 1, 1) := by decide +kernel
theorem dX6_rankOf_35 : decode cX6_rankOf 35 = .ok (.invokevirtual 146, 3) := by decide +kernel
theorem dX6_rankOf_38 : decode cX6_rankOf 38 = .ok (.if_icmp .ne 12, 3) := by decide +kernel
theorem dX6_rankOf_41 : decode cX6_rankOf 41 = .ok (.iload_n 3, 1) := by decide +kernel
theorem dX6_rankOf_42 : decode cX6_rankOf 42 = .ok (.iload_n 1, 1) := by decide +kernel
theorem dX6_rankOf_43 : decode cX6_rankOf 43 = .ok (.if_icmp .ge 7, 3) := by decide +kernel
theorem dX6_rankOf_46 : decode cX6_rankOf 46 = .ok (.iconst 1, 1) := by decide +kernel
theorem dX6_rankOf_47 : decode cX6_rankOf 47 = .ok (.goto 4, 3) := by decide +kernel
theorem dX6_rankOf_50 : decode cX6_rankOf 50 = .ok (.iconst 0, 1) := by decide +kernel
theorem dX6_rankOf_51 : decode cX6_rankOf 51 = .ok (.iadd, 1) := by decide +kernel
theorem dX6_rankOf_52 : decode cX6_rankOf 52 = .ok (.istore_n 2, 1) := by decide +kernel
theorem dX6_rankOf_53 : decode cX6_rankOf 53 = .ok (.iinc 3 1, 3) := by decide +kernel
theorem dX6_rankOf_56 : decode cX6_rankOf 56 = .ok (.goto (-52), 3) := by decide +kernel
theorem dX6_rankOf_59 : decode cX6_rankOf 59 = .ok (.iload_n 2, 1) := by decide +kernel
theorem dX6_rankOf_60 : decode cX6_rankOf 60 = .ok (.ireturn, 1) := by decide +kernel
theorem dX6_atRank_0 : decode cX6_atRank 0 = .ok (.ldc 149, 2) := by decide +kernel
theorem dX6_atRank_2 : decode cX6_atRank 2 = .ok (.istore_n 2, 1) := by decide +kernel
theorem dX6_atRank_3 : decode cX6_atRank 3 = .ok (.iconst 0, 1) := by decide +kernel
theorem dX6_atRank_4 : decode cX6_atRank 4 = .ok (.istore_n 3, 1) := by decide +kernel
theorem dX6_atRank_5 : decode cX6_atRank 5 = .ok (.iload_n 3, 1) := by decide +kernel
theorem dX6_atRank_6 : decode cX6_atRank 6 = .ok (.aload_n 0, 1) := by decide +kernel
theorem dX6_atRank_7 : decode cX6_atRank 7 = .ok (.getfield 19, 3) := by decide +kernel
theorem dX6_atRank_10 : decode cX6_atRank 10 = .ok (.iconst 2, 1) := by decide +kernel
theorem dX6_atRank_11 : decode cX6_atRank 11 = .ok (.iaload, 1) := by decide +kernel
theorem dX6_atRank_12 : decode cX6_atRank 12 = .ok (.if_icmp .ge 24, 3) := by decide +kernel
theorem dX6_atRank_15 : decode cX6_atRank 15 = .ok (.aload_n 0, 1) := by decide +kernel
theorem dX6_atRank_16 : decode cX6_atRank 16 = .ok (.iload_n 3, 1) := by decide +kernel
theorem dX6_atRank_17 : decode cX6_atRank 17 = .ok (.invokevirtual 150, 3) := by decide +kernel
theorem dX6_atRank_20 : decode cX6_atRank 20 = .ok (.iload_n 1, 1) := by decide +kernel
theorem dX6_atRank_21 : decode cX6_atRank 21 = .ok (.if_icmp .ne 7, 3) := by decide +kernel
theorem dX6_atRank_24 : decode cX6_atRank 24 = .ok (.iload_n 3, 1) := by decide +kernel
theorem dX6_atRank_25 : decode cX6_atRank 25 = .ok (.goto 4, 3) := by decide +kernel
theorem dX6_atRank_28 : decode cX6_atRank 28 = .ok (.iload_n 2, 1) := by decide +kernel
theorem dX6_atRank_29 : decode cX6_atRank 29 = .ok (.istore_n 2, 1) := by decide +kernel
theorem dX6_atRank_30 : decode cX6_atRank 30 = .ok (.iinc 3 1, 3) := by decide +kernel
theorem dX6_atRank_33 : decode cX6_atRank 33 = .ok (.goto (-28), 3) := by decide +kernel
theorem dX6_atRank_36 : decode cX6_atRank 36 = .ok (.iload_n 2, 1) := by decide +kernel
theorem dX6_atRank_37 : decode cX6_atRank 37 = .ok (.ireturn, 1) := by decide +kernel
theorem dX6_targetOf_0 : decode cX6_targetOf 0 = .ok (.ldc 149, 2) := by decide +kernel
theorem dX6_targetOf_2 : decode cX6_targetOf 2 = .ok (.istore_n 2, 1) := by decide +kernel
theorem dX6_targetOf_3 : decode cX6_targetOf 3 = .ok (.aload_n 0, 1) := by decide +kernel
theorem dX6_targetOf_4 : decode cX6_targetOf 4 = .ok (.getfield 19, 3) := by decide +kernel
theorem dX6_targetOf_7 : decode cX6_targetOf 7 = .ok (.bipush 23, 2) := by decide +kernel
theorem dX6_targetOf_9 : decode cX6_targetOf 9 = .ok (.iload_n 1, 1) := by decide +kernel
theorem dX6_targetOf_10 : decode cX6_targetOf 10 = .ok (.iadd, 1) := by decide +kernel
theorem dX6_targetOf_11 : decode cX6_targetOf 11 = .ok (.iaload, 1) := by decide +kernel
theorem dX6_targetOf_12 : decode cX6_targetOf 12 = .ok (.tableswitch 66 1 3 #[28, 43, 52], 28) := by decide +kernel
theorem dX6_targetOf_40 : decode cX6_targetOf 40 = .ok (.aload_n 0, 1) := by decide +kernel
theorem dX6_targetOf_41 : decode cX6_targetOf 41 = .ok (.aload_n 0, 1) := by decide +kernel
theorem dX6_targetOf_42 : decode cX6_targetOf 42 = .ok (.iload_n 1, 1) := by decide +kernel
theorem dX6_targetOf_43 : decode cX6_targetOf 43 = .ok (.invokevirtual 150, 3) := by decide +kernel
theorem dX6_targetOf_46 : decode cX6_targetOf 46 = .ok (.iconst 1, 1) := by decide +kernel
theorem dX6_targetOf_47 : decode cX6_targetOf 47 = .ok (.isub, 1) := by decide +kernel
theorem dX6_targetOf_48 : decode cX6_targetOf 48 = .ok (.invokevirtual 153, 3) := by decide +kernel
theorem dX6_targetOf_51 : decode cX6_targetOf 51 = .ok (.istore_n 2, 1) := by decide +kernel
theorem dX6_targetOf_52 : decode cX6_targetOf 52 = .ok (.goto 26, 3) := by decide +kernel
theorem dX6_targetOf_55 : decode cX6_targetOf 55 = .ok (.aload_n 0, 1) := by decide +kernel
theorem dX6_targetOf_56 : decode cX6_targetOf 56 = .ok (.iconst 0, 1) := by decide +kernel
theorem dX6_targetOf_57 : decode cX6_targetOf 57 = .ok (.invokevirtual 153, 3) := by decide +kernel
theorem dX6_targetOf_60 : decode cX6_targetOf 60 = .ok (.istore_n 2, 1) := by decide +kernel
theorem dX6_targetOf_61 : decode cX6_targetOf 61 = .ok (.goto 17, 3) := by decide +kernel
theorem dX6_targetOf_64 : decode cX6_targetOf 64 = .ok (.iload_n 1, 1) := by decide +kernel
theorem dX6_targetOf_65 : decode cX6_targetOf 65 = .ok (.iconst 1, 1) := by decide +kernel
theorem dX6_targetOf_66 : decode cX6_targetOf 66 = .ok (.iadd, 1) := by decide +kernel
theorem dX6_targetOf_67 : decode cX6_targetOf 67 = .ok (.aload_n 0, 1) := by decide +kernel
theorem dX6_targetOf_68 : decode cX6_targetOf 68 = .ok (.getfield 19, 3) := by decide +kernel
theorem dX6_targetOf_71 : decode cX6_targetOf 71 = .ok (.iconst 2, 1) := by decide +kernel
theorem dX6_targetOf_72 : decode cX6_targetOf 72 = .ok (.iaload, 1) := by decide +kernel
theorem dX6_targetOf_73 : decode cX6_targetOf 73 = .ok (.irem, 1) := by decide +kernel
theorem dX6_targetOf_74 : decode cX6_targetOf 74 = .ok (.istore_n 2, 1) := by decide +kernel
theorem dX6_targetOf_75 : decode cX6_targetOf 75 = .ok (.goto 3, 3) := by decide +kernel
theorem dX6_targetOf_78 : decode cX6_targetOf 78 = .ok (.aload_n 0, 1) := by decide +kernel
theorem dX6_targetOf_79 : decode cX6_targetOf 79 = .ok (.getfield 19, 3) := by decide +kernel
theorem dX6_targetOf_82 : decode cX6_targetOf 82 = .ok (.bipush 17, 2) := by decide +kernel
theorem dX6_targetOf_84 : decode cX6_targetOf 84 = .ok (.iload_n 1, 1) := by decide +kernel
theorem dX6_targetOf_85 : decode cX6_targetOf 85 = .ok (.iadd, 1) := by decide +kernel
theorem dX6_targetOf_86 : decode cX6_targetOf 86 = .ok (.iaload, 1) := by decide +kernel
theorem dX6_targetOf_87 : decode cX6_targetOf 87 = .ok (.ifCond .eq 8, 3) := by decide +kernel
theorem dX6_targetOf_90 : decode cX6_targetOf 90 = .ok (.iload_n 2, 1) := by decide +kernel
theorem dX6_targetOf_91 : decode cX6_targetOf 91 = .ok (.iload_n 1, 1) := by decide +kernel
theorem dX6_targetOf_92 : decode cX6_targetOf 92 = .ok (.if_icmp .ne 8, 3) := by decide +kernel
theorem dX6_targetOf_95 : decode cX6_targetOf 95 = .ok (.ldc 149, 2) := by decide +kernel
theorem dX6_targetOf_97 : decode cX6_targetOf 97 = .ok (.goto 4, 3) := by decide +kernel
theorem dX6_targetOf_100 : decode cX6_targetOf 100 = .ok (.iload_n 2, 1) := by decide +kernel
theorem dX6_targetOf_101 : decode cX6_targetOf 101 = .ok (.ireturn, 1) := by decide +kernel
theorem dX6_sawnOff_0 : decode cX6_sawnOff 0 = .ok (.aload_n 0, 1) := by decide +kernel
theorem dX6_sawnOff_1 : decode cX6_sawnOff 1 = .ok (.getfield 19, 3) := by decide +kernel
theorem dX6_sawnOff_4 : decode cX6_sawnOff 4 = .ok (.iconst 5, 1) := by decide +kernel
theorem dX6_sawnOff_5 : decode cX6_sawnOff 5 = .ok (.iload_n 2, 1) := by decide +kernel
theorem dX6_sawnOff_6 : decode cX6_sawnOff 6 = .ok (.iadd, 1) := by decide +kernel
theorem dX6_sawnOff_7 : decode cX6_sawnOff 7 = .ok (.iaload, 1) := by decide +kernel
theorem dX6_sawnOff_8 : decode cX6_sawnOff 8 = .ok (.istore_n 3, 1) := by decide +kernel
theorem dX6_sawnOff_9 : decode cX6_sawnOff 9 = .ok (.iload_n 3, 1) := by decide +kernel
theorem dX6_sawnOff_10 : decode cX6_sawnOff 10 = .ok (.iconst 4, 1) := by decide +kernel
theorem dX6_sawnOff_11 : decode cX6_sawnOff 11 = .ok (.if_icmp .eq 8, 3) := by decide +kernel
theorem dX6_sawnOff_14 : decode cX6_sawnOff 14 = .ok (.iload_n 3, 1) := by decide +kernel
theorem dX6_sawnOff_15 : decode cX6_sawnOff 15 = .ok (.iconst 5, 1) := by decide +kernel
theorem dX6_sawnOff_16 : decode cX6_sawnOff 16 = .ok (.if_icmp .ne 17, 3) := by decide +kernel
theorem dX6_sawnOff_19 : decode cX6_sawnOff 19 = .ok (.aload_n 0, 1) := by decide +kernel
theorem dX6_sawnOff_20 : decode cX6_sawnOff 20 = .ok (.getfield 19, 3) := by decide +kernel
theorem dX6_sawnOff_23 : decode cX6_sawnOff 23 = .ok (.bipush 17, 2) := by decide +kernel
theorem dX6_sawnOff_25 : decode cX6_sawnOff 25 = .ok (.iload_n 1, 1) := by decide +kernel
theorem dX6_sawnOff_26 : decode cX6_sawnOff 26 = .ok (.iadd, 1) := by decide +kernel
theorem dX6_sawnOff_27 : decode cX6_sawnOff 27 = .ok (.iaload, 1) := by decide +kernel
theorem dX6_sawnOff_28 : decode cX6_sawnOff 28 = .ok (.iconst 2, 1) := by decide +kernel
theorem dX6_sawnOff_29 : decode cX6_sawnOff 29 = .ok (.idiv, 1) := by decide +kernel
theorem dX6_sawnOff_30 : decode cX6_sawnOff 30 = .ok (.goto 12, 3) := by decide +kernel
theorem dX6_sawnOff_33 : decode cX6_sawnOff 33 = .ok (.aload_n 0, 1) := by decide +kernel
theorem dX6_sawnOff_34 : decode cX6_sawnOff 34 = .ok (.getfield 19, 3) := by decide +kernel
theorem dX6_sawnOff_37 : decode cX6_sawnOff 37 = .ok (.bipush 17, 2) := by decide +kernel
theorem dX6_sawnOff_39 : decode cX6_sawnOff 39 = .ok (.iload_n 1, 1) := by decide +kernel
theorem dX6_sawnOff_40 : decode cX6_sawnOff 40 = .ok (.iadd, 1) := by decide +kernel
theorem dX6_sawnOff_41 : decode cX6_sawnOff 41 = .ok (.iaload, 1) := by decide +kernel
theorem dX6_sawnOff_42 : decode cX6_sawnOff 42 = .ok (.ireturn, 1) := by decide +kernel
theorem dX6_oneNight_0 : decode cX6_oneNight 0 = .ok (.aload_n 0, 1) := by decide +kernel
theorem dX6_oneNight_1 : decode cX6_oneNight 1 = .ok (.iconst 0, 1) := by decide +kernel
theorem dX6_oneNight_2 : decode cX6_oneNight 2 = .ok (.putfield 156, 3) := by decide +kernel
theorem dX6_oneNight_5 : decode cX6_oneNight 5 = .ok (.iconst 0, 1) := by decide +kernel
theorem dX6_oneNight_6 : decode cX6_oneNight 6 = .ok (.istore_n 1, 1) := by decide +kernel
theorem dX6_oneNight_7 : decode cX6_oneNight 7 = .ok (.iload_n 1, 1) := by decide +kernel
theorem dX6_oneNight_8 : decode cX6_oneNight 8 = .ok (.aload_n 0, 1) := by decide +kernel
theorem dX6_oneNight_9 : decode cX6_oneNight 9 = .ok (.getfield 19, 3) := by decide +kernel
theorem dX6_oneNight_12 : decode cX6_oneNight 12 = .ok (.iconst 2, 1) := by decide +kernel
theorem dX6_oneNight_13 : decode cX6_oneNight 13 = .ok (.iaload, 1) := by decide +kernel
theorem dX6_oneNight_14 : decode cX6_oneNight 14 = .ok (.if_icmp .ge 16, 3) := by decide +kernel
theorem dX6_oneNight_17 : decode cX6_oneNight 17 = .ok (.aload_n 0, 1) := by decide +kernel
theorem dX6_oneNight_18 : decode cX6_oneNight 18 = .ok (.getfield 31, 3) := by decide +kernel
theorem dX6_oneNight_21 : decode cX6_oneNight 21 = .ok (.iload_n 1, 1) := by decide +kernel
theorem dX6_oneNight_22 : decode cX6_oneNight 22 = .ok (.iconst 0, 1) := by decide +kernel
theorem dX6_oneNight_23 : decode cX6_oneNight 23 = .ok (.iastore, 1) := by decide +kernel
theorem dX6_oneNight_24 : decode cX6_oneNight 24 = .ok (.iinc 1 1, 3) := by decide +kernel
theorem dX6_oneNight_27 : decode cX6_oneNight 27 = .ok (.goto (-20), 3) := by decide +kernel
theorem dX6_oneNight_30 : decode cX6_oneNight 30 = .ok (.iconst 0, 1) := by decide +kernel
theorem dX6_oneNight_31 : decode cX6_oneNight 31 = .ok (.istore_n 1, 1) := by decide +kernel
theorem dX6_oneNight_32 : decode cX6_oneNight 32 = .ok (.iload_n 1, 1) := by decide +kernel
theorem dX6_oneNight_33 : decode cX6_oneNight 33 = .ok (.aload_n 0, 1) := by decide +kernel
theorem dX6_oneNight_34 : decode cX6_oneNight 34 = .ok (.getfield 19, 3) := by decide +kernel
theorem dX6_oneNight_37 : decode cX6_oneNight 37 = .ok (.iconst 2, 1) := by decide +kernel
theorem dX6_oneNight_38 : decode cX6_oneNight 38 = .ok (.iaload, 1) := by decide +kernel
theorem dX6_oneNight_39 : decode cX6_oneNight 39 = .ok (.if_icmp .ge 81, 3) := by decide +kernel
theorem dX6_oneNight_42 : decode cX6_oneNight 42 = .ok (.aload_n 0, 1) := by decide +kernel
theorem dX6_oneNight_43 : decode cX6_oneNight 43 = .ok (.iload_n 1, 1) := by decide +kernel
theorem dX6_oneNight_44 : decode cX6_oneNight 44 = .ok (.invokevirtual 159, 3) := by decide +kernel
theorem dX6_oneNight_47 : decode cX6_oneNight 47 = .ok (.istore_n 2, 1) := by decide +kernel
theorem dX6_oneNight_48 : decode cX6_oneNight 48 = .ok (.iload_n 2, 1) := by decide +kernel
theorem dX6_oneNight_49 : decode cX6_oneNight 49 = .ok (.ifCond .lt 20, 3) := by decide +kernel
theorem dX6_oneNight_52 : decode cX6_oneNight 52 = .ok (.aload_n 0, 1) := by decide +kernel
theorem dX6_oneNight_53 : decode cX6_oneNight 53 = .ok (.getfield 19, 3) := by decide +kernel
theorem dX6_oneNight_56 : decode cX6_oneNight 56 = .ok (.iconst 4, 1) := by decide +kernel
theorem dX6_oneNight_57 : decode cX6_oneNight 57 = .ok (.iaload, 1) := by decide +kernel
theorem dX6_oneNight_58 : decode cX6_oneNight 58 = .ok (.iload_n 2, 1) := by decide +kernel
theorem dX6_oneNight_59 : decode cX6_oneNight 59 = .ok (.invokestatic 162, 3) := by decide +kernel
theorem dX6_oneNight_62 : decode cX6_oneNight 62 = .ok (.ifCond .eq 7, 3) := by decide +kernel
theorem dX6_oneNight_65 : decode cX6_oneNight 65 = .ok (.iconst 1, 1) := by decide +kernel
theorem dX6_oneNight_66 : decode cX6_oneNight 66 = .ok (.goto 4, 3) := by decide +kernel
theorem dX6_oneNight_69 : decode cX6_oneNight 69 = .ok (.iconst 0, 1) := by decide +kernel
theorem dX6_oneNight_70 : decode cX6_oneNight 70 = .ok (.istore_n 3, 1) := by decide +kernel
theorem dX6_oneNight_71 : decode cX6_oneNight 71 = .ok (.aload_n 0, 1) := by decide +kernel
theorem dX6_oneNight_72 : decode cX6_oneNight 72 = .ok (.dup, 1) := by decide +kernel
theorem dX6_oneNight_73 : decode cX6_oneNight 73 = .ok (.getfield 156, 3) := by decide +kernel
theorem dX6_oneNight_76 : decode cX6_oneNight 76 = .ok (.iload_n 3, 1) := by decide +kernel
theorem dX6_oneNight_77 : decode cX6_oneNight 77 = .ok (.ifCond .eq 9, 3) := by decide +kernel
theorem dX6_oneNight_80 : decode cX6_oneNight 80 = .ok (.iconst 1, 1) := by decide +kernel
theorem dX6_oneNight_81 : decode cX6_oneNight 81 = .ok (.iload_n 1, 1) := by decide +kernel
theorem dX6_oneNight_82 : decode cX6_oneNight 82 = .ok (.ishl, 1) := by decide +kernel
theorem dX6_oneNight_83 : decode cX6_oneNight 83 = .ok (.goto 4, 3) := by decide +kernel
theorem dX6_oneNight_86 : decode cX6_oneNight 86 = .ok (.iconst 0, 1) := by decide +kernel
theorem dX6_oneNight_87 : decode cX6_oneNight 87 = .ok (.ior, 1) := by decide +kernel
theorem dX6_oneNight_88 : decode cX6_oneNight 88 = .ok (.putfield 156, 3) := by decide +kernel
theorem dX6_oneNight_91 : decode cX6_oneNight 91 = .ok (.iload_n 2, 1) := by decide +kernel
theorem dX6_oneNight_92 : decode cX6_oneNight 92 = .ok (.ifCond .lt 22, 3) := by decide +kernel
theorem dX6_oneNight_95 : decode cX6_oneNight 95 = .ok (.iload_n 3, 1) := by decide +kernel
theorem dX6_oneNight_96 : decode cX6_oneNight 96 = .ok (.ifCond .ne 18, 3) := by decide +kernel
theorem dX6_oneNight_99 : decode cX6_oneNight 99 = .ok (.aload_n 0, 1) := by decide +kernel
theorem dX6_oneNight_100 : decode cX6_oneNight 100 = .ok (.getfield 31, 3) := by decide +kernel
theorem dX6_oneNight_103 : decode cX6_oneNight 103 = .ok (.iload_n 2, 1) := by decide +kernel
theorem dX6_oneNight_104 : decode cX6_oneNight 104 = .ok (.dup2, 1) := by decide +kernel
theorem dX6_oneNight_105 : decode cX6_oneNight 105 = .ok (.iaload, 1) := by decide +kernel
theorem dX6_oneNight_106 : decode cX6_oneNight 106 = .ok (.aload_n 0, 1) := by decide +kernel
theorem dX6_oneNight_107 : decode cX6_oneNight 107 = .ok (.iload_n 1, 1) := by decide +kernel
theorem dX6_oneNight_108 : decode cX6_oneNight 108 = .ok (.iload_n 2, 1) := by decide +kernel
theorem dX6_oneNight_109 : decode cX6_oneNight 109 = .ok (.invokevirtual 166, 3) := by decide +kernel
theorem dX6_oneNight_112 : decode cX6_oneNight 112 = .ok (.iadd, 1) := by decide +kernel
theorem dX6_oneNight_113 : decode cX6_oneNight 113 = .ok (.iastore, 1) := by decide +kernel
theorem dX6_oneNight_114 : decode cX6_oneNight 114 = .ok (.iinc 1 1, 3) := by decide +kernel
theorem dX6_oneNight_117 : decode cX6_oneNight 117 = .ok (.goto (-85), 3) := by decide +kernel
theorem dX6_oneNight_120 : decode cX6_oneNight 120 = .ok (.iconst 0, 1) := by decide +kernel
theorem dX6_oneNight_121 : decode cX6_oneNight 121 = .ok (.istore_n 1, 1) := by decide +kernel
theorem dX6_oneNight_122 : decode cX6_oneNight 122 = .ok (.iload_n 1, 1) := by decide +kernel
theorem dX6_oneNight_123 : decode cX6_oneNight 123 = .ok (.aload_n 0, 1) := by decide +kernel
theorem dX6_oneNight_124 : decode cX6_oneNight 124 = .ok (.getfield 19, 3) := by decide +kernel
theorem dX6_oneNight_127 : decode cX6_oneNight 127 = .ok (.iconst 2, 1) := by decide +kernel
theorem dX6_oneNight_128 : decode cX6_oneNight 128 = .ok (.iaload, 1) := by decide +kernel
theorem dX6_oneNight_129 : decode cX6_oneNight 129 = .ok (.if_icmp .ge 100, 3) := by decide +kernel
theorem dX6_oneNight_132 : decode cX6_oneNight 132 = .ok (.aload_n 0, 1) := by decide +kernel
theorem dX6_oneNight_133 : decode cX6_oneNight 133 = .ok (.getfield 19, 3) := by decide +kernel
theorem dX6_oneNight_136 : decode cX6_oneNight 136 = .ok (.bipush 11, 2) := by decide +kernel
theorem dX6_oneNight_138 : decode cX6_oneNight 138 = .ok (.iload_n 1, 1) := by decide +kernel
theorem dX6_oneNight_139 : decode cX6_oneNight 139 = .ok (.iadd, 1) := by decide +kernel
theorem dX6_oneNight_140 : decode cX6_oneNight 140 = .ok (.iaload, 1) := by decide +kernel
theorem dX6_oneNight_141 : decode cX6_oneNight 141 = .ok (.aload_n 0, 1) := by decide +kernel
theorem dX6_oneNight_142 : decode cX6_oneNight 142 = .ok (.getfield 31, 3) := by decide +kernel
theorem dX6_oneNight_145 : decode cX6_oneNight 145 = .ok (.iload_n 1, 1) := by decide +kernel
theorem dX6_oneNight_146 : decode cX6_oneNight 146 = .ok (.iaload, 1) := by decide +kernel
theorem dX6_oneNight_147 : decode cX6_oneNight 147 = .ok (.isub, 1) := by decide +kernel
theorem dX6_oneNight_148 : decode cX6_oneNight 148 = .ok (.istore_n 2, 1) := by decide +kernel
theorem dX6_oneNight_149 : decode cX6_oneNight 149 = .ok (.aload_n 0, 1) := by decide +kernel
theorem dX6_oneNight_150 : decode cX6_oneNight 150 = .ok (.getfield 19, 3) := by decide +kernel
theorem dX6_oneNight_153 : decode cX6_oneNight 153 = .ok (.bipush 11, 2) := by decide +kernel
theorem dX6_oneNight_155 : decode cX6_oneNight 155 = .ok (.iload_n 1, 1) := by decide +kernel
theorem dX6_oneNight_156 : decode cX6_oneNight 156 = .ok (.iadd, 1) := by decide +kernel
theorem dX6_oneNight_157 : decode cX6_oneNight 157 = .ok (.iload_n 2, 1) := by decide +kernel
theorem dX6_oneNight_158 : decode cX6_oneNight 158 = .ok (.ifCond .ge 7, 3) := by decide +kernel
theorem dX6_oneNight_161 : decode cX6_oneNight 161 = .ok (.iconst 0, 1) := by decide +kernel
theorem dX6_oneNight_162 : decode cX6_oneNight 162 = .ok (.goto 4, 3) := by decide +kernel
theorem dX6_oneNight_165 : decode cX6_oneNight 165 = .ok (.iload_n 2, 1) := by decide +kernel
theorem dX6_oneNight_166 : decode cX6_oneNight 166 = .ok (.iastore, 1) := by decide +kernel
theorem dX6_oneNight_167 : decode cX6_oneNight 167 = .ok (.aload_n 0, 1) := by decide +kernel
theorem dX6_oneNight_168 : decode cX6_oneNight 168 = .ok (.getfield 19, 3) := by decide +kernel
theorem dX6_oneNight_171 : decode cX6_oneNight 171 = .ok (.bipush 17, 2) := by decide +kernel
theorem dX6_oneNight_173 : decode cX6_oneNight 173 = .ok (.iload_n 1, 1) := by decide +kernel
theorem dX6_oneNight_174 : decode cX6_oneNight 174 = .ok (.iadd, 1) := by decide +kernel
theorem dX6_oneNight_175 : decode cX6_oneNight 175 = .ok (.dup2, 1) := by decide +kernel
theorem dX6_oneNight_176 : decode cX6_oneNight 176 = .ok (.iaload, 1) := by decide +kernel
theorem dX6_oneNight_177 : decode cX6_oneNight 177 = .ok (.aload_n 0, 1) := by decide +kernel
theorem dX6_oneNight_178 : decode cX6_oneNight 178 = .ok (.getfield 156, 3) := by decide +kernel
theorem dX6_oneNight_181 : decode cX6_oneNight 181 = .ok (.iload_n 1, 1) := by decide +kernel
theorem dX6_oneNight_182 : decode cX6_oneNight 182 = .ok (.invokestatic 162, 3) := by decide +kernel
theorem dX6_oneNight_185 : decode cX6_oneNight 185 = .ok (.ifCond .eq 7, 3) := by decide +kernel
theorem dX6_oneNight_188 : decode cX6_oneNight 188 = .ok (.iconst 1, 1) := by decide +kernel
theorem dX6_oneNight_189 : decode cX6_oneNight 189 = .ok (.goto 4, 3) := by decide +kernel
theorem dX6_oneNight_192 : decode cX6_oneNight 192 = .ok (.iconst 0, 1) := by decide +kernel
theorem dX6_oneNight_193 : decode cX6_oneNight 193 = .ok (.isub, 1) := by decide +kernel
theorem dX6_oneNight_194 : decode cX6_oneNight 194 = .ok (.iastore, 1) := by decide +kernel
theorem dX6_oneNight_195 : decode cX6_oneNight 195 = .ok (.aload_n 0, 1) := by decide +kernel
theorem dX6_oneNight_196 : decode cX6_oneNight 196 = .ok (.getfield 19, 3) := by decide +kernel
theorem dX6_oneNight_199 : decode cX6_oneNight 199 = .ok (.bipush 35, 2) := by decide +kernel
theorem dX6_oneNight_201 : decode cX6_oneNight 201 = .ok (.iload_n 1, 1) := by decide +kernel
theorem dX6_oneNight_202 : decode cX6_oneNight 202 = .ok (.iadd, 1) := by decide +kernel
theorem dX6_oneNight_203 : decode cX6_oneNight 203 = .ok (.dup2, 1) := by decide +kernel
theorem dX6_oneNight_204 : decode cX6_oneNight 204 = .ok (.iaload, 1) := by decide +kernel
theorem dX6_oneNight_205 : decode cX6_oneNight 205 = .ok (.aload_n 0, 1) := by decide +kernel
theorem dX6_oneNight_206 : decode cX6_oneNight 206 = .ok (.getfield 156, 3) := by decide +kernel
theorem dX6_oneNight_209 : decode cX6_oneNight 209 = .ok (.iload_n 1, 1) := by decide +kernel
theorem dX6_oneNight_210 : decode cX6_oneNight 210 = .ok (.invokestatic 162, 3) := by decide +kernel
theorem dX6_oneNight_213 : decode cX6_oneNight 213 = .ok (.ifCond .eq 7, 3) := by decide +kernel
theorem dX6_oneNight_216 : decode cX6_oneNight 216 = .ok (.iconst 1, 1) := by decide +kernel
theorem dX6_oneNight_217 : decode cX6_oneNight 217 = .ok (.goto 4, 3) := by decide +kernel
theorem dX6_oneNight_220 : decode cX6_oneNight 220 = .ok (.iconst 0, 1) := by decide +kernel
theorem dX6_oneNight_221 : decode cX6_oneNight 221 = .ok (.iadd, 1) := by decide +kernel
theorem dX6_oneNight_222 : decode cX6_oneNight 222 = .ok (.iastore, 1) := by decide +kernel
theorem dX6_oneNight_223 : decode cX6_oneNight 223 = .ok (.iinc 1 1, 3) := by decide +kernel
theorem dX6_oneNight_226 : decode cX6_oneNight 226 = .ok (.goto (-104), 3) := by decide +kernel
theorem dX6_oneNight_229 : decode cX6_oneNight 229 = .ok (.aload_n 0, 1) := by decide +kernel
theorem dX6_oneNight_230 : decode cX6_oneNight 230 = .ok (.getfield 19, 3) := by decide +kernel
theorem dX6_oneNight_233 : decode cX6_oneNight 233 = .ok (.iconst 3, 1) := by decide +kernel
theorem dX6_oneNight_234 : decode cX6_oneNight 234 = .ok (.dup2, 1) := by decide +kernel
theorem dX6_oneNight_235 : decode cX6_oneNight 235 = .ok (.iaload, 1) := by decide +kernel
theorem dX6_oneNight_236 : decode cX6_oneNight 236 = .ok (.iconst 1, 1) := by decide +kernel
theorem dX6_oneNight_237 : decode cX6_oneNight 237 = .ok (.iadd, 1) := by decide +kernel
theorem dX6_oneNight_238 : decode cX6_oneNight 238 = .ok (.iastore, 1) := by decide +kernel
theorem dX6_oneNight_239 : decode cX6_oneNight 239 = .ok (.return_, 1) := by decide +kernel
theorem dX6_sumOf_0 : decode cX6_sumOf 0 = .ok (.iconst 0, 1) := by decide +kernel
theorem dX6_sumOf_1 : decode cX6_sumOf 1 = .ok (.istore_n 2, 1) := by decide +kernel
theorem dX6_sumOf_2 : decode cX6_sumOf 2 = .ok (.iconst 0, 1) := by decide +kernel
theorem dX6_sumOf_3 : decode cX6_sumOf 3 = .ok (.istore_n 3, 1) := by decide +kernel
theorem dX6_sumOf_4 : decode cX6_sumOf 4 = .ok (.iload_n 3, 1) := by decide +kernel
theorem dX6_sumOf_5 : decode cX6_sumOf 5 = .ok (.aload_n 0, 1) := by decide +kernel
theorem dX6_sumOf_6 : decode cX6_sumOf 6 = .ok (.getfield 19, 3) := by decide +kernel
theorem dX6_sumOf_9 : decode cX6_sumOf 9 = .ok (.iconst 2, 1) := by decide +kernel
theorem dX6_sumOf_10 : decode cX6_sumOf 10 = .ok (.iaload, 1) := by decide +kernel
theorem dX6_sumOf_11 : decode cX6_sumOf 11 = .ok (.if_icmp .ge 20, 3) := by decide +kernel
theorem dX6_sumOf_14 : decode cX6_sumOf 14 = .ok (.iload_n 2, 1) := by decide +kernel
theorem dX6_sumOf_15 : decode cX6_sumOf 15 = .ok (.aload_n 0, 1) := by decide +kernel
theorem dX6_sumOf_16 : decode cX6_sumOf 16 = .ok (.getfield 19, 3) := by decide +kernel
theorem dX6_sumOf_19 : decode cX6_sumOf 19 = .ok (.iload_n 1, 1) := by decide +kernel
theorem dX6_sumOf_20 : decode cX6_sumOf 20 = .ok (.iload_n 3, 1) := by decide +kernel
theorem dX6_sumOf_21 : decode cX6_sumOf 21 = .ok (.iadd, 1) := by decide +kernel
theorem dX6_sumOf_22 : decode cX6_sumOf 22 = .ok (.iaload, 1) := by decide +kernel
theorem dX6_sumOf_23 : decode cX6_sumOf 23 = .ok (.iadd, 1) := by decide +kernel
theorem dX6_sumOf_24 : decode cX6_sumOf 24 = .ok (.istore_n 2, 1) := by decide +kernel
theorem dX6_sumOf_25 : decode cX6_sumOf 25 = .ok (.iinc 3 1, 3) := by decide +kernel
theorem dX6_sumOf_28 : decode cX6_sumOf 28 = .ok (.goto (-24), 3) := by decide +kernel
theorem dX6_sumOf_31 : decode cX6_sumOf 31 = .ok (.iload_n 2, 1) := by decide +kernel
theorem dX6_sumOf_32 : decode cX6_sumOf 32 = .ok (.ireturn, 1) := by decide +kernel
theorem dX6_note_0 : decode cX6_note 0 = .ok (.aload_n 0, 1) := by decide +kernel
theorem dX6_note_1 : decode cX6_note 1 = .ok (.getfield 139, 3) := by decide +kernel
theorem dX6_note_4 : decode cX6_note 4 = .ok (.bipush 24, 2) := by decide +kernel
theorem dX6_note_6 : decode cX6_note 6 = .ok (.if_icmp .ne 43, 3) := by decide +kernel
theorem dX6_note_9 : decode cX6_note 9 = .ok (.iconst 0, 1) := by decide +kernel
theorem dX6_note_10 : decode cX6_note 10 = .ok (.istore_n 1, 1) := by decide +kernel
theorem dX6_note_11 : decode cX6_note 11 = .ok (.iload_n 1, 1) := by decide +kernel
theorem dX6_note_12 : decode cX6_note 12 = .ok (.sipush 943, 3) := by decide +kernel
theorem dX6_note_15 : decode cX6_note 15 = .ok (.if_icmp .ge 24, 3) := by decide +kernel
theorem dX6_note_18 : decode cX6_note 18 = .ok (.aload_n 0, 1) := by decide +kernel
theorem dX6_note_19 : decode cX6_note 19 = .ok (.getfield 34, 3) := by decide +kernel
theorem dX6_note_22 : decode cX6_note 22 = .ok (.iload_n 1, 1) := by decide +kernel
theorem dX6_note_23 : decode cX6_note 23 = .ok (.aload_n 0, 1) := by decide +kernel
theorem dX6_note_24 : decode cX6_note 24 = .ok (.getfield 34, 3) := by decide +kernel
theorem dX6_note_27 : decode cX6_note 27 = .ok (.iload_n 1, 1) := by decide +kernel
theorem dX6_note_28 : decode cX6_note 28 = .ok (.bipush 41, 2) := by decide +kernel
theorem dX6_note_30 : decode cX6_note 30 = .ok (.iadd, 1) := by decide +kernel
theorem dX6_note_31 : decode cX6_note 31 = .ok (.iaload, 1) := by decide +kernel
theorem dX6_note_32 : decode cX6_note 32 = .ok (.iastore, 1) := by decide +kernel
theorem dX6_note_33 : decode cX6_note 33 = .ok (.iinc 1 1, 3) := by decide +kernel
theorem dX6_note_36 : decode cX6_note 36 = .ok (.goto (-25), 3) := by decide +kernel
theorem dX6_note_39 : decode cX6_note 39 = .ok (.aload_n 0, 1) := by decide +kernel
theorem dX6_note_40 : decode cX6_note 40 = .ok (.dup, 1) := by decide +kernel
theorem dX6_note_41 : decode cX6_note 41 = .ok (.getfield 139, 3) := by decide +kernel
theorem dX6_note_44 : decode cX6_note 44 = .ok (.iconst 1, 1) := by decide +kernel
theorem dX6_note_45 : decode cX6_note 45 = .ok (.isub, 1) := by decide +kernel
theorem dX6_note_46 : decode cX6_note 46 = .ok (.putfield 139, 3) := by decide +kernel
theorem dX6_note_49 : decode cX6_note 49 = .ok (.iconst 0, 1) := by decide +kernel
theorem dX6_note_50 : decode cX6_note 50 = .ok (.istore_n 1, 1) := by decide +kernel
theorem dX6_note_51 : decode cX6_note 51 = .ok (.iload_n 1, 1) := by decide +kernel
theorem dX6_note_52 : decode cX6_note 52 = .ok (.bipush 41, 2) := by decide +kernel
theorem dX6_note_54 : decode cX6_note 54 = .ok (.if_icmp .ge 29, 3) := by decide +kernel
theorem dX6_note_57 : decode cX6_note 57 = .ok (.aload_n 0, 1) := by decide +kernel
theorem dX6_note_58 : decode cX6_note 58 = .ok (.getfield 34, 3) := by decide +kernel
theorem dX6_note_61 : decode cX6_note 61 = .ok (.bipush 41, 2) := by decide +kernel
theorem dX6_note_63 : decode cX6_note 63 = .ok (.aload_n 0, 1) := by decide +kernel
theorem dX6_note_64 : decode cX6_note 64 = .ok (.getfield 139, 3) := by decide +kernel
theorem dX6_note_67 : decode cX6_note 67 = .ok (.imul, 1) := by decide +kernel
theorem dX6_note_68 : decode cX6_note 68 = .ok (.iload_n 1, 1) := by decide +kernel
theorem dX6_note_69 : decode cX6_note 69 = .ok (.iadd, 1) := by decide +kernel
theorem dX6_note_70 : decode cX6_note 70 = .ok (.aload_n 0, 1) := by decide +kernel
theorem dX6_note_71 : decode cX6_note 71 = .ok (.getfield 19, 3) := by decide +kernel
theorem dX6_note_74 : decode cX6_note 74 = .ok (.iload_n 1, 1) := by decide +kernel
theorem dX6_note_75 : decode cX6_note 75 = .ok (.iaload, 1) := by decide +kernel
theorem dX6_note_76 : decode cX6_note 76 = .ok (.iastore, 1) := by decide +kernel
theorem dX6_note_77 : decode cX6_note 77 = .ok (.iinc 1 1, 3) := by decide +kernel
theorem dX6_note_80 : decode cX6_note 80 = .ok (.goto (-29), 3) := by decide +kernel
theorem dX6_note_83 : decode cX6_note 83 = .ok (.aload_n 0, 1) := by decide +kernel
theorem dX6_note_84 : decode cX6_note 84 = .ok (.dup, 1) := by decide +kernel
theorem dX6_note_85 : decode cX6_note 85 = .ok (.getfield 139, 3) := by decide +kernel
theorem dX6_note_88 : decode cX6_note 88 = .ok (.iconst 1, 1) := by decide +kernel
theorem dX6_note_89 : decode cX6_note 89 = .ok (.iadd, 1) := by decide +kernel
theorem dX6_note_90 : decode cX6_note 90 = .ok (.putfield 139, 3) := by decide +kernel
theorem dX6_note_93 : decode cX6_note 93 = .ok (.return_, 1) := by decide +kernel
theorem dX6_undo_0 : decode cX6_undo 0 = .ok (.aload_n 0, 1) := by decide +kernel
theorem dX6_undo_1 : decode cX6_undo 1 = .ok (.getfield 139, 3) := by decide +kernel
theorem dX6_undo_4 : decode cX6_undo 4 = .ok (.ifCond .ne 6, 3) := by decide +kernel
theorem dX6_undo_7 : decode cX6_undo 7 = .ok (.ldc 169, 2) := by decide +kernel
theorem dX6_undo_9 : decode cX6_undo 9 = .ok (.ireturn, 1) := by decide +kernel
theorem dX6_undo_10 : decode cX6_undo 10 = .ok (.aload_n 0, 1) := by decide +kernel
theorem dX6_undo_11 : decode cX6_undo 11 = .ok (.dup, 1) := by decide +kernel
theorem dX6_undo_12 : decode cX6_undo 12 = .ok (.getfield 139, 3) := by decide +kernel
theorem dX6_undo_15 : decode cX6_undo 15 = .ok (.iconst 1, 1) := by decide +kernel
theorem dX6_undo_16 : decode cX6_undo 16 = .ok (.isub, 1) := by decide +kernel
theorem dX6_undo_17 : decode cX6_undo 17 = .ok (.putfield 139, 3) := by decide +kernel
theorem dX6_undo_20 : decode cX6_undo 20 = .ok (.iconst 0, 1) := by decide +kernel
theorem dX6_undo_21 : decode cX6_undo 21 = .ok (.istore_n 1, 1) := by decide +kernel
theorem dX6_undo_22 : decode cX6_undo 22 = .ok (.iload_n 1, 1) := by decide +kernel
theorem dX6_undo_23 : decode cX6_undo 23 = .ok (.bipush 41, 2) := by decide +kernel
theorem dX6_undo_25 : decode cX6_undo 25 = .ok (.if_icmp .ge 29, 3) := by decide +kernel
theorem dX6_undo_28 : decode cX6_undo 28 = .ok (.aload_n 0, 1) := by decide +kernel
theorem dX6_undo_29 : decode cX6_undo 29 = .ok (.getfield 19, 3) := by decide +kernel
theorem dX6_undo_32 : decode cX6_undo 32 = .ok (.iload_n 1, 1) := by decide +kernel
theorem dX6_undo_33 : decode cX6_undo 33 = .ok (.aload_n 0, 1) := by decide +kernel
theorem dX6_undo_34 : decode cX6_undo 34 = .ok (.getfield 34, 3) := by decide +kernel
theorem dX6_undo_37 : decode cX6_undo 37 = .ok (.bipush 41, 2) := by decide +kernel
theorem dX6_undo_39 : decode cX6_undo 39 = .ok (.aload_n 0, 1) := by decide +kernel
theorem dX6_undo_40 : decode cX6_undo 40 = .ok (.getfield 139, 3) := by decide +kernel
theorem dX6_undo_43 : decode cX6_undo 43 = .ok (.imul, 1) := by decide +kernel
theorem dX6_undo_44 : decode cX6_undo 44 = .ok (.iload_n 1, 1) := by decide +kernel
theorem dX6_undo_45 : decode cX6_undo 45 = .ok (.iadd, 1) := by decide +kernel
theorem dX6_undo_46 : decode cX6_undo 46 = .ok (.iaload, 1) := by decide +kernel
theorem dX6_undo_47 : decode cX6_undo 47 = .ok (.iastore, 1) := by decide +kernel
theorem dX6_undo_48 : decode cX6_undo 48 = .ok (.iinc 1 1, 3) := by decide +kernel
theorem dX6_undo_51 : decode cX6_undo 51 = .ok (.goto (-29), 3) := by decide +kernel
theorem dX6_undo_54 : decode cX6_undo 54 = .ok (.aload_n 0, 1) := by decide +kernel
theorem dX6_undo_55 : decode cX6_undo 55 = .ok (.getfield 139, 3) := by decide +kernel
theorem dX6_undo_58 : decode cX6_undo 58 = .ok (.ireturn, 1) := by decide +kernel
theorem dX6_nights_0 : decode cX6_nights 0 = .ok (.aload_n 0, 1) := by decide +kernel
theorem dX6_nights_1 : decode cX6_nights 1 = .ok (.getfield 135, 3) := by decide +kernel
theorem dX6_nights_4 : decode cX6_nights 4 = .ok (.ifCond .ne 6, 3) := by decide +kernel
theorem dX6_nights_7 : decode cX6_nights 7 = .ok (.ldc 169, 2) := by decide +kernel
theorem dX6_nights_9 : decode cX6_nights 9 = .ok (.ireturn, 1) := by decide +kernel
theorem dX6_nights_10 : decode cX6_nights 10 = .ok (.iload_n 1, 1) := by decide +kernel
theorem dX6_nights_11 : decode cX6_nights 11 = .ok (.i2l, 1) := by decide +kernel
theorem dX6_nights_12 : decode cX6_nights 12 = .ok (.lconst 1, 1) := by decide +kernel
theorem dX6_nights_13 : decode cX6_nights 13 = .ok (.ldc2_w 170, 3) := by decide +kernel
theorem dX6_nights_16 : decode cX6_nights 16 = .ok (.invokestatic 57, 3) := by decide +kernel
theorem dX6_nights_19 : decode cX6_nights 19 = .ok (.ifCond .ne 6, 3) := by decide +kernel
theorem dX6_nights_22 : decode cX6_nights 22 = .ok (.ldc 67, 2) := by decide +kernel
theorem dX6_nights_24 : decode cX6_nights 24 = .ok (.ireturn, 1) := by decide +kernel
theorem dX6_nights_25 : decode cX6_nights 25 = .ok (.aload_n 0, 1) := by decide +kernel
theorem dX6_nights_26 : decode cX6_nights 26 = .ok (.getfield 19, 3) := by decide +kernel
theorem dX6_nights_29 : decode cX6_nights 29 = .ok (.iconst 3, 1) := by decide +kernel
theorem dX6_nights_30 : decode cX6_nights 30 = .ok (.iaload, 1) := by decide +kernel
theorem dX6_nights_31 : decode cX6_nights 31 = .ok (.iload_n 1, 1) := by decide +kernel
theorem dX6_nights_32 : decode cX6_nights 32 = .ok (.iadd, 1) := by decide +kernel
theorem dX6_nights_33 : decode cX6_nights 33 = .ok (.sipush 999, 3) := by decide +kernel
theorem dX6_nights_36 : decode cX6_nights 36 = .ok (.if_icmp .le 6, 3) := by decide +kernel
theorem dX6_nights_39 : decode cX6_nights 39 = .ok (.ldc 84, 2) := by decide +kernel
theorem dX6_nights_41 : decode cX6_nights 41 = .ok (.ireturn, 1) := by decide +kernel
theorem dX6_nights_42 : decode cX6_nights 42 = .ok (.iconst 0, 1) := by decide +kernel
theorem dX6_nights_43 : decode cX6_nights 43 = .ok (.istore_n 2, 1) := by decide +kernel
theorem dX6_nights_44 : decode cX6_nights 44 = .ok (.iload_n 2, 1) := by decide +kernel
theorem dX6_nights_45 : decode cX6_nights 45 = .ok (.iload_n 1, 1) := by decide +kernel
theorem dX6_nights_46 : decode cX6_nights 46 = .ok (.if_icmp .ge 17, 3) := by decide +kernel
theorem dX6_nights_49 : decode cX6_nights 49 = .ok (.aload_n 0, 1) := by decide +kernel
theorem dX6_nights_50 : decode cX6_nights 50 = .ok (.invokevirtual 172, 3) := by decide +kernel
theorem dX6_nights_53 : decode cX6_nights 53 = .ok (.aload_n 0, 1) := by decide +kernel
theorem dX6_nights_54 : decode cX6_nights 54 = .ok (.invokevirtual 175, 3) := by decide +kernel
theorem dX6_nights_57 : decode cX6_nights 57 = .ok (.iinc 2 1, 3) := by decide +kernel
theorem dX6_nights_60 : decode cX6_nights 60 = .ok (.goto (-16), 3) := by decide +kernel
theorem dX6_nights_63 : decode cX6_nights 63 = .ok (.aload_n 0, 1) := by decide +kernel
theorem dX6_nights_64 : decode cX6_nights 64 = .ok (.iconst 0, 1) := by decide +kernel
theorem dX6_nights_65 : decode cX6_nights 65 = .ok (.invokevirtual 153, 3) := by decide +kernel
theorem dX6_nights_68 : decode cX6_nights 68 = .ok (.ireturn, 1) := by decide +kernel
theorem dX6_cushions_0 : decode cX6_cushions 0 = .ok (.aload_n 0, 1) := by decide +kernel
theorem dX6_cushions_1 : decode cX6_cushions 1 = .ok (.iload_n 1, 1) := by decide +kernel
theorem dX6_cushions_2 : decode cX6_cushions 2 = .ok (.invokevirtual 178, 3) := by decide +kernel
theorem dX6_cushions_5 : decode cX6_cushions 5 = .ok (.ifCond .eq 15, 3) := by decide +kernel
theorem dX6_cushions_8 : decode cX6_cushions 8 = .ok (.iload_n 2, 1) := by decide +kernel
theorem dX6_cushions_9 : decode cX6_cushions 9 = .ok (.i2l, 1) := by decide +kernel
theorem dX6_cushions_10 : decode cX6_cushions 10 = .ok (.lconst 0, 1) := by decide +kernel
theorem dX6_cushions_11 : decode cX6_cushions 11 = .ok (.ldc2_w 181, 3) := by decide +kernel
theorem dX6_cushions_14 : decode cX6_cushions 14 = .ok (.invokestatic 57, 3) := by decide +kernel
theorem dX6_cushions_17 : decode cX6_cushions 17 = .ok (.ifCond .ne 6, 3) := by decide +kernel
theorem dX6_cushions_20 : decode cX6_cushions 20 = .ok (.ldc 67, 2) := by decide +kernel
theorem dX6_cushions_22 : decode cX6_cushions 22 = .ok (.ireturn, 1) := by decide +kernel
theorem dX6_cushions_23 : decode cX6_cushions 23 = .ok (.aload_n 0, 1) := by decide +kernel
theorem dX6_cushions_24 : decode cX6_cushions 24 = .ok (.invokevirtual 172, 3) := by decide +kernel
theorem dX6_cushions_27 : decode cX6_cushions 27 = .ok (.aload_n 0, 1) := by decide +kernel
theorem dX6_cushions_28 : decode cX6_cushions 28 = .ok (.getfield 19, 3) := by decide +kernel
theorem dX6_cushions_31 : decode cX6_cushions 31 = .ok (.bipush 29, 2) := by decide +kernel
theorem dX6_cushions_33 : decode cX6_cushions 33 = .ok (.iload_n 1, 1) := by decide +kernel
theorem dX6_cushions_34 : decode cX6_cushions 34 = .ok (.iadd, 1) := by decide +kernel
theorem dX6_cushions_35 : decode cX6_cushions 35 = .ok (.iaload, 1) := by decide +kernel
theorem dX6_cushions_36 : decode cX6_cushions 36 = .ok (.istore_n 3, 1) := by decide +kernel
theorem dX6_cushions_37 : decode cX6_cushions 37 = .ok (.aload_n 0, 1) := by decide +kernel
theorem dX6_cushions_38 : decode cX6_cushions 38 = .ok (.getfield 19, 3) := by decide +kernel
theorem dX6_cushions_41 : decode cX6_cushions 41 = .ok (.bipush 29, 2) := by decide +kernel
theorem dX6_cushions_43 : decode cX6_cushions 43 = .ok (.iload_n 1, 1) := by decide +kernel
theorem dX6_cushions_44 : decode cX6_cushions 44 = .ok (.iadd, 1) := by decide +kernel
theorem dX6_cushions_45 : decode cX6_cushions 45 = .ok (.iload_n 2, 1) := by decide +kernel
theorem dX6_cushions_46 : decode cX6_cushions 46 = .ok (.iastore, 1) := by decide +kernel
theorem dX6_cushions_47 : decode cX6_cushions 47 = .ok (.iload_n 3, 1) := by decide +kernel
theorem dX6_cushions_48 : decode cX6_cushions 48 = .ok (.ireturn, 1) := by decide +kernel
theorem dX6_glue_0 : decode cX6_glue 0 = .ok (.aload_n 0, 1) := by decide +kernel
theorem dX6_glue_1 : decode cX6_glue 1 = .ok (.getfield 19, 3) := by decide +kernel
theorem dX6_glue_4 : decode cX6_glue 4 = .ok (.bipush 11, 2) := by decide +kernel
theorem dX6_glue_6 : decode cX6_glue 6 = .ok (.iload_n 1, 1) := by decide +kernel
theorem dX6_glue_7 : decode cX6_glue 7 = .ok (.iadd, 1) := by decide +kernel
theorem dX6_glue_8 : decode cX6_glue 8 = .ok (.iaload, 1) := by decide +kernel
theorem dX6_glue_9 : decode cX6_glue 9 = .ok (.aload_n 0, 1) := by decide +kernel
theorem dX6_glue_10 : decode cX6_glue 10 = .ok (.getfield 19, 3) := by decide +kernel
theorem dX6_glue_13 : decode cX6_glue 13 = .ok (.iconst 1, 1) := by decide +kernel
theorem dX6_glue_14 : decode cX6_glue 14 = .ok (.iaload, 1) := by decide +kernel
theorem dX6_glue_15 : decode cX6_glue 15 = .ok (.iadd, 1) := by decide +kernel
theorem dX6_glue_16 : decode cX6_glue 16 = .ok (.istore_n 2, 1) := by decide +kernel
theorem dX6_glue_17 : decode cX6_glue 17 = .ok (.aload_n 0, 1) := by decide +kernel
theorem dX6_glue_18 : decode cX6_glue 18 = .ok (.getfield 19, 3) := by decide +kernel
theorem dX6_glue_21 : decode cX6_glue 21 = .ok (.bipush 11, 2) := by decide +kernel
theorem dX6_glue_23 : decode cX6_glue 23 = .ok (.iload_n 1, 1) := by decide +kernel
theorem dX6_glue_24 : decode cX6_glue 24 = .ok (.iadd, 1) := by decide +kernel
theorem dX6_glue_25 : decode cX6_glue 25 = .ok (.iload_n 2, 1) := by decide +kernel
theorem dX6_glue_26 : decode cX6_glue 26 = .ok (.bipush 60, 2) := by decide +kernel
theorem dX6_glue_28 : decode cX6_glue 28 = .ok (.if_icmp .le 8, 3) := by decide +kernel
theorem dX6_glue_31 : decode cX6_glue 31 = .ok (.bipush 60, 2) := by decide +kernel
theorem dX6_glue_33 : decode cX6_glue 33 = .ok (.goto 4, 3) := by decide +kernel
theorem dX6_glue_36 : decode cX6_glue 36 = .ok (.iload_n 2, 1) := by decide +kernel
theorem dX6_glue_37 : decode cX6_glue 37 = .ok (.iastore, 1) := by decide +kernel
theorem dX6_glue_38 : decode cX6_glue 38 = .ok (.return_, 1) := by decide +kernel
theorem dX6_mend_0 : decode cX6_mend 0 = .ok (.aload_n 0, 1) := by decide +kernel
theorem dX6_mend_1 : decode cX6_mend 1 = .ok (.iload_n 1, 1) := by decide +kernel
theorem dX6_mend_2 : decode cX6_mend 2 = .ok (.invokevirtual 178, 3) := by decide +kernel
theorem dX6_mend_5 : decode cX6_mend 5 = .ok (.ifCond .ne 6, 3) := by decide +kernel
theorem dX6_mend_8 : decode cX6_mend 8 = .ok (.ldc 67, 2) := by decide +kernel
theorem dX6_mend_10 : decode cX6_mend 10 = .ok (.ireturn, 1) := by decide +kernel
theorem dX6_mend_11 : decode cX6_mend 11 = .ok (.aload_n 0, 1) := by decide +kernel
theorem dX6_mend_12 : decode cX6_mend 12 = .ok (.getfield 19, 3) := by decide +kernel
theorem dX6_mend_15 : decode cX6_mend 15 = .ok (.bipush 11, 2) := by decide +kernel
theorem dX6_mend_17 : decode cX6_mend 17 = .ok (.iload_n 1, 1) := by decide +kernel
theorem dX6_mend_18 : decode cX6_mend 18 = .ok (.iadd, 1) := by decide +kernel
theorem dX6_mend_19 : decode cX6_mend 19 = .ok (.iaload, 1) := by decide +kernel
theorem dX6_mend_20 : decode cX6_mend 20 = .ok (.bipush 60, 2) := by decide +kernel
theorem dX6_mend_22 : decode cX6_mend 22 = .ok (.if_icmp .ne 6, 3) := by decide +kernel
theorem dX6_mend_25 : decode cX6_mend 25 = .ok (.ldc 84, 2) := by decide +kernel
theorem dX6_mend_27 : decode cX6_mend 27 = .ok (.ireturn, 1) := by decide +kernel
theorem dX6_mend_28 : decode cX6_mend 28 = .ok (.aload_n 0, 1) := by decide +kernel
theorem dX6_mend_29 : decode cX6_mend 29 = .ok (.invokevirtual 172, 3) := by decide +kernel
theorem dX6_mend_32 : decode cX6_mend 32 = .ok (.aload_n 0, 1) := by decide +kernel
theorem dX6_mend_33 : decode cX6_mend 33 = .ok (.iload_n 1, 1) := by decide +kernel
theorem dX6_mend_34 : decode cX6_mend 34 = .ok (.invokevirtual 183, 3) := by decide +kernel
theorem dX6_mend_37 : decode cX6_mend 37 = .ok (.aload_n 0, 1) := by decide +kernel
theorem dX6_mend_38 : decode cX6_mend 38 = .ok (.getfield 19, 3) := by decide +kernel
theorem dX6_mend_41 : decode cX6_mend 41 = .ok (.bipush 11, 2) := by decide +kernel
theorem dX6_mend_43 : decode cX6_mend 43 = .ok (.iload_n 1, 1) := by decide +kernel
theorem dX6_mend_44 : decode cX6_mend 44 = .ok (.iadd, 1) := by decide +kernel
theorem dX6_mend_45 : decode cX6_mend 45 = .ok (.iaload, 1) := by decide +kernel
theorem dX6_mend_46 : decode cX6_mend 46 = .ok (.ireturn, 1) := by decide +kernel
theorem dX6_watch_0 : decode cX6_watch 0 = .ok (.aload_n 0, 1) := by decide +kernel
theorem dX6_watch_1 : decode cX6_watch 1 = .ok (.iload_n 1, 1) := by decide +kernel
theorem dX6_watch_2 : decode cX6_watch 2 = .ok (.invokevirtual 178, 3) := by decide +kernel
theorem dX6_watch_5 : decode cX6_watch 5 = .ok (.ifCond .eq 13, 3) := by decide +kernel
theorem dX6_watch_8 : decode cX6_watch 8 = .ok (.iload_n 2, 1) := by decide +kernel
theorem dX6_watch_9 : decode cX6_watch 9 = .ok (.i2l, 1) := by decide +kernel
theorem dX6_watch_10 : decode cX6_watch 10 = .ok (.lconst 0, 1) := by decide +kernel
theorem dX6_watch_11 : decode cX6_watch 11 = .ok (.lconst 1, 1) := by decide +kernel
theorem dX6_watch_12 : decode cX6_watch 12 = .ok (.invokestatic 57, 3) := by decide +kernel
theorem dX6_watch_15 : decode cX6_watch 15 = .ok (.ifCond .ne 6, 3) := by decide +kernel
theorem dX6_watch_18 : decode cX6_watch 18 = .ok (.ldc 67, 2) := by decide +kernel
theorem dX6_watch_20 : decode cX6_watch 20 = .ok (.ireturn, 1) := by decide +kernel
theorem dX6_watch_21 : decode cX6_watch 21 = .ok (.aload_n 0, 1) := by decide +kernel
theorem dX6_watch_22 : decode cX6_watch 22 = .ok (.getfield 19, 3) := by decide +kernel
theorem dX6_watch_25 : decode cX6_watch 25 = .ok (.iconst 4, 1) := by decide +kernel
theorem dX6_watch_26 : decode cX6_watch 26 = .ok (.iaload, 1) := by decide +kernel
theorem dX6_watch_27 : decode cX6_watch 27 = .ok (.iload_n 1, 1) := by decide +kernel
theorem dX6_watch_28 : decode cX6_watch 28 = .ok (.invokestatic 162, 3) := by decide +kernel
theorem dX6_watch_31 : decode cX6_watch 31 = .ok (.iload_n 2, 1) := by decide +kernel
theorem dX6_watch_32 : decode cX6_watch 32 = .ok (.iconst 1, 1) := by decide +kernel
theorem dX6_watch_33 : decode cX6_watch 33 = .ok (.if_icmp .ne 7, 3) := by decide +kernel
theorem dX6_watch_36 : decode cX6_watch 36 = .ok (.iconst 1, 1) := by decide +kernel
theorem dX6_watch_37 : decode cX6_watch 37 = .ok (.goto 4, 3) := by decide +kernel
theorem dX6_watch_40 : decode cX6_watch 40 = .ok (.iconst 0, 1) := by decide +kernel
theorem dX6_watch_41 : decode cX6_watch 41 = .ok (.if_icmp .ne 6, 3) := by decide +kernel
theorem dX6_watch_44 : decode cX6_watch 44 = .ok (.ldc 169, 2) := by decide +kernel
theorem dX6_watch_46 : decode cX6_watch 46 = .ok (.ireturn, 1) := by decide +kernel
theorem dX6_watch_47 : decode cX6_watch 47 = .ok (.iload_n 2, 1) := by decide +kernel
theorem dX6_watch_48 : decode cX6_watch 48 = .ok (.iconst 1, 1) := by decide +kernel
theorem dX6_watch_49 : decode cX6_watch 49 = .ok (.if_icmp .ne 24, 3) := by decide +kernel
theorem dX6_watch_52 : decode cX6_watch 52 = .ok (.aload_n 0, 1) := by decide +kernel
theorem dX6_watch_53 : decode cX6_watch 53 = .ok (.getfield 19, 3) := by decide +kernel
theorem dX6_watch_56 : decode cX6_watch 56 = .ok (.iconst 4, 1) := by decide +kernel
theorem dX6_watch_57 : decode cX6_watch 57 = .ok (.iaload, 1) := by decide +kernel
theorem dX6_watch_58 : decode cX6_watch 58 = .ok (.invokestatic 187, 3) := by decide +kernel
theorem dX6_watch_61 : decode cX6_watch 61 = .ok (.aload_n 0, 1) := by decide +kernel
theorem dX6_watch_62 : decode cX6_watch 62 = .ok (.getfield 19, 3) := by decide +kernel
theorem dX6_watch_65 : decode cX6_watch 65 = .ok (.iconst 0, 1) := by decide +kernel
theorem dX6_watch_66 : decode cX6_watch 66 = .ok (.iaload, 1) := by decide +kernel
theorem dX6_watch_67 : decode cX6_watch 67 = .ok (.if_icmp .lt 6, 3) := by decide +kernel
theorem dX6_watch_70 : decode cX6_watch 70 = .ok (.ldc 84, 2) := by decide +kernel
theorem dX6_watch_72 : decode cX6_watch 72 = .ok (.ireturn, 1) := by decide +kernel
theorem dX6_watch_73 : decode cX6_watch 73 = .ok (.aload_n 0, 1) := by decide +kernel
theorem dX6_watch_74 : decode cX6_watch 74 = .ok (.invokevirtual 172, 3) := by decide +kernel
theorem dX6_watch_77 : decode cX6_watch 77 = .ok (.aload_n 0, 1) := by decide +kernel
theorem dX6_watch_78 : decode cX6_watch 78 = .ok (.getfield 19, 3) := by decide +kernel
theorem dX6_watch_81 : decode cX6_watch 81 = .ok (.iconst 4, 1) := by decide +kernel
theorem dX6_watch_82 : decode cX6_watch 82 = .ok (.dup2, 1) := by decide +kernel
theorem dX6_watch_83 : decode cX6_watch 83 = .ok (.iaload, 1) := by decide +kernel
theorem dX6_watch_84 : decode cX6_watch 84 = .ok (.iconst 1, 1) := by decide +kernel
theorem dX6_watch_85 : decode cX6_watch 85 = .ok (.iload_n 1, 1) := by decide +kernel
theorem dX6_watch_86 : decode cX6_watch 86 = .ok (.ishl, 1) := by decide +kernel
theorem dX6_watch_87 : decode cX6_watch 87 = .ok (.ixor, 1) := by decide +kernel
theorem dX6_watch_88 : decode cX6_watch 88 = .ok (.iastore, 1) := by decide +kernel
theorem dX6_watch_89 : decode cX6_watch 89 = .ok (.aload_n 0, 1) := by decide +kernel
theorem dX6_watch_90 : decode cX6_watch 90 = .ok (.getfield 19, 3) := by decide +kernel
theorem dX6_watch_93 : decode cX6_watch 93 = .ok (.iconst 4, 1) := by decide +kernel
theorem dX6_watch_94 : decode cX6_watch 94 = .ok (.iaload, 1) := by decide +kernel
theorem dX6_watch_95 : decode cX6_watch 95 = .ok (.ireturn, 1) := by decide +kernel
theorem dX6_exchange_0 : decode cX6_exchange 0 = .ok (.aload_n 0, 1) := by decide +kernel
theorem dX6_exchange_1 : decode cX6_exchange 1 = .ok (.getfield 19, 3) := by decide +kernel
theorem dX6_exchange_4 : decode cX6_exchange 4 = .ok (.iload_n 1, 1) := by decide +kernel
theorem dX6_exchange_5 : decode cX6_exchange 5 = .ok (.iload_n 2, 1) := by decide +kernel
theorem dX6_exchange_6 : decode cX6_exchange 6 = .ok (.iadd, 1) := by decide +kernel
theorem dX6_exchange_7 : decode cX6_exchange 7 = .ok (.iaload, 1) := by decide +kernel
theorem dX6_exchange_8 : decode cX6_exchange 8 = .ok (.istore 4, 2) := by decide +kernel
theorem dX6_exchange_10 : decode cX6_exchange 10 = .ok (.aload_n 0, 1) := by decide +kernel
theorem dX6_exchange_11 : decode cX6_exchange 11 = .ok (.getfield 19, 3) := by decide +kernel
theorem dX6_exchange_14 : decode cX6_exchange 14 = .ok (.iload_n 1, 1) := by decide +kernel
theorem dX6_exchange_15 : decode cX6_exchange 15 = .ok (.iload_n 2, 1) := by decide +kernel
theorem dX6_exchange_16 : decode cX6_exchange 16 = .ok (.iadd, 1) := by decide +kernel
theorem dX6_exchange_17 : decode cX6_exchange 17 = .ok (.aload_n 0, 1) := by decide +kernel
theorem dX6_exchange_18 : decode cX6_exchange 18 = .ok (.getfield 19, 3) := by decide +kernel
theorem dX6_exchange_21 : decode cX6_exchange 21 = .ok (.iload_n 1, 1) := by decide +kernel
theorem dX6_exchange_22 : decode cX6_exchange 22 = .ok (.iload_n 3, 1) := by decide +kernel
theorem dX6_exchange_23 : decode cX6_exchange 23 = .ok (.iadd, 1) := by decide +kernel
theorem dX6_exchange_24 : decode cX6_exchange 24 = .ok (.iaload, 1) := by decide +kernel
theorem dX6_exchange_25 : decode cX6_exchange 25 = .ok (.iastore, 1) := by decide +kernel
theorem dX6_exchange_26 : decode cX6_exchange 26 = .ok (.aload_n 0, 1) := by decide +kernel
theorem dX6_exchange_27 : decode cX6_exchange 27 = .ok (.getfield 19, 3) := by decide +kernel
theorem dX6_exchange_30 : decode cX6_exchange 30 = .ok (.iload_n 1, 1) := by decide +kernel
theorem dX6_exchange_31 : decode cX6_exchange 31 = .ok (.iload_n 3, 1) := by decide +kernel
theorem dX6_exchange_32 : decode cX6_exchange 32 = .ok (.iadd, 1) := by decide +kernel
theorem dX6_exchange_33 : decode cX6_exchange 33 = .ok (.iload 4, 2) := by decide +kernel
theorem dX6_exchange_35 : decode cX6_exchange 35 = .ok (.iastore, 1) := by decide +kernel
theorem dX6_exchange_36 : decode cX6_exchange 36 = .ok (.return_, 1) := by decide +kernel
theorem dX6_change_0 : decode cX6_change 0 = .ok (.aload_n 0, 1) := by decide +kernel
theorem dX6_change_1 : decode cX6_change 1 = .ok (.iload_n 1, 1) := by decide +kernel
theorem dX6_change_2 : decode cX6_change 2 = .ok (.invokevirtual 178, 3) := by decide +kernel
theorem dX6_change_5 : decode cX6_change 5 = .ok (.ifCond .eq 16, 3) := by decide +kernel
theorem dX6_change_8 : decode cX6_change 8 = .ok (.aload_n 0, 1) := by decide +kernel
theorem dX6_change_9 : decode cX6_change 9 = .ok (.iload_n 2, 1) := by decide +kernel
theorem dX6_change_10 : decode cX6_change 10 = .ok (.invokevirtual 178, 3) := by decide +kernel
theorem dX6_change_13 : decode cX6_change 13 = .ok (.ifCond .eq 8, 3) := by decide +kernel
theorem dX6_change_16 : decode cX6_change 16 = .ok (.iload_n 1, 1) := by decide +kernel
theorem dX6_change_17 : decode cX6_change 17 = .ok (.iload_n 2, 1) := by decide +kernel
theorem dX6_change_18 : decode cX6_change 18 = .ok (.if_icmp .ne 6, 3) := by decide +kernel
theorem dX6_change_21 : decode cX6_change 21 = .ok (.ldc 67, 2) := by decide +kernel
theorem dX6_change_23 : decode cX6_change 23 = .ok (.ireturn, 1) := by decide +kernel
theorem dX6_change_24 : decode cX6_change 24 = .ok (.aload_n 0, 1) := by decide +kernel
theorem dX6_change_25 : decode cX6_change 25 = .ok (.invokevirtual 172, 3) := by decide +kernel
theorem dX6_change_28 : decode cX6_change 28 = .ok (.aload_n 0, 1) := by decide +kernel
theorem dX6_change_29 : decode cX6_change 29 = .ok (.bipush 17, 2) := by decide +kernel
theorem dX6_change_31 : decode cX6_change 31 = .ok (.iload_n 1, 1) := by decide +kernel
theorem dX6_change_32 : decode cX6_change 32 = .ok (.iload_n 2, 1) := by decide +kernel
theorem dX6_change_33 : decode cX6_change 33 = .ok (.invokevirtual 190, 3) := by decide +kernel
theorem dX6_change_36 : decode cX6_change 36 = .ok (.aload_n 0, 1) := by decide +kernel
theorem dX6_change_37 : decode cX6_change 37 = .ok (.bipush 23, 2) := by decide +kernel
theorem dX6_change_39 : decode cX6_change 39 = .ok (.iload_n 1, 1) := by decide +kernel
theorem dX6_change_40 : decode cX6_change 40 = .ok (.iload_n 2, 1) := by decide +kernel
theorem dX6_change_41 : decode cX6_change 41 = .ok (.invokevirtual 190, 3) := by decide +kernel
theorem dX6_change_44 : decode cX6_change 44 = .ok (.aload_n 0, 1) := by decide +kernel
theorem dX6_change_45 : decode cX6_change 45 = .ok (.bipush 35, 2) := by decide +kernel
theorem dX6_change_47 : decode cX6_change 47 = .ok (.iload_n 1, 1) := by decide +kernel
theorem dX6_change_48 : decode cX6_change 48 = .ok (.iload_n 2, 1) := by decide +kernel
theorem dX6_change_49 : decode cX6_change 49 = .ok (.invokevirtual 190, 3) := by decide +kernel
theorem dX6_change_52 : decode cX6_change 52 = .ok (.aload_n 0, 1) := by decide +kernel
theorem dX6_change_53 : decode cX6_change 53 = .ok (.iload_n 1, 1) := by decide +kernel
theorem dX6_change_54 : decode cX6_change 54 = .ok (.invokevirtual 159, 3) := by decide +kernel
theorem dX6_change_57 : decode cX6_change 57 = .ok (.ireturn, 1) := by decide +kernel
theorem dX6_saw_0 : decode cX6_saw 0 = .ok (.aload_n 0, 1) := by decide +kernel
theorem dX6_saw_1 : decode cX6_saw 1 = .ok (.iload_n 1, 1) := by decide +kernel
theorem dX6_saw_2 : decode cX6_saw 2 = .ok (.invokevirtual 178, 3) := by decide +kernel
theorem dX6_saw_5 : decode cX6_saw 5 = .ok (.ifCond .eq 15, 3) := by decide +kernel
theorem dX6_saw_8 : decode cX6_saw 8 = .ok (.iload_n 2, 1) := by decide +kernel
theorem dX6_saw_9 : decode cX6_saw 9 = .ok (.i2l, 1) := by decide +kernel
theorem dX6_saw_10 : decode cX6_saw 10 = .ok (.lconst 0, 1) := by decide +kernel
theorem dX6_saw_11 : decode cX6_saw 11 = .ok (.ldc2_w 194, 3) := by decide +kernel
theorem dX6_saw_14 : decode cX6_saw 14 = .ok (.invokestatic 57, 3) := by decide +kernel
theorem dX6_saw_17 : decode cX6_saw 17 = .ok (.ifCond .ne 6, 3) := by decide +kernel
theorem dX6_saw_20 : decode cX6_saw 20 = .ok (.ldc 67, 2) := by decide +kernel
theorem dX6_saw_22 : decode cX6_saw 22 = .ok (.ireturn, 1) := by decide +kernel
theorem dX6_saw_23 : decode cX6_saw 23 = .ok (.aload_n 0, 1) := by decide +kernel
theorem dX6_saw_24 : decode cX6_saw 24 = .ok (.invokevirtual 172, 3) := by decide +kernel
theorem dX6_saw_27 : decode cX6_saw 27 = .ok (.aload_n 0, 1) := by decide +kernel
theorem dX6_saw_28 : decode cX6_saw 28 = .ok (.getfield 19, 3) := by decide +kernel
theorem dX6_saw_31 : decode cX6_saw 31 = .ok (.bipush 17, 2) := by decide +kernel
theorem dX6_saw_33 : decode cX6_saw 33 = .ok (.iload_n 1, 1) := by decide +kernel
theorem dX6_saw_34 : decode cX6_saw 34 = .ok (.iadd, 1) := by decide +kernel
theorem dX6_saw_35 : decode cX6_saw 35 = .ok (.iaload, 1) := by decide +kernel
theorem dX6_saw_36 : decode cX6_saw 36 = .ok (.istore_n 3, 1) := by decide +kernel
theorem dX6_saw_37 : decode cX6_saw 37 = .ok (.aload_n 0, 1) := by decide +kernel
theorem dX6_saw_38 : decode cX6_saw 38 = .ok (.getfield 19, 3) := by decide +kernel
theorem dX6_saw_41 : decode cX6_saw 41 = .ok (.bipush 17, 2) := by decide +kernel
theorem dX6_saw_43 : decode cX6_saw 43 = .ok (.iload_n 1, 1) := by decide +kernel
theorem dX6_saw_44 : decode cX6_saw 44 = .ok (.iadd, 1) := by decide +kernel
theorem dX6_saw_45 : decode cX6_saw 45 = .ok (.iload_n 2, 1) := by decide +kernel
theorem dX6_saw_46 : decode cX6_saw 46 = .ok (.iastore, 1) := by decide +kernel
theorem dX6_saw_47 : decode cX6_saw 47 = .ok (.iload_n 3, 1) := by decide +kernel
theorem dX6_saw_48 : decode cX6_saw 48 = .ok (.ireturn, 1) := by decide +kernel
theorem dX6_chair_0 : decode cX6_chair 0 = .ok (.aload_n 0, 1) := by decide +kernel
theorem dX6_chair_1 : decode cX6_chair 1 = .ok (.iload_n 1, 1) := by decide +kernel
theorem dX6_chair_2 : decode cX6_chair 2 = .ok (.invokevirtual 178, 3) := by decide +kernel
theorem dX6_chair_5 : decode cX6_chair 5 = .ok (.ifCond .ne 6, 3) := by decide +kernel
theorem dX6_chair_8 : decode cX6_chair 8 = .ok (.ldc 67, 2) := by decide +kernel
theorem dX6_chair_10 : decode cX6_chair 10 = .ok (.ireturn, 1) := by decide +kernel
theorem dX6_chair_11 : decode cX6_chair 11 = .ok (.iload_n 2, 1) := by decide +kernel
theorem dX6_chair_12 : decode cX6_chair 12 = .ok (.tableswitch 139 0 8 #[52, 62, 72, 78, 84, 103, 113, 123, 129], 52) := by decide +kernel
theorem dX6_chair_64 : decode cX6_chair 64 = .ok (.aload_n 0, 1) := by decide +kernel
theorem dX6_chair_65 : decode cX6_chair 65 = .ok (.getfield 19, 3) := by decide +kernel
theorem dX6_chair_68 : decode cX6_chair 68 = .ok (.bipush 11, 2) := by decide +kernel
theorem dX6_chair_70 : decode cX6_chair 70 = .ok (.iload_n 1, 1) := by decide +kernel
theorem dX6_chair_71 : decode cX6_chair 71 = .ok (.iadd, 1) := by decide +kernel
theorem dX6_chair_72 : decode cX6_chair 72 = .ok (.iaload, 1) := by decide +kernel
theorem dX6_chair_73 : decode cX6_chair 73 = .ok (.ireturn, 1) := by decide +kernel
theorem dX6_chair_74 : decode cX6_chair 74 = .ok (.aload_n 0, 1) := by decide +kernel
theorem dX6_chair_75 : decode cX6_chair 75 = .ok (.getfield 19, 3) := by decide +kernel
theorem dX6_chair_78 : decode cX6_chair 78 = .ok (.bipush 29, 2) := by decide +kernel
theorem dX6_chair_80 : decode cX6_chair 80 = .ok (.iload_n 1, 1) := by decide +kernel
theorem dX6_chair_81 : decode cX6_chair 81 = .ok (.iadd, 1) := by decide +kernel
theorem dX6_chair_82 : decode cX6_chair 82 = .ok (.iaload, 1) := by decide +kernel
theorem dX6_chair_83 : decode cX6_chair 83 = .ok (.ireturn, 1) := by decide +kernel
theorem dX6_chair_84 : decode cX6_chair 84 = .ok (.aload_n 0, 1) := by decide +kernel
theorem dX6_chair_85 : decode cX6_chair 85 = .ok (.iload_n 1, 1) := by decide +kernel
theorem dX6_chair_86 : decode cX6_chair 86 = .ok (.invokevirtual 146, 3) := by decide +kernel
theorem dX6_chair_89 : decode cX6_chair 89 = .ok (.ireturn, 1) := by decide +kernel
theorem dX6_chair_90 : decode cX6_chair 90 = .ok (.aload_n 0, 1) := by decide +kernel
theorem dX6_chair_91 : decode cX6_chair 91 = .ok (.iload_n 1, 1) := by decide +kernel
theorem dX6_chair_92 : decode cX6_chair 92 = .ok (.invokevirtual 150, 3) := by decide +kernel
theorem dX6_chair_95 : decode cX6_chair 95 = .ok (.ireturn, 1) := by decide +kernel
theorem dX6_chair_96 : decode cX6_chair 96 = .ok (.aload_n 0, 1) := by decide +kernel
theorem dX6_chair_97 : decode cX6_chair 97 = .ok (.getfield 19, 3) := by decide +kernel
theorem dX6_chair_100 : decode cX6_chair 100 = .ok (.iconst 4, 1) := by decide +kernel
theorem dX6_chair_101 : decode cX6_chair 101 = .ok (.iaload, 1) := by decide +kernel
theorem dX6_chair_102 : decode cX6_chair 102 = .ok (.iload_n 1, 1) := by decide +kernel
theorem dX6_chair_103 : decode cX6_chair 103 = .ok (.invokestatic 162, 3) := by decide +kernel
theorem dX6_chair_106 : decode cX6_chair 106 = .ok (.ifCond .eq 7, 3) := by decide +kernel
theorem dX6_chair_109 : decode cX6_chair 109 = .ok (.iconst 1, 1) := by decide +kernel
theorem dX6_chair_110 : decode cX6_chair 110 = .ok (.goto 4, 3) := by decide +kernel
theorem dX6_chair_113 : decode cX6_chair 113 = .ok (.iconst 0, 1) := by decide +kernel
theorem dX6_chair_114 : decode cX6_chair 114 = .ok (.ireturn, 1) := by decide +kernel
theorem dX6_chair_115 : decode cX6_chair 115 = .ok (.aload_n 0, 1) := by decide +kernel
theorem dX6_chair_116 : decode cX6_chair 116 = .ok (.getfield 19, 3) := by decide +kernel
theorem dX6_chair_119 : decode cX6_chair 119 = .ok (.bipush 17, 2) := by decide +kernel
theorem dX6_chair_121 : decode cX6_chair 121 = .ok (.iload_n 1, 1) := by decide +kernel
theorem dX6_chair_122 : decode cX6_chair 122 = .ok (.iadd, 1) := by decide +kernel
theorem dX6_chair_123 : decode cX6_chair 123 = .ok (.iaload, 1) := by decide +kernel
theorem dX6_chair_124 : decode cX6_chair 124 = .ok (.ireturn, 1) := by decide +kernel
theorem dX6_chair_125 : decode cX6_chair 125 = .ok (.aload_n 0, 1) := by decide +kernel
theorem dX6_chair_126 : decode cX6_chair 126 = .ok (.getfield 19, 3) := by decide +kernel
theorem dX6_chair_129 : decode cX6_chair 129 = .ok (.bipush 23, 2) := by decide +kernel
theorem dX6_chair_131 : decode cX6_chair 131 = .ok (.iload_n 1, 1) := by decide +kernel
theorem dX6_chair_132 : decode cX6_chair 132 = .ok (.iadd, 1) := by decide +kernel
theorem dX6_chair_133 : decode cX6_chair 133 = .ok (.iaload, 1) := by decide +kernel
theorem dX6_chair_134 : decode cX6_chair 134 = .ok (.ireturn, 1) := by decide +kernel
theorem dX6_chair_135 : decode cX6_chair 135 = .ok (.aload_n 0, 1) := by decide +kernel
theorem dX6_chair_136 : decode cX6_chair 136 = .ok (.iload_n 1, 1) := by decide +kernel
theorem dX6_chair_137 : decode cX6_chair 137 = .ok (.invokevirtual 159, 3) := by decide +kernel
theorem dX6_chair_140 : decode cX6_chair 140 = .ok (.ireturn, 1) := by decide +kernel
theorem dX6_chair_141 : decode cX6_chair 141 = .ok (.aload_n 0, 1) := by decide +kernel
theorem dX6_chair_142 : decode cX6_chair 142 = .ok (.getfield 19, 3) := by decide +kernel
theorem dX6_chair_145 : decode cX6_chair 145 = .ok (.bipush 35, 2) := by decide +kernel
theorem dX6_chair_147 : decode cX6_chair 147 = .ok (.iload_n 1, 1) := by decide +kernel
theorem dX6_chair_148 : decode cX6_chair 148 = .ok (.iadd, 1) := by decide +kernel
theorem dX6_chair_149 : decode cX6_chair 149 = .ok (.iaload, 1) := by decide +kernel
theorem dX6_chair_150 : decode cX6_chair 150 = .ok (.ireturn, 1) := by decide +kernel
theorem dX6_chair_151 : decode cX6_chair 151 = .ok (.ldc 67, 2) := by decide +kernel
theorem dX6_chair_153 : decode cX6_chair 153 = .ok (.ireturn, 1) := by decide +kernel
theorem dX6_ranked_0 : decode cX6_ranked 0 = .ok (.iload_n 1, 1) := by decide +kernel
theorem dX6_ranked_1 : decode cX6_ranked 1 = .ok (.i2l, 1) := by decide +kernel
theorem dX6_ranked_2 : decode cX6_ranked 2 = .ok (.lconst 0, 1) := by decide +kernel
theorem dX6_ranked_3 : decode cX6_ranked 3 = .ok (.aload_n 0, 1) := by decide +kernel
theorem dX6_ranked_4 : decode cX6_ranked 4 = .ok (.getfield 19, 3) := by decide +kernel
theorem dX6_ranked_7 : decode cX6_ranked 7 = .ok (.iconst 2, 1) := by decide +kernel
theorem dX6_ranked_8 : decode cX6_ranked 8 = .ok (.iaload, 1) := by decide +kernel
theorem dX6_ranked_9 : decode cX6_ranked 9 = .ok (.iconst 1, 1) := by decide +kernel
theorem dX6_ranked_10 : decode cX6_ranked 10 = .ok (.isub, 1) := by decide +kernel
theorem dX6_ranked_11 : decode cX6_ranked 11 = .ok (.i2l, 1) := by decide +kernel
theorem dX6_ranked_12 : decode cX6_ranked 12 = .ok (.invokestatic 57, 3) := by decide +kernel
theorem dX6_ranked_15 : decode cX6_ranked 15 = .ok (.ifCond .eq 11, 3) := by decide +kernel
theorem dX6_ranked_18 : decode cX6_ranked 18 = .ok (.aload_n 0, 1) := by decide +kernel
theorem dX6_ranked_19 : decode cX6_ranked 19 = .ok (.iload_n 1, 1) := by decide +kernel
theorem dX6_ranked_20 : decode cX6_ranked 20 = .ok (.invokevirtual 153, 3) := by decide +kernel
theorem dX6_ranked_23 : decode cX6_ranked 23 = .ok (.goto 5, 3) := by decide +kernel
theorem dX6_ranked_26 : decode cX6_ranked 26 = .ok (.ldc 67, 2) := by decide +kernel
theorem dX6_ranked_28 : decode cX6_ranked 28 = .ok (.ireturn, 1) := by decide +kernel
theorem dX6_putAside_0 : decode cX6_putAside 0 = .ok (.iconst 0, 1) := by decide +kernel
theorem dX6_putAside_1 : decode cX6_putAside 1 = .ok (.istore_n 1, 1) := by decide +kernel
theorem dX6_putAside_2 : decode cX6_putAside 2 = .ok (.iload_n 1, 1) := by decide +kernel
theorem dX6_putAside_3 : decode cX6_putAside 3 = .ok (.bipush 41, 2) := by decide +kernel
theorem dX6_putAside_5 : decode cX6_putAside 5 = .ok (.if_icmp .ge 21, 3) := by decide +kernel
theorem dX6_putAside_8 : decode cX6_putAside 8 = .ok (.aload_n 0, 1) := by decide +kernel
theorem dX6_putAside_9 : decode cX6_putAside 9 = .ok (.getfield 37, 3) := by decide +kernel
theorem dX6_putAside_12 : decode cX6_putAside 12 = .ok (.iload_n 1, 1) := by decide +kernel
theorem dX6_putAside_13 : decode cX6_putAside 13 = .ok (.aload_n 0, 1) := by decide +kernel
theorem dX6_putAside_14 : decode cX6_putAside 14 = .ok (.getfield 19, 3) := by decide +kernel
theorem dX6_putAside_17 : decode cX6_putAside 17 = .ok (.iload_n 1, 1) := by decide +kernel
theorem dX6_putAside_18 : decode cX6_putAside 18 = .ok (.iaload, 1) := by decide +kernel
theorem dX6_putAside_19 : decode cX6_putAside 19 = .ok (.iastore, 1) := by decide +kernel
theorem dX6_putAside_20 : decode cX6_putAside 20 = .ok (.iinc 1 1, 3) := by decide +kernel
theorem dX6_putAside_23 : decode cX6_putAside 23 = .ok (.goto (-21), 3) := by decide +kernel
theorem dX6_putAside_26 : decode cX6_putAside 26 = .ok (.return_, 1) := by decide +kernel
theorem dX6_takeBack_0 : decode cX6_takeBack 0 = .ok (.iconst 0, 1) := by decide +kernel
theorem dX6_takeBack_1 : decode cX6_takeBack 1 = .ok (.istore_n 1, 1) := by decide +kernel
theorem dX6_takeBack_2 : decode cX6_takeBack 2 = .ok (.iload_n 1, 1) := by decide +kernel
theorem dX6_takeBack_3 : decode cX6_takeBack 3 = .ok (.bipush 41, 2) := by decide +kernel
theorem dX6_takeBack_5 : decode cX6_takeBack 5 = .ok (.if_icmp .ge 21, 3) := by decide +kernel
theorem dX6_takeBack_8 : decode cX6_takeBack 8 = .ok (.aload_n 0, 1) := by decide +kernel
theorem dX6_takeBack_9 : decode cX6_takeBack 9 = .ok (.getfield 19, 3) := by decide +kernel
theorem dX6_takeBack_12 : decode cX6_takeBack 12 = .ok (.iload_n 1, 1) := by decide +kernel
theorem dX6_takeBack_13 : decode cX6_takeBack 13 = .ok (.aload_n 0, 1) := by decide +kernel
theorem dX6_takeBack_14 : decode cX6_takeBack 14 = .ok (.getfield 37, 3) := by decide +kernel
theorem dX6_takeBack_17 : decode cX6_takeBack 17 = .ok (.iload_n 1, 1) := by decide +kernel
theorem dX6_takeBack_18 : decode cX6_takeBack 18 = .ok (.iaload, 1) := by decide +kernel
theorem dX6_takeBack_19 : decode cX6_takeBack 19 = .ok (.iastore, 1) := by decide +kernel
theorem dX6_takeBack_20 : decode cX6_takeBack 20 = .ok (.iinc 1 1, 3) := by decide +kernel
theorem dX6_takeBack_23 : decode cX6_takeBack 23 = .ok (.goto (-21), 3) := by decide +kernel
theorem dX6_takeBack_26 : decode cX6_takeBack 26 = .ok (.return_, 1) := by decide +kernel
theorem dX6_goOn_0 : decode cX6_goOn 0 = .ok (.iconst 0, 1) := by decide +kernel
theorem dX6_goOn_1 : decode cX6_goOn 1 = .ok (.istore_n 2, 1) := by decide +kernel
theorem dX6_goOn_2 : decode cX6_goOn 2 = .ok (.iload_n 2, 1) := by decide +kernel
theorem dX6_goOn_3 : decode cX6_goOn 3 = .ok (.iload_n 1, 1) := by decide +kernel
theorem dX6_goOn_4 : decode cX6_goOn 4 = .ok (.if_icmp .ge 13, 3) := by decide +kernel
theorem dX6_goOn_7 : decode cX6_goOn 7 = .ok (.aload_n 0, 1) := by decide +kernel
theorem dX6_goOn_8 : decode cX6_goOn 8 = .ok (.invokevirtual 175, 3) := by decide +kernel
theorem dX6_goOn_11 : decode cX6_goOn 11 = .ok (.iinc 2 1, 3) := by decide +kernel
theorem dX6_goOn_14 : decode cX6_goOn 14 = .ok (.goto (-12), 3) := by decide +kernel
theorem dX6_goOn_17 : decode cX6_goOn 17 = .ok (.return_, 1) := by decide +kernel
theorem dX6_isWhat_0 : decode cX6_isWhat 0 = .ok (.iload_n 0, 1) := by decide +kernel
theorem dX6_isWhat_1 : decode cX6_isWhat 1 = .ok (.i2l, 1) := by decide +kernel
theorem dX6_isWhat_2 : decode cX6_isWhat 2 = .ok (.lconst 0, 1) := by decide +kernel
theorem dX6_isWhat_3 : decode cX6_isWhat 3 = .ok (.lconst 1, 1) := by decide +kernel
theorem dX6_isWhat_4 : decode cX6_isWhat 4 = .ok (.invokestatic 57, 3) := by decide +kernel
theorem dX6_isWhat_7 : decode cX6_isWhat 7 = .ok (.ireturn, 1) := by decide +kernel
theorem dX6_rankBy_0 : decode cX6_rankBy 0 = .ok (.aload_n 0, 1) := by decide +kernel
theorem dX6_rankBy_1 : decode cX6_rankBy 1 = .ok (.iload_n 2, 1) := by decide +kernel
theorem dX6_rankBy_2 : decode cX6_rankBy 2 = .ok (.invokevirtual 196, 3) := by decide +kernel
theorem dX6_rankBy_5 : decode cX6_rankBy 5 = .ok (.aload_n 0, 1) := by decide +kernel
theorem dX6_rankBy_6 : decode cX6_rankBy 6 = .ok (.iload_n 1, 1) := by decide +kernel
theorem dX6_rankBy_7 : decode cX6_rankBy 7 = .ok (.invokevirtual 150, 3) := by decide +kernel
theorem dX6_rankBy_10 : decode cX6_rankBy 10 = .ok (.istore_n 3, 1) := by decide +kernel
theorem dX6_rankBy_11 : decode cX6_rankBy 11 = .ok (.aload_n 0, 1) := by decide +kernel
theorem dX6_rankBy_12 : decode cX6_rankBy 12 = .ok (.invokevirtual 199, 3) := by decide +kernel
theorem dX6_rankBy_15 : decode cX6_rankBy 15 = .ok (.iload_n 3, 1) := by decide +kernel
theorem dX6_rankBy_16 : decode cX6_rankBy 16 = .ok (.ireturn, 1) := by decide +kernel
theorem dX6_ahead_0 : decode cX6_ahead 0 = .ok (.aload_n 0, 1) := by decide +kernel
theorem dX6_ahead_1 : decode cX6_ahead 1 = .ok (.iload_n 1, 1) := by decide +kernel
theorem dX6_ahead_2 : decode cX6_ahead 2 = .ok (.invokevirtual 178, 3) := by decide +kernel
theorem dX6_ahead_5 : decode cX6_ahead 5 = .ok (.ifCond .eq 27, 3) := by decide +kernel
theorem dX6_ahead_8 : decode cX6_ahead 8 = .ok (.iload_n 2, 1) := by decide +kernel
theorem dX6_ahead_9 : decode cX6_ahead 9 = .ok (.i2l, 1) := by decide +kernel
theorem dX6_ahead_10 : decode cX6_ahead 10 = .ok (.lconst 0, 1) := by decide +kernel
theorem dX6_ahead_11 : decode cX6_ahead 11 = .ok (.ldc2_w 202, 3) := by decide +kernel
theorem dX6_ahead_14 : decode cX6_ahead 14 = .ok (.invokestatic 57, 3) := by decide +kernel
theorem dX6_ahead_17 : decode cX6_ahead 17 = .ok (.ifCond .eq 15, 3) := by decide +kernel
theorem dX6_ahead_20 : decode cX6_ahead 20 = .ok (.iload_n 3, 1) := by decide +kernel
theorem dX6_ahead_21 : decode cX6_ahead 21 = .ok (.i2l, 1) := by decide +kernel
theorem dX6_ahead_22 : decode cX6_ahead 22 = .ok (.lconst 0, 1) := by decide +kernel
theorem dX6_ahead_23 : decode cX6_ahead 23 = .ok (.ldc2_w 65, 3) := by decide +kernel
theorem dX6_ahead_26 : decode cX6_ahead 26 = .ok (.invokestatic 57, 3) := by decide +kernel
theorem dX6_ahead_29 : decode cX6_ahead 29 = .ok (.ifCond .ne 6, 3) := by decide +kernel
theorem dX6_ahead_32 : decode cX6_ahead 32 = .ok (.ldc 67, 2) := by decide +kernel
theorem dX6_ahead_34 : decode cX6_ahead 34 = .ok (.ireturn, 1) := by decide +kernel
theorem dX6_ahead_35 : decode cX6_ahead 35 = .ok (.aload_n 0, 1) := by decide +kernel
theorem dX6_ahead_36 : decode cX6_ahead 36 = .ok (.invokevirtual 204, 3) := by decide +kernel
theorem dX6_ahead_39 : decode cX6_ahead 39 = .ok (.aload_n 0, 1) := by decide +kernel
theorem dX6_ahead_40 : decode cX6_ahead 40 = .ok (.iload_n 2, 1) := by decide +kernel
theorem dX6_ahead_41 : decode cX6_ahead 41 = .ok (.invokevirtual 196, 3) := by decide +kernel
theorem dX6_ahead_44 : decode cX6_ahead 44 = .ok (.iload_n 3, 1) := by decide +kernel
theorem dX6_ahead_45 : decode cX6_ahead 45 = .ok (.ifCond .ne 11, 3) := by decide +kernel
theorem dX6_ahead_48 : decode cX6_ahead 48 = .ok (.aload_n 0, 1) := by decide +kernel
theorem dX6_ahead_49 : decode cX6_ahead 49 = .ok (.iload_n 1, 1) := by decide +kernel
theorem dX6_ahead_50 : decode cX6_ahead 50 = .ok (.invokevirtual 146, 3) := by decide +kernel
theorem dX6_ahead_53 : decode cX6_ahead 53 = .ok (.goto 25, 3) := by decide +kernel
theorem dX6_ahead_56 : decode cX6_ahead 56 = .ok (.iload_n 3, 1) := by decide +kernel
theorem dX6_ahead_57 : decode cX6_ahead 57 = .ok (.iconst 1, 1) := by decide +kernel
theorem dX6_ahead_58 : decode cX6_ahead 58 = .ok (.if_icmp .ne 11, 3) := by decide +kernel
theorem dX6_ahead_61 : decode cX6_ahead 61 = .ok (.aload_n 0, 1) := by decide +kernel
theorem dX6_ahead_62 : decode cX6_ahead 62 = .ok (.iload_n 1, 1) := by decide +kernel
theorem dX6_ahead_63 : decode cX6_ahead 63 = .ok (.invokevirtual 150, 3) := by decide +kernel
theorem dX6_ahead_66 : decode cX6_ahead 66 = .ok (.goto 12, 3) := by decide +kernel
theorem dX6_ahead_69 : decode cX6_ahead 69 = .ok (.aload_n 0, 1) := by decide +kernel
theorem dX6_ahead_70 : decode cX6_ahead 70 = .ok (.getfield 19, 3) := by decide +kernel
theorem dX6_ahead_73 : decode cX6_ahead 73 = .ok (.bipush 11, 2) := by decide +kernel
theorem dX6_ahead_75 : decode cX6_ahead 75 = .ok (.iload_n 1, 1) := by decide +kernel
theorem dX6_ahead_76 : decode cX6_ahead 76 = .ok (.iadd, 1) := by decide +kernel
theorem dX6_ahead_77 : decode cX6_ahead 77 = .ok (.iaload, 1) := by decide +kernel
theorem dX6_ahead_78 : decode cX6_ahead 78 = .ok (.istore 4, 2) := by decide +kernel
theorem dX6_ahead_80 : decode cX6_ahead 80 = .ok (.aload_n 0, 1) := by decide +kernel
theorem dX6_ahead_81 : decode cX6_ahead 81 = .ok (.invokevirtual 199, 3) := by decide +kernel
theorem dX6_ahead_84 : decode cX6_ahead 84 = .ok (.iload 4, 2) := by decide +kernel
theorem dX6_ahead_86 : decode cX6_ahead 86 = .ok (.ireturn, 1) := by decide +kernel
theorem dX6_minister_0 : decode cX6_minister 0 = .ok (.aload_n 0, 1) := by decide +kernel
theorem dX6_minister_1 : decode cX6_minister 1 = .ok (.getfield 135, 3) := by decide +kernel
theorem dX6_minister_4 : decode cX6_minister 4 = .ok (.ifCond .ne 6, 3) := by decide +kernel
theorem dX6_minister_7 : decode cX6_minister 7 = .ok (.ldc 169, 2) := by decide +kernel
theorem dX6_minister_9 : decode cX6_minister 9 = .ok (.ireturn, 1) := by decide +kernel
theorem dX6_minister_10 : decode cX6_minister 10 = .ok (.iload_n 1, 1) := by decide +kernel
theorem dX6_minister_11 : decode cX6_minister 11 = .ok (.i2l, 1) := by decide +kernel
theorem dX6_minister_12 : decode cX6_minister 12 = .ok (.lconst 0, 1) := by decide +kernel
theorem dX6_minister_13 : decode cX6_minister 13 = .ok (.ldc2_w 202, 3) := by decide +kernel
theorem dX6_minister_16 : decode cX6_minister 16 = .ok (.invokestatic 57, 3) := by decide +kernel
theorem dX6_minister_19 : decode cX6_minister 19 = .ok (.ifCond .ne 6, 3) := by decide +kernel
theorem dX6_minister_22 : decode cX6_minister 22 = .ok (.ldc 67, 2) := by decide +kernel
theorem dX6_minister_24 : decode cX6_minister 24 = .ok (.ireturn, 1) := by decide +kernel
theorem dX6_minister_25 : decode cX6_minister 25 = .ok (.aload_n 0, 1) := by decide +kernel
theorem dX6_minister_26 : decode cX6_minister 26 = .ok (.invokevirtual 204, 3) := by decide +kernel
theorem dX6_minister_29 : decode cX6_minister 29 = .ok (.aload_n 0, 1) := by decide +kernel
theorem dX6_minister_30 : decode cX6_minister 30 = .ok (.iload_n 1, 1) := by decide +kernel
theorem dX6_minister_31 : decode cX6_minister 31 = .ok (.invokevirtual 196, 3) := by decide +kernel
theorem dX6_minister_34 : decode cX6_minister 34 = .ok (.aload_n 0, 1) := by decide +kernel
theorem dX6_minister_35 : decode cX6_minister 35 = .ok (.iconst 0, 1) := by decide +kernel
theorem dX6_minister_36 : decode cX6_minister 36 = .ok (.invokevirtual 153, 3) := by decide +kernel
theorem dX6_minister_39 : decode cX6_minister 39 = .ok (.istore_n 2, 1) := by decide +kernel
theorem dX6_minister_40 : decode cX6_minister 40 = .ok (.aload_n 0, 1) := by decide +kernel
theorem dX6_minister_41 : decode cX6_minister 41 = .ok (.invokevirtual 199, 3) := by decide +kernel
theorem dX6_minister_44 : decode cX6_minister 44 = .ok (.iload_n 2, 1) := by decide +kernel
theorem dX6_minister_45 : decode cX6_minister 45 = .ok (.ireturn, 1) := by decide +kernel
theorem dX6_floor_0 : decode cX6_floor 0 = .ok (.aload_n 0, 1) := by decide +kernel
theorem dX6_floor_1 : decode cX6_floor 1 = .ok (.iload_n 1, 1) := by decide +kernel
theorem dX6_floor_2 : decode cX6_floor 2 = .ok (.invokevirtual 178, 3) := by decide +kernel
theorem dX6_floor_5 : decode cX6_floor 5 = .ok (.ifCond .ne 6, 3) := by decide +kernel
theorem dX6_floor_8 : decode cX6_floor 8 = .ok (.ldc 67, 2) := by decide +kernel
theorem dX6_floor_10 : decode cX6_floor 10 = .ok (.ireturn, 1) := by decide +kernel
theorem dX6_floor_11 : decode cX6_floor 11 = .ok (.aload_n 0, 1) := by decide +kernel
theorem dX6_floor_12 : decode cX6_floor 12 = .ok (.invokevirtual 204, 3) := by decide +kernel
theorem dX6_floor_15 : decode cX6_floor 15 = .ok (.iconst 0, 1) := by decide +kernel
theorem dX6_floor_16 : decode cX6_floor 16 = .ok (.istore_n 2, 1) := by decide +kernel
theorem dX6_floor_17 : decode cX6_floor 17 = .ok (.aload_n 0, 1) := by decide +kernel
theorem dX6_floor_18 : decode cX6_floor 18 = .ok (.getfield 19, 3) := by decide +kernel
theorem dX6_floor_21 : decode cX6_floor 21 = .ok (.bipush 11, 2) := by decide +kernel
theorem dX6_floor_23 : decode cX6_floor 23 = .ok (.iload_n 1, 1) := by decide +kernel
theorem dX6_floor_24 : decode cX6_floor 24 = .ok (.iadd, 1) := by decide +kernel
theorem dX6_floor_25 : decode cX6_floor 25 = .ok (.iaload, 1) := by decide +kernel
theorem dX6_floor_26 : decode cX6_floor 26 = .ok (.ifCond .le 19, 3) := by decide +kernel
theorem dX6_floor_29 : decode cX6_floor 29 = .ok (.iload_n 2, 1) := by decide +kernel
theorem dX6_floor_30 : decode cX6_floor 30 = .ok (.bipush 60, 2) := by decide +kernel
theorem dX6_floor_32 : decode cX6_floor 32 = .ok (.if_icmp .ge 13, 3) := by decide +kernel
theorem dX6_floor_35 : decode cX6_floor 35 = .ok (.aload_n 0, 1) := by decide +kernel
theorem dX6_floor_36 : decode cX6_floor 36 = .ok (.invokevirtual 175, 3) := by decide +kernel
theorem dX6_floor_39 : decode cX6_floor 39 = .ok (.iinc 2 1, 3) := by decide +kernel
theorem dX6_floor_42 : decode cX6_floor 42 = .ok (.goto (-25), 3) := by decide +kernel
theorem dX6_floor_45 : decode cX6_floor 45 = .ok (.aload_n 0, 1) := by decide +kernel
theorem dX6_floor_46 : decode cX6_floor 46 = .ok (.getfield 19, 3) := by decide +kernel
theorem dX6_floor_49 : decode cX6_floor 49 = .ok (.bipush 11, 2) := by decide +kernel
theorem dX6_floor_51 : decode cX6_floor 51 = .ok (.iload_n 1, 1) := by decide +kernel
theorem dX6_floor_52 : decode cX6_floor 52 = .ok (.iadd, 1) := by decide +kernel
theorem dX6_floor_53 : decode cX6_floor 53 = .ok (.iaload, 1) := by decide +kernel
theorem dX6_floor_54 : decode cX6_floor 54 = .ok (.ifCond .ne 7, 3) := by decide +kernel
theorem dX6_floor_57 : decode cX6_floor 57 = .ok (.iconst 1, 1) := by decide +kernel
theorem dX6_floor_58 : decode cX6_floor 58 = .ok (.goto 4, 3) := by decide +kernel
theorem dX6_floor_61 : decode cX6_floor 61 = .ok (.iconst 0, 1) := by decide +kernel
theorem dX6_floor_62 : decode cX6_floor 62 = .ok (.istore_n 3, 1) := by decide +kernel
theorem dX6_floor_63 : decode cX6_floor 63 = .ok (.aload_n 0, 1) := by decide +kernel
theorem dX6_floor_64 : decode cX6_floor 64 = .ok (.invokevirtual 199, 3) := by decide +kernel
theorem dX6_floor_67 : decode cX6_floor 67 = .ok (.iload_n 3, 1) := by decide +kernel
theorem dX6_floor_68 : decode cX6_floor 68 = .ok (.ifCond .eq 7, 3) := by decide +kernel
theorem dX6_floor_71 : decode cX6_floor 71 = .ok (.iload_n 2, 1) := by decide +kernel
theorem dX6_floor_72 : decode cX6_floor 72 = .ok (.goto 5, 3) := by decide +kernel
theorem dX6_floor_75 : decode cX6_floor 75 = .ok (.ldc 149, 2) := by decide +kernel
theorem dX6_floor_77 : decode cX6_floor 77 = .ok (.ireturn, 1) := by decide +kernel
theorem dX6_rises_0 : decode cX6_rises 0 = .ok (.aload_n 0, 1) := by decide +kernel
theorem dX6_rises_1 : decode cX6_rises 1 = .ok (.iload_n 1, 1) := by decide +kernel
theorem dX6_rises_2 : decode cX6_rises 2 = .ok (.invokevirtual 178, 3) := by decide +kernel
theorem dX6_rises_5 : decode cX6_rises 5 = .ok (.ifCond .eq 15, 3) := by decide +kernel
theorem dX6_rises_8 : decode cX6_rises 8 = .ok (.iload_n 2, 1) := by decide +kernel
theorem dX6_rises_9 : decode cX6_rises 9 = .ok (.i2l, 1) := by decide +kernel
theorem dX6_rises_10 : decode cX6_rises 10 = .ok (.lconst 0, 1) := by decide +kernel
theorem dX6_rises_11 : decode cX6_rises 11 = .ok (.ldc2_w 207, 3) := by decide +kernel
theorem dX6_rises_14 : decode cX6_rises 14 = .ok (.invokestatic 57, 3) := by decide +kernel
theorem dX6_rises_17 : decode cX6_rises 17 = .ok (.ifCond .ne 6, 3) := by decide +kernel
theorem dX6_rises_20 : decode cX6_rises 20 = .ok (.ldc 67, 2) := by decide +kernel
theorem dX6_rises_22 : decode cX6_rises 22 = .ok (.ireturn, 1) := by decide +kernel
theorem dX6_rises_23 : decode cX6_rises 23 = .ok (.aload_n 0, 1) := by decide +kernel
theorem dX6_rises_24 : decode cX6_rises 24 = .ok (.invokevirtual 204, 3) := by decide +kernel
theorem dX6_rises_27 : decode cX6_rises 27 = .ok (.iconst 0, 1) := by decide +kernel
theorem dX6_rises_28 : decode cX6_rises 28 = .ok (.istore_n 3, 1) := by decide +kernel
theorem dX6_rises_29 : decode cX6_rises 29 = .ok (.aload_n 0, 1) := by decide +kernel
theorem dX6_rises_30 : decode cX6_rises 30 = .ok (.iload_n 1, 1) := by decide +kernel
theorem dX6_rises_31 : decode cX6_rises 31 = .ok (.invokevirtual 150, 3) := by decide +kernel
theorem dX6_rises_34 : decode cX6_rises 34 = .ok (.iload_n 2, 1) := by decide +kernel
theorem dX6_rises_35 : decode cX6_rises 35 = .ok (.if_icmp .le 19, 3) := by decide +kernel
theorem dX6_rises_38 : decode cX6_rises 38 = .ok (.iload_n 3, 1) := by decide +kernel
theorem dX6_rises_39 : decode cX6_rises 39 = .ok (.bipush 60, 2) := by decide +kernel
theorem dX6_rises_41 : decode cX6_rises 41 = .ok (.if_icmp .ge 13, 3) := by decide +kernel
theorem dX6_rises_44 : decode cX6_rises 44 = .ok (.aload_n 0, 1) := by decide +kernel
theorem dX6_rises_45 : decode cX6_rises 45 = .ok (.invokevirtual 175, 3) := by decide +kernel
theorem dX6_rises_48 : decode cX6_rises 48 = .ok (.iinc 3 1, 3) := by decide +kernel
theorem dX6_rises_51 : decode cX6_rises 51 = .ok (.goto (-22), 3) := by decide +kernel
theorem dX6_rises_54 : decode cX6_rises 54 = .ok (.aload_n 0, 1) := by decide +kernel
theorem dX6_rises_55 : decode cX6_rises 55 = .ok (.iload_n 1, 1) := by decide +kernel
theorem dX6_rises_56 : decode cX6_rises 56 = .ok (.invokevirtual 150, 3) := by decide +kernel
theorem dX6_rises_59 : decode cX6_rises 59 = .ok (.iload_n 2, 1) := by decide +kernel
theorem dX6_rises_60 : decode cX6_rises 60 = .ok (.if_icmp .gt 7, 3) := by decide +kernel
theorem dX6_rises_63 : decode cX6_rises 63 = .ok (.iconst 1, 1) := by decide +kernel
theorem dX6_rises_64 : decode cX6_rises 64 = .ok (.goto 4, 3) := by decide +kernel
theorem dX6_rises_67 : decode cX6_rises 67 = .ok (.iconst 0, 1) := by decide +kernel
theorem dX6_rises_68 : decode cX6_rises 68 = .ok (.istore 4, 2) := by decide +kernel
theorem dX6_rises_70 : decode cX6_rises 70 = .ok (.aload_n 0, 1) := by decide +kernel
theorem dX6_rises_71 : decode cX6_rises 71 = .ok (.invokevirtual 199, 3) := by decide +kernel
theorem dX6_rises_74 : decode cX6_rises 74 = .ok (.iload 4, 2) := by decide +kernel
theorem dX6_rises_76 : decode cX6_rises 76 = .ok (.ifCond .eq 7, 3) := by decide +kernel
theorem dX6_rises_79 : decode cX6_rises 79 = .ok (.iload_n 3, 1) := by decide +kernel
theorem dX6_rises_80 : decode cX6_rises 80 = .ok (.goto 5, 3) := by decide +kernel
theorem dX6_rises_83 : decode cX6_rises 83 = .ok (.ldc 149, 2) := by decide +kernel
theorem dX6_rises_85 : decode cX6_rises 85 = .ok (.ireturn, 1) := by decide +kernel
theorem dX6_calm_0 : decode cX6_calm 0 = .ok (.aload_n 0, 1) := by decide +kernel
theorem dX6_calm_1 : decode cX6_calm 1 = .ok (.getfield 135, 3) := by decide +kernel
theorem dX6_calm_4 : decode cX6_calm 4 = .ok (.ifCond .ne 6, 3) := by decide +kernel
theorem dX6_calm_7 : decode cX6_calm 7 = .ok (.ldc 169, 2) := by decide +kernel
theorem dX6_calm_9 : decode cX6_calm 9 = .ok (.ireturn, 1) := by decide +kernel
theorem dX6_calm_10 : decode cX6_calm 10 = .ok (.aload_n 0, 1) := by decide +kernel
theorem dX6_calm_11 : decode cX6_calm 11 = .ok (.invokevirtual 204, 3) := by decide +kernel
theorem dX6_calm_14 : decode cX6_calm 14 = .ok (.ldc 149, 2) := by decide +kernel
theorem dX6_calm_16 : decode cX6_calm 16 = .ok (.istore_n 1, 1) := by decide +kernel
theorem dX6_calm_17 : decode cX6_calm 17 = .ok (.iconst 0, 1) := by decide +kernel
theorem dX6_calm_18 : decode cX6_calm 18 = .ok (.istore_n 2, 1) := by decide +kernel
theorem dX6_calm_19 : decode cX6_calm 19 = .ok (.iload_n 2, 1) := by decide +kernel
theorem dX6_calm_20 : decode cX6_calm 20 = .ok (.bipush 60, 2) := by decide +kernel
theorem dX6_calm_22 : decode cX6_calm 22 = .ok (.if_icmp .gt 40, 3) := by decide +kernel
theorem dX6_calm_25 : decode cX6_calm 25 = .ok (.iload_n 1, 1) := by decide +kernel
theorem dX6_calm_26 : decode cX6_calm 26 = .ok (.ifCond .ge 36, 3) := by decide +kernel
theorem dX6_calm_29 : decode cX6_calm 29 = .ok (.aload_n 0, 1) := by decide +kernel
theorem dX6_calm_30 : decode cX6_calm 30 = .ok (.bipush 11, 2) := by decide +kernel
theorem dX6_calm_32 : decode cX6_calm 32 = .ok (.invokevirtual 209, 3) := by decide +kernel
theorem dX6_calm_35 : decode cX6_calm 35 = .ok (.istore_n 3, 1) := by decide +kernel
theorem dX6_calm_36 : decode cX6_calm 36 = .ok (.aload_n 0, 1) := by decide +kernel
theorem dX6_calm_37 : decode cX6_calm 37 = .ok (.invokevirtual 175, 3) := by decide +kernel
theorem dX6_calm_40 : decode cX6_calm 40 = .ok (.aload_n 0, 1) := by decide +kernel
theorem dX6_calm_41 : decode cX6_calm 41 = .ok (.bipush 11, 2) := by decide +kernel
theorem dX6_calm_43 : decode cX6_calm 43 = .ok (.invokevirtual 209, 3) := by decide +kernel
theorem dX6_calm_46 : decode cX6_calm 46 = .ok (.iload_n 3, 1) := by decide +kernel
theorem dX6_calm_47 : decode cX6_calm 47 = .ok (.if_icmp .ne 7, 3) := by decide +kernel
theorem dX6_calm_50 : decode cX6_calm 50 = .ok (.iload_n 2, 1) := by decide +kernel
theorem dX6_calm_51 : decode cX6_calm 51 = .ok (.goto 4, 3) := by decide +kernel
theorem dX6_calm_54 : decode cX6_calm 54 = .ok (.iload_n 1, 1) := by decide +kernel
theorem dX6_calm_55 : decode cX6_calm 55 = .ok (.istore_n 1, 1) := by decide +kernel
theorem dX6_calm_56 : decode cX6_calm 56 = .ok (.iinc 2 1, 3) := by decide +kernel
theorem dX6_calm_59 : decode cX6_calm 59 = .ok (.goto (-40), 3) := by decide +kernel
theorem dX6_calm_62 : decode cX6_calm 62 = .ok (.aload_n 0, 1) := by decide +kernel
theorem dX6_calm_63 : decode cX6_calm 63 = .ok (.invokevirtual 199, 3) := by decide +kernel
theorem dX6_calm_66 : decode cX6_calm 66 = .ok (.iload_n 1, 1) := by decide +kernel
theorem dX6_calm_67 : decode cX6_calm 67 = .ok (.ireturn, 1) := by decide +kernel
theorem dX6_cushionFor_0 : decode cX6_cushionFor 0 = .ok (.aload_n 0, 1) := by decide +kernel
theorem dX6_cushionFor_1 : decode cX6_cushionFor 1 = .ok (.iload_n 1, 1) := by decide +kernel
theorem dX6_cushionFor_2 : decode cX6_cushionFor 2 = .ok (.invokevirtual 178, 3) := by decide +kernel
theorem dX6_cushionFor_5 : decode cX6_cushionFor 5 = .ok (.ifCond .eq 27, 3) := by decide +kernel
theorem dX6_cushionFor_8 : decode cX6_cushionFor 8 = .ok (.iload_n 2, 1) := by decide +kernel
theorem dX6_cushionFor_9 : decode cX6_cushionFor 9 = .ok (.i2l, 1) := by decide +kernel
theorem dX6_cushionFor_10 : decode cX6_cushionFor 10 = .ok (.lconst 0, 1) := by decide +kernel
theorem dX6_cushionFor_11 : decode cX6_cushionFor 11 = .ok (.ldc2_w 207, 3) := by decide +kernel
theorem dX6_cushionFor_14 : decode cX6_cushionFor 14 = .ok (.invokestatic 57, 3) := by decide +kernel
theorem dX6_cushionFor_17 : decode cX6_cushionFor 17 = .ok (.ifCond .eq 15, 3) := by decide +kernel
theorem dX6_cushionFor_20 : decode cX6_cushionFor 20 = .ok (.iload_n 3, 1) := by decide +kernel
theorem dX6_cushionFor_21 : decode cX6_cushionFor 21 = .ok (.i2l, 1) := by decide +kernel
theorem dX6_cushionFor_22 : decode cX6_cushionFor 22 = .ok (.lconst 0, 1) := by decide +kernel
theorem dX6_cushionFor_23 : decode cX6_cushionFor 23 = .ok (.ldc2_w 212, 3) := by decide +kernel
theorem dX6_cushionFor_26 : decode cX6_cushionFor 26 = .ok (.invokestatic 57, 3) := by decide +kernel
theorem dX6_cushionFor_29 : decode cX6_cushionFor 29 = .ok (.ifCond .ne 6, 3) := by decide +kernel
theorem dX6_cushionFor_32 : decode cX6_cushionFor 32 = .ok (.ldc 67, 2) := by decide +kernel
theorem dX6_cushionFor_34 : decode cX6_cushionFor 34 = .ok (.ireturn, 1) := by decide +kernel
theorem dX6_cushionFor_35 : decode cX6_cushionFor 35 = .ok (.aload_n 0, 1) := by decide +kernel
theorem dX6_cushionFor_36 : decode cX6_cushionFor 36 = .ok (.invokevirtual 204, 3) := by decide +kernel
theorem dX6_cushionFor_39 : decode cX6_cushionFor 39 = .ok (.ldc 149, 2) := by decide +kernel
theorem dX6_cushionFor_41 : decode cX6_cushionFor 41 = .ok (.istore 4, 2) := by decide +kernel
theorem dX6_cushionFor_43 : decode cX6_cushionFor 43 = .ok (.iconst 0, 1) := by decide +kernel
theorem dX6_cushionFor_44 : decode cX6_cushionFor 44 = .ok (.istore 5, 2) := by decide +kernel
theorem dX6_cushionFor_46 : decode cX6_cushionFor 46 = .ok (.iload 5, 2) := by decide +kernel
theorem dX6_cushionFor_48 : decode cX6_cushionFor 48 = .ok (.bipush 20, 2) := by decide +kernel
theorem dX6_cushionFor_50 : decode cX6_cushionFor 50 = .ok (.if_icmp .gt 44, 3) := by decide +kernel
theorem dX6_cushionFor_53 : decode cX6_cushionFor 53 = .ok (.iload 4, 2) := by decide +kernel
theorem dX6_cushionFor_55 : decode cX6_cushionFor 55 = .ok (.ifCond .ge 39, 3) := by decide +kernel
theorem dX6_cushionFor_58 : decode cX6_cushionFor 58 = .ok (.aload_n 0, 1) := by decide +kernel
theorem dX6_cushionFor_59 : decode cX6_cushionFor 59 = .ok (.getfield 19, 3) := by decide +kernel
theorem dX6_cushionFor_62 : decode cX6_cushionFor 62 = .ok (.bipush 29, 2) := by decide +kernel
theorem dX6_cushionFor_64 : decode cX6_cushionFor 64 = .ok (.iload_n 1, 1) := by decide +kernel
theorem dX6_cushionFor_65 : decode cX6_cushionFor 65 = .ok (.iadd, 1) := by decide +kernel
theorem dX6_cushionFor_66 : decode cX6_cushionFor 66 = .ok (.iload 5, 2) := by decide +kernel
theorem dX6_cushionFor_68 : decode cX6_cushionFor 68 = .ok (.iastore, 1) := by decide +kernel
theorem dX6_cushionFor_69 : decode cX6_cushionFor 69 = .ok (.aload_n 0, 1) := by decide +kernel
theorem dX6_cushionFor_70 : decode cX6_cushionFor 70 = .ok (.iload_n 1, 1) := by decide +kernel
theorem dX6_cushionFor_71 : decode cX6_cushionFor 71 = .ok (.iload_n 3, 1) := by decide +kernel
theorem dX6_cushionFor_72 : decode cX6_cushionFor 72 = .ok (.invokevirtual 214, 3) := by decide +kernel
theorem dX6_cushionFor_75 : decode cX6_cushionFor 75 = .ok (.iload_n 2, 1) := by decide +kernel
theorem dX6_cushionFor_76 : decode cX6_cushionFor 76 = .ok (.if_icmp .gt 8, 3) := by decide +kernel
theorem dX6_cushionFor_79 : decode cX6_cushionFor 79 = .ok (.iload 5, 2) := by decide +kernel
theorem dX6_cushionFor_81 : decode cX6_cushionFor 81 = .ok (.goto 5, 3) := by decide +kernel
theorem dX6_cushionFor_84 : decode cX6_cushionFor 84 = .ok (.iload 4, 2) := by decide +kernel
theorem dX6_cushionFor_86 : decode cX6_cushionFor 86 = .ok (.istore 4, 2) := by decide +kernel
theorem dX6_cushionFor_88 : decode cX6_cushionFor 88 = .ok (.iinc 5 1, 3) := by decide +kernel
theorem dX6_cushionFor_91 : decode cX6_cushionFor 91 = .ok (.goto (-45), 3) := by decide +kernel
theorem dX6_cushionFor_94 : decode cX6_cushionFor 94 = .ok (.iload 4, 2) := by decide +kernel
theorem dX6_cushionFor_96 : decode cX6_cushionFor 96 = .ok (.ireturn, 1) := by decide +kernel
theorem dX6_guard_0 : decode cX6_guard 0 = .ok (.aload_n 0, 1) := by decide +kernel
theorem dX6_guard_1 : decode cX6_guard 1 = .ok (.iload_n 1, 1) := by decide +kernel
theorem dX6_guard_2 : decode cX6_guard 2 = .ok (.invokevirtual 178, 3) := by decide +kernel
theorem dX6_guard_5 : decode cX6_guard 5 = .ok (.ifCond .eq 35, 3) := by decide +kernel
theorem dX6_guard_8 : decode cX6_guard 8 = .ok (.iload_n 2, 1) := by decide +kernel
theorem dX6_guard_9 : decode cX6_guard 9 = .ok (.i2l, 1) := by decide +kernel
theorem dX6_guard_10 : decode cX6_guard 10 = .ok (.lconst 0, 1) := by decide +kernel
theorem dX6_guard_11 : decode cX6_guard 11 = .ok (.ldc2_w 207, 3) := by decide +kernel
theorem dX6_guard_14 : decode cX6_guard 14 = .ok (.invokestatic 57, 3) := by decide +kernel
theorem dX6_guard_17 : decode cX6_guard 17 = .ok (.ifCond .eq 23, 3) := by decide +kernel
theorem dX6_guard_20 : decode cX6_guard 20 = .ok (.iload_n 3, 1) := by decide +kernel
theorem dX6_guard_21 : decode cX6_guard 21 = .ok (.i2l, 1) := by decide +kernel
theorem dX6_guard_22 : decode cX6_guard 22 = .ok (.lconst 0, 1) := by decide +kernel
theorem dX6_guard_23 : decode cX6_guard 23 = .ok (.ldc2_w 212, 3) := by decide +kernel
theorem dX6_guard_26 : decode cX6_guard 26 = .ok (.invokestatic 57, 3) := by decide +kernel
theorem dX6_guard_29 : decode cX6_guard 29 = .ok (.ifCond .eq 11, 3) := by decide +kernel
theorem dX6_guard_32 : decode cX6_guard 32 = .ok (.iload 4, 2) := by decide +kernel
theorem dX6_guard_34 : decode cX6_guard 34 = .ok (.invokestatic 217, 3) := by decide +kernel
theorem dX6_guard_37 : decode cX6_guard 37 = .ok (.ifCond .ne 6, 3) := by decide +kernel
theorem dX6_guard_40 : decode cX6_guard 40 = .ok (.ldc 67, 2) := by decide +kernel
theorem dX6_guard_42 : decode cX6_guard 42 = .ok (.ireturn, 1) := by decide +kernel
theorem dX6_guard_43 : decode cX6_guard 43 = .ok (.aload_n 0, 1) := by decide +kernel
theorem dX6_guard_44 : decode cX6_guard 44 = .ok (.invokevirtual 204, 3) := by decide +kernel
theorem dX6_guard_47 : decode cX6_guard 47 = .ok (.ldc 149, 2) := by decide +kernel
theorem dX6_guard_49 : decode cX6_guard 49 = .ok (.istore 5, 2) := by decide +kernel
theorem dX6_guard_51 : decode cX6_guard 51 = .ok (.iconst 0, 1) := by decide +kernel
theorem dX6_guard_52 : decode cX6_guard 52 = .ok (.istore 6, 2) := by decide +kernel
theorem dX6_guard_54 : decode cX6_guard 54 = .ok (.iload 6, 2) := by decide +kernel
theorem dX6_guard_56 : decode cX6_guard 56 = .ok (.iconst 1, 1) := by decide +kernel
theorem dX6_guard_57 : decode cX6_guard 57 = .ok (.aload_n 0, 1) := by decide +kernel
theorem dX6_guard_58 : decode cX6_guard 58 = .ok (.getfield 19, 3) := by decide +kernel
theorem dX6_guard_61 : decode cX6_guard 61 = .ok (.iconst 2, 1) := by decide +kernel
theorem dX6_guard_62 : decode cX6_guard 62 = .ok (.iaload, 1) := by decide +kernel
theorem dX6_guard_63 : decode cX6_guard 63 = .ok (.ishl, 1) := by decide +kernel
theorem dX6_guard_64 : decode cX6_guard 64 = .ok (.if_icmp .ge 54, 3) := by decide +kernel
theorem dX6_guard_67 : decode cX6_guard 67 = .ok (.iload 5, 2) := by decide +kernel
theorem dX6_guard_69 : decode cX6_guard 69 = .ok (.ifCond .lt 16, 3) := by decide +kernel
theorem dX6_guard_72 : decode cX6_guard 72 = .ok (.iload 6, 2) := by decide +kernel
theorem dX6_guard_74 : decode cX6_guard 74 = .ok (.invokestatic 187, 3) := by decide +kernel
theorem dX6_guard_77 : decode cX6_guard 77 = .ok (.iload 5, 2) := by decide +kernel
theorem dX6_guard_79 : decode cX6_guard 79 = .ok (.invokestatic 187, 3) := by decide +kernel
theorem dX6_guard_82 : decode cX6_guard 82 = .ok (.if_icmp .ge 30, 3) := by decide +kernel
theorem dX6_guard_85 : decode cX6_guard 85 = .ok (.aload_n 0, 1) := by decide +kernel
theorem dX6_guard_86 : decode cX6_guard 86 = .ok (.getfield 19, 3) := by decide +kernel
theorem dX6_guard_89 : decode cX6_guard 89 = .ok (.iconst 4, 1) := by decide +kernel
theorem dX6_guard_90 : decode cX6_guard 90 = .ok (.iload 6, 2) := by decide +kernel
theorem dX6_guard_92 : decode cX6_guard 92 = .ok (.iastore, 1) := by decide +kernel
theorem dX6_guard_93 : decode cX6_guard 93 = .ok (.aload_n 0, 1) := by decide +kernel
theorem dX6_guard_94 : decode cX6_guard 94 = .ok (.iload_n 1, 1) := by decide +kernel
theorem dX6_guard_95 : decode cX6_guard 95 = .ok (.iload_n 3, 1) := by decide +kernel
theorem dX6_guard_96 : decode cX6_guard 96 = .ok (.invokevirtual 214, 3) := by decide +kernel
theorem dX6_guard_99 : decode cX6_guard 99 = .ok (.iload_n 2, 1) := by decide +kernel
theorem dX6_guard_100 : decode cX6_guard 100 = .ok (.if_icmp .gt 8, 3) := by decide +kernel
theorem dX6_guard_103 : decode cX6_guard 103 = .ok (.iload 6, 2) := by decide +kernel
theorem dX6_guard_105 : decode cX6_guard 105 = .ok (.goto 5, 3) := by decide +kernel
theorem dX6_guard_108 : decode cX6_guard 108 = .ok (.iload 5, 2) := by decide +kernel
theorem dX6_guard_110 : decode cX6_guard 110 = .ok (.istore 5, 2) := by decide +kernel
theorem dX6_guard_112 : decode cX6_guard 112 = .ok (.iinc 6 1, 3) := by decide +kernel
theorem dX6_guard_115 : decode cX6_guard 115 = .ok (.goto (-61), 3) := by decide +kernel
theorem dX6_guard_118 : decode cX6_guard 118 = .ok (.iload 5, 2) := by decide +kernel
theorem dX6_guard_120 : decode cX6_guard 120 = .ok (.ifCond .lt 9, 3) := by decide +kernel
theorem dX6_guard_123 : decode cX6_guard 123 = .ok (.iload 4, 2) := by decide +kernel
theorem dX6_guard_125 : decode cX6_guard 125 = .ok (.iconst 1, 1) := by decide +kernel
theorem dX6_guard_126 : decode cX6_guard 126 = .ok (.if_icmp .ne 8, 3) := by decide +kernel
theorem dX6_guard_129 : decode cX6_guard 129 = .ok (.iload 5, 2) := by decide +kernel
theorem dX6_guard_131 : decode cX6_guard 131 = .ok (.goto 8, 3) := by decide +kernel
theorem dX6_guard_134 : decode cX6_guard 134 = .ok (.iload 5, 2) := by decide +kernel
theorem dX6_guard_136 : decode cX6_guard 136 = .ok (.invokestatic 187, 3) := by decide +kernel
theorem dX6_guard_139 : decode cX6_guard 139 = .ok (.ireturn, 1) := by decide +kernel
theorem dX6_bestWatch_0 : decode cX6_bestWatch 0 = .ok (.aload_n 0, 1) := by decide +kernel
theorem dX6_bestWatch_1 : decode cX6_bestWatch 1 = .ok (.getfield 135, 3) := by decide +kernel
theorem dX6_bestWatch_4 : decode cX6_bestWatch 4 = .ok (.ifCond .ne 6, 3) := by decide +kernel
theorem dX6_bestWatch_7 : decode cX6_bestWatch 7 = .ok (.ldc 169, 2) := by decide +kernel
theorem dX6_bestWatch_9 : decode cX6_bestWatch 9 = .ok (.ireturn, 1) := by decide +kernel
theorem dX6_bestWatch_10 : decode cX6_bestWatch 10 = .ok (.iload_n 1, 1) := by decide +kernel
theorem dX6_bestWatch_11 : decode cX6_bestWatch 11 = .ok (.i2l, 1) := by decide +kernel
theorem dX6_bestWatch_12 : decode cX6_bestWatch 12 = .ok (.lconst 1, 1) := by decide +kernel
theorem dX6_bestWatch_13 : decode cX6_bestWatch 13 = .ok (.ldc2_w 212, 3) := by decide +kernel
theorem dX6_bestWatch_16 : decode cX6_bestWatch 16 = .ok (.invokestatic 57, 3) := by decide +kernel
theorem dX6_bestWatch_19 : decode cX6_bestWatch 19 = .ok (.ifCond .eq 10, 3) := by decide +kernel
theorem dX6_bestWatch_22 : decode cX6_bestWatch 22 = .ok (.iload_n 2, 1) := by decide +kernel
theorem dX6_bestWatch_23 : decode cX6_bestWatch 23 = .ok (.invokestatic 217, 3) := by decide +kernel
theorem dX6_bestWatch_26 : decode cX6_bestWatch 26 = .ok (.ifCond .ne 6, 3) := by decide +kernel
theorem dX6_bestWatch_29 : decode cX6_bestWatch 29 = .ok (.ldc 67, 2) := by decide +kernel
theorem dX6_bestWatch_31 : decode cX6_bestWatch 31 = .ok (.ireturn, 1) := by decide +kernel
theorem dX6_bestWatch_32 : decode cX6_bestWatch 32 = .ok (.aload_n 0, 1) := by decide +kernel
theorem dX6_bestWatch_33 : decode cX6_bestWatch 33 = .ok (.invokevirtual 204, 3) := by decide +kernel
theorem dX6_bestWatch_36 : decode cX6_bestWatch 36 = .ok (.iconst 0, 1) := by decide +kernel
theorem dX6_bestWatch_37 : decode cX6_bestWatch 37 = .ok (.istore_n 3, 1) := by decide +kernel
theorem dX6_bestWatch_38 : decode cX6_bestWatch 38 = .ok (.iconst (-1), 1) := by decide +kernel
theorem dX6_bestWatch_39 : decode cX6_bestWatch 39 = .ok (.istore 4, 2) := by decide +kernel
theorem dX6_bestWatch_41 : decode cX6_bestWatch 41 = .ok (.iconst 0, 1) := by decide +kernel
theorem dX6_bestWatch_42 : decode cX6_bestWatch 42 = .ok (.istore 5, 2) := by decide +kernel
theorem dX6_bestWatch_44 : decode cX6_bestWatch 44 = .ok (.iload 5, 2) := by decide +kernel
theorem dX6_bestWatch_46 : decode cX6_bestWatch 46 = .ok (.aload_n 0, 1) := by decide +kernel
theorem dX6_bestWatch_47 : decode cX6_bestWatch 47 = .ok (.getfield 19, 3) := by decide +kernel
theorem dX6_bestWatch_50 : decode cX6_bestWatch 50 = .ok (.iconst 2, 1) := by decide +kernel
theorem dX6_bestWatch_51 : decode cX6_bestWatch 51 = .ok (.iaload, 1) := by decide +kernel
theorem dX6_bestWatch_52 : decode cX6_bestWatch 52 = .ok (.if_icmp .ge 66, 3) := by decide +kernel
theorem dX6_bestWatch_55 : decode cX6_bestWatch 55 = .ok (.aload_n 0, 1) := by decide +kernel
theorem dX6_bestWatch_56 : decode cX6_bestWatch 56 = .ok (.getfield 19, 3) := by decide +kernel
theorem dX6_bestWatch_59 : decode cX6_bestWatch 59 = .ok (.iconst 4, 1) := by decide +kernel
theorem dX6_bestWatch_60 : decode cX6_bestWatch 60 = .ok (.iconst 1, 1) := by decide +kernel
theorem dX6_bestWatch_61 : decode cX6_bestWatch 61 = .ok (.iload 5, 2) := by decide +kernel
theorem dX6_bestWatch_63 : decode cX6_bestWatch 63 = .ok (.ishl, 1) := by decide +kernel
theorem dX6_bestWatch_64 : decode cX6_bestWatch 64 = .ok (.iastore, 1) := by decide +kernel
theorem dX6_bestWatch_65 : decode cX6_bestWatch 65 = .ok (.aload_n 0, 1) := by decide +kernel
theorem dX6_bestWatch_66 : decode cX6_bestWatch 66 = .ok (.iload_n 1, 1) := by decide +kernel
theorem dX6_bestWatch_67 : decode cX6_bestWatch 67 = .ok (.invokevirtual 196, 3) := by decide +kernel
theorem dX6_bestWatch_70 : decode cX6_bestWatch 70 = .ok (.aload_n 0, 1) := by decide +kernel
theorem dX6_bestWatch_71 : decode cX6_bestWatch 71 = .ok (.bipush 11, 2) := by decide +kernel
theorem dX6_bestWatch_73 : decode cX6_bestWatch 73 = .ok (.invokevirtual 209, 3) := by decide +kernel
theorem dX6_bestWatch_76 : decode cX6_bestWatch 76 = .ok (.istore 6, 2) := by decide +kernel
theorem dX6_bestWatch_78 : decode cX6_bestWatch 78 = .ok (.aload_n 0, 1) := by decide +kernel
theorem dX6_bestWatch_79 : decode cX6_bestWatch 79 = .ok (.invokevirtual 199, 3) := by decide +kernel
theorem dX6_bestWatch_82 : decode cX6_bestWatch 82 = .ok (.iload 6, 2) := by decide +kernel
theorem dX6_bestWatch_84 : decode cX6_bestWatch 84 = .ok (.iload 4, 2) := by decide +kernel
theorem dX6_bestWatch_86 : decode cX6_bestWatch 86 = .ok (.if_icmp .le 8, 3) := by decide +kernel
theorem dX6_bestWatch_89 : decode cX6_bestWatch 89 = .ok (.iload 5, 2) := by decide +kernel
theorem dX6_bestWatch_91 : decode cX6_bestWatch 91 = .ok (.goto 4, 3) := by decide +kernel
theorem dX6_bestWatch_94 : decode cX6_bestWatch 94 = .ok (.iload_n 3, 1) := by decide +kernel
theorem dX6_bestWatch_95 : decode cX6_bestWatch 95 = .ok (.istore_n 3, 1) := by decide +kernel
theorem dX6_bestWatch_96 : decode cX6_bestWatch 96 = .ok (.iload 6, 2) := by decide +kernel
theorem dX6_bestWatch_98 : decode cX6_bestWatch 98 = .ok (.iload 4, 2) := by decide +kernel
theorem dX6_bestWatch_100 : decode cX6_bestWatch 100 = .ok (.if_icmp .le 8, 3) := by decide +kernel
theorem dX6_bestWatch_103 : decode cX6_bestWatch 103 = .ok (.iload 6, 2) := by decide +kernel
theorem dX6_bestWatch_105 : decode cX6_bestWatch 105 = .ok (.goto 5, 3) := by decide +kernel
theorem dX6_bestWatch_108 : decode cX6_bestWatch 108 = .ok (.iload 4, 2) := by decide +kernel
theorem dX6_bestWatch_110 : decode cX6_bestWatch 110 = .ok (.istore 4, 2) := by decide +kernel
theorem dX6_bestWatch_112 : decode cX6_bestWatch 112 = .ok (.iinc 5 1, 3) := by decide +kernel
theorem dX6_bestWatch_115 : decode cX6_bestWatch 115 = .ok (.goto (-71), 3) := by decide +kernel
theorem dX6_bestWatch_118 : decode cX6_bestWatch 118 = .ok (.iload_n 2, 1) := by decide +kernel
theorem dX6_bestWatch_119 : decode cX6_bestWatch 119 = .ok (.ifCond .ne 7, 3) := by decide +kernel
theorem dX6_bestWatch_122 : decode cX6_bestWatch 122 = .ok (.iload_n 3, 1) := by decide +kernel
theorem dX6_bestWatch_123 : decode cX6_bestWatch 123 = .ok (.goto 5, 3) := by decide +kernel
theorem dX6_bestWatch_126 : decode cX6_bestWatch 126 = .ok (.iload 4, 2) := by decide +kernel
theorem dX6_bestWatch_128 : decode cX6_bestWatch 128 = .ok (.ireturn, 1) := by decide +kernel
theorem dX6_lacks_0 : decode cX6_lacks 0 = .ok (.aload_n 0, 1) := by decide +kernel
theorem dX6_lacks_1 : decode cX6_lacks 1 = .ok (.getfield 13, 3) := by decide +kernel
theorem dX6_lacks_4 : decode cX6_lacks 4 = .ok (.iload_n 1, 1) := by decide +kernel
theorem dX6_lacks_5 : decode cX6_lacks 5 = .ok (.iaload, 1) := by decide +kernel
theorem dX6_lacks_6 : decode cX6_lacks 6 = .ok (.ifCond .ge 9, 3) := by decide +kernel
theorem dX6_lacks_9 : decode cX6_lacks 9 = .ok (.aload_n 0, 1) := by decide +kernel
theorem dX6_lacks_10 : decode cX6_lacks 10 = .ok (.iconst 1, 1) := by decide +kernel
theorem dX6_lacks_11 : decode cX6_lacks 11 = .ok (.invokevirtual 68, 3) := by decide +kernel
theorem dX6_lacks_14 : decode cX6_lacks 14 = .ok (.ireturn, 1) := by decide +kernel
theorem dX6_lacks_15 : decode cX6_lacks 15 = .ok (.iload_n 2, 1) := by decide +kernel
theorem dX6_lacks_16 : decode cX6_lacks 16 = .ok (.i2l, 1) := by decide +kernel
theorem dX6_lacks_17 : decode cX6_lacks 17 = .ok (.lconst 0, 1) := by decide +kernel
theorem dX6_lacks_18 : decode cX6_lacks 18 = .ok (.aload_n 0, 1) := by decide +kernel
theorem dX6_lacks_19 : decode cX6_lacks 19 = .ok (.getfield 13, 3) := by decide +kernel
theorem dX6_lacks_22 : decode cX6_lacks 22 = .ok (.iload_n 1, 1) := by decide +kernel
theorem dX6_lacks_23 : decode cX6_lacks 23 = .ok (.iaload, 1) := by decide +kernel
theorem dX6_lacks_24 : decode cX6_lacks 24 = .ok (.iload_n 3, 1) := by decide +kernel
theorem dX6_lacks_25 : decode cX6_lacks 25 = .ok (.isub, 1) := by decide +kernel
theorem dX6_lacks_26 : decode cX6_lacks 26 = .ok (.i2l, 1) := by decide +kernel
theorem dX6_lacks_27 : decode cX6_lacks 27 = .ok (.invokestatic 57, 3) := by decide +kernel
theorem dX6_lacks_30 : decode cX6_lacks 30 = .ok (.ifCond .eq 7, 3) := by decide +kernel
theorem dX6_lacks_33 : decode cX6_lacks 33 = .ok (.iconst 0, 1) := by decide +kernel
theorem dX6_lacks_34 : decode cX6_lacks 34 = .ok (.goto 8, 3) := by decide +kernel
theorem dX6_lacks_37 : decode cX6_lacks 37 = .ok (.aload_n 0, 1) := by decide +kernel
theorem dX6_lacks_38 : decode cX6_lacks 38 = .ok (.iconst 2, 1) := by decide +kernel
theorem dX6_lacks_39 : decode cX6_lacks 39 = .ok (.invokevirtual 68, 3) := by decide +kernel
theorem dX6_lacks_42 : decode cX6_lacks 42 = .ok (.ireturn, 1) := by decide +kernel
theorem dX6_lacksOrder_0 : decode cX6_lacksOrder 0 = .ok (.aload_n 0, 1) := by decide +kernel
theorem dX6_lacksOrder_1 : decode cX6_lacksOrder 1 = .ok (.getfield 135, 3) := by decide +kernel
theorem dX6_lacksOrder_4 : decode cX6_lacksOrder 4 = .ok (.ifCond .ne 6, 3) := by decide +kernel
theorem dX6_lacksOrder_7 : decode cX6_lacksOrder 7 = .ok (.ldc 169, 2) := by decide +kernel
theorem dX6_lacksOrder_9 : decode cX6_lacksOrder 9 = .ok (.ireturn, 1) := by decide +kernel
theorem dX6_lacksOrder_10 : decode cX6_lacksOrder 10 = .ok (.iload_n 1, 1) := by decide +kernel
theorem dX6_lacksOrder_11 : decode cX6_lacksOrder 11 = .ok (.invokestatic 61, 3) := by decide +kernel
theorem dX6_lacksOrder_14 : decode cX6_lacksOrder 14 = .ok (.ifCond .eq 18, 3) := by decide +kernel
theorem dX6_lacksOrder_17 : decode cX6_lacksOrder 17 = .ok (.aload_n 0, 1) := by decide +kernel
theorem dX6_lacksOrder_18 : decode cX6_lacksOrder 18 = .ok (.iload_n 1, 1) := by decide +kernel
theorem dX6_lacksOrder_19 : decode cX6_lacksOrder 19 = .ok (.iload_n 2, 1) := by decide +kernel
theorem dX6_lacksOrder_20 : decode cX6_lacksOrder 20 = .ok (.aload_n 0, 1) := by decide +kernel
theorem dX6_lacksOrder_21 : decode cX6_lacksOrder 21 = .ok (.getfield 19, 3) := by decide +kernel
theorem dX6_lacksOrder_24 : decode cX6_lacksOrder 24 = .ok (.iconst 2, 1) := by decide +kernel
theorem dX6_lacksOrder_25 : decode cX6_lacksOrder 25 = .ok (.iaload, 1) := by decide +kernel
theorem dX6_lacksOrder_26 : decode cX6_lacksOrder 26 = .ok (.invokevirtual 220, 3) := by decide +kernel
theorem dX6_lacksOrder_29 : decode cX6_lacksOrder 29 = .ok (.goto 5, 3) := by decide +kernel
theorem dX6_lacksOrder_32 : decode cX6_lacksOrder 32 = .ok (.ldc 67, 2) := by decide +kernel
theorem dX6_lacksOrder_34 : decode cX6_lacksOrder 34 = .ok (.istore_n 3, 1) := by decide +kernel
theorem dX6_lacksOrder_35 : decode cX6_lacksOrder 35 = .ok (.iconst 0, 1) := by decide +kernel
theorem dX6_lacksOrder_36 : decode cX6_lacksOrder 36 = .ok (.istore 4, 2) := by decide +kernel
theorem dX6_lacksOrder_38 : decode cX6_lacksOrder 38 = .ok (.iconst 0, 1) := by decide +kernel
theorem dX6_lacksOrder_39 : decode cX6_lacksOrder 39 = .ok (.istore 5, 2) := by decide +kernel
theorem dX6_lacksOrder_41 : decode cX6_lacksOrder 41 = .ok (.iload 5, 2) := by decide +kernel
theorem dX6_lacksOrder_43 : decode cX6_lacksOrder 43 = .ok (.aload_n 0, 1) := by decide +kernel
theorem dX6_lacksOrder_44 : decode cX6_lacksOrder 44 = .ok (.getfield 19, 3) := by decide +kernel
theorem dX6_lacksOrder_47 : decode cX6_lacksOrder 47 = .ok (.iconst 2, 1) := by decide +kernel
theorem dX6_lacksOrder_48 : decode cX6_lacksOrder 48 = .ok (.iaload, 1) := by decide +kernel
theorem dX6_lacksOrder_49 : decode cX6_lacksOrder 49 = .ok (.if_icmp .ge 75, 3) := by decide +kernel
theorem dX6_lacksOrder_52 : decode cX6_lacksOrder 52 = .ok (.iload_n 3, 1) := by decide +kernel
theorem dX6_lacksOrder_53 : decode cX6_lacksOrder 53 = .ok (.ifCond .ne 71, 3) := by decide +kernel
theorem dX6_lacksOrder_56 : decode cX6_lacksOrder 56 = .ok (.aload_n 0, 1) := by decide +kernel
theorem dX6_lacksOrder_57 : decode cX6_lacksOrder 57 = .ok (.getfield 16, 3) := by decide +kernel
theorem dX6_lacksOrder_60 : decode cX6_lacksOrder 60 = .ok (.bipush 40, 2) := by decide +kernel
theorem dX6_lacksOrder_62 : decode cX6_lacksOrder 62 = .ok (.iload_n 1, 1) := by decide +kernel
theorem dX6_lacksOrder_63 : decode cX6_lacksOrder 63 = .ok (.imul, 1) := by decide +kernel
theorem dX6_lacksOrder_64 : decode cX6_lacksOrder 64 = .ok (.iload_n 2, 1) := by decide +kernel
theorem dX6_lacksOrder_65 : decode cX6_lacksOrder 65 = .ok (.iadd, 1) := by decide +kernel
theorem dX6_lacksOrder_66 : decode cX6_lacksOrder 66 = .ok (.iload 5, 2) := by decide +kernel
theorem dX6_lacksOrder_68 : decode cX6_lacksOrder 68 = .ok (.iadd, 1) := by decide +kernel
theorem dX6_lacksOrder_69 : decode cX6_lacksOrder 69 = .ok (.iaload, 1) := by decide +kernel
theorem dX6_lacksOrder_70 : decode cX6_lacksOrder 70 = .ok (.istore 6, 2) := by decide +kernel
theorem dX6_lacksOrder_72 : decode cX6_lacksOrder 72 = .ok (.aload_n 0, 1) := by decide +kernel
theorem dX6_lacksOrder_73 : decode cX6_lacksOrder 73 = .ok (.iload 6, 2) := by decide +kernel
theorem dX6_lacksOrder_75 : decode cX6_lacksOrder 75 = .ok (.invokevirtual 178, 3) := by decide +kernel
theorem dX6_lacksOrder_78 : decode cX6_lacksOrder 78 = .ok (.ifCond .eq 17, 3) := by decide +kernel
theorem dX6_lacksOrder_81 : decode cX6_lacksOrder 81 = .ok (.iload 4, 2) := by decide +kernel
theorem dX6_lacksOrder_83 : decode cX6_lacksOrder 83 = .ok (.iload 6, 2) := by decide +kernel
theorem dX6_lacksOrder_85 : decode cX6_lacksOrder 85 = .ok (.invokestatic 162, 3) := by decide +kernel
theorem dX6_lacksOrder_88 : decode cX6_lacksOrder 88 = .ok (.ifCond .ne 7, 3) := by decide +kernel
theorem dX6_lacksOrder_91 : decode cX6_lacksOrder 91 = .ok (.iconst 0, 1) := by decide +kernel
theorem dX6_lacksOrder_92 : decode cX6_lacksOrder 92 = .ok (.goto 8, 3) := by decide +kernel
theorem dX6_lacksOrder_95 : decode cX6_lacksOrder 95 = .ok (.aload_n 0, 1) := by decide +kernel
theorem dX6_lacksOrder_96 : decode cX6_lacksOrder 96 = .ok (.iconst 3, 1) := by decide +kernel
theorem dX6_lacksOrder_97 : decode cX6_lacksOrder 97 = .ok (.invokevirtual 68, 3) := by decide +kernel
theorem dX6_lacksOrder_100 : decode cX6_lacksOrder 100 = .ok (.istore_n 3, 1) := by decide +kernel
theorem dX6_lacksOrder_101 : decode cX6_lacksOrder 101 = .ok (.iload 4, 2) := by decide +kernel
theorem dX6_lacksOrder_103 : decode cX6_lacksOrder 103 = .ok (.iload_n 3, 1) := by decide +kernel
theorem dX6_lacksOrder_104 : decode cX6_lacksOrder 104 = .ok (.ifCond .ne 10, 3) := by decide +kernel
theorem dX6_lacksOrder_107 : decode cX6_lacksOrder 107 = .ok (.iconst 1, 1) := by decide +kernel
theorem dX6_lacksOrder_108 : decode cX6_lacksOrder 108 = .ok (.iload 6, 2) := by decide +kernel
theorem dX6_lacksOrder_110 : decode cX6_lacksOrder 110 = .ok (.ishl, 1) := by decide +kernel
theorem dX6_lacksOrder_111 : decode cX6_lacksOrder 111 = .ok (.goto 4, 3) := by decide +kernel
theorem dX6_lacksOrder_114 : decode cX6_lacksOrder 114 = .ok (.iconst 0, 1) := by decide +kernel
theorem dX6_lacksOrder_115 : decode cX6_lacksOrder 115 = .ok (.ior, 1) := by decide +kernel
theorem dX6_lacksOrder_116 : decode cX6_lacksOrder 116 = .ok (.istore 4, 2) := by decide +kernel
theorem dX6_lacksOrder_118 : decode cX6_lacksOrder 118 = .ok (.iinc 5 1, 3) := by decide +kernel
theorem dX6_lacksOrder_121 : decode cX6_lacksOrder 121 = .ok (.goto (-80), 3) := by decide +kernel
theorem dX6_lacksOrder_124 : decode cX6_lacksOrder 124 = .ok (.iload_n 3, 1) := by decide +kernel
theorem dX6_lacksOrder_125 : decode cX6_lacksOrder 125 = .ok (.ireturn, 1) := by decide +kernel
theorem dX6_isAbove_0 : decode cX6_isAbove 0 = .ok (.iload_n 0, 1) := by decide +kernel
theorem dX6_isAbove_1 : decode cX6_isAbove 1 = .ok (.iload_n 2, 1) := by decide +kernel
theorem dX6_isAbove_2 : decode cX6_isAbove 2 = .ok (.if_icmp .gt 13, 3) := by decide +kernel
theorem dX6_isAbove_5 : decode cX6_isAbove 5 = .ok (.iload_n 0, 1) := by decide +kernel
theorem dX6_isAbove_6 : decode cX6_isAbove 6 = .ok (.iload_n 2, 1) := by decide +kernel
theorem dX6_isAbove_7 : decode cX6_isAbove 7 = .ok (.if_icmp .ne 12, 3) := by decide +kernel
theorem dX6_isAbove_10 : decode cX6_isAbove 10 = .ok (.iload_n 1, 1) := by decide +kernel
theorem dX6_isAbove_11 : decode cX6_isAbove 11 = .ok (.iload_n 3, 1) := by decide +kernel
theorem dX6_isAbove_12 : decode cX6_isAbove 12 = .ok (.if_icmp .ge 7, 3) := by decide +kernel
theorem dX6_isAbove_15 : decode cX6_isAbove 15 = .ok (.iconst 1, 1) := by decide +kernel
theorem dX6_isAbove_16 : decode cX6_isAbove 16 = .ok (.goto 4, 3) := by decide +kernel
theorem dX6_isAbove_19 : decode cX6_isAbove 19 = .ok (.iconst 0, 1) := by decide +kernel
theorem dX6_isAbove_20 : decode cX6_isAbove 20 = .ok (.ireturn, 1) := by decide +kernel
theorem dX6_sawdust_0 : decode cX6_sawdust 0 = .ok (.aload_n 0, 1) := by decide +kernel
theorem dX6_sawdust_1 : decode cX6_sawdust 1 = .ok (.iload_n 1, 1) := by decide +kernel
theorem dX6_sawdust_2 : decode cX6_sawdust 2 = .ok (.iload_n 2, 1) := by decide +kernel
theorem dX6_sawdust_3 : decode cX6_sawdust 3 = .ok (.invokevirtual 223, 3) := by decide +kernel
theorem dX6_sawdust_6 : decode cX6_sawdust 6 = .ok (.istore_n 3, 1) := by decide +kernel
theorem dX6_sawdust_7 : decode cX6_sawdust 7 = .ok (.iload_n 3, 1) := by decide +kernel
theorem dX6_sawdust_8 : decode cX6_sawdust 8 = .ok (.ifCond .ge 5, 3) := by decide +kernel
theorem dX6_sawdust_11 : decode cX6_sawdust 11 = .ok (.iload_n 3, 1) := by decide +kernel
theorem dX6_sawdust_12 : decode cX6_sawdust 12 = .ok (.ireturn, 1) := by decide +kernel
theorem dX6_sawdust_13 : decode cX6_sawdust 13 = .ok (.bipush 40, 2) := by decide +kernel
theorem dX6_sawdust_15 : decode cX6_sawdust 15 = .ok (.iload_n 1, 1) := by decide +kernel
theorem dX6_sawdust_16 : decode cX6_sawdust 16 = .ok (.imul, 1) := by decide +kernel
theorem dX6_sawdust_17 : decode cX6_sawdust 17 = .ok (.iload_n 2, 1) := by decide +kernel
theorem dX6_sawdust_18 : decode cX6_sawdust 18 = .ok (.iadd, 1) := by decide +kernel
theorem dX6_sawdust_19 : decode cX6_sawdust 19 = .ok (.istore 4, 2) := by decide +kernel
theorem dX6_sawdust_21 : decode cX6_sawdust 21 = .ok (.iconst 0, 1) := by decide +kernel
theorem dX6_sawdust_22 : decode cX6_sawdust 22 = .ok (.istore 5, 2) := by decide +kernel
theorem dX6_sawdust_24 : decode cX6_sawdust 24 = .ok (.aload_n 0, 1) := by decide +kernel
theorem dX6_sawdust_25 : decode cX6_sawdust 25 = .ok (.getfield 16, 3) := by decide +kernel
theorem dX6_sawdust_28 : decode cX6_sawdust 28 = .ok (.iload 4, 2) := by decide +kernel
theorem dX6_sawdust_30 : decode cX6_sawdust 30 = .ok (.iaload, 1) := by decide +kernel
theorem dX6_sawdust_31 : decode cX6_sawdust 31 = .ok (.istore 6, 2) := by decide +kernel
theorem dX6_sawdust_33 : decode cX6_sawdust 33 = .ok (.aload_n 0, 1) := by decide +kernel
theorem dX6_sawdust_34 : decode cX6_sawdust 34 = .ok (.iload 6, 2) := by decide +kernel
theorem dX6_sawdust_36 : decode cX6_sawdust 36 = .ok (.invokevirtual 146, 3) := by decide +kernel
theorem dX6_sawdust_39 : decode cX6_sawdust 39 = .ok (.istore 7, 2) := by decide +kernel
theorem dX6_sawdust_41 : decode cX6_sawdust 41 = .ok (.iconst 1, 1) := by decide +kernel
theorem dX6_sawdust_42 : decode cX6_sawdust 42 = .ok (.istore 8, 2) := by decide +kernel
theorem dX6_sawdust_44 : decode cX6_sawdust 44 = .ok (.iload 8, 2) := by decide +kernel
theorem dX6_sawdust_46 : decode cX6_sawdust 46 = .ok (.aload_n 0, 1) := by decide +kernel
theorem dX6_sawdust_47 : decode cX6_sawdust 47 = .ok (.getfield 19, 3) := by decide +kernel
theorem dX6_sawdust_50 : decode cX6_sawdust 50 = .ok (.iconst 2, 1) := by decide +kernel
theorem dX6_sawdust_51 : decode cX6_sawdust 51 = .ok (.iaload, 1) := by decide +kernel
theorem dX6_sawdust_52 : decode cX6_sawdust 52 = .ok (.if_icmp .ge 152, 3) := by decide +kernel
theorem dX6_sawdust_55 : decode cX6_sawdust 55 = .ok (.iload 5, 2) := by decide +kernel
theorem dX6_sawdust_57 : decode cX6_sawdust 57 = .ok (.ifCond .lt 147, 3) := by decide +kernel
theorem dX6_sawdust_60 : decode cX6_sawdust 60 = .ok (.aload_n 0, 1) := by decide +kernel
theorem dX6_sawdust_61 : decode cX6_sawdust 61 = .ok (.getfield 16, 3) := by decide +kernel
theorem dX6_sawdust_64 : decode cX6_sawdust 64 = .ok (.iload 4, 2) := by decide +kernel
theorem dX6_sawdust_66 : decode cX6_sawdust 66 = .ok (.iload 8, 2) := by decide +kernel
theorem dX6_sawdust_68 : decode cX6_sawdust 68 = .ok (.iadd, 1) := by decide +kernel
theorem dX6_sawdust_69 : decode cX6_sawdust 69 = .ok (.iaload, 1) := by decide +kernel
theorem dX6_sawdust_70 : decode cX6_sawdust 70 = .ok (.istore 9, 2) := by decide +kernel
theorem dX6_sawdust_72 : decode cX6_sawdust 72 = .ok (.aload_n 0, 1) := by decide +kernel
theorem dX6_sawdust_73 : decode cX6_sawdust 73 = .ok (.getfield 19, 3) := by decide +kernel
theorem dX6_sawdust_76 : decode cX6_sawdust 76 = .ok (.bipush 11, 2) := by decide +kernel
theorem dX6_sawdust_78 : decode cX6_sawdust 78 = .ok (.iload 9, 2) := by decide +kernel
theorem dX6_sawdust_80 : decode cX6_sawdust 80 = .ok (.iadd, 1) := by decide +kernel
theorem dX6_sawdust_81 : decode cX6_sawdust 81 = .ok (.iaload, 1) := by decide +kernel
theorem dX6_sawdust_82 : decode cX6_sawdust 82 = .ok (.istore 10, 2) := by decide +kernel
theorem dX6_sawdust_84 : decode cX6_sawdust 84 = .ok (.iload 10, 2) := by decide +kernel
theorem dX6_sawdust_86 : decode cX6_sawdust 86 = .ok (.ifCond .lt 45, 3) := by decide +kernel
theorem dX6_sawdust_89 : decode cX6_sawdust 89 = .ok (.iload 7, 2) := by decide +kernel
theorem dX6_sawdust_91 : decode cX6_sawdust 91 = .ok (.iload 6, 2) := by decide +kernel
theorem dX6_sawdust_93 : decode cX6_sawdust 93 = .ok (.aload_n 0, 1) := by decide +kernel
theorem dX6_sawdust_94 : decode cX6_sawdust 94 = .ok (.getfield 19, 3) := by decide +kernel
theorem dX6_sawdust_97 : decode cX6_sawdust 97 = .ok (.iconst 5, 1) := by decide +kernel
theorem dX6_sawdust_98 : decode cX6_sawdust 98 = .ok (.iload 9, 2) := by decide +kernel
theorem dX6_sawdust_100 : decode cX6_sawdust 100 = .ok (.iadd, 1) := by decide +kernel
theorem dX6_sawdust_101 : decode cX6_sawdust 101 = .ok (.iaload, 1) := by decide +kernel
theorem dX6_sawdust_102 : decode cX6_sawdust 102 = .ok (.iload 10, 2) := by decide +kernel
theorem dX6_sawdust_104 : decode cX6_sawdust 104 = .ok (.aload_n 0, 1) := by decide +kernel
theorem dX6_sawdust_105 : decode cX6_sawdust 105 = .ok (.getfield 19, 3) := by decide +kernel
theorem dX6_sawdust_108 : decode cX6_sawdust 108 = .ok (.bipush 29, 2) := by decide +kernel
theorem dX6_sawdust_110 : decode cX6_sawdust 110 = .ok (.iload 9, 2) := by decide +kernel
theorem dX6_sawdust_112 : decode cX6_sawdust 112 = .ok (.iadd, 1) := by decide +kernel
theorem dX6_sawdust_113 : decode cX6_sawdust 113 = .ok (.iaload, 1) := by decide +kernel
theorem dX6_sawdust_114 : decode cX6_sawdust 114 = .ok (.invokestatic 142, 3) := by decide +kernel
theorem dX6_sawdust_117 : decode cX6_sawdust 117 = .ok (.iload 9, 2) := by decide +kernel
theorem dX6_sawdust_119 : decode cX6_sawdust 119 = .ok (.invokestatic 226, 3) := by decide +kernel
theorem dX6_sawdust_122 : decode cX6_sawdust 122 = .ok (.ifCond .ne 9, 3) := by decide +kernel
theorem dX6_sawdust_125 : decode cX6_sawdust 125 = .ok (.iinc 10 (-1), 3) := by decide +kernel
theorem dX6_sawdust_128 : decode cX6_sawdust 128 = .ok (.goto (-44), 3) := by decide +kernel
theorem dX6_sawdust_131 : decode cX6_sawdust 131 = .ok (.iload 10, 2) := by decide +kernel
theorem dX6_sawdust_133 : decode cX6_sawdust 133 = .ok (.ifCond .ge 8, 3) := by decide +kernel
theorem dX6_sawdust_136 : decode cX6_sawdust 136 = .ok (.ldc 149, 2) := by decide +kernel
theorem dX6_sawdust_138 : decode cX6_sawdust 138 = .ok (.goto 19, 3) := by decide +kernel
theorem dX6_sawdust_141 : decode cX6_sawdust 141 = .ok (.iload 5, 2) := by decide +kernel
theorem dX6_sawdust_143 : decode cX6_sawdust 143 = .ok (.aload_n 0, 1) := by decide +kernel
theorem dX6_sawdust_144 : decode cX6_sawdust 144 = .ok (.getfield 19, 3) := by decide +kernel
theorem dX6_sawdust_147 : decode cX6_sawdust 147 = .ok (.bipush 11, 2) := by decide +kernel
theorem dX6_sawdust_149 : decode cX6_sawdust 149 = .ok (.iload 9, 2) := by decide +kernel
theorem dX6_sawdust_151 : decode cX6_sawdust 151 = .ok (.iadd, 1) := by decide +kernel
theorem dX6_sawdust_152 : decode cX6_sawdust 152 = .ok (.iaload, 1) := by decide +kernel
theorem dX6_sawdust_153 : decode cX6_sawdust 153 = .ok (.iadd, 1) := by decide +kernel
theorem dX6_sawdust_154 : decode cX6_sawdust 154 = .ok (.iload 10, 2) := by decide +kernel
theorem dX6_sawdust_156 : decode cX6_sawdust 156 = .ok (.isub, 1) := by decide +kernel
theorem dX6_sawdust_157 : decode cX6_sawdust 157 = .ok (.istore 5, 2) := by decide +kernel
theorem dX6_sawdust_159 : decode cX6_sawdust 159 = .ok (.iload 9, 2) := by decide +kernel
theorem dX6_sawdust_161 : decode cX6_sawdust 161 = .ok (.istore 6, 2) := by decide +kernel
theorem dX6_sawdust_163 : decode cX6_sawdust 163 = .ok (.iload 10, 2) := by decide +kernel
theorem dX6_sawdust_165 : decode cX6_sawdust 165 = .ok (.ifCond .ge 7, 3) := by decide +kernel
theorem dX6_sawdust_168 : decode cX6_sawdust 168 = .ok (.iconst 0, 1) := by decide +kernel
theorem dX6_sawdust_169 : decode cX6_sawdust 169 = .ok (.goto 27, 3) := by decide +kernel
theorem dX6_sawdust_172 : decode cX6_sawdust 172 = .ok (.aload_n 0, 1) := by decide +kernel
theorem dX6_sawdust_173 : decode cX6_sawdust 173 = .ok (.getfield 19, 3) := by decide +kernel
theorem dX6_sawdust_176 : decode cX6_sawdust 176 = .ok (.iconst 5, 1) := by decide +kernel
theorem dX6_sawdust_177 : decode cX6_sawdust 177 = .ok (.iload 9, 2) := by decide +kernel
theorem dX6_sawdust_179 : decode cX6_sawdust 179 = .ok (.iadd, 1) := by decide +kernel
theorem dX6_sawdust_180 : decode cX6_sawdust 180 = .ok (.iaload, 1) := by decide +kernel
theorem dX6_sawdust_181 : decode cX6_sawdust 181 = .ok (.iload 10, 2) := by decide +kernel
theorem dX6_sawdust_183 : decode cX6_sawdust 183 = .ok (.aload_n 0, 1) := by decide +kernel
theorem dX6_sawdust_184 : decode cX6_sawdust 184 = .ok (.getfield 19, 3) := by decide +kernel
theorem dX6_sawdust_187 : decode cX6_sawdust 187 = .ok (.bipush 29, 2) := by decide +kernel
theorem dX6_sawdust_189 : decode cX6_sawdust 189 = .ok (.iload 9, 2) := by decide +kernel
theorem dX6_sawdust_191 : decode cX6_sawdust 191 = .ok (.iadd, 1) := by decide +kernel
theorem dX6_sawdust_192 : decode cX6_sawdust 192 = .ok (.iaload, 1) := by decide +kernel
theorem dX6_sawdust_193 : decode cX6_sawdust 193 = .ok (.invokestatic 142, 3) := by decide +kernel
theorem dX6_sawdust_196 : decode cX6_sawdust 196 = .ok (.istore 7, 2) := by decide +kernel
theorem dX6_sawdust_198 : decode cX6_sawdust 198 = .ok (.iinc 8 1, 3) := by decide +kernel
theorem dX6_sawdust_201 : decode cX6_sawdust 201 = .ok (.goto (-157), 3) := by decide +kernel
theorem dX6_sawdust_204 : decode cX6_sawdust 204 = .ok (.aload_n 0, 1) := by decide +kernel
theorem dX6_sawdust_205 : decode cX6_sawdust 205 = .ok (.iload 5, 2) := by decide +kernel
theorem dX6_sawdust_207 : decode cX6_sawdust 207 = .ok (.invokevirtual 72, 3) := by decide +kernel
theorem dX6_sawdust_210 : decode cX6_sawdust 210 = .ok (.ireturn, 1) := by decide +kernel
theorem dX6_pile_0 : decode cX6_pile 0 = .ok (.aload_n 0, 1) := by decide +kernel
theorem dX6_pile_1 : decode cX6_pile 1 = .ok (.iload_n 1, 1) := by decide +kernel
theorem dX6_pile_2 : decode cX6_pile 2 = .ok (.iload_n 2, 1) := by decide +kernel
theorem dX6_pile_3 : decode cX6_pile 3 = .ok (.invokevirtual 223, 3) := by decide +kernel
theorem dX6_pile_6 : decode cX6_pile 6 = .ok (.istore_n 3, 1) := by decide +kernel
theorem dX6_pile_7 : decode cX6_pile 7 = .ok (.iload_n 3, 1) := by decide +kernel
theorem dX6_pile_8 : decode cX6_pile 8 = .ok (.ifCond .ge 5, 3) := by decide +kernel
theorem dX6_pile_11 : decode cX6_pile 11 = .ok (.iload_n 3, 1) := by decide +kernel
theorem dX6_pile_12 : decode cX6_pile 12 = .ok (.ireturn, 1) := by decide +kernel
theorem dX6_pile_13 : decode cX6_pile 13 = .ok (.bipush 40, 2) := by decide +kernel
theorem dX6_pile_15 : decode cX6_pile 15 = .ok (.iload_n 1, 1) := by decide +kernel
theorem dX6_pile_16 : decode cX6_pile 16 = .ok (.imul, 1) := by decide +kernel
theorem dX6_pile_17 : decode cX6_pile 17 = .ok (.iload_n 2, 1) := by decide +kernel
theorem dX6_pile_18 : decode cX6_pile 18 = .ok (.iadd, 1) := by decide +kernel
theorem dX6_pile_19 : decode cX6_pile 19 = .ok (.istore 4, 2) := by decide +kernel
theorem dX6_pile_21 : decode cX6_pile 21 = .ok (.iconst 0, 1) := by decide +kernel
theorem dX6_pile_22 : decode cX6_pile 22 = .ok (.istore 5, 2) := by decide +kernel
theorem dX6_pile_24 : decode cX6_pile 24 = .ok (.aload_n 0, 1) := by decide +kernel
theorem dX6_pile_25 : decode cX6_pile 25 = .ok (.getfield 16, 3) := by decide +kernel
theorem dX6_pile_28 : decode cX6_pile 28 = .ok (.iload 4, 2) := by decide +kernel
theorem dX6_pile_30 : decode cX6_pile 30 = .ok (.aload_n 0, 1) := by decide +kernel
theorem dX6_pile_31 : decode cX6_pile 31 = .ok (.getfield 19, 3) := by decide +kernel
theorem dX6_pile_34 : decode cX6_pile 34 = .ok (.iconst 2, 1) := by decide +kernel
theorem dX6_pile_35 : decode cX6_pile 35 = .ok (.iaload, 1) := by decide +kernel
theorem dX6_pile_36 : decode cX6_pile 36 = .ok (.iadd, 1) := by decide +kernel
theorem dX6_pile_37 : decode cX6_pile 37 = .ok (.iconst 1, 1) := by decide +kernel
theorem dX6_pile_38 : decode cX6_pile 38 = .ok (.isub, 1) := by decide +kernel
theorem dX6_pile_39 : decode cX6_pile 39 = .ok (.iaload, 1) := by decide +kernel
theorem dX6_pile_40 : decode cX6_pile 40 = .ok (.istore 6, 2) := by decide +kernel
theorem dX6_pile_42 : decode cX6_pile 42 = .ok (.aload_n 0, 1) := by decide +kernel
theorem dX6_pile_43 : decode cX6_pile 43 = .ok (.iload 6, 2) := by decide +kernel
theorem dX6_pile_45 : decode cX6_pile 45 = .ok (.invokevirtual 146, 3) := by decide +kernel
theorem dX6_pile_48 : decode cX6_pile 48 = .ok (.istore 7, 2) := by decide +kernel
theorem dX6_pile_50 : decode cX6_pile 50 = .ok (.aload_n 0, 1) := by decide +kernel
theorem dX6_pile_51 : decode cX6_pile 51 = .ok (.getfield 19, 3) := by decide +kernel
theorem dX6_pile_54 : decode cX6_pile 54 = .ok (.iconst 2, 1) := by decide +kernel
theorem dX6_pile_55 : decode cX6_pile 55 = .ok (.iaload, 1) := by decide +kernel
theorem dX6_pile_56 : decode cX6_pile 56 = .ok (.iconst 2, 1) := by decide +kernel
theorem dX6_pile_57 : decode cX6_pile 57 = .ok (.isub, 1) := by decide +kernel
theorem dX6_pile_58 : decode cX6_pile 58 = .ok (.istore 8, 2) := by decide +kernel
theorem dX6_pile_60 : decode cX6_pile 60 = .ok (.iload 8, 2) := by decide +kernel
theorem dX6_pile_62 : decode cX6_pile 62 = .ok (.ifCond .lt 147, 3) := by decide +kernel
theorem dX6_pile_65 : decode cX6_pile 65 = .ok (.iload 5, 2) := by decide +kernel
theorem dX6_pile_67 : decode cX6_pile 67 = .ok (.ifCond .lt 142, 3) := by decide +kernel
theorem dX6_pile_70 : decode cX6_pile 70 = .ok (.aload_n 0, 1) := by decide +kernel
theorem dX6_pile_71 : decode cX6_pile 71 = .ok (.getfield 16, 3) := by decide +kernel
theorem dX6_pile_74 : decode cX6_pile 74 = .ok (.iload 4, 2) := by decide +kernel
theorem dX6_pile_76 : decode cX6_pile 76 = .ok (.iload 8, 2) := by decide +kernel
theorem dX6_pile_78 : decode cX6_pile 78 = .ok (.iadd, 1) := by decide +kernel
theorem dX6_pile_79 : decode cX6_pile 79 = .ok (.iaload, 1) := by decide +kernel
theorem dX6_pile_80 : decode cX6_pile 80 = .ok (.istore 9, 2) := by decide +kernel
theorem dX6_pile_82 : decode cX6_pile 82 = .ok (.aload_n 0, 1) := by decide +kernel
theorem dX6_pile_83 : decode cX6_pile 83 = .ok (.getfield 19, 3) := by decide +kernel
theorem dX6_pile_86 : decode cX6_pile 86 = .ok (.bipush 29, 2) := by decide +kernel
theorem dX6_pile_88 : decode cX6_pile 88 = .ok (.iload 9, 2) := by decide +kernel
theorem dX6_pile_90 : decode cX6_pile 90 = .ok (.iadd, 1) := by decide +kernel
theorem dX6_pile_91 : decode cX6_pile 91 = .ok (.iaload, 1) := by decide +kernel
theorem dX6_pile_92 : decode cX6_pile 92 = .ok (.istore 10, 2) := by decide +kernel
theorem dX6_pile_94 : decode cX6_pile 94 = .ok (.iload 10, 2) := by decide +kernel
theorem dX6_pile_96 : decode cX6_pile 96 = .ok (.bipush 20, 2) := by decide +kernel
theorem dX6_pile_98 : decode cX6_pile 98 = .ok (.if_icmp .gt 45, 3) := by decide +kernel
theorem dX6_pile_101 : decode cX6_pile 101 = .ok (.aload_n 0, 1) := by decide +kernel
theorem dX6_pile_102 : decode cX6_pile 102 = .ok (.getfield 19, 3) := by decide +kernel
theorem dX6_pile_105 : decode cX6_pile 105 = .ok (.iconst 5, 1) := by decide +kernel
theorem dX6_pile_106 : decode cX6_pile 106 = .ok (.iload 9, 2) := by decide +kernel
theorem dX6_pile_108 : decode cX6_pile 108 = .ok (.iadd, 1) := by decide +kernel
theorem dX6_pile_109 : decode cX6_pile 109 = .ok (.iaload, 1) := by decide +kernel
theorem dX6_pile_110 : decode cX6_pile 110 = .ok (.aload_n 0, 1) := by decide +kernel
theorem dX6_pile_111 : decode cX6_pile 111 = .ok (.getfield 19, 3) := by decide +kernel
theorem dX6_pile_114 : decode cX6_pile 114 = .ok (.bipush 11, 2) := by decide +kernel
theorem dX6_pile_116 : decode cX6_pile 116 = .ok (.iload 9, 2) := by decide +kernel
theorem dX6_pile_118 : decode cX6_pile 118 = .ok (.iadd, 1) := by decide +kernel
theorem dX6_pile_119 : decode cX6_pile 119 = .ok (.iaload, 1) := by decide +kernel
theorem dX6_pile_120 : decode cX6_pile 120 = .ok (.iload 10, 2) := by decide +kernel
theorem dX6_pile_122 : decode cX6_pile 122 = .ok (.invokestatic 142, 3) := by decide +kernel
theorem dX6_pile_125 : decode cX6_pile 125 = .ok (.iload 9, 2) := by decide +kernel
theorem dX6_pile_127 : decode cX6_pile 127 = .ok (.iload 7, 2) := by decide +kernel
theorem dX6_pile_129 : decode cX6_pile 129 = .ok (.iload 6, 2) := by decide +kernel
theorem dX6_pile_131 : decode cX6_pile 131 = .ok (.invokestatic 226, 3) := by decide +kernel
theorem dX6_pile_134 : decode cX6_pile 134 = .ok (.ifCond .ne 9, 3) := by decide +kernel
theorem dX6_pile_137 : decode cX6_pile 137 = .ok (.iinc 10 1, 3) := by decide +kernel
theorem dX6_pile_140 : decode cX6_pile 140 = .ok (.goto (-46), 3) := by decide +kernel
theorem dX6_pile_143 : decode cX6_pile 143 = .ok (.iload 10, 2) := by decide +kernel
theorem dX6_pile_145 : decode cX6_pile 145 = .ok (.bipush 20, 2) := by decide +kernel
theorem dX6_pile_147 : decode cX6_pile 147 = .ok (.if_icmp .le 8, 3) := by decide +kernel
theorem dX6_pile_150 : decode cX6_pile 150 = .ok (.ldc 149, 2) := by decide +kernel
theorem dX6_pile_152 : decode cX6_pile 152 = .ok (.goto 19, 3) := by decide +kernel
theorem dX6_pile_155 : decode cX6_pile 155 = .ok (.iload 5, 2) := by decide +kernel
theorem dX6_pile_157 : decode cX6_pile 157 = .ok (.iload 10, 2) := by decide +kernel
theorem dX6_pile_159 : decode cX6_pile 159 = .ok (.iadd, 1) := by decide +kernel
theorem dX6_pile_160 : decode cX6_pile 160 = .ok (.aload_n 0, 1) := by decide +kernel
theorem dX6_pile_161 : decode cX6_pile 161 = .ok (.getfield 19, 3) := by decide +kernel
theorem dX6_pile_164 : decode cX6_pile 164 = .ok (.bipush 29, 2) := by decide +kernel
theorem dX6_pile_166 : decode cX6_pile 166 = .ok (.iload 9, 2) := by decide +kernel
theorem dX6_pile_168 : decode cX6_pile 168 = .ok (.iadd, 1) := by decide +kernel
theorem dX6_pile_169 : decode cX6_pile 169 = .ok (.iaload, 1) := by decide +kernel
theorem dX6_pile_170 : decode cX6_pile 170 = .ok (.isub, 1) := by decide +kernel
theorem dX6_pile_171 : decode cX6_pile 171 = .ok (.istore 5, 2) := by decide +kernel
theorem dX6_pile_173 : decode cX6_pile 173 = .ok (.iload 9, 2) := by decide +kernel
theorem dX6_pile_175 : decode cX6_pile 175 = .ok (.istore 6, 2) := by decide +kernel
theorem dX6_pile_177 : decode cX6_pile 177 = .ok (.aload_n 0, 1) := by decide +kernel
theorem dX6_pile_178 : decode cX6_pile 178 = .ok (.getfield 19, 3) := by decide +kernel
theorem dX6_pile_181 : decode cX6_pile 181 = .ok (.iconst 5, 1) := by decide +kernel
theorem dX6_pile_182 : decode cX6_pile 182 = .ok (.iload 9, 2) := by decide +kernel
theorem dX6_pile_184 : decode cX6_pile 184 = .ok (.iadd, 1) := by decide +kernel
theorem dX6_pile_185 : decode cX6_pile 185 = .ok (.iaload, 1) := by decide +kernel
theorem dX6_pile_186 : decode cX6_pile 186 = .ok (.aload_n 0, 1) := by decide +kernel
theorem dX6_pile_187 : decode cX6_pile 187 = .ok (.getfield 19, 3) := by decide +kernel
theorem dX6_pile_190 : decode cX6_pile 190 = .ok (.bipush 11, 2) := by decide +kernel
theorem dX6_pile_192 : decode cX6_pile 192 = .ok (.iload 9, 2) := by decide +kernel
theorem dX6_pile_194 : decode cX6_pile 194 = .ok (.iadd, 1) := by decide +kernel
theorem dX6_pile_195 : decode cX6_pile 195 = .ok (.iaload, 1) := by decide +kernel
theorem dX6_pile_196 : decode cX6_pile 196 = .ok (.iload 10, 2) := by decide +kernel
theorem dX6_pile_198 : decode cX6_pile 198 = .ok (.invokestatic 142, 3) := by decide +kernel
theorem dX6_pile_201 : decode cX6_pile 201 = .ok (.istore 7, 2) := by decide +kernel
theorem dX6_pile_203 : decode cX6_pile 203 = .ok (.iinc 8 (-1), 3) := by decide +kernel
theorem dX6_pile_206 : decode cX6_pile 206 = .ok (.goto (-146), 3) := by decide +kernel
theorem dX6_pile_209 : decode cX6_pile 209 = .ok (.aload_n 0, 1) := by decide +kernel
theorem dX6_pile_210 : decode cX6_pile 210 = .ok (.iload 5, 2) := by decide +kernel
theorem dX6_pile_212 : decode cX6_pile 212 = .ok (.invokevirtual 72, 3) := by decide +kernel
theorem dX6_pile_215 : decode cX6_pile 215 = .ok (.ireturn, 1) := by decide +kernel
theorem dX6_climb_0 : decode cX6_climb 0 = .ok (.aload_n 0, 1) := by decide +kernel
theorem dX6_climb_1 : decode cX6_climb 1 = .ok (.iload_n 1, 1) := by decide +kernel
theorem dX6_climb_2 : decode cX6_climb 2 = .ok (.invokevirtual 178, 3) := by decide +kernel
theorem dX6_climb_5 : decode cX6_climb 5 = .ok (.ifCond .ne 6, 3) := by decide +kernel
theorem dX6_climb_8 : decode cX6_climb 8 = .ok (.ldc 67, 2) := by decide +kernel
theorem dX6_climb_10 : decode cX6_climb 10 = .ok (.ireturn, 1) := by decide +kernel
theorem dX6_climb_11 : decode cX6_climb 11 = .ok (.iconst 0, 1) := by decide +kernel
theorem dX6_climb_12 : decode cX6_climb 12 = .ok (.istore_n 2, 1) := by decide +kernel
theorem dX6_climb_13 : decode cX6_climb 13 = .ok (.iconst 0, 1) := by decide +kernel
theorem dX6_climb_14 : decode cX6_climb 14 = .ok (.istore_n 3, 1) := by decide +kernel
theorem dX6_climb_15 : decode cX6_climb 15 = .ok (.iload_n 3, 1) := by decide +kernel
theorem dX6_climb_16 : decode cX6_climb 16 = .ok (.aload_n 0, 1) := by decide +kernel
theorem dX6_climb_17 : decode cX6_climb 17 = .ok (.getfield 19, 3) := by decide +kernel
theorem dX6_climb_20 : decode cX6_climb 20 = .ok (.iconst 2, 1) := by decide +kernel
theorem dX6_climb_21 : decode cX6_climb 21 = .ok (.iaload, 1) := by decide +kernel
theorem dX6_climb_22 : decode cX6_climb 22 = .ok (.if_icmp .ge 51, 3) := by decide +kernel
theorem dX6_climb_25 : decode cX6_climb 25 = .ok (.aload_n 0, 1) := by decide +kernel
theorem dX6_climb_26 : decode cX6_climb 26 = .ok (.iload_n 3, 1) := by decide +kernel
theorem dX6_climb_27 : decode cX6_climb 27 = .ok (.invokevirtual 146, 3) := by decide +kernel
theorem dX6_climb_30 : decode cX6_climb 30 = .ok (.aload_n 0, 1) := by decide +kernel
theorem dX6_climb_31 : decode cX6_climb 31 = .ok (.iload_n 1, 1) := by decide +kernel
theorem dX6_climb_32 : decode cX6_climb 32 = .ok (.invokevirtual 146, 3) := by decide +kernel
theorem dX6_climb_35 : decode cX6_climb 35 = .ok (.isub, 1) := by decide +kernel
theorem dX6_climb_36 : decode cX6_climb 36 = .ok (.iload_n 3, 1) := by decide +kernel
theorem dX6_climb_37 : decode cX6_climb 37 = .ok (.iload_n 1, 1) := by decide +kernel
theorem dX6_climb_38 : decode cX6_climb 38 = .ok (.if_icmp .ge 7, 3) := by decide +kernel
theorem dX6_climb_41 : decode cX6_climb 41 = .ok (.iconst 1, 1) := by decide +kernel
theorem dX6_climb_42 : decode cX6_climb 42 = .ok (.goto 4, 3) := by decide +kernel
theorem dX6_climb_45 : decode cX6_climb 45 = .ok (.iconst 0, 1) := by decide +kernel
theorem dX6_climb_46 : decode cX6_climb 46 = .ok (.iadd, 1) := by decide +kernel
theorem dX6_climb_47 : decode cX6_climb 47 = .ok (.istore 4, 2) := by decide +kernel
theorem dX6_climb_49 : decode cX6_climb 49 = .ok (.iload_n 3, 1) := by decide +kernel
theorem dX6_climb_50 : decode cX6_climb 50 = .ok (.iload_n 1, 1) := by decide +kernel
theorem dX6_climb_51 : decode cX6_climb 51 = .ok (.if_icmp .eq 14, 3) := by decide +kernel
theorem dX6_climb_54 : decode cX6_climb 54 = .ok (.iload 4, 2) := by decide +kernel
theorem dX6_climb_56 : decode cX6_climb 56 = .ok (.iload_n 2, 1) := by decide +kernel
theorem dX6_climb_57 : decode cX6_climb 57 = .ok (.if_icmp .le 8, 3) := by decide +kernel
theorem dX6_climb_60 : decode cX6_climb 60 = .ok (.iload 4, 2) := by decide +kernel
theorem dX6_climb_62 : decode cX6_climb 62 = .ok (.goto 4, 3) := by decide +kernel
theorem dX6_climb_65 : decode cX6_climb 65 = .ok (.iload_n 2, 1) := by decide +kernel
theorem dX6_climb_66 : decode cX6_climb 66 = .ok (.istore_n 2, 1) := by decide +kernel
theorem dX6_climb_67 : decode cX6_climb 67 = .ok (.iinc 3 1, 3) := by decide +kernel
theorem dX6_climb_70 : decode cX6_climb 70 = .ok (.goto (-55), 3) := by decide +kernel
theorem dX6_climb_73 : decode cX6_climb 73 = .ok (.iload_n 2, 1) := by decide +kernel
theorem dX6_climb_74 : decode cX6_climb 74 = .ok (.ireturn, 1) := by decide +kernel
theorem dX6_coalition_0 : decode cX6_coalition 0 = .ok (.aload_n 0, 1) := by decide +kernel
theorem dX6_coalition_1 : decode cX6_coalition 1 = .ok (.getfield 135, 3) := by decide +kernel
theorem dX6_coalition_4 : decode cX6_coalition 4 = .ok (.ifCond .ne 6, 3) := by decide +kernel
theorem dX6_coalition_7 : decode cX6_coalition 7 = .ok (.ldc 169, 2) := by decide +kernel
theorem dX6_coalition_9 : decode cX6_coalition 9 = .ok (.ireturn, 1) := by decide +kernel
theorem dX6_coalition_10 : decode cX6_coalition 10 = .ok (.iload_n 1, 1) := by decide +kernel
theorem dX6_coalition_11 : decode cX6_coalition 11 = .ok (.invokestatic 217, 3) := by decide +kernel
theorem dX6_coalition_14 : decode cX6_coalition 14 = .ok (.ifCond .ne 6, 3) := by decide +kernel
theorem dX6_coalition_17 : decode cX6_coalition 17 = .ok (.ldc 67, 2) := by decide +kernel
theorem dX6_coalition_19 : decode cX6_coalition 19 = .ok (.ireturn, 1) := by decide +kernel
theorem dX6_coalition_20 : decode cX6_coalition 20 = .ok (.iconst 0, 1) := by decide +kernel
theorem dX6_coalition_21 : decode cX6_coalition 21 = .ok (.istore_n 2, 1) := by decide +kernel
theorem dX6_coalition_22 : decode cX6_coalition 22 = .ok (.iconst 0, 1) := by decide +kernel
theorem dX6_coalition_23 : decode cX6_coalition 23 = .ok (.istore_n 3, 1) := by decide +kernel
theorem dX6_coalition_24 : decode cX6_coalition 24 = .ok (.iload_n 3, 1) := by decide +kernel
theorem dX6_coalition_25 : decode cX6_coalition 25 = .ok (.aload_n 0, 1) := by decide +kernel
theorem dX6_coalition_26 : decode cX6_coalition 26 = .ok (.getfield 19, 3) := by decide +kernel
theorem dX6_coalition_29 : decode cX6_coalition 29 = .ok (.iconst 2, 1) := by decide +kernel
theorem dX6_coalition_30 : decode cX6_coalition 30 = .ok (.iaload, 1) := by decide +kernel
theorem dX6_coalition_31 : decode cX6_coalition 31 = .ok (.if_icmp .ge 17, 3) := by decide +kernel
theorem dX6_coalition_34 : decode cX6_coalition 34 = .ok (.iload_n 2, 1) := by decide +kernel
theorem dX6_coalition_35 : decode cX6_coalition 35 = .ok (.aload_n 0, 1) := by decide +kernel
theorem dX6_coalition_36 : decode cX6_coalition 36 = .ok (.iload_n 3, 1) := by decide +kernel
theorem dX6_coalition_37 : decode cX6_coalition 37 = .ok (.invokevirtual 146, 3) := by decide +kernel
theorem dX6_coalition_40 : decode cX6_coalition 40 = .ok (.iadd, 1) := by decide +kernel
theorem dX6_coalition_41 : decode cX6_coalition 41 = .ok (.istore_n 2, 1) := by decide +kernel
theorem dX6_coalition_42 : decode cX6_coalition 42 = .ok (.iinc 3 1, 3) := by decide +kernel
theorem dX6_coalition_45 : decode cX6_coalition 45 = .ok (.goto (-21), 3) := by decide +kernel
theorem dX6_coalition_48 : decode cX6_coalition 48 = .ok (.ldc 149, 2) := by decide +kernel
theorem dX6_coalition_50 : decode cX6_coalition 50 = .ok (.istore_n 3, 1) := by decide +kernel
theorem dX6_coalition_51 : decode cX6_coalition 51 = .ok (.iconst 0, 1) := by decide +kernel
theorem dX6_coalition_52 : decode cX6_coalition 52 = .ok (.istore 4, 2) := by decide +kernel
theorem dX6_coalition_54 : decode cX6_coalition 54 = .ok (.iload 4, 2) := by decide +kernel
theorem dX6_coalition_56 : decode cX6_coalition 56 = .ok (.iconst 1, 1) := by decide +kernel
theorem dX6_coalition_57 : decode cX6_coalition 57 = .ok (.aload_n 0, 1) := by decide +kernel
theorem dX6_coalition_58 : decode cX6_coalition 58 = .ok (.getfield 19, 3) := by decide +kernel
theorem dX6_coalition_61 : decode cX6_coalition 61 = .ok (.iconst 2, 1) := by decide +kernel
theorem dX6_coalition_62 : decode cX6_coalition 62 = .ok (.iaload, 1) := by decide +kernel
theorem dX6_coalition_63 : decode cX6_coalition 63 = .ok (.ishl, 1) := by decide +kernel
theorem dX6_coalition_64 : decode cX6_coalition 64 = .ok (.if_icmp .ge 88, 3) := by decide +kernel
theorem dX6_coalition_67 : decode cX6_coalition 67 = .ok (.iconst 0, 1) := by decide +kernel
theorem dX6_coalition_68 : decode cX6_coalition 68 = .ok (.istore 5, 2) := by decide +kernel
theorem dX6_coalition_70 : decode cX6_coalition 70 = .ok (.iconst 0, 1) := by decide +kernel
theorem dX6_coalition_71 : decode cX6_coalition 71 = .ok (.istore 6, 2) := by decide +kernel
theorem dX6_coalition_73 : decode cX6_coalition 73 = .ok (.iload 6, 2) := by decide +kernel
theorem dX6_coalition_75 : decode cX6_coalition 75 = .ok (.aload_n 0, 1) := by decide +kernel
theorem dX6_coalition_76 : decode cX6_coalition 76 = .ok (.getfield 19, 3) := by decide +kernel
theorem dX6_coalition_79 : decode cX6_coalition 79 = .ok (.iconst 2, 1) := by decide +kernel
theorem dX6_coalition_80 : decode cX6_coalition 80 = .ok (.iaload, 1) := by decide +kernel
theorem dX6_coalition_81 : decode cX6_coalition 81 = .ok (.if_icmp .ge 34, 3) := by decide +kernel
theorem dX6_coalition_84 : decode cX6_coalition 84 = .ok (.iload 5, 2) := by decide +kernel
theorem dX6_coalition_86 : decode cX6_coalition 86 = .ok (.iload 4, 2) := by decide +kernel
theorem dX6_coalition_88 : decode cX6_coalition 88 = .ok (.iload 6, 2) := by decide +kernel
theorem dX6_coalition_90 : decode cX6_coalition 90 = .ok (.invokestatic 162, 3) := by decide +kernel
theorem dX6_coalition_93 : decode cX6_coalition 93 = .ok (.ifCond .eq 12, 3) := by decide +kernel
theorem dX6_coalition_96 : decode cX6_coalition 96 = .ok (.aload_n 0, 1) := by decide +kernel
theorem dX6_coalition_97 : decode cX6_coalition 97 = .ok (.iload 6, 2) := by decide +kernel
theorem dX6_coalition_99 : decode cX6_coalition 99 = .ok (.invokevirtual 146, 3) := by decide +kernel
theorem dX6_coalition_102 : decode cX6_coalition 102 = .ok (.goto 4, 3) := by decide +kernel
theorem dX6_coalition_105 : decode cX6_coalition 105 = .ok (.iconst 0, 1) := by decide +kernel
theorem dX6_coalition_106 : decode cX6_coalition 106 = .ok (.iadd, 1) := by decide +kernel
theorem dX6_coalition_107 : decode cX6_coalition 107 = .ok (.istore 5, 2) := by decide +kernel
theorem dX6_coalition_109 : decode cX6_coalition 109 = .ok (.iinc 6 1, 3) := by decide +kernel
theorem dX6_coalition_112 : decode cX6_coalition 112 = .ok (.goto (-39), 3) := by decide +kernel
theorem dX6_coalition_115 : decode cX6_coalition 115 = .ok (.iconst 2, 1) := by decide +kernel
theorem dX6_coalition_116 : decode cX6_coalition 116 = .ok (.iload 5, 2) := by decide +kernel
theorem dX6_coalition_118 : decode cX6_coalition 118 = .ok (.imul, 1) := by decide +kernel
theorem dX6_coalition_119 : decode cX6_coalition 119 = .ok (.iload_n 2, 1) := by decide +kernel
theorem dX6_coalition_120 : decode cX6_coalition 120 = .ok (.if_icmp .le 24, 3) := by decide +kernel
theorem dX6_coalition_123 : decode cX6_coalition 123 = .ok (.iload_n 3, 1) := by decide +kernel
theorem dX6_coalition_124 : decode cX6_coalition 124 = .ok (.ifCond .lt 15, 3) := by decide +kernel
theorem dX6_coalition_127 : decode cX6_coalition 127 = .ok (.iload 4, 2) := by decide +kernel
theorem dX6_coalition_129 : decode cX6_coalition 129 = .ok (.invokestatic 187, 3) := by decide +kernel
theorem dX6_coalition_132 : decode cX6_coalition 132 = .ok (.iload_n 3, 1) := by decide +kernel
theorem dX6_coalition_133 : decode cX6_coalition 133 = .ok (.invokestatic 187, 3) := by decide +kernel
theorem dX6_coalition_136 : decode cX6_coalition 136 = .ok (.if_icmp .ge 8, 3) := by decide +kernel
theorem dX6_coalition_139 : decode cX6_coalition 139 = .ok (.iload 4, 2) := by decide +kernel
theorem dX6_coalition_141 : decode cX6_coalition 141 = .ok (.goto 4, 3) := by decide +kernel
theorem dX6_coalition_144 : decode cX6_coalition 144 = .ok (.iload_n 3, 1) := by decide +kernel
theorem dX6_coalition_145 : decode cX6_coalition 145 = .ok (.istore_n 3, 1) := by decide +kernel
theorem dX6_coalition_146 : decode cX6_coalition 146 = .ok (.iinc 4 1, 3) := by decide +kernel
theorem dX6_coalition_149 : decode cX6_coalition 149 = .ok (.goto (-95), 3) := by decide +kernel
theorem dX6_coalition_152 : decode cX6_coalition 152 = .ok (.iload_n 3, 1) := by decide +kernel
theorem dX6_coalition_153 : decode cX6_coalition 153 = .ok (.ifCond .lt 8, 3) := by decide +kernel
theorem dX6_coalition_156 : decode cX6_coalition 156 = .ok (.iload_n 1, 1) := by decide +kernel
theorem dX6_coalition_157 : decode cX6_coalition 157 = .ok (.iconst 1, 1) := by decide +kernel
theorem dX6_coalition_158 : decode cX6_coalition 158 = .ok (.if_icmp .ne 7, 3) := by decide +kernel
theorem dX6_coalition_161 : decode cX6_coalition 161 = .ok (.iload_n 3, 1) := by decide +kernel
theorem dX6_coalition_162 : decode cX6_coalition 162 = .ok (.goto 7, 3) := by decide +kernel
theorem dX6_coalition_165 : decode cX6_coalition 165 = .ok (.iload_n 3, 1) := by decide +kernel
theorem dX6_coalition_166 : decode cX6_coalition 166 = .ok (.invokestatic 187, 3) := by decide +kernel
theorem dX6_coalition_169 : decode cX6_coalition 169 = .ok (.ireturn, 1) := by decide +kernel
theorem dX6_sawnBy_0 : decode cX6_sawnBy 0 = .ok (.aload_n 0, 1) := by decide +kernel
theorem dX6_sawnBy_1 : decode cX6_sawnBy 1 = .ok (.iload_n 1, 1) := by decide +kernel
theorem dX6_sawnBy_2 : decode cX6_sawnBy 2 = .ok (.invokevirtual 178, 3) := by decide +kernel
theorem dX6_sawnBy_5 : decode cX6_sawnBy 5 = .ok (.ifCond .ne 6, 3) := by decide +kernel
theorem dX6_sawnBy_8 : decode cX6_sawnBy 8 = .ok (.ldc 67, 2) := by decide +kernel
theorem dX6_sawnBy_10 : decode cX6_sawnBy 10 = .ok (.ireturn, 1) := by decide +kernel
theorem dX6_sawnBy_11 : decode cX6_sawnBy 11 = .ok (.iconst 0, 1) := by decide +kernel
theorem dX6_sawnBy_12 : decode cX6_sawnBy 12 = .ok (.istore_n 2, 1) := by decide +kernel
theorem dX6_sawnBy_13 : decode cX6_sawnBy 13 = .ok (.iconst 0, 1) := by decide +kernel
theorem dX6_sawnBy_14 : decode cX6_sawnBy 14 = .ok (.istore_n 3, 1) := by decide +kernel
theorem dX6_sawnBy_15 : decode cX6_sawnBy 15 = .ok (.iload_n 3, 1) := by decide +kernel
theorem dX6_sawnBy_16 : decode cX6_sawnBy 16 = .ok (.aload_n 0, 1) := by decide +kernel
theorem dX6_sawnBy_17 : decode cX6_sawnBy 17 = .ok (.getfield 19, 3) := by decide +kernel
theorem dX6_sawnBy_20 : decode cX6_sawnBy 20 = .ok (.iconst 2, 1) := by decide +kernel
theorem dX6_sawnBy_21 : decode cX6_sawnBy 21 = .ok (.iaload, 1) := by decide +kernel
theorem dX6_sawnBy_22 : decode cX6_sawnBy 22 = .ok (.if_icmp .ge 28, 3) := by decide +kernel
theorem dX6_sawnBy_25 : decode cX6_sawnBy 25 = .ok (.iload_n 2, 1) := by decide +kernel
theorem dX6_sawnBy_26 : decode cX6_sawnBy 26 = .ok (.aload_n 0, 1) := by decide +kernel
theorem dX6_sawnBy_27 : decode cX6_sawnBy 27 = .ok (.iload_n 3, 1) := by decide +kernel
theorem dX6_sawnBy_28 : decode cX6_sawnBy 28 = .ok (.invokevirtual 159, 3) := by decide +kernel
theorem dX6_sawnBy_31 : decode cX6_sawnBy 31 = .ok (.iload_n 1, 1) := by decide +kernel
theorem dX6_sawnBy_32 : decode cX6_sawnBy 32 = .ok (.if_icmp .ne 9, 3) := by decide +kernel
theorem dX6_sawnBy_35 : decode cX6_sawnBy 35 = .ok (.iconst 1, 1) := by decide +kernel
theorem dX6_sawnBy_36 : decode cX6_sawnBy 36 = .ok (.iload_n 3, 1) := by decide +kernel
theorem dX6_sawnBy_37 : decode cX6_sawnBy 37 = .ok (.ishl, 1) := by decide +kernel
theorem dX6_sawnBy_38 : decode cX6_sawnBy 38 = .ok (.goto 4, 3) := by decide +kernel
theorem dX6_sawnBy_41 : decode cX6_sawnBy 41 = .ok (.iconst 0, 1) := by decide +kernel
theorem dX6_sawnBy_42 : decode cX6_sawnBy 42 = .ok (.ior, 1) := by decide +kernel
theorem dX6_sawnBy_43 : decode cX6_sawnBy 43 = .ok (.istore_n 2, 1) := by decide +kernel
theorem dX6_sawnBy_44 : decode cX6_sawnBy 44 = .ok (.iinc 3 1, 3) := by decide +kernel
theorem dX6_sawnBy_47 : decode cX6_sawnBy 47 = .ok (.goto (-32), 3) := by decide +kernel
theorem dX6_sawnBy_50 : decode cX6_sawnBy 50 = .ok (.iload_n 2, 1) := by decide +kernel
theorem dX6_sawnBy_51 : decode cX6_sawnBy 51 = .ok (.ireturn, 1) := by decide +kernel
theorem dX6_round_0 : decode cX6_round 0 = .ok (.aload_n 0, 1) := by decide +kernel
theorem dX6_round_1 : decode cX6_round 1 = .ok (.getfield 135, 3) := by decide +kernel
theorem dX6_round_4 : decode cX6_round 4 = .ok (.ifCond .ne 6, 3) := by decide +kernel
theorem dX6_round_7 : decode cX6_round 7 = .ok (.ldc 169, 2) := by decide +kernel
theorem dX6_round_9 : decode cX6_round 9 = .ok (.ireturn, 1) := by decide +kernel
theorem dX6_round_10 : decode cX6_round 10 = .ok (.iconst 0, 1) := by decide +kernel
theorem dX6_round_11 : decode cX6_round 11 = .ok (.istore_n 1, 1) := by decide +kernel
theorem dX6_round_12 : decode cX6_round 12 = .ok (.iconst 0, 1) := by decide +kernel
theorem dX6_round_13 : decode cX6_round 13 = .ok (.istore_n 2, 1) := by decide +kernel
theorem dX6_round_14 : decode cX6_round 14 = .ok (.iload_n 2, 1) := by decide +kernel
theorem dX6_round_15 : decode cX6_round 15 = .ok (.aload_n 0, 1) := by decide +kernel
theorem dX6_round_16 : decode cX6_round 16 = .ok (.getfield 19, 3) := by decide +kernel
theorem dX6_round_19 : decode cX6_round 19 = .ok (.iconst 2, 1) := by decide +kernel
theorem dX6_round_20 : decode cX6_round 20 = .ok (.iaload, 1) := by decide +kernel
theorem dX6_round_21 : decode cX6_round 21 = .ok (.if_icmp .ge 38, 3) := by decide +kernel
theorem dX6_round_24 : decode cX6_round 24 = .ok (.aload_n 0, 1) := by decide +kernel
theorem dX6_round_25 : decode cX6_round 25 = .ok (.iload_n 2, 1) := by decide +kernel
theorem dX6_round_26 : decode cX6_round 26 = .ok (.invokevirtual 159, 3) := by decide +kernel
theorem dX6_round_29 : decode cX6_round 29 = .ok (.istore_n 3, 1) := by decide +kernel
theorem dX6_round_30 : decode cX6_round 30 = .ok (.iload_n 1, 1) := by decide +kernel
theorem dX6_round_31 : decode cX6_round 31 = .ok (.iload_n 3, 1) := by decide +kernel
theorem dX6_round_32 : decode cX6_round 32 = .ok (.ifCond .lt 18, 3) := by decide +kernel
theorem dX6_round_35 : decode cX6_round 35 = .ok (.aload_n 0, 1) := by decide +kernel
theorem dX6_round_36 : decode cX6_round 36 = .ok (.iload_n 3, 1) := by decide +kernel
theorem dX6_round_37 : decode cX6_round 37 = .ok (.invokevirtual 159, 3) := by decide +kernel
theorem dX6_round_40 : decode cX6_round 40 = .ok (.iload_n 2, 1) := by decide +kernel
theorem dX6_round_41 : decode cX6_round 41 = .ok (.if_icmp .ne 9, 3) := by decide +kernel
theorem dX6_round_44 : decode cX6_round 44 = .ok (.iconst 1, 1) := by decide +kernel
theorem dX6_round_45 : decode cX6_round 45 = .ok (.iload_n 2, 1) := by decide +kernel
theorem dX6_round_46 : decode cX6_round 46 = .ok (.ishl, 1) := by decide +kernel
theorem dX6_round_47 : decode cX6_round 47 = .ok (.goto 4, 3) := by decide +kernel
theorem dX6_round_50 : decode cX6_round 50 = .ok (.iconst 0, 1) := by decide +kernel
theorem dX6_round_51 : decode cX6_round 51 = .ok (.ior, 1) := by decide +kernel
theorem dX6_round_52 : decode cX6_round 52 = .ok (.istore_n 1, 1) := by decide +kernel
theorem dX6_round_53 : decode cX6_round 53 = .ok (.iinc 2 1, 3) := by decide +kernel
theorem dX6_round_56 : decode cX6_round 56 = .ok (.goto (-42), 3) := by decide +kernel
theorem dX6_round_59 : decode cX6_round 59 = .ok (.iload_n 1, 1) := by decide +kernel
theorem dX6_round_60 : decode cX6_round 60 = .ok (.ireturn, 1) := by decide +kernel
theorem dX6_enemy_0 : decode cX6_enemy 0 = .ok (.aload_n 0, 1) := by decide +kernel
theorem dX6_enemy_1 : decode cX6_enemy 1 = .ok (.iload_n 1, 1) := by decide +kernel
theorem dX6_enemy_2 : decode cX6_enemy 2 = .ok (.invokevirtual 178, 3) := by decide +kernel
theorem dX6_enemy_5 : decode cX6_enemy 5 = .ok (.ifCond .eq 22, 3) := by decide +kernel
theorem dX6_enemy_8 : decode cX6_enemy 8 = .ok (.iload_n 2, 1) := by decide +kernel
theorem dX6_enemy_9 : decode cX6_enemy 9 = .ok (.i2l, 1) := by decide +kernel
theorem dX6_enemy_10 : decode cX6_enemy 10 = .ok (.lconst 1, 1) := by decide +kernel
theorem dX6_enemy_11 : decode cX6_enemy 11 = .ok (.ldc2_w 212, 3) := by decide +kernel
theorem dX6_enemy_14 : decode cX6_enemy 14 = .ok (.invokestatic 57, 3) := by decide +kernel
theorem dX6_enemy_17 : decode cX6_enemy 17 = .ok (.ifCond .eq 10, 3) := by decide +kernel
theorem dX6_enemy_20 : decode cX6_enemy 20 = .ok (.iload_n 3, 1) := by decide +kernel
theorem dX6_enemy_21 : decode cX6_enemy 21 = .ok (.invokestatic 217, 3) := by decide +kernel
theorem dX6_enemy_24 : decode cX6_enemy 24 = .ok (.ifCond .ne 6, 3) := by decide +kernel
theorem dX6_enemy_27 : decode cX6_enemy 27 = .ok (.ldc 67, 2) := by decide +kernel
theorem dX6_enemy_29 : decode cX6_enemy 29 = .ok (.ireturn, 1) := by decide +kernel
theorem dX6_enemy_30 : decode cX6_enemy 30 = .ok (.aload_n 0, 1) := by decide +kernel
theorem dX6_enemy_31 : decode cX6_enemy 31 = .ok (.invokevirtual 204, 3) := by decide +kernel
theorem dX6_enemy_34 : decode cX6_enemy 34 = .ok (.iconst 0, 1) := by decide +kernel
theorem dX6_enemy_35 : decode cX6_enemy 35 = .ok (.istore 4, 2) := by decide +kernel
theorem dX6_enemy_37 : decode cX6_enemy 37 = .ok (.iconst (-1), 1) := by decide +kernel
theorem dX6_enemy_38 : decode cX6_enemy 38 = .ok (.istore 5, 2) := by decide +kernel
theorem dX6_enemy_40 : decode cX6_enemy 40 = .ok (.iconst 0, 1) := by decide +kernel
theorem dX6_enemy_41 : decode cX6_enemy 41 = .ok (.istore 6, 2) := by decide +kernel
theorem dX6_enemy_43 : decode cX6_enemy 43 = .ok (.iload 6, 2) := by decide +kernel
theorem dX6_enemy_45 : decode cX6_enemy 45 = .ok (.aload_n 0, 1) := by decide +kernel
theorem dX6_enemy_46 : decode cX6_enemy 46 = .ok (.getfield 19, 3) := by decide +kernel
theorem dX6_enemy_49 : decode cX6_enemy 49 = .ok (.iconst 2, 1) := by decide +kernel
theorem dX6_enemy_50 : decode cX6_enemy 50 = .ok (.iaload, 1) := by decide +kernel
theorem dX6_enemy_51 : decode cX6_enemy 51 = .ok (.if_icmp .ge 68, 3) := by decide +kernel
theorem dX6_enemy_54 : decode cX6_enemy 54 = .ok (.aload_n 0, 1) := by decide +kernel
theorem dX6_enemy_55 : decode cX6_enemy 55 = .ok (.getfield 19, 3) := by decide +kernel
theorem dX6_enemy_58 : decode cX6_enemy 58 = .ok (.bipush 17, 2) := by decide +kernel
theorem dX6_enemy_60 : decode cX6_enemy 60 = .ok (.iload 6, 2) := by decide +kernel
theorem dX6_enemy_62 : decode cX6_enemy 62 = .ok (.iadd, 1) := by decide +kernel
theorem dX6_enemy_63 : decode cX6_enemy 63 = .ok (.iconst 0, 1) := by decide +kernel
theorem dX6_enemy_64 : decode cX6_enemy 64 = .ok (.iastore, 1) := by decide +kernel
theorem dX6_enemy_65 : decode cX6_enemy 65 = .ok (.aload_n 0, 1) := by decide +kernel
theorem dX6_enemy_66 : decode cX6_enemy 66 = .ok (.iload_n 2, 1) := by decide +kernel
theorem dX6_enemy_67 : decode cX6_enemy 67 = .ok (.invokevirtual 196, 3) := by decide +kernel
theorem dX6_enemy_70 : decode cX6_enemy 70 = .ok (.aload_n 0, 1) := by decide +kernel
theorem dX6_enemy_71 : decode cX6_enemy 71 = .ok (.iload_n 1, 1) := by decide +kernel
theorem dX6_enemy_72 : decode cX6_enemy 72 = .ok (.invokevirtual 146, 3) := by decide +kernel
theorem dX6_enemy_75 : decode cX6_enemy 75 = .ok (.istore 7, 2) := by decide +kernel
theorem dX6_enemy_77 : decode cX6_enemy 77 = .ok (.aload_n 0, 1) := by decide +kernel
theorem dX6_enemy_78 : decode cX6_enemy 78 = .ok (.invokevirtual 199, 3) := by decide +kernel
theorem dX6_enemy_81 : decode cX6_enemy 81 = .ok (.iload 7, 2) := by decide +kernel
theorem dX6_enemy_83 : decode cX6_enemy 83 = .ok (.iload 5, 2) := by decide +kernel
theorem dX6_enemy_85 : decode cX6_enemy 85 = .ok (.if_icmp .le 8, 3) := by decide +kernel
theorem dX6_enemy_88 : decode cX6_enemy 88 = .ok (.iload 6, 2) := by decide +kernel
theorem dX6_enemy_90 : decode cX6_enemy 90 = .ok (.goto 5, 3) := by decide +kernel
theorem dX6_enemy_93 : decode cX6_enemy 93 = .ok (.iload 4, 2) := by decide +kernel
theorem dX6_enemy_95 : decode cX6_enemy 95 = .ok (.istore 4, 2) := by decide +kernel
theorem dX6_enemy_97 : decode cX6_enemy 97 = .ok (.iload 7, 2) := by decide +kernel
theorem dX6_enemy_99 : decode cX6_enemy 99 = .ok (.iload 5, 2) := by decide +kernel
theorem dX6_enemy_101 : decode cX6_enemy 101 = .ok (.if_icmp .le 8, 3) := by decide +kernel
theorem dX6_enemy_104 : decode cX6_enemy 104 = .ok (.iload 7, 2) := by decide +kernel
theorem dX6_enemy_106 : decode cX6_enemy 106 = .ok (.goto 5, 3) := by decide +kernel
theorem dX6_enemy_109 : decode cX6_enemy 109 = .ok (.iload 5, 2) := by decide +kernel
theorem dX6_enemy_111 : decode cX6_enemy 111 = .ok (.istore 5, 2) := by decide +kernel
theorem dX6_enemy_113 : decode cX6_enemy 113 = .ok (.iinc 6 1, 3) := by decide +kernel
theorem dX6_enemy_116 : decode cX6_enemy 116 = .ok (.goto (-73), 3) := by decide +kernel
theorem dX6_enemy_119 : decode cX6_enemy 119 = .ok (.iload_n 3, 1) := by decide +kernel
theorem dX6_enemy_120 : decode cX6_enemy 120 = .ok (.ifCond .ne 8, 3) := by decide +kernel
theorem dX6_enemy_123 : decode cX6_enemy 123 = .ok (.iload 4, 2) := by decide +kernel
theorem dX6_enemy_125 : decode cX6_enemy 125 = .ok (.goto 5, 3) := by decide +kernel
theorem dX6_enemy_128 : decode cX6_enemy 128 = .ok (.iload 5, 2) := by decide +kernel
theorem dX6_enemy_130 : decode cX6_enemy 130 = .ok (.ireturn, 1) := by decide +kernel
theorem dX6_isSo_0 : decode cX6_isSo 0 = .ok (.iconst 1, 1) := by decide +kernel
theorem dX6_isSo_1 : decode cX6_isSo 1 = .ok (.istore 4, 2) := by decide +kernel
theorem dX6_isSo_3 : decode cX6_isSo 3 = .ok (.iconst 0, 1) := by decide +kernel
theorem dX6_isSo_4 : decode cX6_isSo 4 = .ok (.istore 5, 2) := by decide +kernel
theorem dX6_isSo_6 : decode cX6_isSo 6 = .ok (.iload 5, 2) := by decide +kernel
theorem dX6_isSo_8 : decode cX6_isSo 8 = .ok (.iload_n 3, 1) := by decide +kernel
theorem dX6_isSo_9 : decode cX6_isSo 9 = .ok (.if_icmp .ge 42, 3) := by decide +kernel
theorem dX6_isSo_12 : decode cX6_isSo 12 = .ok (.aload_n 0, 1) := by decide +kernel
theorem dX6_isSo_13 : decode cX6_isSo 13 = .ok (.invokevirtual 175, 3) := by decide +kernel
theorem dX6_isSo_16 : decode cX6_isSo 16 = .ok (.iload 4, 2) := by decide +kernel
theorem dX6_isSo_18 : decode cX6_isSo 18 = .ok (.ifCond .eq 24, 3) := by decide +kernel
theorem dX6_isSo_21 : decode cX6_isSo 21 = .ok (.aload_n 0, 1) := by decide +kernel
theorem dX6_isSo_22 : decode cX6_isSo 22 = .ok (.getfield 16, 3) := by decide +kernel
theorem dX6_isSo_25 : decode cX6_isSo 25 = .ok (.iload_n 2, 1) := by decide +kernel
theorem dX6_isSo_26 : decode cX6_isSo 26 = .ok (.iload 5, 2) := by decide +kernel
theorem dX6_isSo_28 : decode cX6_isSo 28 = .ok (.iadd, 1) := by decide +kernel
theorem dX6_isSo_29 : decode cX6_isSo 29 = .ok (.iaload, 1) := by decide +kernel
theorem dX6_isSo_30 : decode cX6_isSo 30 = .ok (.aload_n 0, 1) := by decide +kernel
theorem dX6_isSo_31 : decode cX6_isSo 31 = .ok (.iload_n 1, 1) := by decide +kernel
theorem dX6_isSo_32 : decode cX6_isSo 32 = .ok (.invokevirtual 146, 3) := by decide +kernel
theorem dX6_isSo_35 : decode cX6_isSo 35 = .ok (.if_icmp .ne 7, 3) := by decide +kernel
theorem dX6_isSo_38 : decode cX6_isSo 38 = .ok (.iconst 1, 1) := by decide +kernel
theorem dX6_isSo_39 : decode cX6_isSo 39 = .ok (.goto 4, 3) := by decide +kernel
theorem dX6_isSo_42 : decode cX6_isSo 42 = .ok (.iconst 0, 1) := by decide +kernel
theorem dX6_isSo_43 : decode cX6_isSo 43 = .ok (.istore 4, 2) := by decide +kernel
theorem dX6_isSo_45 : decode cX6_isSo 45 = .ok (.iinc 5 1, 3) := by decide +kernel
theorem dX6_isSo_48 : decode cX6_isSo 48 = .ok (.goto (-42), 3) := by decide +kernel
theorem dX6_isSo_51 : decode cX6_isSo 51 = .ok (.aload_n 0, 1) := by decide +kernel
theorem dX6_isSo_52 : decode cX6_isSo 52 = .ok (.invokevirtual 199, 3) := by decide +kernel
theorem dX6_isSo_55 : decode cX6_isSo 55 = .ok (.iload 4, 2) := by decide +kernel
theorem dX6_isSo_57 : decode cX6_isSo 57 = .ok (.ireturn, 1) := by decide +kernel
theorem dX6_who_0 : decode cX6_who 0 = .ok (.aload_n 0, 1) := by decide +kernel
theorem dX6_who_1 : decode cX6_who 1 = .ok (.iload_n 1, 1) := by decide +kernel
theorem dX6_who_2 : decode cX6_who 2 = .ok (.invokevirtual 178, 3) := by decide +kernel
theorem dX6_who_5 : decode cX6_who 5 = .ok (.ifCond .eq 44, 3) := by decide +kernel
theorem dX6_who_8 : decode cX6_who 8 = .ok (.iload_n 2, 1) := by decide +kernel
theorem dX6_who_9 : decode cX6_who 9 = .ok (.i2l, 1) := by decide +kernel
theorem dX6_who_10 : decode cX6_who 10 = .ok (.lconst 0, 1) := by decide +kernel
theorem dX6_who_11 : decode cX6_who 11 = .ok (.ldc2_w 65, 3) := by decide +kernel
theorem dX6_who_14 : decode cX6_who 14 = .ok (.invokestatic 57, 3) := by decide +kernel
theorem dX6_who_17 : decode cX6_who 17 = .ok (.ifCond .eq 32, 3) := by decide +kernel
theorem dX6_who_20 : decode cX6_who 20 = .ok (.aload_n 0, 1) := by decide +kernel
theorem dX6_who_21 : decode cX6_who 21 = .ok (.iload_n 3, 1) := by decide +kernel
theorem dX6_who_22 : decode cX6_who 22 = .ok (.invokevirtual 178, 3) := by decide +kernel
theorem dX6_who_25 : decode cX6_who 25 = .ok (.ifCond .eq 24, 3) := by decide +kernel
theorem dX6_who_28 : decode cX6_who 28 = .ok (.iload 4, 2) := by decide +kernel
theorem dX6_who_30 : decode cX6_who 30 = .ok (.invokestatic 61, 3) := by decide +kernel
theorem dX6_who_33 : decode cX6_who 33 = .ok (.ifCond .eq 16, 3) := by decide +kernel
theorem dX6_who_36 : decode cX6_who 36 = .ok (.iload 6, 2) := by decide +kernel
theorem dX6_who_38 : decode cX6_who 38 = .ok (.i2l, 1) := by decide +kernel
theorem dX6_who_39 : decode cX6_who 39 = .ok (.lconst 1, 1) := by decide +kernel
theorem dX6_who_40 : decode cX6_who 40 = .ok (.ldc2_w 229, 3) := by decide +kernel
theorem dX6_who_43 : decode cX6_who 43 = .ok (.invokestatic 57, 3) := by decide +kernel
theorem dX6_who_46 : decode cX6_who 46 = .ok (.ifCond .ne 8, 3) := by decide +kernel
theorem dX6_who_49 : decode cX6_who 49 = .ok (.ldc 67, 2) := by decide +kernel
theorem dX6_who_51 : decode cX6_who 51 = .ok (.goto 13, 3) := by decide +kernel
theorem dX6_who_54 : decode cX6_who 54 = .ok (.aload_n 0, 1) := by decide +kernel
theorem dX6_who_55 : decode cX6_who 55 = .ok (.iload 4, 2) := by decide +kernel
theorem dX6_who_57 : decode cX6_who 57 = .ok (.iload 5, 2) := by decide +kernel
theorem dX6_who_59 : decode cX6_who 59 = .ok (.iload 6, 2) := by decide +kernel
theorem dX6_who_61 : decode cX6_who 61 = .ok (.invokevirtual 220, 3) := by decide +kernel
theorem dX6_who_64 : decode cX6_who 64 = .ok (.istore 7, 2) := by decide +kernel
theorem dX6_who_66 : decode cX6_who 66 = .ok (.iload 7, 2) := by decide +kernel
theorem dX6_who_68 : decode cX6_who 68 = .ok (.ifCond .ge 6, 3) := by decide +kernel
theorem dX6_who_71 : decode cX6_who 71 = .ok (.iload 7, 2) := by decide +kernel
theorem dX6_who_73 : decode cX6_who 73 = .ok (.ireturn, 1) := by decide +kernel
theorem dX6_who_74 : decode cX6_who 74 = .ok (.aload_n 0, 1) := by decide +kernel
theorem dX6_who_75 : decode cX6_who 75 = .ok (.invokevirtual 204, 3) := by decide +kernel
theorem dX6_who_78 : decode cX6_who 78 = .ok (.iload_n 2, 1) := by decide +kernel
theorem dX6_who_79 : decode cX6_who 79 = .ok (.ifCond .ne 9, 3) := by decide +kernel
theorem dX6_who_82 : decode cX6_who 82 = .ok (.iconst 5, 1) := by decide +kernel
theorem dX6_who_83 : decode cX6_who 83 = .ok (.iload_n 1, 1) := by decide +kernel
theorem dX6_who_84 : decode cX6_who 84 = .ok (.iadd, 1) := by decide +kernel
theorem dX6_who_85 : decode cX6_who 85 = .ok (.goto 19, 3) := by decide +kernel
theorem dX6_who_88 : decode cX6_who 88 = .ok (.iload_n 2, 1) := by decide +kernel
theorem dX6_who_89 : decode cX6_who 89 = .ok (.iconst 1, 1) := by decide +kernel
theorem dX6_who_90 : decode cX6_who 90 = .ok (.if_icmp .ne 10, 3) := by decide +kernel
theorem dX6_who_93 : decode cX6_who 93 = .ok (.bipush 17, 2) := by decide +kernel
theorem dX6_who_95 : decode cX6_who 95 = .ok (.iload_n 1, 1) := by decide +kernel
theorem dX6_who_96 : decode cX6_who 96 = .ok (.iadd, 1) := by decide +kernel
theorem dX6_who_97 : decode cX6_who 97 = .ok (.goto 7, 3) := by decide +kernel
theorem dX6_who_100 : decode cX6_who 100 = .ok (.bipush 23, 2) := by decide +kernel
theorem dX6_who_102 : decode cX6_who 102 = .ok (.iload_n 1, 1) := by decide +kernel
theorem dX6_who_103 : decode cX6_who 103 = .ok (.iadd, 1) := by decide +kernel
theorem dX6_who_104 : decode cX6_who 104 = .ok (.istore 8, 2) := by decide +kernel
theorem dX6_who_106 : decode cX6_who 106 = .ok (.iconst 0, 1) := by decide +kernel
theorem dX6_who_107 : decode cX6_who 107 = .ok (.istore 9, 2) := by decide +kernel
theorem dX6_who_109 : decode cX6_who 109 = .ok (.iload_n 2, 1) := by decide +kernel
theorem dX6_who_110 : decode cX6_who 110 = .ok (.ifCond .ne 7, 3) := by decide +kernel
theorem dX6_who_113 : decode cX6_who 113 = .ok (.iconst 1, 1) := by decide +kernel
theorem dX6_who_114 : decode cX6_who 114 = .ok (.goto 4, 3) := by decide +kernel
theorem dX6_who_117 : decode cX6_who 117 = .ok (.iconst 0, 1) := by decide +kernel
theorem dX6_who_118 : decode cX6_who 118 = .ok (.istore 10, 2) := by decide +kernel
theorem dX6_who_120 : decode cX6_who 120 = .ok (.iload 10, 2) := by decide +kernel
theorem dX6_who_122 : decode cX6_who 122 = .ok (.iload_n 2, 1) := by decide +kernel
theorem dX6_who_123 : decode cX6_who 123 = .ok (.ifCond .ne 7, 3) := by decide +kernel
theorem dX6_who_126 : decode cX6_who 126 = .ok (.iconst 5, 1) := by decide +kernel
theorem dX6_who_127 : decode cX6_who 127 = .ok (.goto 14, 3) := by decide +kernel
theorem dX6_who_130 : decode cX6_who 130 = .ok (.iload_n 2, 1) := by decide +kernel
theorem dX6_who_131 : decode cX6_who 131 = .ok (.iconst 1, 1) := by decide +kernel
theorem dX6_who_132 : decode cX6_who 132 = .ok (.if_icmp .ne 8, 3) := by decide +kernel
theorem dX6_who_135 : decode cX6_who 135 = .ok (.bipush 9, 2) := by decide +kernel
theorem dX6_who_137 : decode cX6_who 137 = .ok (.goto 4, 3) := by decide +kernel
theorem dX6_who_140 : decode cX6_who 140 = .ok (.iconst 3, 1) := by decide +kernel
theorem dX6_who_141 : decode cX6_who 141 = .ok (.if_icmp .gt 49, 3) := by decide +kernel
theorem dX6_who_144 : decode cX6_who 144 = .ok (.aload_n 0, 1) := by decide +kernel
theorem dX6_who_145 : decode cX6_who 145 = .ok (.getfield 19, 3) := by decide +kernel
theorem dX6_who_148 : decode cX6_who 148 = .ok (.iload 8, 2) := by decide +kernel
theorem dX6_who_150 : decode cX6_who 150 = .ok (.iload 10, 2) := by decide +kernel
theorem dX6_who_152 : decode cX6_who 152 = .ok (.iastore, 1) := by decide +kernel
theorem dX6_who_153 : decode cX6_who 153 = .ok (.iload 9, 2) := by decide +kernel
theorem dX6_who_155 : decode cX6_who 155 = .ok (.aload_n 0, 1) := by decide +kernel
theorem dX6_who_156 : decode cX6_who 156 = .ok (.iload_n 3, 1) := by decide +kernel
theorem dX6_who_157 : decode cX6_who 157 = .ok (.bipush 40, 2) := by decide +kernel
theorem dX6_who_159 : decode cX6_who 159 = .ok (.iload 4, 2) := by decide +kernel
theorem dX6_who_161 : decode cX6_who 161 = .ok (.imul, 1) := by decide +kernel
theorem dX6_who_162 : decode cX6_who 162 = .ok (.iload 5, 2) := by decide +kernel
theorem dX6_who_164 : decode cX6_who 164 = .ok (.iadd, 1) := by decide +kernel
theorem dX6_who_165 : decode cX6_who 165 = .ok (.iload 6, 2) := by decide +kernel
theorem dX6_who_167 : decode cX6_who 167 = .ok (.invokevirtual 231, 3) := by decide +kernel
theorem dX6_who_170 : decode cX6_who 170 = .ok (.ifCond .eq 10, 3) := by decide +kernel
theorem dX6_who_173 : decode cX6_who 173 = .ok (.iconst 1, 1) := by decide +kernel
theorem dX6_who_174 : decode cX6_who 174 = .ok (.iload 10, 2) := by decide +kernel
theorem dX6_who_176 : decode cX6_who 176 = .ok (.ishl, 1) := by decide +kernel
theorem dX6_who_177 : decode cX6_who 177 = .ok (.goto 4, 3) := by decide +kernel
theorem dX6_who_180 : decode cX6_who 180 = .ok (.iconst 0, 1) := by decide +kernel
theorem dX6_who_181 : decode cX6_who 181 = .ok (.ior, 1) := by decide +kernel
theorem dX6_who_182 : decode cX6_who 182 = .ok (.istore 9, 2) := by decide +kernel
theorem dX6_who_184 : decode cX6_who 184 = .ok (.iinc 10 1, 3) := by decide +kernel
theorem dX6_who_187 : decode cX6_who 187 = .ok (.goto (-67), 3) := by decide +kernel
theorem dX6_who_190 : decode cX6_who 190 = .ok (.aload_n 0, 1) := by decide +kernel
theorem dX6_who_191 : decode cX6_who 191 = .ok (.iload 9, 2) := by decide +kernel
theorem dX6_who_193 : decode cX6_who 193 = .ok (.invokevirtual 72, 3) := by decide +kernel
theorem dX6_who_196 : decode cX6_who 196 = .ok (.ireturn, 1) := by decide +kernel
theorem dX6_guarded_0 : decode cX6_guarded 0 = .ok (.aload_n 0, 1) := by decide +kernel
theorem dX6_guarded_1 : decode cX6_guarded 1 = .ok (.iload_n 1, 1) := by decide +kernel
theorem dX6_guarded_2 : decode cX6_guarded 2 = .ok (.invokevirtual 178, 3) := by decide +kernel
theorem dX6_guarded_5 : decode cX6_guarded 5 = .ok (.ifCond .eq 23, 3) := by decide +kernel
theorem dX6_guarded_8 : decode cX6_guarded 8 = .ok (.iload_n 2, 1) := by decide +kernel
theorem dX6_guarded_9 : decode cX6_guarded 9 = .ok (.invokestatic 61, 3) := by decide +kernel
theorem dX6_guarded_12 : decode cX6_guarded 12 = .ok (.ifCond .eq 16, 3) := by decide +kernel
theorem dX6_guarded_15 : decode cX6_guarded 15 = .ok (.iload 4, 2) := by decide +kernel
theorem dX6_guarded_17 : decode cX6_guarded 17 = .ok (.i2l, 1) := by decide +kernel
theorem dX6_guarded_18 : decode cX6_guarded 18 = .ok (.lconst 1, 1) := by decide +kernel
theorem dX6_guarded_19 : decode cX6_guarded 19 = .ok (.ldc2_w 229, 3) := by decide +kernel
theorem dX6_guarded_22 : decode cX6_guarded 22 = .ok (.invokestatic 57, 3) := by decide +kernel
theorem dX6_guarded_25 : decode cX6_guarded 25 = .ok (.ifCond .ne 8, 3) := by decide +kernel
theorem dX6_guarded_28 : decode cX6_guarded 28 = .ok (.ldc 67, 2) := by decide +kernel
theorem dX6_guarded_30 : decode cX6_guarded 30 = .ok (.goto 11, 3) := by decide +kernel
theorem dX6_guarded_33 : decode cX6_guarded 33 = .ok (.aload_n 0, 1) := by decide +kernel
theorem dX6_guarded_34 : decode cX6_guarded 34 = .ok (.iload_n 2, 1) := by decide +kernel
theorem dX6_guarded_35 : decode cX6_guarded 35 = .ok (.iload_n 3, 1) := by decide +kernel
theorem dX6_guarded_36 : decode cX6_guarded 36 = .ok (.iload 4, 2) := by decide +kernel
theorem dX6_guarded_38 : decode cX6_guarded 38 = .ok (.invokevirtual 220, 3) := by decide +kernel
theorem dX6_guarded_41 : decode cX6_guarded 41 = .ok (.istore 5, 2) := by decide +kernel
theorem dX6_guarded_43 : decode cX6_guarded 43 = .ok (.iload 5, 2) := by decide +kernel
theorem dX6_guarded_45 : decode cX6_guarded 45 = .ok (.ifCond .ge 6, 3) := by decide +kernel
theorem dX6_guarded_48 : decode cX6_guarded 48 = .ok (.iload 5, 2) := by decide +kernel
theorem dX6_guarded_50 : decode cX6_guarded 50 = .ok (.ireturn, 1) := by decide +kernel
theorem dX6_guarded_51 : decode cX6_guarded 51 = .ok (.aload_n 0, 1) := by decide +kernel
theorem dX6_guarded_52 : decode cX6_guarded 52 = .ok (.invokevirtual 204, 3) := by decide +kernel
theorem dX6_guarded_55 : decode cX6_guarded 55 = .ok (.aload_n 0, 1) := by decide +kernel
theorem dX6_guarded_56 : decode cX6_guarded 56 = .ok (.iload_n 1, 1) := by decide +kernel
theorem dX6_guarded_57 : decode cX6_guarded 57 = .ok (.bipush 40, 2) := by decide +kernel
theorem dX6_guarded_59 : decode cX6_guarded 59 = .ok (.iload_n 2, 1) := by decide +kernel
theorem dX6_guarded_60 : decode cX6_guarded 60 = .ok (.imul, 1) := by decide +kernel
theorem dX6_guarded_61 : decode cX6_guarded 61 = .ok (.iload_n 3, 1) := by decide +kernel
theorem dX6_guarded_62 : decode cX6_guarded 62 = .ok (.iadd, 1) := by decide +kernel
theorem dX6_guarded_63 : decode cX6_guarded 63 = .ok (.iload 4, 2) := by decide +kernel
theorem dX6_guarded_65 : decode cX6_guarded 65 = .ok (.invokevirtual 231, 3) := by decide +kernel
theorem dX6_guarded_68 : decode cX6_guarded 68 = .ok (.ifCond .eq 8, 3) := by decide +kernel
theorem dX6_guarded_71 : decode cX6_guarded 71 = .ok (.bipush 64, 2) := by decide +kernel
theorem dX6_guarded_73 : decode cX6_guarded 73 = .ok (.goto 4, 3) := by decide +kernel
theorem dX6_guarded_76 : decode cX6_guarded 76 = .ok (.iconst 0, 1) := by decide +kernel
theorem dX6_guarded_77 : decode cX6_guarded 77 = .ok (.istore 6, 2) := by decide +kernel
theorem dX6_guarded_79 : decode cX6_guarded 79 = .ok (.iconst 0, 1) := by decide +kernel
theorem dX6_guarded_80 : decode cX6_guarded 80 = .ok (.istore 7, 2) := by decide +kernel
theorem dX6_guarded_82 : decode cX6_guarded 82 = .ok (.iload 7, 2) := by decide +kernel
theorem dX6_guarded_84 : decode cX6_guarded 84 = .ok (.aload_n 0, 1) := by decide +kernel
theorem dX6_guarded_85 : decode cX6_guarded 85 = .ok (.getfield 19, 3) := by decide +kernel
theorem dX6_guarded_88 : decode cX6_guarded 88 = .ok (.iconst 2, 1) := by decide +kernel
theorem dX6_guarded_89 : decode cX6_guarded 89 = .ok (.iaload, 1) := by decide +kernel
theorem dX6_guarded_90 : decode cX6_guarded 90 = .ok (.if_icmp .ge 65, 3) := by decide +kernel
theorem dX6_guarded_93 : decode cX6_guarded 93 = .ok (.aload_n 0, 1) := by decide +kernel
theorem dX6_guarded_94 : decode cX6_guarded 94 = .ok (.getfield 19, 3) := by decide +kernel
theorem dX6_guarded_97 : decode cX6_guarded 97 = .ok (.iconst 4, 1) := by decide +kernel
theorem dX6_guarded_98 : decode cX6_guarded 98 = .ok (.iaload, 1) := by decide +kernel
theorem dX6_guarded_99 : decode cX6_guarded 99 = .ok (.iload 7, 2) := by decide +kernel
theorem dX6_guarded_101 : decode cX6_guarded 101 = .ok (.invokestatic 162, 3) := by decide +kernel
theorem dX6_guarded_104 : decode cX6_guarded 104 = .ok (.ifCond .ne 45, 3) := by decide +kernel
theorem dX6_guarded_107 : decode cX6_guarded 107 = .ok (.aload_n 0, 1) := by decide +kernel
theorem dX6_guarded_108 : decode cX6_guarded 108 = .ok (.getfield 19, 3) := by decide +kernel
theorem dX6_guarded_111 : decode cX6_guarded 111 = .ok (.iconst 4, 1) := by decide +kernel
theorem dX6_guarded_112 : decode cX6_guarded 112 = .ok (.dup2, 1) := by decide +kernel
theorem dX6_guarded_113 : decode cX6_guarded 113 = .ok (.iaload, 1) := by decide +kernel
theorem dX6_guarded_114 : decode cX6_guarded 114 = .ok (.iconst 1, 1) := by decide +kernel
theorem dX6_guarded_115 : decode cX6_guarded 115 = .ok (.iload 7, 2) := by decide +kernel
theorem dX6_guarded_117 : decode cX6_guarded 117 = .ok (.ishl, 1) := by decide +kernel
theorem dX6_guarded_118 : decode cX6_guarded 118 = .ok (.ior, 1) := by decide +kernel
theorem dX6_guarded_119 : decode cX6_guarded 119 = .ok (.iastore, 1) := by decide +kernel
theorem dX6_guarded_120 : decode cX6_guarded 120 = .ok (.iload 6, 2) := by decide +kernel
theorem dX6_guarded_122 : decode cX6_guarded 122 = .ok (.aload_n 0, 1) := by decide +kernel
theorem dX6_guarded_123 : decode cX6_guarded 123 = .ok (.iload_n 1, 1) := by decide +kernel
theorem dX6_guarded_124 : decode cX6_guarded 124 = .ok (.bipush 40, 2) := by decide +kernel
theorem dX6_guarded_126 : decode cX6_guarded 126 = .ok (.iload_n 2, 1) := by decide +kernel
theorem dX6_guarded_127 : decode cX6_guarded 127 = .ok (.imul, 1) := by decide +kernel
theorem dX6_guarded_128 : decode cX6_guarded 128 = .ok (.iload_n 3, 1) := by decide +kernel
theorem dX6_guarded_129 : decode cX6_guarded 129 = .ok (.iadd, 1) := by decide +kernel
theorem dX6_guarded_130 : decode cX6_guarded 130 = .ok (.iload 4, 2) := by decide +kernel
theorem dX6_guarded_132 : decode cX6_guarded 132 = .ok (.invokevirtual 231, 3) := by decide +kernel
theorem dX6_guarded_135 : decode cX6_guarded 135 = .ok (.ifCond .eq 10, 3) := by decide +kernel
theorem dX6_guarded_138 : decode cX6_guarded 138 = .ok (.iconst 1, 1) := by decide +kernel
theorem dX6_guarded_139 : decode cX6_guarded 139 = .ok (.iload 7, 2) := by decide +kernel
theorem dX6_guarded_141 : decode cX6_guarded 141 = .ok (.ishl, 1) := by decide +kernel
theorem dX6_guarded_142 : decode cX6_guarded 142 = .ok (.goto 4, 3) := by decide +kernel
theorem dX6_guarded_145 : decode cX6_guarded 145 = .ok (.iconst 0, 1) := by decide +kernel
theorem dX6_guarded_146 : decode cX6_guarded 146 = .ok (.ior, 1) := by decide +kernel
theorem dX6_guarded_147 : decode cX6_guarded 147 = .ok (.istore 6, 2) := by decide +kernel
theorem dX6_guarded_149 : decode cX6_guarded 149 = .ok (.iinc 7 1, 3) := by decide +kernel
theorem dX6_guarded_152 : decode cX6_guarded 152 = .ok (.goto (-70), 3) := by decide +kernel
theorem dX6_guarded_155 : decode cX6_guarded 155 = .ok (.aload_n 0, 1) := by decide +kernel
theorem dX6_guarded_156 : decode cX6_guarded 156 = .ok (.iload 6, 2) := by decide +kernel
theorem dX6_guarded_158 : decode cX6_guarded 158 = .ok (.invokevirtual 72, 3) := by decide +kernel
theorem dX6_guarded_161 : decode cX6_guarded 161 = .ok (.ireturn, 1) := by decide +kernel
theorem dX6_doze_0 : decode cX6_doze 0 = .ok (.aload_n 0, 1) := by decide +kernel
theorem dX6_doze_1 : decode cX6_doze 1 = .ok (.iload_n 1, 1) := by decide +kernel
theorem dX6_doze_2 : decode cX6_doze 2 = .ok (.invokevirtual 178, 3) := by decide +kernel
theorem dX6_doze_5 : decode cX6_doze 5 = .ok (.ifCond .eq 48, 3) := by decide +kernel
theorem dX6_doze_8 : decode cX6_doze 8 = .ok (.iload_n 2, 1) := by decide +kernel
theorem dX6_doze_9 : decode cX6_doze 9 = .ok (.i2l, 1) := by decide +kernel
theorem dX6_doze_10 : decode cX6_doze 10 = .ok (.lconst 0, 1) := by decide +kernel
theorem dX6_doze_11 : decode cX6_doze 11 = .ok (.ldc2_w 207, 3) := by decide +kernel
theorem dX6_doze_14 : decode cX6_doze 14 = .ok (.invokestatic 57, 3) := by decide +kernel
theorem dX6_doze_17 : decode cX6_doze 17 = .ok (.ifCond .eq 36, 3) := by decide +kernel
theorem dX6_doze_20 : decode cX6_doze 20 = .ok (.iload_n 3, 1) := by decide +kernel
theorem dX6_doze_21 : decode cX6_doze 21 = .ok (.i2l, 1) := by decide +kernel
theorem dX6_doze_22 : decode cX6_doze 22 = .ok (.lconst 0, 1) := by decide +kernel
theorem dX6_doze_23 : decode cX6_doze 23 = .ok (.ldc2_w 212, 3) := by decide +kernel
theorem dX6_doze_26 : decode cX6_doze 26 = .ok (.invokestatic 57, 3) := by decide +kernel
theorem dX6_doze_29 : decode cX6_doze 29 = .ok (.ifCond .eq 24, 3) := by decide +kernel
theorem dX6_doze_32 : decode cX6_doze 32 = .ok (.iload 4, 2) := by decide +kernel
theorem dX6_doze_34 : decode cX6_doze 34 = .ok (.i2l, 1) := by decide +kernel
theorem dX6_doze_35 : decode cX6_doze 35 = .ok (.lconst 0, 1) := by decide +kernel
theorem dX6_doze_36 : decode cX6_doze 36 = .ok (.ldc2_w 235, 3) := by decide +kernel
theorem dX6_doze_39 : decode cX6_doze 39 = .ok (.invokestatic 57, 3) := by decide +kernel
theorem dX6_doze_42 : decode cX6_doze 42 = .ok (.ifCond .eq 11, 3) := by decide +kernel
theorem dX6_doze_45 : decode cX6_doze 45 = .ok (.iload 5, 2) := by decide +kernel
theorem dX6_doze_47 : decode cX6_doze 47 = .ok (.invokestatic 217, 3) := by decide +kernel
theorem dX6_doze_50 : decode cX6_doze 50 = .ok (.ifCond .ne 7, 3) := by decide +kernel
theorem dX6_doze_53 : decode cX6_doze 53 = .ok (.ldc2_w 237, 3) := by decide +kernel
theorem dX6_doze_56 : decode cX6_doze 56 = .ok (.lreturn, 1) := by decide +kernel
theorem dX6_doze_57 : decode cX6_doze 57 = .ok (.aload_n 0, 1) := by decide +kernel
theorem dX6_doze_58 : decode cX6_doze 58 = .ok (.invokevirtual 204, 3) := by decide +kernel
theorem dX6_doze_61 : decode cX6_doze 61 = .ok (.aload_n 0, 1) := by decide +kernel
theorem dX6_doze_62 : decode cX6_doze 62 = .ok (.getfield 19, 3) := by decide +kernel
theorem dX6_doze_65 : decode cX6_doze 65 = .ok (.iconst 4, 1) := by decide +kernel
theorem dX6_doze_66 : decode cX6_doze 66 = .ok (.iaload, 1) := by decide +kernel
theorem dX6_doze_67 : decode cX6_doze 67 = .ok (.istore 6, 2) := by decide +kernel
theorem dX6_doze_69 : decode cX6_doze 69 = .ok (.lconst 0, 1) := by decide +kernel
theorem dX6_doze_70 : decode cX6_doze 70 = .ok (.lstore 7, 2) := by decide +kernel
theorem dX6_doze_72 : decode cX6_doze 72 = .ok (.lconst 1, 1) := by decide +kernel
theorem dX6_doze_73 : decode cX6_doze 73 = .ok (.lstore 9, 2) := by decide +kernel
theorem dX6_doze_75 : decode cX6_doze 75 = .ok (.iconst 0, 1) := by decide +kernel
theorem dX6_doze_76 : decode cX6_doze 76 = .ok (.istore 11, 2) := by decide +kernel
theorem dX6_doze_78 : decode cX6_doze 78 = .ok (.iload 11, 2) := by decide +kernel
theorem dX6_doze_80 : decode cX6_doze 80 = .ok (.aload_n 0, 1) := by decide +kernel
theorem dX6_doze_81 : decode cX6_doze 81 = .ok (.getfield 19, 3) := by decide +kernel
theorem dX6_doze_84 : decode cX6_doze 84 = .ok (.iconst 2, 1) := by decide +kernel
theorem dX6_doze_85 : decode cX6_doze 85 = .ok (.iaload, 1) := by decide +kernel
theorem dX6_doze_86 : decode cX6_doze 86 = .ok (.if_icmp .ge 31, 3) := by decide +kernel
theorem dX6_doze_89 : decode cX6_doze 89 = .ok (.lload 9, 2) := by decide +kernel
theorem dX6_doze_91 : decode cX6_doze 91 = .ok (.iload 6, 2) := by decide +kernel
theorem dX6_doze_93 : decode cX6_doze 93 = .ok (.iload 11, 2) := by decide +kernel
theorem dX6_doze_95 : decode cX6_doze 95 = .ok (.invokestatic 162, 3) := by decide +kernel
theorem dX6_doze_98 : decode cX6_doze 98 = .ok (.ifCond .eq 9, 3) := by decide +kernel
theorem dX6_doze_101 : decode cX6_doze 101 = .ok (.ldc2_w 235, 3) := by decide +kernel
theorem dX6_doze_104 : decode cX6_doze 104 = .ok (.goto 4, 3) := by decide +kernel
theorem dX6_doze_107 : decode cX6_doze 107 = .ok (.lconst 1, 1) := by decide +kernel
theorem dX6_doze_108 : decode cX6_doze 108 = .ok (.lmul, 1) := by decide +kernel
theorem dX6_doze_109 : decode cX6_doze 109 = .ok (.lstore 9, 2) := by decide +kernel
theorem dX6_doze_111 : decode cX6_doze 111 = .ok (.iinc 11 1, 3) := by decide +kernel
theorem dX6_doze_114 : decode cX6_doze 114 = .ok (.goto (-36), 3) := by decide +kernel
theorem dX6_doze_117 : decode cX6_doze 117 = .ok (.iconst 0, 1) := by decide +kernel
theorem dX6_doze_118 : decode cX6_doze 118 = .ok (.istore 11, 2) := by decide +kernel
theorem dX6_doze_120 : decode cX6_doze 120 = .ok (.iload 11, 2) := by decide +kernel
theorem dX6_doze_122 : decode cX6_doze 122 = .ok (.iload 6, 2) := by decide +kernel
theorem dX6_doze_124 : decode cX6_doze 124 = .ok (.if_icmp .gt 117, 3) := by decide +kernel
theorem dX6_doze_127 : decode cX6_doze 127 = .ok (.iload 11, 2) := by decide +kernel
theorem dX6_doze_129 : decode cX6_doze 129 = .ok (.iload 6, 2) := by decide +kernel
theorem dX6_doze_131 : decode cX6_doze 131 = .ok (.iconst (-1), 1) := by decide +kernel
theorem dX6_doze_132 : decode cX6_doze 132 = .ok (.ixor, 1) := by decide +kernel
theorem dX6_doze_133 : decode cX6_doze 133 = .ok (.iand, 1) := by decide +kernel
theorem dX6_doze_134 : decode cX6_doze 134 = .ok (.ifCond .ne 101, 3) := by decide +kernel
theorem dX6_doze_137 : decode cX6_doze 137 = .ok (.lconst 1, 1) := by decide +kernel
theorem dX6_doze_138 : decode cX6_doze 138 = .ok (.lstore 12, 2) := by decide +kernel
theorem dX6_doze_140 : decode cX6_doze 140 = .ok (.iconst 0, 1) := by decide +kernel
theorem dX6_doze_141 : decode cX6_doze 141 = .ok (.istore 14, 2) := by decide +kernel
theorem dX6_doze_143 : decode cX6_doze 143 = .ok (.iload 14, 2) := by decide +kernel
theorem dX6_doze_145 : decode cX6_doze 145 = .ok (.aload_n 0, 1) := by decide +kernel
theorem dX6_doze_146 : decode cX6_doze 146 = .ok (.getfield 19, 3) := by decide +kernel
theorem dX6_doze_149 : decode cX6_doze 149 = .ok (.iconst 2, 1) := by decide +kernel
theorem dX6_doze_150 : decode cX6_doze 150 = .ok (.iaload, 1) := by decide +kernel
theorem dX6_doze_151 : decode cX6_doze 151 = .ok (.if_icmp .ge 50, 3) := by decide +kernel
theorem dX6_doze_154 : decode cX6_doze 154 = .ok (.lload 12, 2) := by decide +kernel
theorem dX6_doze_156 : decode cX6_doze 156 = .ok (.iload 6, 2) := by decide +kernel
theorem dX6_doze_158 : decode cX6_doze 158 = .ok (.iload 14, 2) := by decide +kernel
theorem dX6_doze_160 : decode cX6_doze 160 = .ok (.invokestatic 162, 3) := by decide +kernel
theorem dX6_doze_163 : decode cX6_doze 163 = .ok (.ifCond .ne 7, 3) := by decide +kernel
theorem dX6_doze_166 : decode cX6_doze 166 = .ok (.lconst 1, 1) := by decide +kernel
theorem dX6_doze_167 : decode cX6_doze 167 = .ok (.goto 25, 3) := by decide +kernel
theorem dX6_doze_170 : decode cX6_doze 170 = .ok (.iload 11, 2) := by decide +kernel
theorem dX6_doze_172 : decode cX6_doze 172 = .ok (.iload 14, 2) := by decide +kernel
theorem dX6_doze_174 : decode cX6_doze 174 = .ok (.invokestatic 162, 3) := by decide +kernel
theorem dX6_doze_177 : decode cX6_doze 177 = .ok (.ifCond .eq 9, 3) := by decide +kernel
theorem dX6_doze_180 : decode cX6_doze 180 = .ok (.iload 4, 2) := by decide +kernel
theorem dX6_doze_182 : decode cX6_doze 182 = .ok (.i2l, 1) := by decide +kernel
theorem dX6_doze_183 : decode cX6_doze 183 = .ok (.goto 9, 3) := by decide +kernel
theorem dX6_doze_186 : decode cX6_doze 186 = .ok (.bipush 10, 2) := by decide +kernel
theorem dX6_doze_188 : decode cX6_doze 188 = .ok (.iload 4, 2) := by decide +kernel
theorem dX6_doze_190 : decode cX6_doze 190 = .ok (.isub, 1) := by decide +kernel
theorem dX6_doze_191 : decode cX6_doze 191 = .ok (.i2l, 1) := by decide +kernel
theorem dX6_doze_192 : decode cX6_doze 192 = .ok (.lmul, 1) := by decide +kernel
theorem dX6_doze_193 : decode cX6_doze 193 = .ok (.lstore 12, 2) := by decide +kernel
theorem dX6_doze_195 : decode cX6_doze 195 = .ok (.iinc 14 1, 3) := by decide +kernel
theorem dX6_doze_198 : decode cX6_doze 198 = .ok (.goto (-55), 3) := by decide +kernel
theorem dX6_doze_201 : decode cX6_doze 201 = .ok (.aload_n 0, 1) := by decide +kernel
theorem dX6_doze_202 : decode cX6_doze 202 = .ok (.getfield 19, 3) := by decide +kernel
theorem dX6_doze_205 : decode cX6_doze 205 = .ok (.iconst 4, 1) := by decide +kernel
theorem dX6_doze_206 : decode cX6_doze 206 = .ok (.iload 6, 2) := by decide +kernel
theorem dX6_doze_208 : decode cX6_doze 208 = .ok (.iload 11, 2) := by decide +kernel
theorem dX6_doze_210 : decode cX6_doze 210 = .ok (.iconst (-1), 1) := by decide +kernel
theorem dX6_doze_211 : decode cX6_doze 211 = .ok (.ixor, 1) := by decide +kernel
theorem dX6_doze_212 : decode cX6_doze 212 = .ok (.iand, 1) := by decide +kernel
theorem dX6_doze_213 : decode cX6_doze 213 = .ok (.iastore, 1) := by decide +kernel
theorem dX6_doze_214 : decode cX6_doze 214 = .ok (.lload 7, 2) := by decide +kernel
theorem dX6_doze_216 : decode cX6_doze 216 = .ok (.aload_n 0, 1) := by decide +kernel
theorem dX6_doze_217 : decode cX6_doze 217 = .ok (.iload_n 1, 1) := by decide +kernel
theorem dX6_doze_218 : decode cX6_doze 218 = .ok (.iload_n 3, 1) := by decide +kernel
theorem dX6_doze_219 : decode cX6_doze 219 = .ok (.invokevirtual 214, 3) := by decide +kernel
theorem dX6_doze_222 : decode cX6_doze 222 = .ok (.iload_n 2, 1) := by decide +kernel
theorem dX6_doze_223 : decode cX6_doze 223 = .ok (.if_icmp .gt 8, 3) := by decide +kernel
theorem dX6_doze_226 : decode cX6_doze 226 = .ok (.lload 12, 2) := by decide +kernel
theorem dX6_doze_228 : decode cX6_doze 228 = .ok (.goto 4, 3) := by decide +kernel
theorem dX6_doze_231 : decode cX6_doze 231 = .ok (.lconst 0, 1) := by decide +kernel
theorem dX6_doze_232 : decode cX6_doze 232 = .ok (.ladd, 1) := by decide +kernel
theorem dX6_doze_233 : decode cX6_doze 233 = .ok (.lstore 7, 2) := by decide +kernel
theorem dX6_doze_235 : decode cX6_doze 235 = .ok (.iinc 11 1, 3) := by decide +kernel
theorem dX6_doze_238 : decode cX6_doze 238 = .ok (.goto (-118), 3) := by decide +kernel
theorem dX6_doze_241 : decode cX6_doze 241 = .ok (.lload 7, 2) := by decide +kernel
theorem dX6_doze_243 : decode cX6_doze 243 = .ok (.lstore 11, 2) := by decide +kernel
theorem dX6_doze_245 : decode cX6_doze 245 = .ok (.lload 9, 2) := by decide +kernel
theorem dX6_doze_247 : decode cX6_doze 247 = .ok (.lstore 13, 2) := by decide +kernel
theorem dX6_doze_249 : decode cX6_doze 249 = .ok (.lload 13, 2) := by decide +kernel
theorem dX6_doze_251 : decode cX6_doze 251 = .ok (.lconst 0, 1) := by decide +kernel
theorem dX6_doze_252 : decode cX6_doze 252 = .ok (.lcmp, 1) := by decide +kernel
theorem dX6_doze_253 : decode cX6_doze 253 = .ok (.ifCond .eq 21, 3) := by decide +kernel
theorem dX6_doze_256 : decode cX6_doze 256 = .ok (.lload 11, 2) := by decide +kernel
theorem dX6_doze_258 : decode cX6_doze 258 = .ok (.lload 13, 2) := by decide +kernel
theorem dX6_doze_260 : decode cX6_doze 260 = .ok (.lrem, 1) := by decide +kernel
theorem dX6_doze_261 : decode cX6_doze 261 = .ok (.lstore 15, 2) := by decide +kernel
theorem dX6_doze_263 : decode cX6_doze 263 = .ok (.lload 13, 2) := by decide +kernel
theorem dX6_doze_265 : decode cX6_doze 265 = .ok (.lstore 11, 2) := by decide +kernel
theorem dX6_doze_267 : decode cX6_doze 267 = .ok (.lload 15, 2) := by decide +kernel
theorem dX6_doze_269 : decode cX6_doze 269 = .ok (.lstore 13, 2) := by decide +kernel
theorem dX6_doze_271 : decode cX6_doze 271 = .ok (.goto (-22), 3) := by decide +kernel
theorem dX6_doze_274 : decode cX6_doze 274 = .ok (.iload 5, 2) := by decide +kernel
theorem dX6_doze_276 : decode cX6_doze 276 = .ok (.ifCond .ne 11, 3) := by decide +kernel
theorem dX6_doze_279 : decode cX6_doze 279 = .ok (.lload 7, 2) := by decide +kernel
theorem dX6_doze_281 : decode cX6_doze 281 = .ok (.lload 11, 2) := by decide +kernel
theorem dX6_doze_283 : decode cX6_doze 283 = .ok (.ldiv, 1) := by decide +kernel
theorem dX6_doze_284 : decode cX6_doze 284 = .ok (.goto 8, 3) := by decide +kernel
theorem dX6_doze_287 : decode cX6_doze 287 = .ok (.lload 9, 2) := by decide +kernel
theorem dX6_doze_289 : decode cX6_doze 289 = .ok (.lload 11, 2) := by decide +kernel
theorem dX6_doze_291 : decode cX6_doze 291 = .ok (.ldiv, 1) := by decide +kernel
theorem dX6_doze_292 : decode cX6_doze 292 = .ok (.lreturn, 1) := by decide +kernel
theorem dX6_drawn_0 : decode cX6_drawn 0 = .ok (.aload_n 0, 1) := by decide +kernel
theorem dX6_drawn_1 : decode cX6_drawn 1 = .ok (.getfield 135, 3) := by decide +kernel
theorem dX6_drawn_4 : decode cX6_drawn 4 = .ok (.ifCond .ne 6, 3) := by decide +kernel
theorem dX6_drawn_7 : decode cX6_drawn 7 = .ok (.ldc 169, 2) := by decide +kernel
theorem dX6_drawn_9 : decode cX6_drawn 9 = .ok (.ireturn, 1) := by decide +kernel
theorem dX6_drawn_10 : decode cX6_drawn 10 = .ok (.iload_n 1, 1) := by decide +kernel
theorem dX6_drawn_11 : decode cX6_drawn 11 = .ok (.i2l, 1) := by decide +kernel
theorem dX6_drawn_12 : decode cX6_drawn 12 = .ok (.lconst 0, 1) := by decide +kernel
theorem dX6_drawn_13 : decode cX6_drawn 13 = .ok (.ldc2_w 202, 3) := by decide +kernel
theorem dX6_drawn_16 : decode cX6_drawn 16 = .ok (.invokestatic 57, 3) := by decide +kernel
theorem dX6_drawn_19 : decode cX6_drawn 19 = .ok (.ifCond .eq 22, 3) := by decide +kernel
theorem dX6_drawn_22 : decode cX6_drawn 22 = .ok (.iload_n 2, 1) := by decide +kernel
theorem dX6_drawn_23 : decode cX6_drawn 23 = .ok (.i2l, 1) := by decide +kernel
theorem dX6_drawn_24 : decode cX6_drawn 24 = .ok (.lconst 1, 1) := by decide +kernel
theorem dX6_drawn_25 : decode cX6_drawn 25 = .ok (.ldc2_w 239, 3) := by decide +kernel
theorem dX6_drawn_28 : decode cX6_drawn 28 = .ok (.invokestatic 57, 3) := by decide +kernel
theorem dX6_drawn_31 : decode cX6_drawn 31 = .ok (.ifCond .eq 10, 3) := by decide +kernel
theorem dX6_drawn_34 : decode cX6_drawn 34 = .ok (.iload_n 3, 1) := by decide +kernel
theorem dX6_drawn_35 : decode cX6_drawn 35 = .ok (.invokestatic 217, 3) := by decide +kernel
theorem dX6_drawn_38 : decode cX6_drawn 38 = .ok (.ifCond .ne 6, 3) := by decide +kernel
theorem dX6_drawn_41 : decode cX6_drawn 41 = .ok (.ldc 67, 2) := by decide +kernel
theorem dX6_drawn_43 : decode cX6_drawn 43 = .ok (.ireturn, 1) := by decide +kernel
theorem dX6_drawn_44 : decode cX6_drawn 44 = .ok (.aload_n 0, 1) := by decide +kernel
theorem dX6_drawn_45 : decode cX6_drawn 45 = .ok (.invokevirtual 204, 3) := by decide +kernel
theorem dX6_drawn_48 : decode cX6_drawn 48 = .ok (.iload_n 2, 1) := by decide +kernel
theorem dX6_drawn_49 : decode cX6_drawn 49 = .ok (.i2l, 1) := by decide +kernel
theorem dX6_drawn_50 : decode cX6_drawn 50 = .ok (.lstore 4, 2) := by decide +kernel
theorem dX6_drawn_52 : decode cX6_drawn 52 = .ok (.iconst 0, 1) := by decide +kernel
theorem dX6_drawn_53 : decode cX6_drawn 53 = .ok (.istore 6, 2) := by decide +kernel
theorem dX6_drawn_55 : decode cX6_drawn 55 = .ok (.iload 6, 2) := by decide +kernel
theorem dX6_drawn_57 : decode cX6_drawn 57 = .ok (.iload_n 1, 1) := by decide +kernel
theorem dX6_drawn_58 : decode cX6_drawn 58 = .ok (.if_icmp .ge 65, 3) := by decide +kernel
theorem dX6_drawn_61 : decode cX6_drawn 61 = .ok (.lload 4, 2) := by decide +kernel
theorem dX6_drawn_63 : decode cX6_drawn 63 = .ok (.ldc2_w 241, 3) := by decide +kernel
theorem dX6_drawn_66 : decode cX6_drawn 66 = .ok (.lmul, 1) := by decide +kernel
theorem dX6_drawn_67 : decode cX6_drawn 67 = .ok (.ldc2_w 243, 3) := by decide +kernel
theorem dX6_drawn_70 : decode cX6_drawn 70 = .ok (.lrem, 1) := by decide +kernel
theorem dX6_drawn_71 : decode cX6_drawn 71 = .ok (.lstore 4, 2) := by decide +kernel
theorem dX6_drawn_73 : decode cX6_drawn 73 = .ok (.lload 4, 2) := by decide +kernel
theorem dX6_drawn_75 : decode cX6_drawn 75 = .ok (.aload_n 0, 1) := by decide +kernel
theorem dX6_drawn_76 : decode cX6_drawn 76 = .ok (.getfield 19, 3) := by decide +kernel
theorem dX6_drawn_79 : decode cX6_drawn 79 = .ok (.iconst 2, 1) := by decide +kernel
theorem dX6_drawn_80 : decode cX6_drawn 80 = .ok (.iaload, 1) := by decide +kernel
theorem dX6_drawn_81 : decode cX6_drawn 81 = .ok (.i2l, 1) := by decide +kernel
theorem dX6_drawn_82 : decode cX6_drawn 82 = .ok (.lrem, 1) := by decide +kernel
theorem dX6_drawn_83 : decode cX6_drawn 83 = .ok (.l2i, 1) := by decide +kernel
theorem dX6_drawn_84 : decode cX6_drawn 84 = .ok (.istore 7, 2) := by decide +kernel
theorem dX6_drawn_86 : decode cX6_drawn 86 = .ok (.aload_n 0, 1) := by decide +kernel
theorem dX6_drawn_87 : decode cX6_drawn 87 = .ok (.getfield 19, 3) := by decide +kernel
theorem dX6_drawn_90 : decode cX6_drawn 90 = .ok (.iconst 4, 1) := by decide +kernel
theorem dX6_drawn_91 : decode cX6_drawn 91 = .ok (.iconst 1, 1) := by decide +kernel
theorem dX6_drawn_92 : decode cX6_drawn 92 = .ok (.iload 7, 2) := by decide +kernel
theorem dX6_drawn_94 : decode cX6_drawn 94 = .ok (.ishl, 1) := by decide +kernel
theorem dX6_drawn_95 : decode cX6_drawn 95 = .ok (.iastore, 1) := by decide +kernel
theorem dX6_drawn_96 : decode cX6_drawn 96 = .ok (.lload 4, 2) := by decide +kernel
theorem dX6_drawn_98 : decode cX6_drawn 98 = .ok (.ldc2_w 207, 3) := by decide +kernel
theorem dX6_drawn_101 : decode cX6_drawn 101 = .ok (.lrem, 1) := by decide +kernel
theorem dX6_drawn_102 : decode cX6_drawn 102 = .ok (.lconst 0, 1) := by decide +kernel
theorem dX6_drawn_103 : decode cX6_drawn 103 = .ok (.lcmp, 1) := by decide +kernel
theorem dX6_drawn_104 : decode cX6_drawn 104 = .ok (.ifCond .ne 9, 3) := by decide +kernel
theorem dX6_drawn_107 : decode cX6_drawn 107 = .ok (.aload_n 0, 1) := by decide +kernel
theorem dX6_drawn_108 : decode cX6_drawn 108 = .ok (.iload 7, 2) := by decide +kernel
theorem dX6_drawn_110 : decode cX6_drawn 110 = .ok (.invokevirtual 183, 3) := by decide +kernel
theorem dX6_drawn_113 : decode cX6_drawn 113 = .ok (.aload_n 0, 1) := by decide +kernel
theorem dX6_drawn_114 : decode cX6_drawn 114 = .ok (.invokevirtual 175, 3) := by decide +kernel
theorem dX6_drawn_117 : decode cX6_drawn 117 = .ok (.iinc 6 1, 3) := by decide +kernel
theorem dX6_drawn_120 : decode cX6_drawn 120 = .ok (.goto (-65), 3) := by decide +kernel
theorem dX6_drawn_123 : decode cX6_drawn 123 = .ok (.iload_n 3, 1) := by decide +kernel
theorem dX6_drawn_124 : decode cX6_drawn 124 = .ok (.ifCond .ne 11, 3) := by decide +kernel
theorem dX6_drawn_127 : decode cX6_drawn 127 = .ok (.aload_n 0, 1) := by decide +kernel
theorem dX6_drawn_128 : decode cX6_drawn 128 = .ok (.iconst 0, 1) := by decide +kernel
theorem dX6_drawn_129 : decode cX6_drawn 129 = .ok (.invokevirtual 153, 3) := by decide +kernel
theorem dX6_drawn_132 : decode cX6_drawn 132 = .ok (.goto 9, 3) := by decide +kernel
theorem dX6_drawn_135 : decode cX6_drawn 135 = .ok (.aload_n 0, 1) := by decide +kernel
theorem dX6_drawn_136 : decode cX6_drawn 136 = .ok (.bipush 11, 2) := by decide +kernel
theorem dX6_drawn_138 : decode cX6_drawn 138 = .ok (.invokevirtual 209, 3) := by decide +kernel
theorem dX6_drawn_141 : decode cX6_drawn 141 = .ok (.istore 6, 2) := by decide +kernel
theorem dX6_drawn_143 : decode cX6_drawn 143 = .ok (.aload_n 0, 1) := by decide +kernel
theorem dX6_drawn_144 : decode cX6_drawn 144 = .ok (.invokevirtual 199, 3) := by decide +kernel
theorem dX6_drawn_147 : decode cX6_drawn 147 = .ok (.iload 6, 2) := by decide +kernel
theorem dX6_drawn_149 : decode cX6_drawn 149 = .ok (.ireturn, 1) := by decide +kernel
theorem dX6_image_0 : decode cX6_image 0 = .ok (.iload_n 1, 1) := by decide +kernel
theorem dX6_image_1 : decode cX6_image 1 = .ok (.i2l, 1) := by decide +kernel
theorem dX6_image_2 : decode cX6_image 2 = .ok (.lconst 0, 1) := by decide +kernel
theorem dX6_image_3 : decode cX6_image 3 = .ok (.lconst 1, 1) := by decide +kernel
theorem dX6_image_4 : decode cX6_image 4 = .ok (.invokestatic 57, 3) := by decide +kernel
theorem dX6_image_7 : decode cX6_image 7 = .ok (.ifCond .ne 6, 3) := by decide +kernel
theorem dX6_image_10 : decode cX6_image 10 = .ok (.ldc 67, 2) := by decide +kernel
theorem dX6_image_12 : decode cX6_image 12 = .ok (.ireturn, 1) := by decide +kernel
theorem dX6_image_13 : decode cX6_image 13 = .ok (.aload_n 0, 1) := by decide +kernel
theorem dX6_image_14 : decode cX6_image 14 = .ok (.getfield 135, 3) := by decide +kernel
theorem dX6_image_17 : decode cX6_image 17 = .ok (.ifCond .ne 6, 3) := by decide +kernel
theorem dX6_image_20 : decode cX6_image 20 = .ok (.ldc 169, 2) := by decide +kernel
theorem dX6_image_22 : decode cX6_image 22 = .ok (.ireturn, 1) := by decide +kernel
theorem dX6_image_23 : decode cX6_image 23 = .ok (.iconst 0, 1) := by decide +kernel
theorem dX6_image_24 : decode cX6_image 24 = .ok (.istore_n 2, 1) := by decide +kernel
theorem dX6_image_25 : decode cX6_image 25 = .ok (.iload_n 2, 1) := by decide +kernel
theorem dX6_image_26 : decode cX6_image 26 = .ok (.bipush 41, 2) := by decide +kernel
theorem dX6_image_28 : decode cX6_image 28 = .ok (.if_icmp .ge 26, 3) := by decide +kernel
theorem dX6_image_31 : decode cX6_image 31 = .ok (.aload_n 0, 1) := by decide +kernel
theorem dX6_image_32 : decode cX6_image 32 = .ok (.getfield 44, 3) := by decide +kernel
theorem dX6_image_35 : decode cX6_image 35 = .ok (.bipush 41, 2) := by decide +kernel
theorem dX6_image_37 : decode cX6_image 37 = .ok (.iload_n 1, 1) := by decide +kernel
theorem dX6_image_38 : decode cX6_image 38 = .ok (.imul, 1) := by decide +kernel
theorem dX6_image_39 : decode cX6_image 39 = .ok (.iload_n 2, 1) := by decide +kernel
theorem dX6_image_40 : decode cX6_image 40 = .ok (.iadd, 1) := by decide +kernel
theorem dX6_image_41 : decode cX6_image 41 = .ok (.aload_n 0, 1) := by decide +kernel
theorem dX6_image_42 : decode cX6_image 42 = .ok (.getfield 19, 3) := by decide +kernel
theorem dX6_image_45 : decode cX6_image 45 = .ok (.iload_n 2, 1) := by decide +kernel
theorem dX6_image_46 : decode cX6_image 46 = .ok (.iaload, 1) := by decide +kernel
theorem dX6_image_47 : decode cX6_image 47 = .ok (.iastore, 1) := by decide +kernel
theorem dX6_image_48 : decode cX6_image 48 = .ok (.iinc 2 1, 3) := by decide +kernel
theorem dX6_image_51 : decode cX6_image 51 = .ok (.goto (-26), 3) := by decide +kernel
theorem dX6_image_54 : decode cX6_image 54 = .ok (.aload_n 0, 1) := by decide +kernel
theorem dX6_image_55 : decode cX6_image 55 = .ok (.getfield 40, 3) := by decide +kernel
theorem dX6_image_58 : decode cX6_image 58 = .ok (.iload_n 1, 1) := by decide +kernel
theorem dX6_image_59 : decode cX6_image 59 = .ok (.iconst 1, 1) := by decide +kernel
theorem dX6_image_60 : decode cX6_image 60 = .ok (.bastore, 1) := by decide +kernel
theorem dX6_image_61 : decode cX6_image 61 = .ok (.iconst 1, 1) := by decide +kernel
theorem dX6_image_62 : decode cX6_image 62 = .ok (.ireturn, 1) := by decide +kernel
theorem dX6_restore_0 : decode cX6_restore 0 = .ok (.iload_n 1, 1) := by decide +kernel
theorem dX6_restore_1 : decode cX6_restore 1 = .ok (.i2l, 1) := by decide +kernel
theorem dX6_restore_2 : decode cX6_restore 2 = .ok (.lconst 0, 1) := by decide +kernel
theorem dX6_restore_3 : decode cX6_restore 3 = .ok (.lconst 1, 1) := by decide +kernel
theorem dX6_restore_4 : decode cX6_restore 4 = .ok (.invokestatic 57, 3) := by decide +kernel
theorem dX6_restore_7 : decode cX6_restore 7 = .ok (.ifCond .ne 6, 3) := by decide +kernel
theorem dX6_restore_10 : decode cX6_restore 10 = .ok (.ldc 67, 2) := by decide +kernel
theorem dX6_restore_12 : decode cX6_restore 12 = .ok (.ireturn, 1) := by decide +kernel
theorem dX6_restore_13 : decode cX6_restore 13 = .ok (.aload_n 0, 1) := by decide +kernel
theorem dX6_restore_14 : decode cX6_restore 14 = .ok (.getfield 40, 3) := by decide +kernel
theorem dX6_restore_17 : decode cX6_restore 17 = .ok (.iload_n 1, 1) := by decide +kernel
theorem dX6_restore_18 : decode cX6_restore 18 = .ok (.baload, 1) := by decide +kernel
theorem dX6_restore_19 : decode cX6_restore 19 = .ok (.ifCond .ne 6, 3) := by decide +kernel
theorem dX6_restore_22 : decode cX6_restore 22 = .ok (.ldc 169, 2) := by decide +kernel
theorem dX6_restore_24 : decode cX6_restore 24 = .ok (.ireturn, 1) := by decide +kernel
theorem dX6_restore_25 : decode cX6_restore 25 = .ok (.iconst 0, 1) := by decide +kernel
theorem dX6_restore_26 : decode cX6_restore 26 = .ok (.istore_n 2, 1) := by decide +kernel
theorem dX6_restore_27 : decode cX6_restore 27 = .ok (.iload_n 2, 1) := by decide +kernel
theorem dX6_restore_28 : decode cX6_restore 28 = .ok (.bipush 41, 2) := by decide +kernel
theorem dX6_restore_30 : decode cX6_restore 30 = .ok (.if_icmp .ge 26, 3) := by decide +kernel
theorem dX6_restore_33 : decode cX6_restore 33 = .ok (.aload_n 0, 1) := by decide +kernel
theorem dX6_restore_34 : decode cX6_restore 34 = .ok (.getfield 19, 3) := by decide +kernel
theorem dX6_restore_37 : decode cX6_restore 37 = .ok (.iload_n 2, 1) := by decide +kernel
theorem dX6_restore_38 : decode cX6_restore 38 = .ok (.aload_n 0, 1) := by decide +kernel
theorem dX6_restore_39 : decode cX6_restore 39 = .ok (.getfield 44, 3) := by decide +kernel
theorem dX6_restore_42 : decode cX6_restore 42 = .ok (.bipush 41, 2) := by decide +kernel
theorem dX6_restore_44 : decode cX6_restore 44 = .ok (.iload_n 1, 1) := by decide +kernel
theorem dX6_restore_45 : decode cX6_restore 45 = .ok (.imul, 1) := by decide +kernel
theorem dX6_restore_46 : decode cX6_restore 46 = .ok (.iload_n 2, 1) := by decide +kernel
theorem dX6_restore_47 : decode cX6_restore 47 = .ok (.iadd, 1) := by decide +kernel
theorem dX6_restore_48 : decode cX6_restore 48 = .ok (.iaload, 1) := by decide +kernel
theorem dX6_restore_49 : decode cX6_restore 49 = .ok (.iastore, 1) := by decide +kernel
theorem dX6_restore_50 : decode cX6_restore 50 = .ok (.iinc 2 1, 3) := by decide +kernel
theorem dX6_restore_53 : decode cX6_restore 53 = .ok (.goto (-26), 3) := by decide +kernel
theorem dX6_restore_56 : decode cX6_restore 56 = .ok (.aload_n 0, 1) := by decide +kernel
theorem dX6_restore_57 : decode cX6_restore 57 = .ok (.iconst 0, 1) := by decide +kernel
theorem dX6_restore_58 : decode cX6_restore 58 = .ok (.putfield 139, 3) := by decide +kernel
theorem dX6_restore_61 : decode cX6_restore 61 = .ok (.iconst 1, 1) := by decide +kernel
theorem dX6_restore_62 : decode cX6_restore 62 = .ok (.ireturn, 1) := by decide +kernel
theorem dX6_kind_0 : decode cX6_kind 0 = .ok (.aload_n 0, 1) := by decide +kernel
theorem dX6_kind_1 : decode cX6_kind 1 = .ok (.iload_n 1, 1) := by decide +kernel
theorem dX6_kind_2 : decode cX6_kind 2 = .ok (.invokevirtual 178, 3) := by decide +kernel
theorem dX6_kind_5 : decode cX6_kind 5 = .ok (.ifCond .eq 14, 3) := by decide +kernel
theorem dX6_kind_8 : decode cX6_kind 8 = .ok (.aload_n 0, 1) := by decide +kernel
theorem dX6_kind_9 : decode cX6_kind 9 = .ok (.getfield 19, 3) := by decide +kernel
theorem dX6_kind_12 : decode cX6_kind 12 = .ok (.iconst 5, 1) := by decide +kernel
theorem dX6_kind_13 : decode cX6_kind 13 = .ok (.iload_n 1, 1) := by decide +kernel
theorem dX6_kind_14 : decode cX6_kind 14 = .ok (.iadd, 1) := by decide +kernel
theorem dX6_kind_15 : decode cX6_kind 15 = .ok (.iaload, 1) := by decide +kernel
theorem dX6_kind_16 : decode cX6_kind 16 = .ok (.goto 5, 3) := by decide +kernel
theorem dX6_kind_19 : decode cX6_kind 19 = .ok (.ldc 67, 2) := by decide +kernel
theorem dX6_kind_21 : decode cX6_kind 21 = .ok (.ireturn, 1) := by decide +kernel
theorem dX6_isKind_0 : decode cX6_isKind 0 = .ok (.iload_n 1, 1) := by decide +kernel
theorem dX6_isKind_1 : decode cX6_isKind 1 = .ok (.ifCond .eq 28, 3) := by decide +kernel
theorem dX6_isKind_4 : decode cX6_isKind 4 = .ok (.iload_n 0, 1) := by decide +kernel
theorem dX6_isKind_5 : decode cX6_isKind 5 = .ok (.iload_n 1, 1) := by decide +kernel
theorem dX6_isKind_6 : decode cX6_isKind 6 = .ok (.if_icmp .eq 23, 3) := by decide +kernel
theorem dX6_isKind_9 : decode cX6_isKind 9 = .ok (.iload_n 1, 1) := by decide +kernel
theorem dX6_isKind_10 : decode cX6_isKind 10 = .ok (.iconst 1, 1) := by decide +kernel
theorem dX6_isKind_11 : decode cX6_isKind 11 = .ok (.if_icmp .ne 8, 3) := by decide +kernel
theorem dX6_isKind_14 : decode cX6_isKind 14 = .ok (.iload_n 0, 1) := by decide +kernel
theorem dX6_isKind_15 : decode cX6_isKind 15 = .ok (.iconst 4, 1) := by decide +kernel
theorem dX6_isKind_16 : decode cX6_isKind 16 = .ok (.if_icmp .lt 13, 3) := by decide +kernel
theorem dX6_isKind_19 : decode cX6_isKind 19 = .ok (.iload_n 1, 1) := by decide +kernel
theorem dX6_isKind_20 : decode cX6_isKind 20 = .ok (.iconst 4, 1) := by decide +kernel
theorem dX6_isKind_21 : decode cX6_isKind 21 = .ok (.if_icmp .ne 12, 3) := by decide +kernel
theorem dX6_isKind_24 : decode cX6_isKind 24 = .ok (.iload_n 0, 1) := by decide +kernel
theorem dX6_isKind_25 : decode cX6_isKind 25 = .ok (.iconst 5, 1) := by decide +kernel
theorem dX6_isKind_26 : decode cX6_isKind 26 = .ok (.if_icmp .ne 7, 3) := by decide +kernel
theorem dX6_isKind_29 : decode cX6_isKind 29 = .ok (.iconst 1, 1) := by decide +kernel
theorem dX6_isKind_30 : decode cX6_isKind 30 = .ok (.goto 4, 3) := by decide +kernel
theorem dX6_isKind_33 : decode cX6_isKind 33 = .ok (.iconst 0, 1) := by decide +kernel
theorem dX6_isKind_34 : decode cX6_isKind 34 = .ok (.ireturn, 1) := by decide +kernel
theorem dX6_as_0 : decode cX6_as 0 = .ok (.aload_n 0, 1) := by decide +kernel
theorem dX6_as_1 : decode cX6_as 1 = .ok (.iload_n 1, 1) := by decide +kernel
theorem dX6_as_2 : decode cX6_as 2 = .ok (.invokevirtual 178, 3) := by decide +kernel
theorem dX6_as_5 : decode cX6_as 5 = .ok (.ifCond .eq 15, 3) := by decide +kernel
theorem dX6_as_8 : decode cX6_as 8 = .ok (.iload_n 2, 1) := by decide +kernel
theorem dX6_as_9 : decode cX6_as 9 = .ok (.i2l, 1) := by decide +kernel
theorem dX6_as_10 : decode cX6_as 10 = .ok (.lconst 0, 1) := by decide +kernel
theorem dX6_as_11 : decode cX6_as 11 = .ok (.ldc2_w 207, 3) := by decide +kernel
theorem dX6_as_14 : decode cX6_as 14 = .ok (.invokestatic 57, 3) := by decide +kernel
theorem dX6_as_17 : decode cX6_as 17 = .ok (.ifCond .ne 6, 3) := by decide +kernel
theorem dX6_as_20 : decode cX6_as 20 = .ok (.ldc 67, 2) := by decide +kernel
theorem dX6_as_22 : decode cX6_as 22 = .ok (.ireturn, 1) := by decide +kernel
theorem dX6_as_23 : decode cX6_as 23 = .ok (.aload_n 0, 1) := by decide +kernel
theorem dX6_as_24 : decode cX6_as 24 = .ok (.getfield 19, 3) := by decide +kernel
theorem dX6_as_27 : decode cX6_as 27 = .ok (.iconst 5, 1) := by decide +kernel
theorem dX6_as_28 : decode cX6_as 28 = .ok (.iload_n 1, 1) := by decide +kernel
theorem dX6_as_29 : decode cX6_as 29 = .ok (.iadd, 1) := by decide +kernel
theorem dX6_as_30 : decode cX6_as 30 = .ok (.iaload, 1) := by decide +kernel
theorem dX6_as_31 : decode cX6_as 31 = .ok (.iload_n 2, 1) := by decide +kernel
theorem dX6_as_32 : decode cX6_as 32 = .ok (.invokestatic 245, 3) := by decide +kernel
theorem dX6_as_35 : decode cX6_as 35 = .ok (.ifCond .eq 11, 3) := by decide +kernel
theorem dX6_as_38 : decode cX6_as 38 = .ok (.aload_n 0, 1) := by decide +kernel
theorem dX6_as_39 : decode cX6_as 39 = .ok (.iload_n 1, 1) := by decide +kernel
theorem dX6_as_40 : decode cX6_as 40 = .ok (.invokevirtual 72, 3) := by decide +kernel
theorem dX6_as_43 : decode cX6_as 43 = .ok (.goto 8, 3) := by decide +kernel
theorem dX6_as_46 : decode cX6_as 46 = .ok (.aload_n 0, 1) := by decide +kernel
theorem dX6_as_47 : decode cX6_as 47 = .ok (.iconst 3, 1) := by decide +kernel
theorem dX6_as_48 : decode cX6_as 48 = .ok (.invokevirtual 68, 3) := by decide +kernel
theorem dX6_as_51 : decode cX6_as 51 = .ok (.ireturn, 1) := by decide +kernel
theorem dX6_begin_0 : decode cX6_begin 0 = .ok (.aload_n 0, 1) := by decide +kernel
theorem dX6_begin_1 : decode cX6_begin 1 = .ok (.getfield 248, 3) := by decide +kernel
theorem dX6_begin_4 : decode cX6_begin 4 = .ok (.bipush 16, 2) := by decide +kernel
theorem dX6_begin_6 : decode cX6_begin 6 = .ok (.if_icmp .ge 23, 3) := by decide +kernel
theorem dX6_begin_9 : decode cX6_begin 9 = .ok (.aload_n 0, 1) := by decide +kernel
theorem dX6_begin_10 : decode cX6_begin 10 = .ok (.getfield 47, 3) := by decide +kernel
theorem dX6_begin_13 : decode cX6_begin 13 = .ok (.aload_n 0, 1) := by decide +kernel
theorem dX6_begin_14 : decode cX6_begin 14 = .ok (.getfield 248, 3) := by decide +kernel
theorem dX6_begin_17 : decode cX6_begin 17 = .ok (.iload_n 1, 1) := by decide +kernel
theorem dX6_begin_18 : decode cX6_begin 18 = .ok (.iastore, 1) := by decide +kernel
theorem dX6_begin_19 : decode cX6_begin 19 = .ok (.aload_n 0, 1) := by decide +kernel
theorem dX6_begin_20 : decode cX6_begin 20 = .ok (.dup, 1) := by decide +kernel
theorem dX6_begin_21 : decode cX6_begin 21 = .ok (.getfield 248, 3) := by decide +kernel
theorem dX6_begin_24 : decode cX6_begin 24 = .ok (.iconst 1, 1) := by decide +kernel
theorem dX6_begin_25 : decode cX6_begin 25 = .ok (.iadd, 1) := by decide +kernel
theorem dX6_begin_26 : decode cX6_begin 26 = .ok (.putfield 248, 3) := by decide +kernel
theorem dX6_begin_29 : decode cX6_begin 29 = .ok (.return_, 1) := by decide +kernel
theorem dX6_lent_0 : decode cX6_lent 0 = .ok (.aload_n 0, 1) := by decide +kernel
theorem dX6_lent_1 : decode cX6_lent 1 = .ok (.iload_n 2, 1) := by decide +kernel
theorem dX6_lent_2 : decode cX6_lent 2 = .ok (.invokevirtual 251, 3) := by decide +kernel
theorem dX6_lent_5 : decode cX6_lent 5 = .ok (.iload_n 2, 1) := by decide +kernel
theorem dX6_lent_6 : decode cX6_lent 6 = .ok (.bipush 10, 2) := by decide +kernel
theorem dX6_lent_8 : decode cX6_lent 8 = .ok (.if_icmp .ne 15, 3) := by decide +kernel
theorem dX6_lent_11 : decode cX6_lent 11 = .ok (.aload_n 0, 1) := by decide +kernel
theorem dX6_lent_12 : decode cX6_lent 12 = .ok (.getfield 19, 3) := by decide +kernel
theorem dX6_lent_15 : decode cX6_lent 15 = .ok (.bipush 11, 2) := by decide +kernel
theorem dX6_lent_17 : decode cX6_lent 17 = .ok (.iload_n 1, 1) := by decide +kernel
theorem dX6_lent_18 : decode cX6_lent 18 = .ok (.iadd, 1) := by decide +kernel
theorem dX6_lent_19 : decode cX6_lent 19 = .ok (.iaload, 1) := by decide +kernel
theorem dX6_lent_20 : decode cX6_lent 20 = .ok (.goto 4, 3) := by decide +kernel
theorem dX6_lent_23 : decode cX6_lent 23 = .ok (.iload_n 1, 1) := by decide +kernel
theorem dX6_lent_24 : decode cX6_lent 24 = .ok (.ireturn, 1) := by decide +kernel
theorem dX6_plainMark_0 : decode cX6_plainMark 0 = .ok (.aload_n 0, 1) := by decide +kernel
theorem dX6_plainMark_1 : decode cX6_plainMark 1 = .ok (.bipush 21, 2) := by decide +kernel
theorem dX6_plainMark_3 : decode cX6_plainMark 3 = .ok (.invokevirtual 251, 3) := by decide +kernel
theorem dX6_plainMark_6 : decode cX6_plainMark 6 = .ok (.aload_n 0, 1) := by decide +kernel
theorem dX6_plainMark_7 : decode cX6_plainMark 7 = .ok (.iload_n 1, 1) := by decide +kernel
theorem dX6_plainMark_8 : decode cX6_plainMark 8 = .ok (.bipush 20, 2) := by decide +kernel
theorem dX6_plainMark_10 : decode cX6_plainMark 10 = .ok (.invokevirtual 254, 3) := by decide +kernel
theorem dX6_plainMark_13 : decode cX6_plainMark 13 = .ok (.aload_n 0, 1) := by decide +kernel
theorem dX6_plainMark_14 : decode cX6_plainMark 14 = .ok (.getfield 19, 3) := by decide +kernel
theorem dX6_plainMark_17 : decode cX6_plainMark 17 = .ok (.bipush 29, 2) := by decide +kernel
theorem dX6_plainMark_19 : decode cX6_plainMark 19 = .ok (.iload_n 1, 1) := by decide +kernel
theorem dX6_plainMark_20 : decode cX6_plainMark 20 = .ok (.iadd, 1) := by decide +kernel
theorem dX6_plainMark_21 : decode cX6_plainMark 21 = .ok (.iaload, 1) := by decide +kernel
theorem dX6_plainMark_22 : decode cX6_plainMark 22 = .ok (.iadd, 1) := by decide +kernel
theorem dX6_plainMark_23 : decode cX6_plainMark 23 = .ok (.ireturn, 1) := by decide +kernel
theorem dX6_oakSize_0 : decode cX6_oakSize 0 = .ok (.aload_n 0, 1) := by decide +kernel
theorem dX6_oakSize_1 : decode cX6_oakSize 1 = .ok (.bipush 13, 2) := by decide +kernel
theorem dX6_oakSize_3 : decode cX6_oakSize 3 = .ok (.invokevirtual 251, 3) := by decide +kernel
theorem dX6_oakSize_6 : decode cX6_oakSize 6 = .ok (.aload_n 0, 1) := by decide +kernel
theorem dX6_oakSize_7 : decode cX6_oakSize 7 = .ok (.iload_n 1, 1) := by decide +kernel
theorem dX6_oakSize_8 : decode cX6_oakSize 8 = .ok (.bipush 10, 2) := by decide +kernel
theorem dX6_oakSize_10 : decode cX6_oakSize 10 = .ok (.invokevirtual 254, 3) := by decide +kernel
theorem dX6_oakSize_13 : decode cX6_oakSize 13 = .ok (.bipush 100, 2) := by decide +kernel
theorem dX6_oakSize_15 : decode cX6_oakSize 15 = .ok (.isub, 1) := by decide +kernel
theorem dX6_oakSize_16 : decode cX6_oakSize 16 = .ok (.ireturn, 1) := by decide +kernel
theorem dX6_sizeOfOak_0 : decode cX6_sizeOfOak 0 = .ok (.aload_n 0, 1) := by decide +kernel
theorem dX6_sizeOfOak_1 : decode cX6_sizeOfOak 1 = .ok (.getfield 19, 3) := by decide +kernel
theorem dX6_sizeOfOak_4 : decode cX6_sizeOfOak 4 = .ok (.iconst 5, 1) := by decide +kernel
theorem dX6_sizeOfOak_5 : decode cX6_sizeOfOak 5 = .ok (.iload_n 1, 1) := by decide +kernel
theorem dX6_sizeOfOak_6 : decode cX6_sizeOfOak 6 = .ok (.iadd, 1) := by decide +kernel
theorem dX6_sizeOfOak_7 : decode cX6_sizeOfOak 7 = .ok (.iaload, 1) := by decide +kernel
theorem dX6_sizeOfOak_8 : decode cX6_sizeOfOak 8 = .ok (.iconst 5, 1) := by decide +kernel
theorem dX6_sizeOfOak_9 : decode cX6_sizeOfOak 9 = .ok (.if_icmp .ne 17, 3) := by decide +kernel
theorem dX6_sizeOfOak_12 : decode cX6_sizeOfOak 12 = .ok (.aload_n 0, 1) := by decide +kernel
theorem dX6_sizeOfOak_13 : decode cX6_sizeOfOak 13 = .ok (.bipush 14, 2) := by decide +kernel
theorem dX6_sizeOfOak_15 : decode cX6_sizeOfOak 15 = .ok (.invokevirtual 251, 3) := by decide +kernel
theorem dX6_sizeOfOak_18 : decode cX6_sizeOfOak 18 = .ok (.iconst 2, 1) := by decide +kernel
theorem dX6_sizeOfOak_19 : decode cX6_sizeOfOak 19 = .ok (.aload_n 0, 1) := by decide +kernel
theorem dX6_sizeOfOak_20 : decode cX6_sizeOfOak 20 = .ok (.iload_n 1, 1) := by decide +kernel
theorem dX6_sizeOfOak_21 : decode cX6_sizeOfOak 21 = .ok (.invokevirtual 257, 3) := by decide +kernel
theorem dX6_sizeOfOak_24 : decode cX6_sizeOfOak 24 = .ok (.imul, 1) := by decide +kernel
theorem dX6_sizeOfOak_25 : decode cX6_sizeOfOak 25 = .ok (.ireturn, 1) := by decide +kernel
theorem dX6_sizeOfOak_26 : decode cX6_sizeOfOak 26 = .ok (.aload_n 0, 1) := by decide +kernel
theorem dX6_sizeOfOak_27 : decode cX6_sizeOfOak 27 = .ok (.iload_n 1, 1) := by decide +kernel
theorem dX6_sizeOfOak_28 : decode cX6_sizeOfOak 28 = .ok (.invokevirtual 257, 3) := by decide +kernel
theorem dX6_sizeOfOak_31 : decode cX6_sizeOfOak 31 = .ok (.ireturn, 1) := by decide +kernel
theorem dX6_markOf_0 : decode cX6_markOf 0 = .ok (.aload_n 0, 1) := by decide +kernel
theorem dX6_markOf_1 : decode cX6_markOf 1 = .ok (.getfield 19, 3) := by decide +kernel
theorem dX6_markOf_4 : decode cX6_markOf 4 = .ok (.iconst 5, 1) := by decide +kernel
theorem dX6_markOf_5 : decode cX6_markOf 5 = .ok (.iload_n 1, 1) := by decide +kernel
theorem dX6_markOf_6 : decode cX6_markOf 6 = .ok (.iadd, 1) := by decide +kernel
theorem dX6_markOf_7 : decode cX6_markOf 7 = .ok (.iaload, 1) := by decide +kernel
theorem dX6_markOf_8 : decode cX6_markOf 8 = .ok (.istore_n 2, 1) := by decide +kernel
theorem dX6_markOf_9 : decode cX6_markOf 9 = .ok (.iload_n 2, 1) := by decide +kernel
theorem dX6_markOf_10 : decode cX6_markOf 10 = .ok (.iconst 2, 1) := by decide +kernel
theorem dX6_markOf_11 : decode cX6_markOf 11 = .ok (.if_icmp .ne 17, 3) := by decide +kernel
theorem dX6_markOf_14 : decode cX6_markOf 14 = .ok (.aload_n 0, 1) := by decide +kernel
theorem dX6_markOf_15 : decode cX6_markOf 15 = .ok (.bipush 24, 2) := by decide +kernel
theorem dX6_markOf_17 : decode cX6_markOf 17 = .ok (.invokevirtual 251, 3) := by decide +kernel
theorem dX6_markOf_20 : decode cX6_markOf 20 = .ok (.iconst 2, 1) := by decide +kernel
theorem dX6_markOf_21 : decode cX6_markOf 21 = .ok (.aload_n 0, 1) := by decide +kernel
theorem dX6_markOf_22 : decode cX6_markOf 22 = .ok (.iload_n 1, 1) := by decide +kernel
theorem dX6_markOf_23 : decode cX6_markOf 23 = .ok (.invokevirtual 260, 3) := by decide +kernel
theorem dX6_markOf_26 : decode cX6_markOf 26 = .ok (.imul, 1) := by decide +kernel
theorem dX6_markOf_27 : decode cX6_markOf 27 = .ok (.ireturn, 1) := by decide +kernel
theorem dX6_markOf_28 : decode cX6_markOf 28 = .ok (.iload_n 2, 1) := by decide +kernel
theorem dX6_markOf_29 : decode cX6_markOf 29 = .ok (.iconst 3, 1) := by decide +kernel
theorem dX6_markOf_30 : decode cX6_markOf 30 = .ok (.if_icmp .ne 19, 3) := by decide +kernel
theorem dX6_markOf_33 : decode cX6_markOf 33 = .ok (.aload_n 0, 1) := by decide +kernel
theorem dX6_markOf_34 : decode cX6_markOf 34 = .ok (.bipush 22, 2) := by decide +kernel
theorem dX6_markOf_36 : decode cX6_markOf 36 = .ok (.invokevirtual 251, 3) := by decide +kernel
theorem dX6_markOf_39 : decode cX6_markOf 39 = .ok (.aload_n 0, 1) := by decide +kernel
theorem dX6_markOf_40 : decode cX6_markOf 40 = .ok (.iload_n 1, 1) := by decide +kernel
theorem dX6_markOf_41 : decode cX6_markOf 41 = .ok (.invokevirtual 260, 3) := by decide +kernel
theorem dX6_markOf_44 : decode cX6_markOf 44 = .ok (.sipush 1000, 3) := by decide +kernel
theorem dX6_markOf_47 : decode cX6_markOf 47 = .ok (.isub, 1) := by decide +kernel
theorem dX6_markOf_48 : decode cX6_markOf 48 = .ok (.ireturn, 1) := by decide +kernel
theorem dX6_markOf_49 : decode cX6_markOf 49 = .ok (.iload_n 2, 1) := by decide +kernel
theorem dX6_markOf_50 : decode cX6_markOf 50 = .ok (.iconst 1, 1) := by decide +kernel
theorem dX6_markOf_51 : decode cX6_markOf 51 = .ok (.if_icmp .ne 9, 3) := by decide +kernel
theorem dX6_markOf_54 : decode cX6_markOf 54 = .ok (.aload_n 0, 1) := by decide +kernel
theorem dX6_markOf_55 : decode cX6_markOf 55 = .ok (.iload_n 1, 1) := by decide +kernel
theorem dX6_markOf_56 : decode cX6_markOf 56 = .ok (.invokevirtual 260, 3) := by decide +kernel
theorem dX6_markOf_59 : decode cX6_markOf 59 = .ok (.ireturn, 1) := by decide +kernel
theorem dX6_markOf_60 : decode cX6_markOf 60 = .ok (.aload_n 0, 1) := by decide +kernel
theorem dX6_markOf_61 : decode cX6_markOf 61 = .ok (.bipush 23, 2) := by decide +kernel
theorem dX6_markOf_63 : decode cX6_markOf 63 = .ok (.invokevirtual 251, 3) := by decide +kernel
theorem dX6_markOf_66 : decode cX6_markOf 66 = .ok (.aload_n 0, 1) := by decide +kernel
theorem dX6_markOf_67 : decode cX6_markOf 67 = .ok (.iload_n 1, 1) := by decide +kernel
theorem dX6_markOf_68 : decode cX6_markOf 68 = .ok (.bipush 20, 2) := by decide +kernel
theorem dX6_markOf_70 : decode cX6_markOf 70 = .ok (.invokevirtual 254, 3) := by decide +kernel
theorem dX6_markOf_73 : decode cX6_markOf 73 = .ok (.istore_n 3, 1) := by decide +kernel
theorem dX6_markOf_74 : decode cX6_markOf 74 = .ok (.iload_n 3, 1) := by decide +kernel
theorem dX6_markOf_75 : decode cX6_markOf 75 = .ok (.aload_n 0, 1) := by decide +kernel
theorem dX6_markOf_76 : decode cX6_markOf 76 = .ok (.iload_n 1, 1) := by decide +kernel
theorem dX6_markOf_77 : decode cX6_markOf 77 = .ok (.invokevirtual 263, 3) := by decide +kernel
theorem dX6_markOf_80 : decode cX6_markOf 80 = .ok (.isub, 1) := by decide +kernel
theorem dX6_markOf_81 : decode cX6_markOf 81 = .ok (.ireturn, 1) := by decide +kernel
theorem dX6_plainSize_0 : decode cX6_plainSize 0 = .ok (.aload_n 0, 1) := by decide +kernel
theorem dX6_plainSize_1 : decode cX6_plainSize 1 = .ok (.bipush 11, 2) := by decide +kernel
theorem dX6_plainSize_3 : decode cX6_plainSize 3 = .ok (.invokevirtual 251, 3) := by decide +kernel
theorem dX6_plainSize_6 : decode cX6_plainSize 6 = .ok (.aload_n 0, 1) := by decide +kernel
theorem dX6_plainSize_7 : decode cX6_plainSize 7 = .ok (.iload_n 1, 1) := by decide +kernel
theorem dX6_plainSize_8 : decode cX6_plainSize 8 = .ok (.bipush 10, 2) := by decide +kernel
theorem dX6_plainSize_10 : decode cX6_plainSize 10 = .ok (.invokevirtual 254, 3) := by decide +kernel
theorem dX6_plainSize_13 : decode cX6_plainSize 13 = .ok (.istore_n 2, 1) := by decide +kernel
theorem dX6_plainSize_14 : decode cX6_plainSize 14 = .ok (.iload_n 2, 1) := by decide +kernel
theorem dX6_plainSize_15 : decode cX6_plainSize 15 = .ok (.aload_n 0, 1) := by decide +kernel
theorem dX6_plainSize_16 : decode cX6_plainSize 16 = .ok (.iload_n 1, 1) := by decide +kernel
theorem dX6_plainSize_17 : decode cX6_plainSize 17 = .ok (.invokevirtual 266, 3) := by decide +kernel
theorem dX6_plainSize_20 : decode cX6_plainSize 20 = .ok (.iadd, 1) := by decide +kernel
theorem dX6_plainSize_21 : decode cX6_plainSize 21 = .ok (.ireturn, 1) := by decide +kernel
theorem dX6_sizeOf_0 : decode cX6_sizeOf 0 = .ok (.aload_n 0, 1) := by decide +kernel
theorem dX6_sizeOf_1 : decode cX6_sizeOf 1 = .ok (.getfield 19, 3) := by decide +kernel
theorem dX6_sizeOf_4 : decode cX6_sizeOf 4 = .ok (.iconst 5, 1) := by decide +kernel
theorem dX6_sizeOf_5 : decode cX6_sizeOf 5 = .ok (.iload_n 1, 1) := by decide +kernel
theorem dX6_sizeOf_6 : decode cX6_sizeOf 6 = .ok (.iadd, 1) := by decide +kernel
theorem dX6_sizeOf_7 : decode cX6_sizeOf 7 = .ok (.iaload, 1) := by decide +kernel
theorem dX6_sizeOf_8 : decode cX6_sizeOf 8 = .ok (.istore_n 2, 1) := by decide +kernel
theorem dX6_sizeOf_9 : decode cX6_sizeOf 9 = .ok (.iload_n 2, 1) := by decide +kernel
theorem dX6_sizeOf_10 : decode cX6_sizeOf 10 = .ok (.iconst 2, 1) := by decide +kernel
theorem dX6_sizeOf_11 : decode cX6_sizeOf 11 = .ok (.if_icmp .ne 16, 3) := by decide +kernel
theorem dX6_sizeOf_14 : decode cX6_sizeOf 14 = .ok (.aload_n 0, 1) := by decide +kernel
theorem dX6_sizeOf_15 : decode cX6_sizeOf 15 = .ok (.bipush 12, 2) := by decide +kernel
theorem dX6_sizeOf_17 : decode cX6_sizeOf 17 = .ok (.invokevirtual 251, 3) := by decide +kernel
theorem dX6_sizeOf_20 : decode cX6_sizeOf 20 = .ok (.aload_n 0, 1) := by decide +kernel
theorem dX6_sizeOf_21 : decode cX6_sizeOf 21 = .ok (.iload_n 1, 1) := by decide +kernel
theorem dX6_sizeOf_22 : decode cX6_sizeOf 22 = .ok (.invokevirtual 269, 3) := by decide +kernel
theorem dX6_sizeOf_25 : decode cX6_sizeOf 25 = .ok (.ineg, 1) := by decide +kernel
theorem dX6_sizeOf_26 : decode cX6_sizeOf 26 = .ok (.ireturn, 1) := by decide +kernel
theorem dX6_sizeOf_27 : decode cX6_sizeOf 27 = .ok (.iload_n 2, 1) := by decide +kernel
theorem dX6_sizeOf_28 : decode cX6_sizeOf 28 = .ok (.iconst 4, 1) := by decide +kernel
theorem dX6_sizeOf_29 : decode cX6_sizeOf 29 = .ok (.if_icmp .lt 11, 3) := by decide +kernel
theorem dX6_sizeOf_32 : decode cX6_sizeOf 32 = .ok (.aload_n 0, 1) := by decide +kernel
theorem dX6_sizeOf_33 : decode cX6_sizeOf 33 = .ok (.iload_n 1, 1) := by decide +kernel
theorem dX6_sizeOf_34 : decode cX6_sizeOf 34 = .ok (.invokevirtual 263, 3) := by decide +kernel
theorem dX6_sizeOf_37 : decode cX6_sizeOf 37 = .ok (.goto 8, 3) := by decide +kernel
theorem dX6_sizeOf_40 : decode cX6_sizeOf 40 = .ok (.aload_n 0, 1) := by decide +kernel
theorem dX6_sizeOf_41 : decode cX6_sizeOf 41 = .ok (.iload_n 1, 1) := by decide +kernel
theorem dX6_sizeOf_42 : decode cX6_sizeOf 42 = .ok (.invokevirtual 269, 3) := by decide +kernel
theorem dX6_sizeOf_45 : decode cX6_sizeOf 45 = .ok (.ireturn, 1) := by decide +kernel
theorem dX6_ask_0 : decode cX6_ask 0 = .ok (.aload_n 0, 1) := by decide +kernel
theorem dX6_ask_1 : decode cX6_ask 1 = .ok (.iload_n 1, 1) := by decide +kernel
theorem dX6_ask_2 : decode cX6_ask 2 = .ok (.invokevirtual 178, 3) := by decide +kernel
theorem dX6_ask_5 : decode cX6_ask 5 = .ok (.ifCond .eq 13, 3) := by decide +kernel
theorem dX6_ask_8 : decode cX6_ask 8 = .ok (.iload_n 2, 1) := by decide +kernel
theorem dX6_ask_9 : decode cX6_ask 9 = .ok (.i2l, 1) := by decide +kernel
theorem dX6_ask_10 : decode cX6_ask 10 = .ok (.lconst 0, 1) := by decide +kernel
theorem dX6_ask_11 : decode cX6_ask 11 = .ok (.lconst 1, 1) := by decide +kernel
theorem dX6_ask_12 : decode cX6_ask 12 = .ok (.invokestatic 57, 3) := by decide +kernel
theorem dX6_ask_15 : decode cX6_ask 15 = .ok (.ifCond .ne 6, 3) := by decide +kernel
theorem dX6_ask_18 : decode cX6_ask 18 = .ok (.ldc 67, 2) := by decide +kernel
theorem dX6_ask_20 : decode cX6_ask 20 = .ok (.ireturn, 1) := by decide +kernel
theorem dX6_ask_21 : decode cX6_ask 21 = .ok (.aload_n 0, 1) := by decide +kernel
theorem dX6_ask_22 : decode cX6_ask 22 = .ok (.iconst 0, 1) := by decide +kernel
theorem dX6_ask_23 : decode cX6_ask 23 = .ok (.putfield 248, 3) := by decide +kernel
theorem dX6_ask_26 : decode cX6_ask 26 = .ok (.iload_n 2, 1) := by decide +kernel
theorem dX6_ask_27 : decode cX6_ask 27 = .ok (.ifCond .ne 11, 3) := by decide +kernel
theorem dX6_ask_30 : decode cX6_ask 30 = .ok (.aload_n 0, 1) := by decide +kernel
theorem dX6_ask_31 : decode cX6_ask 31 = .ok (.iload_n 1, 1) := by decide +kernel
theorem dX6_ask_32 : decode cX6_ask 32 = .ok (.invokevirtual 272, 3) := by decide +kernel
theorem dX6_ask_35 : decode cX6_ask 35 = .ok (.goto 8, 3) := by decide +kernel
theorem dX6_ask_38 : decode cX6_ask 38 = .ok (.aload_n 0, 1) := by decide +kernel
theorem dX6_ask_39 : decode cX6_ask 39 = .ok (.iload_n 1, 1) := by decide +kernel
theorem dX6_ask_40 : decode cX6_ask 40 = .ok (.invokevirtual 266, 3) := by decide +kernel
theorem dX6_ask_43 : decode cX6_ask 43 = .ok (.ireturn, 1) := by decide +kernel
theorem dX6_trace_0 : decode cX6_trace 0 = .ok (.iload_n 1, 1) := by decide +kernel
theorem dX6_trace_1 : decode cX6_trace 1 = .ok (.i2l, 1) := by decide +kernel
theorem dX6_trace_2 : decode cX6_trace 2 = .ok (.lconst 0, 1) := by decide +kernel
theorem dX6_trace_3 : decode cX6_trace 3 = .ok (.aload_n 0, 1) := by decide +kernel
theorem dX6_trace_4 : decode cX6_trace 4 = .ok (.getfield 248, 3) := by decide +kernel
theorem dX6_trace_7 : decode cX6_trace 7 = .ok (.iconst 1, 1) := by decide +kernel
theorem dX6_trace_8 : decode cX6_trace 8 = .ok (.isub, 1) := by decide +kernel
theorem dX6_trace_9 : decode cX6_trace 9 = .ok (.i2l, 1) := by decide +kernel
theorem dX6_trace_10 : decode cX6_trace 10 = .ok (.invokestatic 57, 3) := by decide +kernel
theorem dX6_trace_13 : decode cX6_trace 13 = .ok (.ifCond .eq 12, 3) := by decide +kernel
theorem dX6_trace_16 : decode cX6_trace 16 = .ok (.aload_n 0, 1) := by decide +kernel
theorem dX6_trace_17 : decode cX6_trace 17 = .ok (.getfield 47, 3) := by decide +kernel
theorem dX6_trace_20 : decode cX6_trace 20 = .ok (.iload_n 1, 1) := by decide +kernel
theorem dX6_trace_21 : decode cX6_trace 21 = .ok (.iaload, 1) := by decide +kernel
theorem dX6_trace_22 : decode cX6_trace 22 = .ok (.goto 5, 3) := by decide +kernel
theorem dX6_trace_25 : decode cX6_trace 25 = .ok (.ldc 149, 2) := by decide +kernel
theorem dX6_trace_27 : decode cX6_trace 27 = .ok (.ireturn, 1) := by decide +kernel
theorem dX6_count_0 : decode cX6_count 0 = .ok (.iconst 0, 1) := by decide +kernel
theorem dX6_count_1 : decode cX6_count 1 = .ok (.istore_n 2, 1) := by decide +kernel
theorem dX6_count_2 : decode cX6_count 2 = .ok (.iconst 0, 1) := by decide +kernel
theorem dX6_count_3 : decode cX6_count 3 = .ok (.istore_n 3, 1) := by decide +kernel
theorem dX6_count_4 : decode cX6_count 4 = .ok (.iload_n 3, 1) := by decide +kernel
theorem dX6_count_5 : decode cX6_count 5 = .ok (.bipush 8, 2) := by decide +kernel
theorem dX6_count_7 : decode cX6_count 7 = .ok (.if_icmp .ge 26, 3) := by decide +kernel
theorem dX6_count_10 : decode cX6_count 10 = .ok (.iload_n 2, 1) := by decide +kernel
theorem dX6_count_11 : decode cX6_count 11 = .ok (.aload_n 0, 1) := by decide +kernel
theorem dX6_count_12 : decode cX6_count 12 = .ok (.getfield 13, 3) := by decide +kernel
theorem dX6_count_15 : decode cX6_count 15 = .ok (.iload_n 3, 1) := by decide +kernel
theorem dX6_count_16 : decode cX6_count 16 = .ok (.iaload, 1) := by decide +kernel
theorem dX6_count_17 : decode cX6_count 17 = .ok (.ifCond .lt 7, 3) := by decide +kernel
theorem dX6_count_20 : decode cX6_count 20 = .ok (.iconst 1, 1) := by decide +kernel
theorem dX6_count_21 : decode cX6_count 21 = .ok (.goto 4, 3) := by decide +kernel
theorem dX6_count_24 : decode cX6_count 24 = .ok (.iconst 0, 1) := by decide +kernel
theorem dX6_count_25 : decode cX6_count 25 = .ok (.iadd, 1) := by decide +kernel
theorem dX6_count_26 : decode cX6_count 26 = .ok (.istore_n 2, 1) := by decide +kernel
theorem dX6_count_27 : decode cX6_count 27 = .ok (.iinc 3 1, 3) := by decide +kernel
theorem dX6_count_30 : decode cX6_count 30 = .ok (.goto (-26), 3) := by decide +kernel
theorem dX6_count_33 : decode cX6_count 33 = .ok (.iload_n 1, 1) := by decide +kernel
theorem dX6_count_34 : decode cX6_count 34 = .ok (.tableswitch 93 0 7 #[46, 48, 55, 62, 69, 76, 83, 88], 46) := by decide +kernel
theorem dX6_count_80 : decode cX6_count 80 = .ok (.iload_n 2, 1) := by decide +kernel
theorem dX6_count_81 : decode cX6_count 81 = .ok (.ireturn, 1) := by decide +kernel
theorem dX6_count_82 : decode cX6_count 82 = .ok (.aload_n 0, 1) := by decide +kernel
theorem dX6_count_83 : decode cX6_count 83 = .ok (.getfield 19, 3) := by decide +kernel
theorem dX6_count_86 : decode cX6_count 86 = .ok (.iconst 2, 1) := by decide +kernel
theorem dX6_count_87 : decode cX6_count 87 = .ok (.iaload, 1) := by decide +kernel
theorem dX6_count_88 : decode cX6_count 88 = .ok (.ireturn, 1) := by decide +kernel
theorem dX6_count_89 : decode cX6_count 89 = .ok (.aload_n 0, 1) := by decide +kernel
theorem dX6_count_90 : decode cX6_count 90 = .ok (.getfield 19, 3) := by decide +kernel
theorem dX6_count_93 : decode cX6_count 93 = .ok (.iconst 3, 1) := by decide +kernel
theorem dX6_count_94 : decode cX6_count 94 = .ok (.iaload, 1) := by decide +kernel
theorem dX6_count_95 : decode cX6_count 95 = .ok (.ireturn, 1) := by decide +kernel
theorem dX6_count_96 : decode cX6_count 96 = .ok (.aload_n 0, 1) := by decide +kernel
theorem dX6_count_97 : decode cX6_count 97 = .ok (.getfield 19, 3) := by decide +kernel
theorem dX6_count_100 : decode cX6_count 100 = .ok (.iconst 4, 1) := by decide +kernel
theorem dX6_count_101 : decode cX6_count 101 = .ok (.iaload, 1) := by decide +kernel
theorem dX6_count_102 : decode cX6_count 102 = .ok (.ireturn, 1) := by decide +kernel
theorem dX6_count_103 : decode cX6_count 103 = .ok (.aload_n 0, 1) := by decide +kernel
theorem dX6_count_104 : decode cX6_count 104 = .ok (.bipush 11, 2) := by decide +kernel
theorem dX6_count_106 : decode cX6_count 106 = .ok (.invokevirtual 209, 3) := by decide +kernel
theorem dX6_count_109 : decode cX6_count 109 = .ok (.ireturn, 1) := by decide +kernel
theorem dX6_count_110 : decode cX6_count 110 = .ok (.aload_n 0, 1) := by decide +kernel
theorem dX6_count_111 : decode cX6_count 111 = .ok (.bipush 35, 2) := by decide +kernel
theorem dX6_count_113 : decode cX6_count 113 = .ok (.invokevirtual 209, 3) := by decide +kernel
theorem dX6_count_116 : decode cX6_count 116 = .ok (.ireturn, 1) := by decide +kernel
theorem dX6_count_117 : decode cX6_count 117 = .ok (.aload_n 0, 1) := by decide +kernel
theorem dX6_count_118 : decode cX6_count 118 = .ok (.getfield 139, 3) := by decide +kernel
theorem dX6_count_121 : decode cX6_count 121 = .ok (.ireturn, 1) := by decide +kernel
theorem dX6_count_122 : decode cX6_count 122 = .ok (.aload_n 0, 1) := by decide +kernel
theorem dX6_count_123 : decode cX6_count 123 = .ok (.getfield 81, 3) := by decide +kernel
theorem dX6_count_126 : decode cX6_count 126 = .ok (.ireturn, 1) := by decide +kernel
theorem dX6_count_127 : decode cX6_count 127 = .ok (.ldc 67, 2) := by decide +kernel
theorem dX6_count_129 : decode cX6_count 129 = .ok (.ireturn, 1) := by decide +kernel
theorem dX6_status_0 : decode cX6_status 0 = .ok (.aload_n 0, 1) := by decide +kernel
theorem dX6_status_1 : decode cX6_status 1 = .ok (.getfield 50, 3) := by decide +kernel
theorem dX6_status_4 : decode cX6_status 4 = .ok (.ireturn, 1) := by decide +kernel
