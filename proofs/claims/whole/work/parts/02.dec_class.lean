theorem dX0_init_0 : decode cX0_init 0 = .ok (.aload_n 0, 1) := by decide +kernel
theorem dX0_init_1 : decode cX0_init 1 = .ok (.invokespecial 3, 3) := by decide +kernel
theorem dX0_init_4 : decode cX0_init 4 = .ok (.aload_n 0, 1) := by decide +kernel
theorem dX0_init_5 : decode cX0_init 5 = .ok (.bipush 16, 2) := by decide +kernel
theorem dX0_init_7 : decode cX0_init 7 = .ok (.newarray .int, 2) := by decide +kernel
theorem dX0_init_9 : decode cX0_init 9 = .ok (.putfield 9, 3) := by decide +kernel
theorem dX0_init_12 : decode cX0_init 12 = .ok (.return_, 1) := by decide +kernel
theorem dX0_sizeOf_0 : decode cX0_sizeOf 0 = .ok (.iload_n 3, 1) := by decide +kernel
theorem dX0_sizeOf_1 : decode cX0_sizeOf 1 = .ok (.bipush 8, 2) := by decide +kernel
theorem dX0_sizeOf_3 : decode cX0_sizeOf 3 = .ok (.if_icmp .le 5, 3) := by decide +kernel
theorem dX0_sizeOf_6 : decode cX0_sizeOf 6 = .ok (.iconst 0, 1) := by decide +kernel
theorem dX0_sizeOf_7 : decode cX0_sizeOf 7 = .ok (.ireturn, 1) := by decide +kernel
theorem dX0_sizeOf_8 : decode cX0_sizeOf 8 = .ok (.aload_n 1, 1) := by decide +kernel
theorem dX0_sizeOf_9 : decode cX0_sizeOf 9 = .ok (.getfield 15, 3) := by decide +kernel
theorem dX0_sizeOf_12 : decode cX0_sizeOf 12 = .ok (.iload_n 2, 1) := by decide +kernel
theorem dX0_sizeOf_13 : decode cX0_sizeOf 13 = .ok (.iaload, 1) := by decide +kernel
theorem dX0_sizeOf_14 : decode cX0_sizeOf 14 = .ok (.tableswitch 79 1 5 #[34, 42, 34, 57, 64], 34) := by decide +kernel
theorem dX0_sizeOf_48 : decode cX0_sizeOf 48 = .ok (.aload_n 0, 1) := by decide +kernel
theorem dX0_sizeOf_49 : decode cX0_sizeOf 49 = .ok (.aload_n 1, 1) := by decide +kernel
theorem dX0_sizeOf_50 : decode cX0_sizeOf 50 = .ok (.iload_n 2, 1) := by decide +kernel
theorem dX0_sizeOf_51 : decode cX0_sizeOf 51 = .ok (.iload_n 3, 1) := by decide +kernel
theorem dX0_sizeOf_52 : decode cX0_sizeOf 52 = .ok (.invokevirtual 20, 3) := by decide +kernel
theorem dX0_sizeOf_55 : decode cX0_sizeOf 55 = .ok (.ireturn, 1) := by decide +kernel
theorem dX0_sizeOf_56 : decode cX0_sizeOf 56 = .ok (.aload_n 0, 1) := by decide +kernel
theorem dX0_sizeOf_57 : decode cX0_sizeOf 57 = .ok (.bipush 12, 2) := by decide +kernel
theorem dX0_sizeOf_59 : decode cX0_sizeOf 59 = .ok (.invokevirtual 24, 3) := by decide +kernel
theorem dX0_sizeOf_62 : decode cX0_sizeOf 62 = .ok (.aload_n 0, 1) := by decide +kernel
theorem dX0_sizeOf_63 : decode cX0_sizeOf 63 = .ok (.aload_n 1, 1) := by decide +kernel
theorem dX0_sizeOf_64 : decode cX0_sizeOf 64 = .ok (.iload_n 2, 1) := by decide +kernel
theorem dX0_sizeOf_65 : decode cX0_sizeOf 65 = .ok (.iload_n 3, 1) := by decide +kernel
theorem dX0_sizeOf_66 : decode cX0_sizeOf 66 = .ok (.invokevirtual 20, 3) := by decide +kernel
theorem dX0_sizeOf_69 : decode cX0_sizeOf 69 = .ok (.ineg, 1) := by decide +kernel
theorem dX0_sizeOf_70 : decode cX0_sizeOf 70 = .ok (.ireturn, 1) := by decide +kernel
theorem dX0_sizeOf_71 : decode cX0_sizeOf 71 = .ok (.aload_n 0, 1) := by decide +kernel
theorem dX0_sizeOf_72 : decode cX0_sizeOf 72 = .ok (.aload_n 1, 1) := by decide +kernel
theorem dX0_sizeOf_73 : decode cX0_sizeOf 73 = .ok (.iload_n 2, 1) := by decide +kernel
theorem dX0_sizeOf_74 : decode cX0_sizeOf 74 = .ok (.invokevirtual 28, 3) := by decide +kernel
theorem dX0_sizeOf_77 : decode cX0_sizeOf 77 = .ok (.ireturn, 1) := by decide +kernel
theorem dX0_sizeOf_78 : decode cX0_sizeOf 78 = .ok (.aload_n 0, 1) := by decide +kernel
theorem dX0_sizeOf_79 : decode cX0_sizeOf 79 = .ok (.bipush 14, 2) := by decide +kernel
theorem dX0_sizeOf_81 : decode cX0_sizeOf 81 = .ok (.invokevirtual 24, 3) := by decide +kernel
theorem dX0_sizeOf_84 : decode cX0_sizeOf 84 = .ok (.iconst 2, 1) := by decide +kernel
theorem dX0_sizeOf_85 : decode cX0_sizeOf 85 = .ok (.aload_n 0, 1) := by decide +kernel
theorem dX0_sizeOf_86 : decode cX0_sizeOf 86 = .ok (.aload_n 1, 1) := by decide +kernel
theorem dX0_sizeOf_87 : decode cX0_sizeOf 87 = .ok (.iload_n 2, 1) := by decide +kernel
theorem dX0_sizeOf_88 : decode cX0_sizeOf 88 = .ok (.invokevirtual 28, 3) := by decide +kernel
theorem dX0_sizeOf_91 : decode cX0_sizeOf 91 = .ok (.imul, 1) := by decide +kernel
theorem dX0_sizeOf_92 : decode cX0_sizeOf 92 = .ok (.ireturn, 1) := by decide +kernel
theorem dX0_sizeOf_93 : decode cX0_sizeOf 93 = .ok (.aload_n 0, 1) := by decide +kernel
theorem dX0_sizeOf_94 : decode cX0_sizeOf 94 = .ok (.aload_n 1, 1) := by decide +kernel
theorem dX0_sizeOf_95 : decode cX0_sizeOf 95 = .ok (.iload_n 2, 1) := by decide +kernel
theorem dX0_sizeOf_96 : decode cX0_sizeOf 96 = .ok (.invokevirtual 32, 3) := by decide +kernel
theorem dX0_sizeOf_99 : decode cX0_sizeOf 99 = .ok (.ireturn, 1) := by decide +kernel
theorem dX0_markOf_0 : decode cX0_markOf 0 = .ok (.iload_n 3, 1) := by decide +kernel
theorem dX0_markOf_1 : decode cX0_markOf 1 = .ok (.bipush 8, 2) := by decide +kernel
theorem dX0_markOf_3 : decode cX0_markOf 3 = .ok (.if_icmp .le 5, 3) := by decide +kernel
theorem dX0_markOf_6 : decode cX0_markOf 6 = .ok (.iconst 0, 1) := by decide +kernel
theorem dX0_markOf_7 : decode cX0_markOf 7 = .ok (.ireturn, 1) := by decide +kernel
theorem dX0_markOf_8 : decode cX0_markOf 8 = .ok (.aload_n 1, 1) := by decide +kernel
theorem dX0_markOf_9 : decode cX0_markOf 9 = .ok (.getfield 15, 3) := by decide +kernel
theorem dX0_markOf_12 : decode cX0_markOf 12 = .ok (.iload_n 2, 1) := by decide +kernel
theorem dX0_markOf_13 : decode cX0_markOf 13 = .ok (.iaload, 1) := by decide +kernel
theorem dX0_markOf_14 : decode cX0_markOf 14 = .ok (.tableswitch 81 1 5 #[34, 41, 56, 73, 73], 34) := by decide +kernel
theorem dX0_markOf_48 : decode cX0_markOf 48 = .ok (.aload_n 0, 1) := by decide +kernel
theorem dX0_markOf_49 : decode cX0_markOf 49 = .ok (.aload_n 1, 1) := by decide +kernel
theorem dX0_markOf_50 : decode cX0_markOf 50 = .ok (.iload_n 2, 1) := by decide +kernel
theorem dX0_markOf_51 : decode cX0_markOf 51 = .ok (.invokevirtual 35, 3) := by decide +kernel
theorem dX0_markOf_54 : decode cX0_markOf 54 = .ok (.ireturn, 1) := by decide +kernel
theorem dX0_markOf_55 : decode cX0_markOf 55 = .ok (.aload_n 0, 1) := by decide +kernel
theorem dX0_markOf_56 : decode cX0_markOf 56 = .ok (.bipush 24, 2) := by decide +kernel
theorem dX0_markOf_58 : decode cX0_markOf 58 = .ok (.invokevirtual 24, 3) := by decide +kernel
theorem dX0_markOf_61 : decode cX0_markOf 61 = .ok (.iconst 2, 1) := by decide +kernel
theorem dX0_markOf_62 : decode cX0_markOf 62 = .ok (.aload_n 0, 1) := by decide +kernel
theorem dX0_markOf_63 : decode cX0_markOf 63 = .ok (.aload_n 1, 1) := by decide +kernel
theorem dX0_markOf_64 : decode cX0_markOf 64 = .ok (.iload_n 2, 1) := by decide +kernel
theorem dX0_markOf_65 : decode cX0_markOf 65 = .ok (.invokevirtual 35, 3) := by decide +kernel
theorem dX0_markOf_68 : decode cX0_markOf 68 = .ok (.imul, 1) := by decide +kernel
theorem dX0_markOf_69 : decode cX0_markOf 69 = .ok (.ireturn, 1) := by decide +kernel
theorem dX0_markOf_70 : decode cX0_markOf 70 = .ok (.aload_n 0, 1) := by decide +kernel
theorem dX0_markOf_71 : decode cX0_markOf 71 = .ok (.bipush 22, 2) := by decide +kernel
theorem dX0_markOf_73 : decode cX0_markOf 73 = .ok (.invokevirtual 24, 3) := by decide +kernel
theorem dX0_markOf_76 : decode cX0_markOf 76 = .ok (.aload_n 0, 1) := by decide +kernel
theorem dX0_markOf_77 : decode cX0_markOf 77 = .ok (.aload_n 1, 1) := by decide +kernel
theorem dX0_markOf_78 : decode cX0_markOf 78 = .ok (.iload_n 2, 1) := by decide +kernel
theorem dX0_markOf_79 : decode cX0_markOf 79 = .ok (.invokevirtual 35, 3) := by decide +kernel
theorem dX0_markOf_82 : decode cX0_markOf 82 = .ok (.sipush 1000, 3) := by decide +kernel
theorem dX0_markOf_85 : decode cX0_markOf 85 = .ok (.isub, 1) := by decide +kernel
theorem dX0_markOf_86 : decode cX0_markOf 86 = .ok (.ireturn, 1) := by decide +kernel
theorem dX0_markOf_87 : decode cX0_markOf 87 = .ok (.aload_n 0, 1) := by decide +kernel
theorem dX0_markOf_88 : decode cX0_markOf 88 = .ok (.aload_n 1, 1) := by decide +kernel
theorem dX0_markOf_89 : decode cX0_markOf 89 = .ok (.iload_n 2, 1) := by decide +kernel
theorem dX0_markOf_90 : decode cX0_markOf 90 = .ok (.iload_n 3, 1) := by decide +kernel
theorem dX0_markOf_91 : decode cX0_markOf 91 = .ok (.invokevirtual 38, 3) := by decide +kernel
theorem dX0_markOf_94 : decode cX0_markOf 94 = .ok (.ireturn, 1) := by decide +kernel
theorem dX0_markOf_95 : decode cX0_markOf 95 = .ok (.aload_n 0, 1) := by decide +kernel
theorem dX0_markOf_96 : decode cX0_markOf 96 = .ok (.iload_n 2, 1) := by decide +kernel
theorem dX0_markOf_97 : decode cX0_markOf 97 = .ok (.invokevirtual 41, 3) := by decide +kernel
theorem dX0_markOf_100 : decode cX0_markOf 100 = .ok (.ireturn, 1) := by decide +kernel
theorem dX0_begin_0 : decode cX0_begin 0 = .ok (.aload_n 0, 1) := by decide +kernel
theorem dX0_begin_1 : decode cX0_begin 1 = .ok (.getfield 45, 3) := by decide +kernel
theorem dX0_begin_4 : decode cX0_begin 4 = .ok (.bipush 16, 2) := by decide +kernel
theorem dX0_begin_6 : decode cX0_begin 6 = .ok (.if_icmp .ge 23, 3) := by decide +kernel
theorem dX0_begin_9 : decode cX0_begin 9 = .ok (.aload_n 0, 1) := by decide +kernel
theorem dX0_begin_10 : decode cX0_begin 10 = .ok (.getfield 9, 3) := by decide +kernel
theorem dX0_begin_13 : decode cX0_begin 13 = .ok (.aload_n 0, 1) := by decide +kernel
theorem dX0_begin_14 : decode cX0_begin 14 = .ok (.getfield 45, 3) := by decide +kernel
theorem dX0_begin_17 : decode cX0_begin 17 = .ok (.iload_n 1, 1) := by decide +kernel
theorem dX0_begin_18 : decode cX0_begin 18 = .ok (.iastore, 1) := by decide +kernel
theorem dX0_begin_19 : decode cX0_begin 19 = .ok (.aload_n 0, 1) := by decide +kernel
theorem dX0_begin_20 : decode cX0_begin 20 = .ok (.dup, 1) := by decide +kernel
theorem dX0_begin_21 : decode cX0_begin 21 = .ok (.getfield 45, 3) := by decide +kernel
theorem dX0_begin_24 : decode cX0_begin 24 = .ok (.iconst 1, 1) := by decide +kernel
theorem dX0_begin_25 : decode cX0_begin 25 = .ok (.iadd, 1) := by decide +kernel
theorem dX0_begin_26 : decode cX0_begin 26 = .ok (.putfield 45, 3) := by decide +kernel
theorem dX0_begin_29 : decode cX0_begin 29 = .ok (.return_, 1) := by decide +kernel
theorem dX0_lentSize_0 : decode cX0_lentSize 0 = .ok (.aload_n 0, 1) := by decide +kernel
theorem dX0_lentSize_1 : decode cX0_lentSize 1 = .ok (.bipush 10, 2) := by decide +kernel
theorem dX0_lentSize_3 : decode cX0_lentSize 3 = .ok (.invokevirtual 24, 3) := by decide +kernel
theorem dX0_lentSize_6 : decode cX0_lentSize 6 = .ok (.aload_n 1, 1) := by decide +kernel
theorem dX0_lentSize_7 : decode cX0_lentSize 7 = .ok (.getfield 49, 3) := by decide +kernel
theorem dX0_lentSize_10 : decode cX0_lentSize 10 = .ok (.iload_n 2, 1) := by decide +kernel
theorem dX0_lentSize_11 : decode cX0_lentSize 11 = .ok (.iaload, 1) := by decide +kernel
theorem dX0_lentSize_12 : decode cX0_lentSize 12 = .ok (.ireturn, 1) := by decide +kernel
theorem dX0_plainSize_0 : decode cX0_plainSize 0 = .ok (.aload_n 0, 1) := by decide +kernel
theorem dX0_plainSize_1 : decode cX0_plainSize 1 = .ok (.bipush 11, 2) := by decide +kernel
theorem dX0_plainSize_3 : decode cX0_plainSize 3 = .ok (.invokevirtual 24, 3) := by decide +kernel
theorem dX0_plainSize_6 : decode cX0_plainSize 6 = .ok (.aload_n 0, 1) := by decide +kernel
theorem dX0_plainSize_7 : decode cX0_plainSize 7 = .ok (.aload_n 1, 1) := by decide +kernel
theorem dX0_plainSize_8 : decode cX0_plainSize 8 = .ok (.iload_n 2, 1) := by decide +kernel
theorem dX0_plainSize_9 : decode cX0_plainSize 9 = .ok (.invokevirtual 32, 3) := by decide +kernel
theorem dX0_plainSize_12 : decode cX0_plainSize 12 = .ok (.istore 4, 2) := by decide +kernel
theorem dX0_plainSize_14 : decode cX0_plainSize 14 = .ok (.iload 4, 2) := by decide +kernel
theorem dX0_plainSize_16 : decode cX0_plainSize 16 = .ok (.aload_n 0, 1) := by decide +kernel
theorem dX0_plainSize_17 : decode cX0_plainSize 17 = .ok (.aload_n 1, 1) := by decide +kernel
theorem dX0_plainSize_18 : decode cX0_plainSize 18 = .ok (.iload_n 2, 1) := by decide +kernel
theorem dX0_plainSize_19 : decode cX0_plainSize 19 = .ok (.iload_n 3, 1) := by decide +kernel
theorem dX0_plainSize_20 : decode cX0_plainSize 20 = .ok (.iconst 1, 1) := by decide +kernel
theorem dX0_plainSize_21 : decode cX0_plainSize 21 = .ok (.iadd, 1) := by decide +kernel
theorem dX0_plainSize_22 : decode cX0_plainSize 22 = .ok (.invokevirtual 52, 3) := by decide +kernel
theorem dX0_plainSize_25 : decode cX0_plainSize 25 = .ok (.iadd, 1) := by decide +kernel
theorem dX0_plainSize_26 : decode cX0_plainSize 26 = .ok (.ireturn, 1) := by decide +kernel
theorem dX0_oakSize_0 : decode cX0_oakSize 0 = .ok (.aload_n 0, 1) := by decide +kernel
theorem dX0_oakSize_1 : decode cX0_oakSize 1 = .ok (.bipush 13, 2) := by decide +kernel
theorem dX0_oakSize_3 : decode cX0_oakSize 3 = .ok (.invokevirtual 24, 3) := by decide +kernel
theorem dX0_oakSize_6 : decode cX0_oakSize 6 = .ok (.aload_n 0, 1) := by decide +kernel
theorem dX0_oakSize_7 : decode cX0_oakSize 7 = .ok (.aload_n 1, 1) := by decide +kernel
theorem dX0_oakSize_8 : decode cX0_oakSize 8 = .ok (.iload_n 2, 1) := by decide +kernel
theorem dX0_oakSize_9 : decode cX0_oakSize 9 = .ok (.invokevirtual 32, 3) := by decide +kernel
theorem dX0_oakSize_12 : decode cX0_oakSize 12 = .ok (.bipush 100, 2) := by decide +kernel
theorem dX0_oakSize_14 : decode cX0_oakSize 14 = .ok (.isub, 1) := by decide +kernel
theorem dX0_oakSize_15 : decode cX0_oakSize 15 = .ok (.ireturn, 1) := by decide +kernel
theorem dX0_lentMark_0 : decode cX0_lentMark 0 = .ok (.aload_n 0, 1) := by decide +kernel
theorem dX0_lentMark_1 : decode cX0_lentMark 1 = .ok (.bipush 20, 2) := by decide +kernel
theorem dX0_lentMark_3 : decode cX0_lentMark 3 = .ok (.invokevirtual 24, 3) := by decide +kernel
theorem dX0_lentMark_6 : decode cX0_lentMark 6 = .ok (.iload_n 1, 1) := by decide +kernel
theorem dX0_lentMark_7 : decode cX0_lentMark 7 = .ok (.ireturn, 1) := by decide +kernel
theorem dX0_plainMark_0 : decode cX0_plainMark 0 = .ok (.aload_n 0, 1) := by decide +kernel
theorem dX0_plainMark_1 : decode cX0_plainMark 1 = .ok (.bipush 21, 2) := by decide +kernel
theorem dX0_plainMark_3 : decode cX0_plainMark 3 = .ok (.invokevirtual 24, 3) := by decide +kernel
theorem dX0_plainMark_6 : decode cX0_plainMark 6 = .ok (.aload_n 0, 1) := by decide +kernel
theorem dX0_plainMark_7 : decode cX0_plainMark 7 = .ok (.iload_n 2, 1) := by decide +kernel
theorem dX0_plainMark_8 : decode cX0_plainMark 8 = .ok (.invokevirtual 41, 3) := by decide +kernel
theorem dX0_plainMark_11 : decode cX0_plainMark 11 = .ok (.aload_n 1, 1) := by decide +kernel
theorem dX0_plainMark_12 : decode cX0_plainMark 12 = .ok (.getfield 55, 3) := by decide +kernel
theorem dX0_plainMark_15 : decode cX0_plainMark 15 = .ok (.iload_n 2, 1) := by decide +kernel
theorem dX0_plainMark_16 : decode cX0_plainMark 16 = .ok (.iaload, 1) := by decide +kernel
theorem dX0_plainMark_17 : decode cX0_plainMark 17 = .ok (.iadd, 1) := by decide +kernel
theorem dX0_plainMark_18 : decode cX0_plainMark 18 = .ok (.ireturn, 1) := by decide +kernel
theorem dX0_oakMark_0 : decode cX0_oakMark 0 = .ok (.aload_n 0, 1) := by decide +kernel
theorem dX0_oakMark_1 : decode cX0_oakMark 1 = .ok (.bipush 23, 2) := by decide +kernel
theorem dX0_oakMark_3 : decode cX0_oakMark 3 = .ok (.invokevirtual 24, 3) := by decide +kernel
theorem dX0_oakMark_6 : decode cX0_oakMark 6 = .ok (.aload_n 0, 1) := by decide +kernel
theorem dX0_oakMark_7 : decode cX0_oakMark 7 = .ok (.iload_n 2, 1) := by decide +kernel
theorem dX0_oakMark_8 : decode cX0_oakMark 8 = .ok (.invokevirtual 41, 3) := by decide +kernel
theorem dX0_oakMark_11 : decode cX0_oakMark 11 = .ok (.istore 4, 2) := by decide +kernel
theorem dX0_oakMark_13 : decode cX0_oakMark 13 = .ok (.iload 4, 2) := by decide +kernel
theorem dX0_oakMark_15 : decode cX0_oakMark 15 = .ok (.aload_n 0, 1) := by decide +kernel
theorem dX0_oakMark_16 : decode cX0_oakMark 16 = .ok (.aload_n 1, 1) := by decide +kernel
theorem dX0_oakMark_17 : decode cX0_oakMark 17 = .ok (.iload_n 2, 1) := by decide +kernel
theorem dX0_oakMark_18 : decode cX0_oakMark 18 = .ok (.iload_n 3, 1) := by decide +kernel
theorem dX0_oakMark_19 : decode cX0_oakMark 19 = .ok (.iconst 1, 1) := by decide +kernel
theorem dX0_oakMark_20 : decode cX0_oakMark 20 = .ok (.iadd, 1) := by decide +kernel
theorem dX0_oakMark_21 : decode cX0_oakMark 21 = .ok (.invokevirtual 58, 3) := by decide +kernel
theorem dX0_oakMark_24 : decode cX0_oakMark 24 = .ok (.isub, 1) := by decide +kernel
theorem dX0_oakMark_25 : decode cX0_oakMark 25 = .ok (.ireturn, 1) := by decide +kernel
theorem dX1_init_0 : decode cX1_init 0 = .ok (.aload_n 0, 1) := by decide +kernel
theorem dX1_init_1 : decode cX1_init 1 = .ok (.invokespecial 3, 3) := by decide +kernel
theorem dX1_init_4 : decode cX1_init 4 = .ok (.aload_n 0, 1) := by decide +kernel
theorem dX1_init_5 : decode cX1_init 5 = .ok (.bipush 24, 2) := by decide +kernel
theorem dX1_init_7 : decode cX1_init 7 = .ok (.bipush 41, 2) := by decide +kernel
theorem dX1_init_9 : decode cX1_init 9 = .ok (.multianewarray 9 2, 4) := by decide +kernel
theorem dX1_init_13 : decode cX1_init 13 = .ok (.putfield 11, 3) := by decide +kernel
theorem dX1_init_16 : decode cX1_init 16 = .ok (.return_, 1) := by decide +kernel
theorem dX1_keep_0 : decode cX1_keep 0 = .ok (.aload_n 1, 1) := by decide +kernel
theorem dX1_keep_1 : decode cX1_keep 1 = .ok (.aload_n 0, 1) := by decide +kernel
theorem dX1_keep_2 : decode cX1_keep 2 = .ok (.getfield 11, 3) := by decide +kernel
theorem dX1_keep_5 : decode cX1_keep 5 = .ok (.aload_n 0, 1) := by decide +kernel
theorem dX1_keep_6 : decode cX1_keep 6 = .ok (.getfield 16, 3) := by decide +kernel
theorem dX1_keep_9 : decode cX1_keep 9 = .ok (.aload_n 0, 1) := by decide +kernel
theorem dX1_keep_10 : decode cX1_keep 10 = .ok (.getfield 20, 3) := by decide +kernel
theorem dX1_keep_13 : decode cX1_keep 13 = .ok (.iadd, 1) := by decide +kernel
theorem dX1_keep_14 : decode cX1_keep 14 = .ok (.bipush 24, 2) := by decide +kernel
theorem dX1_keep_16 : decode cX1_keep 16 = .ok (.irem, 1) := by decide +kernel
theorem dX1_keep_17 : decode cX1_keep 17 = .ok (.aaload, 1) := by decide +kernel
theorem dX1_keep_18 : decode cX1_keep 18 = .ok (.invokevirtual 23, 3) := by decide +kernel
theorem dX1_keep_21 : decode cX1_keep 21 = .ok (.aload_n 0, 1) := by decide +kernel
theorem dX1_keep_22 : decode cX1_keep 22 = .ok (.getfield 20, 3) := by decide +kernel
theorem dX1_keep_25 : decode cX1_keep 25 = .ok (.bipush 24, 2) := by decide +kernel
theorem dX1_keep_27 : decode cX1_keep 27 = .ok (.if_icmp .ge 16, 3) := by decide +kernel
theorem dX1_keep_30 : decode cX1_keep 30 = .ok (.aload_n 0, 1) := by decide +kernel
theorem dX1_keep_31 : decode cX1_keep 31 = .ok (.dup, 1) := by decide +kernel
theorem dX1_keep_32 : decode cX1_keep 32 = .ok (.getfield 20, 3) := by decide +kernel
theorem dX1_keep_35 : decode cX1_keep 35 = .ok (.iconst 1, 1) := by decide +kernel
theorem dX1_keep_36 : decode cX1_keep 36 = .ok (.iadd, 1) := by decide +kernel
theorem dX1_keep_37 : decode cX1_keep 37 = .ok (.putfield 20, 3) := by decide +kernel
theorem dX1_keep_40 : decode cX1_keep 40 = .ok (.goto 16, 3) := by decide +kernel
theorem dX1_keep_43 : decode cX1_keep 43 = .ok (.aload_n 0, 1) := by decide +kernel
theorem dX1_keep_44 : decode cX1_keep 44 = .ok (.aload_n 0, 1) := by decide +kernel
theorem dX1_keep_45 : decode cX1_keep 45 = .ok (.getfield 16, 3) := by decide +kernel
theorem dX1_keep_48 : decode cX1_keep 48 = .ok (.iconst 1, 1) := by decide +kernel
theorem dX1_keep_49 : decode cX1_keep 49 = .ok (.iadd, 1) := by decide +kernel
theorem dX1_keep_50 : decode cX1_keep 50 = .ok (.bipush 24, 2) := by decide +kernel
theorem dX1_keep_52 : decode cX1_keep 52 = .ok (.irem, 1) := by decide +kernel
theorem dX1_keep_53 : decode cX1_keep 53 = .ok (.putfield 16, 3) := by decide +kernel
theorem dX1_keep_56 : decode cX1_keep 56 = .ok (.return_, 1) := by decide +kernel
theorem dX1_takeBack_0 : decode cX1_takeBack 0 = .ok (.aload_n 0, 1) := by decide +kernel
theorem dX1_takeBack_1 : decode cX1_takeBack 1 = .ok (.getfield 20, 3) := by decide +kernel
theorem dX1_takeBack_4 : decode cX1_takeBack 4 = .ok (.iconst 1, 1) := by decide +kernel
theorem dX1_takeBack_5 : decode cX1_takeBack 5 = .ok (.if_icmp .ge 5, 3) := by decide +kernel
theorem dX1_takeBack_8 : decode cX1_takeBack 8 = .ok (.iconst 0, 1) := by decide +kernel
theorem dX1_takeBack_9 : decode cX1_takeBack 9 = .ok (.ireturn, 1) := by decide +kernel
theorem dX1_takeBack_10 : decode cX1_takeBack 10 = .ok (.aload_n 0, 1) := by decide +kernel
theorem dX1_takeBack_11 : decode cX1_takeBack 11 = .ok (.dup, 1) := by decide +kernel
theorem dX1_takeBack_12 : decode cX1_takeBack 12 = .ok (.getfield 20, 3) := by decide +kernel
theorem dX1_takeBack_15 : decode cX1_takeBack 15 = .ok (.iconst 1, 1) := by decide +kernel
theorem dX1_takeBack_16 : decode cX1_takeBack 16 = .ok (.isub, 1) := by decide +kernel
theorem dX1_takeBack_17 : decode cX1_takeBack 17 = .ok (.putfield 20, 3) := by decide +kernel
theorem dX1_takeBack_20 : decode cX1_takeBack 20 = .ok (.aload_n 1, 1) := by decide +kernel
theorem dX1_takeBack_21 : decode cX1_takeBack 21 = .ok (.aload_n 0, 1) := by decide +kernel
theorem dX1_takeBack_22 : decode cX1_takeBack 22 = .ok (.getfield 11, 3) := by decide +kernel
theorem dX1_takeBack_25 : decode cX1_takeBack 25 = .ok (.aload_n 0, 1) := by decide +kernel
theorem dX1_takeBack_26 : decode cX1_takeBack 26 = .ok (.getfield 16, 3) := by decide +kernel
theorem dX1_takeBack_29 : decode cX1_takeBack 29 = .ok (.aload_n 0, 1) := by decide +kernel
theorem dX1_takeBack_30 : decode cX1_takeBack 30 = .ok (.getfield 20, 3) := by decide +kernel
theorem dX1_takeBack_33 : decode cX1_takeBack 33 = .ok (.iadd, 1) := by decide +kernel
theorem dX1_takeBack_34 : decode cX1_takeBack 34 = .ok (.bipush 24, 2) := by decide +kernel
theorem dX1_takeBack_36 : decode cX1_takeBack 36 = .ok (.irem, 1) := by decide +kernel
theorem dX1_takeBack_37 : decode cX1_takeBack 37 = .ok (.aaload, 1) := by decide +kernel
theorem dX1_takeBack_38 : decode cX1_takeBack 38 = .ok (.invokevirtual 29, 3) := by decide +kernel
theorem dX1_takeBack_41 : decode cX1_takeBack 41 = .ok (.iconst 1, 1) := by decide +kernel
theorem dX1_takeBack_42 : decode cX1_takeBack 42 = .ok (.ireturn, 1) := by decide +kernel
theorem dX1_forget_0 : decode cX1_forget 0 = .ok (.aload_n 0, 1) := by decide +kernel
theorem dX1_forget_1 : decode cX1_forget 1 = .ok (.iconst 0, 1) := by decide +kernel
theorem dX1_forget_2 : decode cX1_forget 2 = .ok (.putfield 20, 3) := by decide +kernel
theorem dX1_forget_5 : decode cX1_forget 5 = .ok (.return_, 1) := by decide +kernel
theorem dX2_init_0 : decode cX2_init 0 = .ok (.aload_n 0, 1) := by decide +kernel
theorem dX2_init_1 : decode cX2_init 1 = .ok (.invokespecial 3, 3) := by decide +kernel
theorem dX2_init_4 : decode cX2_init 4 = .ok (.aload_n 0, 1) := by decide +kernel
theorem dX2_init_5 : decode cX2_init 5 = .ok (.bipush 6, 2) := by decide +kernel
theorem dX2_init_7 : decode cX2_init 7 = .ok (.newarray .int, 2) := by decide +kernel
theorem dX2_init_9 : decode cX2_init 9 = .ok (.putfield 9, 3) := by decide +kernel
theorem dX2_init_12 : decode cX2_init 12 = .ok (.aload_n 0, 1) := by decide +kernel
theorem dX2_init_13 : decode cX2_init 13 = .ok (.bipush 6, 2) := by decide +kernel
theorem dX2_init_15 : decode cX2_init 15 = .ok (.newarray .int, 2) := by decide +kernel
theorem dX2_init_17 : decode cX2_init 17 = .ok (.putfield 15, 3) := by decide +kernel
theorem dX2_init_20 : decode cX2_init 20 = .ok (.aload_n 0, 1) := by decide +kernel
theorem dX2_init_21 : decode cX2_init 21 = .ok (.bipush 6, 2) := by decide +kernel
theorem dX2_init_23 : decode cX2_init 23 = .ok (.newarray .int, 2) := by decide +kernel
theorem dX2_init_25 : decode cX2_init 25 = .ok (.putfield 18, 3) := by decide +kernel
theorem dX2_init_28 : decode cX2_init 28 = .ok (.aload_n 0, 1) := by decide +kernel
theorem dX2_init_29 : decode cX2_init 29 = .ok (.bipush 6, 2) := by decide +kernel
theorem dX2_init_31 : decode cX2_init 31 = .ok (.newarray .int, 2) := by decide +kernel
theorem dX2_init_33 : decode cX2_init 33 = .ok (.putfield 21, 3) := by decide +kernel
theorem dX2_init_36 : decode cX2_init 36 = .ok (.aload_n 0, 1) := by decide +kernel
theorem dX2_init_37 : decode cX2_init 37 = .ok (.bipush 6, 2) := by decide +kernel
theorem dX2_init_39 : decode cX2_init 39 = .ok (.newarray .int, 2) := by decide +kernel
theorem dX2_init_41 : decode cX2_init 41 = .ok (.putfield 24, 3) := by decide +kernel
theorem dX2_init_44 : decode cX2_init 44 = .ok (.aload_n 0, 1) := by decide +kernel
theorem dX2_init_45 : decode cX2_init 45 = .ok (.bipush 6, 2) := by decide +kernel
theorem dX2_init_47 : decode cX2_init 47 = .ok (.newarray .int, 2) := by decide +kernel
theorem dX2_init_49 : decode cX2_init 49 = .ok (.putfield 27, 3) := by decide +kernel
theorem dX2_init_52 : decode cX2_init 52 = .ok (.aload_n 0, 1) := by decide +kernel
theorem dX2_init_53 : decode cX2_init 53 = .ok (.bipush 6, 2) := by decide +kernel
theorem dX2_init_55 : decode cX2_init 55 = .ok (.newarray .int, 2) := by decide +kernel
theorem dX2_init_57 : decode cX2_init 57 = .ok (.putfield 30, 3) := by decide +kernel
theorem dX2_init_60 : decode cX2_init 60 = .ok (.aload_n 0, 1) := by decide +kernel
theorem dX2_init_61 : decode cX2_init 61 = .ok (.bipush 6, 2) := by decide +kernel
theorem dX2_init_63 : decode cX2_init 63 = .ok (.newarray .int, 2) := by decide +kernel
theorem dX2_init_65 : decode cX2_init 65 = .ok (.putfield 33, 3) := by decide +kernel
theorem dX2_init_68 : decode cX2_init 68 = .ok (.aload_n 0, 1) := by decide +kernel
theorem dX2_init_69 : decode cX2_init 69 = .ok (.bipush 6, 2) := by decide +kernel
theorem dX2_init_71 : decode cX2_init 71 = .ok (.newarray .int, 2) := by decide +kernel
theorem dX2_init_73 : decode cX2_init 73 = .ok (.putfield 36, 3) := by decide +kernel
theorem dX2_init_76 : decode cX2_init 76 = .ok (.return_, 1) := by decide +kernel
theorem dX2_clear_0 : decode cX2_clear 0 = .ok (.aload_n 0, 1) := by decide +kernel
theorem dX2_clear_1 : decode cX2_clear 1 = .ok (.iconst 0, 1) := by decide +kernel
theorem dX2_clear_2 : decode cX2_clear 2 = .ok (.putfield 39, 3) := by decide +kernel
theorem dX2_clear_5 : decode cX2_clear 5 = .ok (.aload_n 0, 1) := by decide +kernel
theorem dX2_clear_6 : decode cX2_clear 6 = .ok (.iconst 0, 1) := by decide +kernel
theorem dX2_clear_7 : decode cX2_clear 7 = .ok (.putfield 43, 3) := by decide +kernel
theorem dX2_clear_10 : decode cX2_clear 10 = .ok (.aload_n 0, 1) := by decide +kernel
theorem dX2_clear_11 : decode cX2_clear 11 = .ok (.iconst 0, 1) := by decide +kernel
theorem dX2_clear_12 : decode cX2_clear 12 = .ok (.putfield 46, 3) := by decide +kernel
theorem dX2_clear_15 : decode cX2_clear 15 = .ok (.return_, 1) := by decide +kernel
theorem dX2_addOne_0 : decode cX2_addOne 0 = .ok (.aload_n 0, 1) := by decide +kernel
theorem dX2_addOne_1 : decode cX2_addOne 1 = .ok (.getfield 39, 3) := by decide +kernel
theorem dX2_addOne_4 : decode cX2_addOne 4 = .ok (.bipush 6, 2) := by decide +kernel
theorem dX2_addOne_6 : decode cX2_addOne 6 = .ok (.if_icmp .lt 4, 3) := by decide +kernel
theorem dX2_addOne_9 : decode cX2_addOne 9 = .ok (.return_, 1) := by decide +kernel
theorem dX2_addOne_10 : decode cX2_addOne 10 = .ok (.aload_n 0, 1) := by decide +kernel
theorem dX2_addOne_11 : decode cX2_addOne 11 = .ok (.getfield 9, 3) := by decide +kernel
theorem dX2_addOne_14 : decode cX2_addOne 14 = .ok (.aload_n 0, 1) := by decide +kernel
theorem dX2_addOne_15 : decode cX2_addOne 15 = .ok (.getfield 39, 3) := by decide +kernel
theorem dX2_addOne_18 : decode cX2_addOne 18 = .ok (.iload_n 1, 1) := by decide +kernel
theorem dX2_addOne_19 : decode cX2_addOne 19 = .ok (.iastore, 1) := by decide +kernel
theorem dX2_addOne_20 : decode cX2_addOne 20 = .ok (.aload_n 0, 1) := by decide +kernel
theorem dX2_addOne_21 : decode cX2_addOne 21 = .ok (.getfield 15, 3) := by decide +kernel
theorem dX2_addOne_24 : decode cX2_addOne 24 = .ok (.aload_n 0, 1) := by decide +kernel
theorem dX2_addOne_25 : decode cX2_addOne 25 = .ok (.getfield 39, 3) := by decide +kernel
theorem dX2_addOne_28 : decode cX2_addOne 28 = .ok (.iload_n 2, 1) := by decide +kernel
theorem dX2_addOne_29 : decode cX2_addOne 29 = .ok (.iastore, 1) := by decide +kernel
theorem dX2_addOne_30 : decode cX2_addOne 30 = .ok (.aload_n 0, 1) := by decide +kernel
theorem dX2_addOne_31 : decode cX2_addOne 31 = .ok (.getfield 18, 3) := by decide +kernel
theorem dX2_addOne_34 : decode cX2_addOne 34 = .ok (.aload_n 0, 1) := by decide +kernel
theorem dX2_addOne_35 : decode cX2_addOne 35 = .ok (.getfield 39, 3) := by decide +kernel
theorem dX2_addOne_38 : decode cX2_addOne 38 = .ok (.iconst 0, 1) := by decide +kernel
theorem dX2_addOne_39 : decode cX2_addOne 39 = .ok (.iastore, 1) := by decide +kernel
theorem dX2_addOne_40 : decode cX2_addOne 40 = .ok (.aload_n 0, 1) := by decide +kernel
theorem dX2_addOne_41 : decode cX2_addOne 41 = .ok (.getfield 21, 3) := by decide +kernel
theorem dX2_addOne_44 : decode cX2_addOne 44 = .ok (.aload_n 0, 1) := by decide +kernel
theorem dX2_addOne_45 : decode cX2_addOne 45 = .ok (.getfield 39, 3) := by decide +kernel
theorem dX2_addOne_48 : decode cX2_addOne 48 = .ok (.iload_n 3, 1) := by decide +kernel
theorem dX2_addOne_49 : decode cX2_addOne 49 = .ok (.iastore, 1) := by decide +kernel
theorem dX2_addOne_50 : decode cX2_addOne 50 = .ok (.aload_n 0, 1) := by decide +kernel
theorem dX2_addOne_51 : decode cX2_addOne 51 = .ok (.getfield 24, 3) := by decide +kernel
theorem dX2_addOne_54 : decode cX2_addOne 54 = .ok (.aload_n 0, 1) := by decide +kernel
theorem dX2_addOne_55 : decode cX2_addOne 55 = .ok (.getfield 39, 3) := by decide +kernel
theorem dX2_addOne_58 : decode cX2_addOne 58 = .ok (.iload 4, 2) := by decide +kernel
theorem dX2_addOne_60 : decode cX2_addOne 60 = .ok (.iastore, 1) := by decide +kernel
theorem dX2_addOne_61 : decode cX2_addOne 61 = .ok (.aload_n 0, 1) := by decide +kernel
theorem dX2_addOne_62 : decode cX2_addOne 62 = .ok (.getfield 27, 3) := by decide +kernel
theorem dX2_addOne_65 : decode cX2_addOne 65 = .ok (.aload_n 0, 1) := by decide +kernel
theorem dX2_addOne_66 : decode cX2_addOne 66 = .ok (.getfield 39, 3) := by decide +kernel
theorem dX2_addOne_69 : decode cX2_addOne 69 = .ok (.iconst 0, 1) := by decide +kernel
theorem dX2_addOne_70 : decode cX2_addOne 70 = .ok (.iastore, 1) := by decide +kernel
theorem dX2_addOne_71 : decode cX2_addOne 71 = .ok (.aload_n 0, 1) := by decide +kernel
theorem dX2_addOne_72 : decode cX2_addOne 72 = .ok (.dup, 1) := by decide +kernel
theorem dX2_addOne_73 : decode cX2_addOne 73 = .ok (.getfield 39, 3) := by decide +kernel
theorem dX2_addOne_76 : decode cX2_addOne 76 = .ok (.iconst 1, 1) := by decide +kernel
theorem dX2_addOne_77 : decode cX2_addOne 77 = .ok (.iadd, 1) := by decide +kernel
theorem dX2_addOne_78 : decode cX2_addOne 78 = .ok (.putfield 39, 3) := by decide +kernel
theorem dX2_addOne_81 : decode cX2_addOne 81 = .ok (.return_, 1) := by decide +kernel
theorem dX2_writeTo_0 : decode cX2_writeTo 0 = .ok (.aload_n 1, 1) := by decide +kernel
theorem dX2_writeTo_1 : decode cX2_writeTo 1 = .ok (.iconst 0, 1) := by decide +kernel
theorem dX2_writeTo_2 : decode cX2_writeTo 2 = .ok (.aload_n 0, 1) := by decide +kernel
theorem dX2_writeTo_3 : decode cX2_writeTo 3 = .ok (.getfield 39, 3) := by decide +kernel
theorem dX2_writeTo_6 : decode cX2_writeTo 6 = .ok (.iastore, 1) := by decide +kernel
theorem dX2_writeTo_7 : decode cX2_writeTo 7 = .ok (.aload_n 1, 1) := by decide +kernel
theorem dX2_writeTo_8 : decode cX2_writeTo 8 = .ok (.iconst 1, 1) := by decide +kernel
theorem dX2_writeTo_9 : decode cX2_writeTo 9 = .ok (.aload_n 0, 1) := by decide +kernel
theorem dX2_writeTo_10 : decode cX2_writeTo 10 = .ok (.getfield 49, 3) := by decide +kernel
theorem dX2_writeTo_13 : decode cX2_writeTo 13 = .ok (.iastore, 1) := by decide +kernel
theorem dX2_writeTo_14 : decode cX2_writeTo 14 = .ok (.aload_n 1, 1) := by decide +kernel
theorem dX2_writeTo_15 : decode cX2_writeTo 15 = .ok (.iconst 2, 1) := by decide +kernel
theorem dX2_writeTo_16 : decode cX2_writeTo 16 = .ok (.aload_n 0, 1) := by decide +kernel
theorem dX2_writeTo_17 : decode cX2_writeTo 17 = .ok (.getfield 52, 3) := by decide +kernel
theorem dX2_writeTo_20 : decode cX2_writeTo 20 = .ok (.iastore, 1) := by decide +kernel
theorem dX2_writeTo_21 : decode cX2_writeTo 21 = .ok (.aload_n 1, 1) := by decide +kernel
theorem dX2_writeTo_22 : decode cX2_writeTo 22 = .ok (.iconst 3, 1) := by decide +kernel
theorem dX2_writeTo_23 : decode cX2_writeTo 23 = .ok (.aload_n 0, 1) := by decide +kernel
theorem dX2_writeTo_24 : decode cX2_writeTo 24 = .ok (.getfield 43, 3) := by decide +kernel
theorem dX2_writeTo_27 : decode cX2_writeTo 27 = .ok (.iastore, 1) := by decide +kernel
theorem dX2_writeTo_28 : decode cX2_writeTo 28 = .ok (.aload_n 1, 1) := by decide +kernel
theorem dX2_writeTo_29 : decode cX2_writeTo 29 = .ok (.iconst 4, 1) := by decide +kernel
theorem dX2_writeTo_30 : decode cX2_writeTo 30 = .ok (.aload_n 0, 1) := by decide +kernel
theorem dX2_writeTo_31 : decode cX2_writeTo 31 = .ok (.getfield 46, 3) := by decide +kernel
theorem dX2_writeTo_34 : decode cX2_writeTo 34 = .ok (.iastore, 1) := by decide +kernel
theorem dX2_writeTo_35 : decode cX2_writeTo 35 = .ok (.aload_n 0, 1) := by decide +kernel
theorem dX2_writeTo_36 : decode cX2_writeTo 36 = .ok (.getfield 9, 3) := by decide +kernel
theorem dX2_writeTo_39 : decode cX2_writeTo 39 = .ok (.iconst 0, 1) := by decide +kernel
theorem dX2_writeTo_40 : decode cX2_writeTo 40 = .ok (.aload_n 1, 1) := by decide +kernel
theorem dX2_writeTo_41 : decode cX2_writeTo 41 = .ok (.iconst 5, 1) := by decide +kernel
theorem dX2_writeTo_42 : decode cX2_writeTo 42 = .ok (.bipush 6, 2) := by decide +kernel
theorem dX2_writeTo_44 : decode cX2_writeTo 44 = .ok (.invokestatic 55, 3) := by decide +kernel
theorem dX2_writeTo_47 : decode cX2_writeTo 47 = .ok (.aload_n 0, 1) := by decide +kernel
theorem dX2_writeTo_48 : decode cX2_writeTo 48 = .ok (.getfield 15, 3) := by decide +kernel
theorem dX2_writeTo_51 : decode cX2_writeTo 51 = .ok (.iconst 0, 1) := by decide +kernel
theorem dX2_writeTo_52 : decode cX2_writeTo 52 = .ok (.aload_n 1, 1) := by decide +kernel
theorem dX2_writeTo_53 : decode cX2_writeTo 53 = .ok (.bipush 11, 2) := by decide +kernel
theorem dX2_writeTo_55 : decode cX2_writeTo 55 = .ok (.bipush 6, 2) := by decide +kernel
theorem dX2_writeTo_57 : decode cX2_writeTo 57 = .ok (.invokestatic 55, 3) := by decide +kernel
theorem dX2_writeTo_60 : decode cX2_writeTo 60 = .ok (.aload_n 0, 1) := by decide +kernel
theorem dX2_writeTo_61 : decode cX2_writeTo 61 = .ok (.getfield 18, 3) := by decide +kernel
theorem dX2_writeTo_64 : decode cX2_writeTo 64 = .ok (.iconst 0, 1) := by decide +kernel
theorem dX2_writeTo_65 : decode cX2_writeTo 65 = .ok (.aload_n 1, 1) := by decide +kernel
theorem dX2_writeTo_66 : decode cX2_writeTo 66 = .ok (.bipush 17, 2) := by decide +kernel
theorem dX2_writeTo_68 : decode cX2_writeTo 68 = .ok (.bipush 6, 2) := by decide +kernel
theorem dX2_writeTo_70 : decode cX2_writeTo 70 = .ok (.invokestatic 55, 3) := by decide +kernel
theorem dX2_writeTo_73 : decode cX2_writeTo 73 = .ok (.aload_n 0, 1) := by decide +kernel
theorem dX2_writeTo_74 : decode cX2_writeTo 74 = .ok (.getfield 21, 3) := by decide +kernel
theorem dX2_writeTo_77 : decode cX2_writeTo 77 = .ok (.iconst 0, 1) := by decide +kernel
theorem dX2_writeTo_78 : decode cX2_writeTo 78 = .ok (.aload_n 1, 1) := by decide +kernel
theorem dX2_writeTo_79 : decode cX2_writeTo 79 = .ok (.bipush 23, 2) := by decide +kernel
theorem dX2_writeTo_81 : decode cX2_writeTo 81 = .ok (.bipush 6, 2) := by decide +kernel
theorem dX2_writeTo_83 : decode cX2_writeTo 83 = .ok (.invokestatic 55, 3) := by decide +kernel
theorem dX2_writeTo_86 : decode cX2_writeTo 86 = .ok (.aload_n 0, 1) := by decide +kernel
theorem dX2_writeTo_87 : decode cX2_writeTo 87 = .ok (.getfield 24, 3) := by decide +kernel
theorem dX2_writeTo_90 : decode cX2_writeTo 90 = .ok (.iconst 0, 1) := by decide +kernel
theorem dX2_writeTo_91 : decode cX2_writeTo 91 = .ok (.aload_n 1, 1) := by decide +kernel
theorem dX2_writeTo_92 : decode cX2_writeTo 92 = .ok (.bipush 29, 2) := by decide +kernel
theorem dX2_writeTo_94 : decode cX2_writeTo 94 = .ok (.bipush 6, 2) := by decide +kernel
theorem dX2_writeTo_96 : decode cX2_writeTo 96 = .ok (.invokestatic 55, 3) := by decide +kernel
theorem dX2_writeTo_99 : decode cX2_writeTo 99 = .ok (.aload_n 0, 1) := by decide +kernel
theorem dX2_writeTo_100 : decode cX2_writeTo 100 = .ok (.getfield 27, 3) := by decide +kernel
theorem dX2_writeTo_103 : decode cX2_writeTo 103 = .ok (.iconst 0, 1) := by decide +kernel
theorem dX2_writeTo_104 : decode cX2_writeTo 104 = .ok (.aload_n 1, 1) := by decide +kernel
theorem dX2_writeTo_105 : decode cX2_writeTo 105 = .ok (.bipush 35, 2) := by decide +kernel
theorem dX2_writeTo_107 : decode cX2_writeTo 107 = .ok (.bipush 6, 2) := by decide +kernel
theorem dX2_writeTo_109 : decode cX2_writeTo 109 = .ok (.invokestatic 55, 3) := by decide +kernel
theorem dX2_writeTo_112 : decode cX2_writeTo 112 = .ok (.return_, 1) := by decide +kernel
theorem dX2_readFrom_0 : decode cX2_readFrom 0 = .ok (.aload_n 0, 1) := by decide +kernel
theorem dX2_readFrom_1 : decode cX2_readFrom 1 = .ok (.aload_n 1, 1) := by decide +kernel
theorem dX2_readFrom_2 : decode cX2_readFrom 2 = .ok (.iconst 0, 1) := by decide +kernel
theorem dX2_readFrom_3 : decode cX2_readFrom 3 = .ok (.iaload, 1) := by decide +kernel
theorem dX2_readFrom_4 : decode cX2_readFrom 4 = .ok (.putfield 39, 3) := by decide +kernel
theorem dX2_readFrom_7 : decode cX2_readFrom 7 = .ok (.aload_n 0, 1) := by decide +kernel
theorem dX2_readFrom_8 : decode cX2_readFrom 8 = .ok (.aload_n 1, 1) := by decide +kernel
theorem dX2_readFrom_9 : decode cX2_readFrom 9 = .ok (.iconst 1, 1) := by decide +kernel
theorem dX2_readFrom_10 : decode cX2_readFrom 10 = .ok (.iaload, 1) := by decide +kernel
theorem dX2_readFrom_11 : decode cX2_readFrom 11 = .ok (.putfield 49, 3) := by decide +kernel
theorem dX2_readFrom_14 : decode cX2_readFrom 14 = .ok (.aload_n 0, 1) := by decide +kernel
theorem dX2_readFrom_15 : decode cX2_readFrom 15 = .ok (.aload_n 1, 1) := by decide +kernel
theorem dX2_readFrom_16 : decode cX2_readFrom 16 = .ok (.iconst 2, 1) := by decide +kernel
theorem dX2_readFrom_17 : decode cX2_readFrom 17 = .ok (.iaload, 1) := by decide +kernel
theorem dX2_readFrom_18 : decode cX2_readFrom 18 = .ok (.putfield 52, 3) := by decide +kernel
theorem dX2_readFrom_21 : decode cX2_readFrom 21 = .ok (.aload_n 0, 1) := by decide +kernel
theorem dX2_readFrom_22 : decode cX2_readFrom 22 = .ok (.aload_n 1, 1) := by decide +kernel
theorem dX2_readFrom_23 : decode cX2_readFrom 23 = .ok (.iconst 3, 1) := by decide +kernel
theorem dX2_readFrom_24 : decode cX2_readFrom 24 = .ok (.iaload, 1) := by decide +kernel
theorem dX2_readFrom_25 : decode cX2_readFrom 25 = .ok (.putfield 43, 3) := by decide +kernel
theorem dX2_readFrom_28 : decode cX2_readFrom 28 = .ok (.aload_n 0, 1) := by decide +kernel
theorem dX2_readFrom_29 : decode cX2_readFrom 29 = .ok (.aload_n 1, 1) := by decide +kernel
theorem dX2_readFrom_30 : decode cX2_readFrom 30 = .ok (.iconst 4, 1) := by decide +kernel
theorem dX2_readFrom_31 : decode cX2_readFrom 31 = .ok (.iaload, 1) := by decide +kernel
theorem dX2_readFrom_32 : decode cX2_readFrom 32 = .ok (.putfield 46, 3) := by decide +kernel
theorem dX2_readFrom_35 : decode cX2_readFrom 35 = .ok (.aload_n 1, 1) := by decide +kernel
theorem dX2_readFrom_36 : decode cX2_readFrom 36 = .ok (.iconst 5, 1) := by decide +kernel
theorem dX2_readFrom_37 : decode cX2_readFrom 37 = .ok (.aload_n 0, 1) := by decide +kernel
theorem dX2_readFrom_38 : decode cX2_readFrom 38 = .ok (.getfield 9, 3) := by decide +kernel
theorem dX2_readFrom_41 : decode cX2_readFrom 41 = .ok (.iconst 0, 1) := by decide +kernel
theorem dX2_readFrom_42 : decode cX2_readFrom 42 = .ok (.bipush 6, 2) := by decide +kernel
theorem dX2_readFrom_44 : decode cX2_readFrom 44 = .ok (.invokestatic 55, 3) := by decide +kernel
theorem dX2_readFrom_47 : decode cX2_readFrom 47 = .ok (.aload_n 1, 1) := by decide +kernel
theorem dX2_readFrom_48 : decode cX2_readFrom 48 = .ok (.bipush 11, 2) := by decide +kernel
theorem dX2_readFrom_50 : decode cX2_readFrom 50 = .ok (.aload_n 0, 1) := by decide +kernel
theorem dX2_readFrom_51 : decode cX2_readFrom 51 = .ok (.getfield 15, 3) := by decide +kernel
theorem dX2_readFrom_54 : decode cX2_readFrom 54 = .ok (.iconst 0, 1) := by decide +kernel
theorem dX2_readFrom_55 : decode cX2_readFrom 55 = .ok (.bipush 6, 2) := by decide +kernel
theorem dX2_readFrom_57 : decode cX2_readFrom 57 = .ok (.invokestatic 55, 3) := by decide +kernel
theorem dX2_readFrom_60 : decode cX2_readFrom 60 = .ok (.aload_n 1, 1) := by decide +kernel
theorem dX2_readFrom_61 : decode cX2_readFrom 61 = .ok (.bipush 17, 2) := by decide +kernel
theorem dX2_readFrom_63 : decode cX2_readFrom 63 = .ok (.aload_n 0, 1) := by decide +kernel
theorem dX2_readFrom_64 : decode cX2_readFrom 64 = .ok (.getfield 18, 3) := by decide +kernel
theorem dX2_readFrom_67 : decode cX2_readFrom 67 = .ok (.iconst 0, 1) := by decide +kernel
theorem dX2_readFrom_68 : decode cX2_readFrom 68 = .ok (.bipush 6, 2) := by decide +kernel
theorem dX2_readFrom_70 : decode cX2_readFrom 70 = .ok (.invokestatic 55, 3) := by decide +kernel
theorem dX2_readFrom_73 : decode cX2_readFrom 73 = .ok (.aload_n 1, 1) := by decide +kernel
theorem dX2_readFrom_74 : decode cX2_readFrom 74 = .ok (.bipush 23, 2) := by decide +kernel
theorem dX2_readFrom_76 : decode cX2_readFrom 76 = .ok (.aload_n 0, 1) := by decide +kernel
theorem dX2_readFrom_77 : decode cX2_readFrom 77 = .ok (.getfield 21, 3) := by decide +kernel
theorem dX2_readFrom_80 : decode cX2_readFrom 80 = .ok (.iconst 0, 1) := by decide +kernel
theorem dX2_readFrom_81 : decode cX2_readFrom 81 = .ok (.bipush 6, 2) := by decide +kernel
theorem dX2_readFrom_83 : decode cX2_readFrom 83 = .ok (.invokestatic 55, 3) := by decide +kernel
theorem dX2_readFrom_86 : decode cX2_readFrom 86 = .ok (.aload_n 1, 1) := by decide +kernel
theorem dX2_readFrom_87 : decode cX2_readFrom 87 = .ok (.bipush 29, 2) := by decide +kernel
theorem dX2_readFrom_89 : decode cX2_readFrom 89 = .ok (.aload_n 0, 1) := by decide +kernel
theorem dX2_readFrom_90 : decode cX2_readFrom 90 = .ok (.getfield 24, 3) := by decide +kernel
theorem dX2_readFrom_93 : decode cX2_readFrom 93 = .ok (.iconst 0, 1) := by decide +kernel
theorem dX2_readFrom_94 : decode cX2_readFrom 94 = .ok (.bipush 6, 2) := by decide +kernel
theorem dX2_readFrom_96 : decode cX2_readFrom 96 = .ok (.invokestatic 55, 3) := by decide +kernel
theorem dX2_readFrom_99 : decode cX2_readFrom 99 = .ok (.aload_n 1, 1) := by decide +kernel
theorem dX2_readFrom_100 : decode cX2_readFrom 100 = .ok (.bipush 35, 2) := by decide +kernel
theorem dX2_readFrom_102 : decode cX2_readFrom 102 = .ok (.aload_n 0, 1) := by decide +kernel
theorem dX2_readFrom_103 : decode cX2_readFrom 103 = .ok (.getfield 27, 3) := by decide +kernel
theorem dX2_readFrom_106 : decode cX2_readFrom 106 = .ok (.iconst 0, 1) := by decide +kernel
theorem dX2_readFrom_107 : decode cX2_readFrom 107 = .ok (.bipush 6, 2) := by decide +kernel
theorem dX2_readFrom_109 : decode cX2_readFrom 109 = .ok (.invokestatic 55, 3) := by decide +kernel
theorem dX2_readFrom_112 : decode cX2_readFrom 112 = .ok (.return_, 1) := by decide +kernel
theorem dX2_isWatched_0 : decode cX2_isWatched 0 = .ok (.aload_n 0, 1) := by decide +kernel
theorem dX2_isWatched_1 : decode cX2_isWatched 1 = .ok (.getfield 46, 3) := by decide +kernel
theorem dX2_isWatched_4 : decode cX2_isWatched 4 = .ok (.iload_n 1, 1) := by decide +kernel
theorem dX2_isWatched_5 : decode cX2_isWatched 5 = .ok (.ishr, 1) := by decide +kernel
theorem dX2_isWatched_6 : decode cX2_isWatched 6 = .ok (.iconst 1, 1) := by decide +kernel
theorem dX2_isWatched_7 : decode cX2_isWatched 7 = .ok (.iand, 1) := by decide +kernel
theorem dX2_isWatched_8 : decode cX2_isWatched 8 = .ok (.ifCond .eq 7, 3) := by decide +kernel
theorem dX2_isWatched_11 : decode cX2_isWatched 11 = .ok (.iconst 1, 1) := by decide +kernel
theorem dX2_isWatched_12 : decode cX2_isWatched 12 = .ok (.goto 4, 3) := by decide +kernel
theorem dX2_isWatched_15 : decode cX2_isWatched 15 = .ok (.iconst 0, 1) := by decide +kernel
theorem dX2_isWatched_16 : decode cX2_isWatched 16 = .ok (.ireturn, 1) := by decide +kernel
theorem dX2_highOf_0 : decode cX2_highOf 0 = .ok (.aload_n 0, 1) := by decide +kernel
theorem dX2_highOf_1 : decode cX2_highOf 1 = .ok (.getfield 15, 3) := by decide +kernel
theorem dX2_highOf_4 : decode cX2_highOf 4 = .ok (.iload_n 1, 1) := by decide +kernel
theorem dX2_highOf_5 : decode cX2_highOf 5 = .ok (.iaload, 1) := by decide +kernel
theorem dX2_highOf_6 : decode cX2_highOf 6 = .ok (.aload_n 0, 1) := by decide +kernel
theorem dX2_highOf_7 : decode cX2_highOf 7 = .ok (.getfield 18, 3) := by decide +kernel
theorem dX2_highOf_10 : decode cX2_highOf 10 = .ok (.iload_n 1, 1) := by decide +kernel
theorem dX2_highOf_11 : decode cX2_highOf 11 = .ok (.iaload, 1) := by decide +kernel
theorem dX2_highOf_12 : decode cX2_highOf 12 = .ok (.iadd, 1) := by decide +kernel
theorem dX2_highOf_13 : decode cX2_highOf 13 = .ok (.istore_n 2, 1) := by decide +kernel
theorem dX2_highOf_14 : decode cX2_highOf 14 = .ok (.aload_n 0, 1) := by decide +kernel
theorem dX2_highOf_15 : decode cX2_highOf 15 = .ok (.getfield 9, 3) := by decide +kernel
theorem dX2_highOf_18 : decode cX2_highOf 18 = .ok (.iload_n 1, 1) := by decide +kernel
theorem dX2_highOf_19 : decode cX2_highOf 19 = .ok (.iaload, 1) := by decide +kernel
theorem dX2_highOf_20 : decode cX2_highOf 20 = .ok (.tableswitch 76 2 5 #[32, 38, 47, 54], 32) := by decide +kernel
theorem dX2_highOf_52 : decode cX2_highOf 52 = .ok (.iload_n 2, 1) := by decide +kernel
theorem dX2_highOf_53 : decode cX2_highOf 53 = .ok (.iload_n 2, 1) := by decide +kernel
theorem dX2_highOf_54 : decode cX2_highOf 54 = .ok (.iconst 1, 1) := by decide +kernel
theorem dX2_highOf_55 : decode cX2_highOf 55 = .ok (.iand, 1) := by decide +kernel
theorem dX2_highOf_56 : decode cX2_highOf 56 = .ok (.isub, 1) := by decide +kernel
theorem dX2_highOf_57 : decode cX2_highOf 57 = .ok (.ireturn, 1) := by decide +kernel
theorem dX2_highOf_58 : decode cX2_highOf 58 = .ok (.iload_n 2, 1) := by decide +kernel
theorem dX2_highOf_59 : decode cX2_highOf 59 = .ok (.aload_n 0, 1) := by decide +kernel
theorem dX2_highOf_60 : decode cX2_highOf 60 = .ok (.getfield 18, 3) := by decide +kernel
theorem dX2_highOf_63 : decode cX2_highOf 63 = .ok (.iload_n 1, 1) := by decide +kernel
theorem dX2_highOf_64 : decode cX2_highOf 64 = .ok (.iaload, 1) := by decide +kernel
theorem dX2_highOf_65 : decode cX2_highOf 65 = .ok (.iadd, 1) := by decide +kernel
theorem dX2_highOf_66 : decode cX2_highOf 66 = .ok (.ireturn, 1) := by decide +kernel
theorem dX2_highOf_67 : decode cX2_highOf 67 = .ok (.aload_n 0, 1) := by decide +kernel
theorem dX2_highOf_68 : decode cX2_highOf 68 = .ok (.getfield 15, 3) := by decide +kernel
theorem dX2_highOf_71 : decode cX2_highOf 71 = .ok (.iload_n 1, 1) := by decide +kernel
theorem dX2_highOf_72 : decode cX2_highOf 72 = .ok (.iaload, 1) := by decide +kernel
theorem dX2_highOf_73 : decode cX2_highOf 73 = .ok (.ireturn, 1) := by decide +kernel
theorem dX2_highOf_74 : decode cX2_highOf 74 = .ok (.aload_n 0, 1) := by decide +kernel
theorem dX2_highOf_75 : decode cX2_highOf 75 = .ok (.getfield 15, 3) := by decide +kernel
theorem dX2_highOf_78 : decode cX2_highOf 78 = .ok (.iload_n 1, 1) := by decide +kernel
theorem dX2_highOf_79 : decode cX2_highOf 79 = .ok (.iaload, 1) := by decide +kernel
theorem dX2_highOf_80 : decode cX2_highOf 80 = .ok (.ifCond .le 14, 3) := by decide +kernel
theorem dX2_highOf_83 : decode cX2_highOf 83 = .ok (.aload_n 0, 1) := by decide +kernel
theorem dX2_highOf_84 : decode cX2_highOf 84 = .ok (.getfield 15, 3) := by decide +kernel
theorem dX2_highOf_87 : decode cX2_highOf 87 = .ok (.iload_n 1, 1) := by decide +kernel
theorem dX2_highOf_88 : decode cX2_highOf 88 = .ok (.iaload, 1) := by decide +kernel
theorem dX2_highOf_89 : decode cX2_highOf 89 = .ok (.iconst 5, 1) := by decide +kernel
theorem dX2_highOf_90 : decode cX2_highOf 90 = .ok (.iadd, 1) := by decide +kernel
theorem dX2_highOf_91 : decode cX2_highOf 91 = .ok (.goto 4, 3) := by decide +kernel
theorem dX2_highOf_94 : decode cX2_highOf 94 = .ok (.iconst 0, 1) := by decide +kernel
theorem dX2_highOf_95 : decode cX2_highOf 95 = .ok (.ireturn, 1) := by decide +kernel
theorem dX2_highOf_96 : decode cX2_highOf 96 = .ok (.iload_n 2, 1) := by decide +kernel
theorem dX2_highOf_97 : decode cX2_highOf 97 = .ok (.ireturn, 1) := by decide +kernel
theorem dX2_isHigher_0 : decode cX2_isHigher 0 = .ok (.aload_n 0, 1) := by decide +kernel
theorem dX2_isHigher_1 : decode cX2_isHigher 1 = .ok (.iload_n 1, 1) := by decide +kernel
theorem dX2_isHigher_2 : decode cX2_isHigher 2 = .ok (.invokevirtual 61, 3) := by decide +kernel
theorem dX2_isHigher_5 : decode cX2_isHigher 5 = .ok (.aload_n 0, 1) := by decide +kernel
theorem dX2_isHigher_6 : decode cX2_isHigher 6 = .ok (.iload_n 2, 1) := by decide +kernel
theorem dX2_isHigher_7 : decode cX2_isHigher 7 = .ok (.invokevirtual 61, 3) := by decide +kernel
theorem dX2_isHigher_10 : decode cX2_isHigher 10 = .ok (.isub, 1) := by decide +kernel
theorem dX2_isHigher_11 : decode cX2_isHigher 11 = .ok (.istore_n 3, 1) := by decide +kernel
theorem dX2_isHigher_12 : decode cX2_isHigher 12 = .ok (.iload_n 3, 1) := by decide +kernel
theorem dX2_isHigher_13 : decode cX2_isHigher 13 = .ok (.ifCond .gt 12, 3) := by decide +kernel
theorem dX2_isHigher_16 : decode cX2_isHigher 16 = .ok (.iload_n 3, 1) := by decide +kernel
theorem dX2_isHigher_17 : decode cX2_isHigher 17 = .ok (.ifCond .ne 12, 3) := by decide +kernel
theorem dX2_isHigher_20 : decode cX2_isHigher 20 = .ok (.iload_n 1, 1) := by decide +kernel
theorem dX2_isHigher_21 : decode cX2_isHigher 21 = .ok (.iload_n 2, 1) := by decide +kernel
theorem dX2_isHigher_22 : decode cX2_isHigher 22 = .ok (.if_icmp .ge 7, 3) := by decide +kernel
theorem dX2_isHigher_25 : decode cX2_isHigher 25 = .ok (.iconst 1, 1) := by decide +kernel
theorem dX2_isHigher_26 : decode cX2_isHigher 26 = .ok (.goto 4, 3) := by decide +kernel
theorem dX2_isHigher_29 : decode cX2_isHigher 29 = .ok (.iconst 0, 1) := by decide +kernel
theorem dX2_isHigher_30 : decode cX2_isHigher 30 = .ok (.ireturn, 1) := by decide +kernel
theorem dX2_rankOf_0 : decode cX2_rankOf 0 = .ok (.aload_n 0, 1) := by decide +kernel
theorem dX2_rankOf_1 : decode cX2_rankOf 1 = .ok (.invokevirtual 65, 3) := by decide +kernel
theorem dX2_rankOf_4 : decode cX2_rankOf 4 = .ok (.aload_n 0, 1) := by decide +kernel
theorem dX2_rankOf_5 : decode cX2_rankOf 5 = .ok (.getfield 33, 3) := by decide +kernel
theorem dX2_rankOf_8 : decode cX2_rankOf 8 = .ok (.iload_n 1, 1) := by decide +kernel
theorem dX2_rankOf_9 : decode cX2_rankOf 9 = .ok (.iaload, 1) := by decide +kernel
theorem dX2_rankOf_10 : decode cX2_rankOf 10 = .ok (.ireturn, 1) := by decide +kernel
theorem dX2_atRank_0 : decode cX2_atRank 0 = .ok (.aload_n 0, 1) := by decide +kernel
theorem dX2_atRank_1 : decode cX2_atRank 1 = .ok (.invokevirtual 65, 3) := by decide +kernel
theorem dX2_atRank_4 : decode cX2_atRank 4 = .ok (.aload_n 0, 1) := by decide +kernel
theorem dX2_atRank_5 : decode cX2_atRank 5 = .ok (.getfield 36, 3) := by decide +kernel
theorem dX2_atRank_8 : decode cX2_atRank 8 = .ok (.iload_n 1, 1) := by decide +kernel
theorem dX2_atRank_9 : decode cX2_atRank 9 = .ok (.iaload, 1) := by decide +kernel
theorem dX2_atRank_10 : decode cX2_atRank 10 = .ok (.ireturn, 1) := by decide +kernel
theorem dX2_preyOf_0 : decode cX2_preyOf 0 = .ok (.aload_n 0, 1) := by decide +kernel
theorem dX2_preyOf_1 : decode cX2_preyOf 1 = .ok (.invokevirtual 65, 3) := by decide +kernel
theorem dX2_preyOf_4 : decode cX2_preyOf 4 = .ok (.aload_n 0, 1) := by decide +kernel
theorem dX2_preyOf_5 : decode cX2_preyOf 5 = .ok (.iload_n 1, 1) := by decide +kernel
theorem dX2_preyOf_6 : decode cX2_preyOf 6 = .ok (.invokevirtual 68, 3) := by decide +kernel
theorem dX2_preyOf_9 : decode cX2_preyOf 9 = .ok (.ireturn, 1) := by decide +kernel
theorem dX2_allLegs_0 : decode cX2_allLegs 0 = .ok (.iconst 0, 1) := by decide +kernel
theorem dX2_allLegs_1 : decode cX2_allLegs 1 = .ok (.istore_n 1, 1) := by decide +kernel
theorem dX2_allLegs_2 : decode cX2_allLegs 2 = .ok (.iconst 0, 1) := by decide +kernel
theorem dX2_allLegs_3 : decode cX2_allLegs 3 = .ok (.istore_n 2, 1) := by decide +kernel
theorem dX2_allLegs_4 : decode cX2_allLegs 4 = .ok (.iload_n 2, 1) := by decide +kernel
theorem dX2_allLegs_5 : decode cX2_allLegs 5 = .ok (.aload_n 0, 1) := by decide +kernel
theorem dX2_allLegs_6 : decode cX2_allLegs 6 = .ok (.getfield 39, 3) := by decide +kernel
theorem dX2_allLegs_9 : decode cX2_allLegs 9 = .ok (.if_icmp .ge 18, 3) := by decide +kernel
theorem dX2_allLegs_12 : decode cX2_allLegs 12 = .ok (.iload_n 1, 1) := by decide +kernel
theorem dX2_allLegs_13 : decode cX2_allLegs 13 = .ok (.aload_n 0, 1) := by decide +kernel
theorem dX2_allLegs_14 : decode cX2_allLegs 14 = .ok (.getfield 15, 3) := by decide +kernel
theorem dX2_allLegs_17 : decode cX2_allLegs 17 = .ok (.iload_n 2, 1) := by decide +kernel
theorem dX2_allLegs_18 : decode cX2_allLegs 18 = .ok (.iaload, 1) := by decide +kernel
theorem dX2_allLegs_19 : decode cX2_allLegs 19 = .ok (.iadd, 1) := by decide +kernel
theorem dX2_allLegs_20 : decode cX2_allLegs 20 = .ok (.istore_n 1, 1) := by decide +kernel
theorem dX2_allLegs_21 : decode cX2_allLegs 21 = .ok (.iinc 2 1, 3) := by decide +kernel
theorem dX2_allLegs_24 : decode cX2_allLegs 24 = .ok (.goto (-20), 3) := by decide +kernel
theorem dX2_allLegs_27 : decode cX2_allLegs 27 = .ok (.iload_n 1, 1) := by decide +kernel
theorem dX2_allLegs_28 : decode cX2_allLegs 28 = .ok (.ireturn, 1) := by decide +kernel
theorem dX2_allCaught_0 : decode cX2_allCaught 0 = .ok (.iconst 0, 1) := by decide +kernel
theorem dX2_allCaught_1 : decode cX2_allCaught 1 = .ok (.istore_n 1, 1) := by decide +kernel
theorem dX2_allCaught_2 : decode cX2_allCaught 2 = .ok (.iconst 0, 1) := by decide +kernel
theorem dX2_allCaught_3 : decode cX2_allCaught 3 = .ok (.istore_n 2, 1) := by decide +kernel
theorem dX2_allCaught_4 : decode cX2_allCaught 4 = .ok (.iload_n 2, 1) := by decide +kernel
theorem dX2_allCaught_5 : decode cX2_allCaught 5 = .ok (.aload_n 0, 1) := by decide +kernel
theorem dX2_allCaught_6 : decode cX2_allCaught 6 = .ok (.getfield 39, 3) := by decide +kernel
theorem dX2_allCaught_9 : decode cX2_allCaught 9 = .ok (.if_icmp .ge 18, 3) := by decide +kernel
theorem dX2_allCaught_12 : decode cX2_allCaught 12 = .ok (.iload_n 1, 1) := by decide +kernel
theorem dX2_allCaught_13 : decode cX2_allCaught 13 = .ok (.aload_n 0, 1) := by decide +kernel
theorem dX2_allCaught_14 : decode cX2_allCaught 14 = .ok (.getfield 27, 3) := by decide +kernel
theorem dX2_allCaught_17 : decode cX2_allCaught 17 = .ok (.iload_n 2, 1) := by decide +kernel
theorem dX2_allCaught_18 : decode cX2_allCaught 18 = .ok (.iaload, 1) := by decide +kernel
theorem dX2_allCaught_19 : decode cX2_allCaught 19 = .ok (.iadd, 1) := by decide +kernel
theorem dX2_allCaught_20 : decode cX2_allCaught 20 = .ok (.istore_n 1, 1) := by decide +kernel
theorem dX2_allCaught_21 : decode cX2_allCaught 21 = .ok (.iinc 2 1, 3) := by decide +kernel
theorem dX2_allCaught_24 : decode cX2_allCaught 24 = .ok (.goto (-20), 3) := by decide +kernel
theorem dX2_allCaught_27 : decode cX2_allCaught 27 = .ok (.iload_n 1, 1) := by decide +kernel
theorem dX2_allCaught_28 : decode cX2_allCaught 28 = .ok (.ireturn, 1) := by decide +kernel
theorem dX2_glueLeg_0 : decode cX2_glueLeg 0 = .ok (.aload_n 0, 1) := by decide +kernel
theorem dX2_glueLeg_1 : decode cX2_glueLeg 1 = .ok (.getfield 15, 3) := by decide +kernel
theorem dX2_glueLeg_4 : decode cX2_glueLeg 4 = .ok (.iload_n 1, 1) := by decide +kernel
theorem dX2_glueLeg_5 : decode cX2_glueLeg 5 = .ok (.bipush 60, 2) := by decide +kernel
theorem dX2_glueLeg_7 : decode cX2_glueLeg 7 = .ok (.aload_n 0, 1) := by decide +kernel
theorem dX2_glueLeg_8 : decode cX2_glueLeg 8 = .ok (.getfield 15, 3) := by decide +kernel
theorem dX2_glueLeg_11 : decode cX2_glueLeg 11 = .ok (.iload_n 1, 1) := by decide +kernel
theorem dX2_glueLeg_12 : decode cX2_glueLeg 12 = .ok (.iaload, 1) := by decide +kernel
theorem dX2_glueLeg_13 : decode cX2_glueLeg 13 = .ok (.aload_n 0, 1) := by decide +kernel
theorem dX2_glueLeg_14 : decode cX2_glueLeg 14 = .ok (.getfield 52, 3) := by decide +kernel
theorem dX2_glueLeg_17 : decode cX2_glueLeg 17 = .ok (.iadd, 1) := by decide +kernel
theorem dX2_glueLeg_18 : decode cX2_glueLeg 18 = .ok (.invokestatic 71, 3) := by decide +kernel
theorem dX2_glueLeg_21 : decode cX2_glueLeg 21 = .ok (.iastore, 1) := by decide +kernel
theorem dX2_glueLeg_22 : decode cX2_glueLeg 22 = .ok (.return_, 1) := by decide +kernel
theorem dX2_exchangeSitters_0 : decode cX2_exchangeSitters 0 = .ok (.aload_n 0, 1) := by decide +kernel
theorem dX2_exchangeSitters_1 : decode cX2_exchangeSitters 1 = .ok (.getfield 21, 3) := by decide +kernel
theorem dX2_exchangeSitters_4 : decode cX2_exchangeSitters 4 = .ok (.iload_n 1, 1) := by decide +kernel
theorem dX2_exchangeSitters_5 : decode cX2_exchangeSitters 5 = .ok (.iload_n 2, 1) := by decide +kernel
theorem dX2_exchangeSitters_6 : decode cX2_exchangeSitters 6 = .ok (.invokestatic 77, 3) := by decide +kernel
theorem dX2_exchangeSitters_9 : decode cX2_exchangeSitters 9 = .ok (.aload_n 0, 1) := by decide +kernel
theorem dX2_exchangeSitters_10 : decode cX2_exchangeSitters 10 = .ok (.getfield 24, 3) := by decide +kernel
theorem dX2_exchangeSitters_13 : decode cX2_exchangeSitters 13 = .ok (.iload_n 1, 1) := by decide +kernel
theorem dX2_exchangeSitters_14 : decode cX2_exchangeSitters 14 = .ok (.iload_n 2, 1) := by decide +kernel
theorem dX2_exchangeSitters_15 : decode cX2_exchangeSitters 15 = .ok (.invokestatic 77, 3) := by decide +kernel
theorem dX2_exchangeSitters_18 : decode cX2_exchangeSitters 18 = .ok (.aload_n 0, 1) := by decide +kernel
theorem dX2_exchangeSitters_19 : decode cX2_exchangeSitters 19 = .ok (.getfield 27, 3) := by decide +kernel
theorem dX2_exchangeSitters_22 : decode cX2_exchangeSitters 22 = .ok (.iload_n 1, 1) := by decide +kernel
theorem dX2_exchangeSitters_23 : decode cX2_exchangeSitters 23 = .ok (.iload_n 2, 1) := by decide +kernel
theorem dX2_exchangeSitters_24 : decode cX2_exchangeSitters 24 = .ok (.invokestatic 77, 3) := by decide +kernel
theorem dX2_exchangeSitters_27 : decode cX2_exchangeSitters 27 = .ok (.return_, 1) := by decide +kernel
theorem dX2_exchange_0 : decode cX2_exchange 0 = .ok (.aload_n 0, 1) := by decide +kernel
theorem dX2_exchange_1 : decode cX2_exchange 1 = .ok (.iload_n 1, 1) := by decide +kernel
theorem dX2_exchange_2 : decode cX2_exchange 2 = .ok (.iaload, 1) := by decide +kernel
theorem dX2_exchange_3 : decode cX2_exchange 3 = .ok (.istore_n 3, 1) := by decide +kernel
theorem dX2_exchange_4 : decode cX2_exchange 4 = .ok (.aload_n 0, 1) := by decide +kernel
theorem dX2_exchange_5 : decode cX2_exchange 5 = .ok (.iload_n 1, 1) := by decide +kernel
theorem dX2_exchange_6 : decode cX2_exchange 6 = .ok (.aload_n 0, 1) := by decide +kernel
theorem dX2_exchange_7 : decode cX2_exchange 7 = .ok (.iload_n 2, 1) := by decide +kernel
theorem dX2_exchange_8 : decode cX2_exchange 8 = .ok (.iaload, 1) := by decide +kernel
theorem dX2_exchange_9 : decode cX2_exchange 9 = .ok (.iastore, 1) := by decide +kernel
theorem dX2_exchange_10 : decode cX2_exchange 10 = .ok (.aload_n 0, 1) := by decide +kernel
theorem dX2_exchange_11 : decode cX2_exchange 11 = .ok (.iload_n 2, 1) := by decide +kernel
theorem dX2_exchange_12 : decode cX2_exchange 12 = .ok (.iload_n 3, 1) := by decide +kernel
theorem dX2_exchange_13 : decode cX2_exchange 13 = .ok (.iastore, 1) := by decide +kernel
theorem dX2_exchange_14 : decode cX2_exchange 14 = .ok (.return_, 1) := by decide +kernel
theorem dX2_reckonRanks_0 : decode cX2_reckonRanks 0 = .ok (.iconst 0, 1) := by decide +kernel
theorem dX2_reckonRanks_1 : decode cX2_reckonRanks 1 = .ok (.istore_n 1, 1) := by decide +kernel
theorem dX2_reckonRanks_2 : decode cX2_reckonRanks 2 = .ok (.iload_n 1, 1) := by decide +kernel
theorem dX2_reckonRanks_3 : decode cX2_reckonRanks 3 = .ok (.aload_n 0, 1) := by decide +kernel
theorem dX2_reckonRanks_4 : decode cX2_reckonRanks 4 = .ok (.getfield 39, 3) := by decide +kernel
theorem dX2_reckonRanks_7 : decode cX2_reckonRanks 7 = .ok (.if_icmp .ge 27, 3) := by decide +kernel
theorem dX2_reckonRanks_10 : decode cX2_reckonRanks 10 = .ok (.aload_n 0, 1) := by decide +kernel
theorem dX2_reckonRanks_11 : decode cX2_reckonRanks 11 = .ok (.getfield 30, 3) := by decide +kernel
theorem dX2_reckonRanks_14 : decode cX2_reckonRanks 14 = .ok (.iload_n 1, 1) := by decide +kernel
theorem dX2_reckonRanks_15 : decode cX2_reckonRanks 15 = .ok (.aload_n 0, 1) := by decide +kernel
theorem dX2_reckonRanks_16 : decode cX2_reckonRanks 16 = .ok (.iload_n 1, 1) := by decide +kernel
theorem dX2_reckonRanks_17 : decode cX2_reckonRanks 17 = .ok (.invokevirtual 61, 3) := by decide +kernel
theorem dX2_reckonRanks_20 : decode cX2_reckonRanks 20 = .ok (.iastore, 1) := by decide +kernel
theorem dX2_reckonRanks_21 : decode cX2_reckonRanks 21 = .ok (.aload_n 0, 1) := by decide +kernel
theorem dX2_reckonRanks_22 : decode cX2_reckonRanks 22 = .ok (.getfield 33, 3) := by decide +kernel
theorem dX2_reckonRanks_25 : decode cX2_reckonRanks 25 = .ok (.iload_n 1, 1) := by decide +kernel
theorem dX2_reckonRanks_26 : decode cX2_reckonRanks 26 = .ok (.iconst 0, 1) := by decide +kernel
theorem dX2_reckonRanks_27 : decode cX2_reckonRanks 27 = .ok (.iastore, 1) := by decide +kernel
theorem dX2_reckonRanks_28 : decode cX2_reckonRanks 28 = .ok (.iinc 1 1, 3) := by decide +kernel
theorem dX2_reckonRanks_31 : decode cX2_reckonRanks 31 = .ok (.goto (-29), 3) := by decide +kernel
theorem dX2_reckonRanks_34 : decode cX2_reckonRanks 34 = .ok (.iconst 0, 1) := by decide +kernel
theorem dX2_reckonRanks_35 : decode cX2_reckonRanks 35 = .ok (.istore_n 1, 1) := by decide +kernel
theorem dX2_reckonRanks_36 : decode cX2_reckonRanks 36 = .ok (.iload_n 1, 1) := by decide +kernel
theorem dX2_reckonRanks_37 : decode cX2_reckonRanks 37 = .ok (.aload_n 0, 1) := by decide +kernel
theorem dX2_reckonRanks_38 : decode cX2_reckonRanks 38 = .ok (.getfield 39, 3) := by decide +kernel
theorem dX2_reckonRanks_41 : decode cX2_reckonRanks 41 = .ok (.if_icmp .ge 65, 3) := by decide +kernel
theorem dX2_reckonRanks_44 : decode cX2_reckonRanks 44 = .ok (.iload_n 1, 1) := by decide +kernel
theorem dX2_reckonRanks_45 : decode cX2_reckonRanks 45 = .ok (.iconst 1, 1) := by decide +kernel
theorem dX2_reckonRanks_46 : decode cX2_reckonRanks 46 = .ok (.iadd, 1) := by decide +kernel
theorem dX2_reckonRanks_47 : decode cX2_reckonRanks 47 = .ok (.istore_n 2, 1) := by decide +kernel
theorem dX2_reckonRanks_48 : decode cX2_reckonRanks 48 = .ok (.iload_n 2, 1) := by decide +kernel
theorem dX2_reckonRanks_49 : decode cX2_reckonRanks 49 = .ok (.aload_n 0, 1) := by decide +kernel
theorem dX2_reckonRanks_50 : decode cX2_reckonRanks 50 = .ok (.getfield 39, 3) := by decide +kernel
theorem dX2_reckonRanks_53 : decode cX2_reckonRanks 53 = .ok (.if_icmp .ge 47, 3) := by decide +kernel
theorem dX2_reckonRanks_56 : decode cX2_reckonRanks 56 = .ok (.aload_n 0, 1) := by decide +kernel
theorem dX2_reckonRanks_57 : decode cX2_reckonRanks 57 = .ok (.getfield 30, 3) := by decide +kernel
theorem dX2_reckonRanks_60 : decode cX2_reckonRanks 60 = .ok (.iload_n 2, 1) := by decide +kernel
theorem dX2_reckonRanks_61 : decode cX2_reckonRanks 61 = .ok (.iaload, 1) := by decide +kernel
theorem dX2_reckonRanks_62 : decode cX2_reckonRanks 62 = .ok (.aload_n 0, 1) := by decide +kernel
theorem dX2_reckonRanks_63 : decode cX2_reckonRanks 63 = .ok (.getfield 30, 3) := by decide +kernel
theorem dX2_reckonRanks_66 : decode cX2_reckonRanks 66 = .ok (.iload_n 1, 1) := by decide +kernel
theorem dX2_reckonRanks_67 : decode cX2_reckonRanks 67 = .ok (.iaload, 1) := by decide +kernel
theorem dX2_reckonRanks_68 : decode cX2_reckonRanks 68 = .ok (.if_icmp .le 16, 3) := by decide +kernel
theorem dX2_reckonRanks_71 : decode cX2_reckonRanks 71 = .ok (.aload_n 0, 1) := by decide +kernel
theorem dX2_reckonRanks_72 : decode cX2_reckonRanks 72 = .ok (.getfield 33, 3) := by decide +kernel
theorem dX2_reckonRanks_75 : decode cX2_reckonRanks 75 = .ok (.iload_n 1, 1) := by decide +kernel
theorem dX2_reckonRanks_76 : decode cX2_reckonRanks 76 = .ok (.dup2, 1) := by decide +kernel
theorem dX2_reckonRanks_77 : decode cX2_reckonRanks 77 = .ok (.iaload, 1) := by decide +kernel
theorem dX2_reckonRanks_78 : decode cX2_reckonRanks 78 = .ok (.iconst 1, 1) := by decide +kernel
theorem dX2_reckonRanks_79 : decode cX2_reckonRanks 79 = .ok (.iadd, 1) := by decide +kernel
theorem dX2_reckonRanks_80 : decode cX2_reckonRanks 80 = .ok (.iastore, 1) := by decide +kernel
theorem dX2_reckonRanks_81 : decode cX2_reckonRanks 81 = .ok (.goto 13, 3) := by decide +kernel
theorem dX2_reckonRanks_84 : decode cX2_reckonRanks 84 = .ok (.aload_n 0, 1) := by decide +kernel
theorem dX2_reckonRanks_85 : decode cX2_reckonRanks 85 = .ok (.getfield 33, 3) := by decide +kernel
theorem dX2_reckonRanks_88 : decode cX2_reckonRanks 88 = .ok (.iload_n 2, 1) := by decide +kernel
theorem dX2_reckonRanks_89 : decode cX2_reckonRanks 89 = .ok (.dup2, 1) := by decide +kernel
theorem dX2_reckonRanks_90 : decode cX2_reckonRanks 90 = .ok (.iaload, 1) := by decide +kernel
theorem dX2_reckonRanks_91 : decode cX2_reckonRanks 91 = .ok (.iconst 1, 1) := by decide +kernel
theorem dX2_reckonRanks_92 : decode cX2_reckonRanks 92 = .ok (.iadd, 1) := by decide +kernel
theorem dX2_reckonRanks_93 : decode cX2_reckonRanks 93 = .ok (.iastore, 1) := by decide +kernel
theorem dX2_reckonRanks_94 : decode cX2_reckonRanks 94 = .ok (.iinc 2 1, 3) := by decide +kernel
theorem dX2_reckonRanks_97 : decode cX2_reckonRanks 97 = .ok (.goto (-49), 3) := by decide +kernel
theorem dX2_reckonRanks_100 : decode cX2_reckonRanks 100 = .ok (.iinc 1 1, 3) := by decide +kernel
theorem dX2_reckonRanks_103 : decode cX2_reckonRanks 103 = .ok (.goto (-67), 3) := by decide +kernel
theorem dX2_reckonRanks_106 : decode cX2_reckonRanks 106 = .ok (.iconst 0, 1) := by decide +kernel
theorem dX2_reckonRanks_107 : decode cX2_reckonRanks 107 = .ok (.istore_n 1, 1) := by decide +kernel
theorem dX2_reckonRanks_108 : decode cX2_reckonRanks 108 = .ok (.iload_n 1, 1) := by decide +kernel
theorem dX2_reckonRanks_109 : decode cX2_reckonRanks 109 = .ok (.aload_n 0, 1) := by decide +kernel
theorem dX2_reckonRanks_110 : decode cX2_reckonRanks 110 = .ok (.getfield 39, 3) := by decide +kernel
theorem dX2_reckonRanks_113 : decode cX2_reckonRanks 113 = .ok (.if_icmp .ge 21, 3) := by decide +kernel
theorem dX2_reckonRanks_116 : decode cX2_reckonRanks 116 = .ok (.aload_n 0, 1) := by decide +kernel
theorem dX2_reckonRanks_117 : decode cX2_reckonRanks 117 = .ok (.getfield 36, 3) := by decide +kernel
theorem dX2_reckonRanks_120 : decode cX2_reckonRanks 120 = .ok (.aload_n 0, 1) := by decide +kernel
theorem dX2_reckonRanks_121 : decode cX2_reckonRanks 121 = .ok (.getfield 33, 3) := by decide +kernel
theorem dX2_reckonRanks_124 : decode cX2_reckonRanks 124 = .ok (.iload_n 1, 1) := by decide +kernel
theorem dX2_reckonRanks_125 : decode cX2_reckonRanks 125 = .ok (.iaload, 1) := by decide +kernel
theorem dX2_reckonRanks_126 : decode cX2_reckonRanks 126 = .ok (.iload_n 1, 1) := by decide +kernel
theorem dX2_reckonRanks_127 : decode cX2_reckonRanks 127 = .ok (.iastore, 1) := by decide +kernel
theorem dX2_reckonRanks_128 : decode cX2_reckonRanks 128 = .ok (.iinc 1 1, 3) := by decide +kernel
theorem dX2_reckonRanks_131 : decode cX2_reckonRanks 131 = .ok (.goto (-23), 3) := by decide +kernel
theorem dX2_reckonRanks_134 : decode cX2_reckonRanks 134 = .ok (.return_, 1) := by decide +kernel
theorem dX2_preyByRanks_0 : decode cX2_preyByRanks 0 = .ok (.aload_n 0, 1) := by decide +kernel
theorem dX2_preyByRanks_1 : decode cX2_preyByRanks 1 = .ok (.getfield 21, 3) := by decide +kernel
theorem dX2_preyByRanks_4 : decode cX2_preyByRanks 4 = .ok (.iload_n 1, 1) := by decide +kernel
theorem dX2_preyByRanks_5 : decode cX2_preyByRanks 5 = .ok (.iaload, 1) := by decide +kernel
theorem dX2_preyByRanks_6 : decode cX2_preyByRanks 6 = .ok (.iconst 1, 1) := by decide +kernel
theorem dX2_preyByRanks_7 : decode cX2_preyByRanks 7 = .ok (.if_icmp .ge 6, 3) := by decide +kernel
theorem dX2_preyByRanks_10 : decode cX2_preyByRanks 10 = .ok (.ldc 81, 2) := by decide +kernel
theorem dX2_preyByRanks_12 : decode cX2_preyByRanks 12 = .ok (.ireturn, 1) := by decide +kernel
theorem dX2_preyByRanks_13 : decode cX2_preyByRanks 13 = .ok (.aload_n 0, 1) := by decide +kernel
theorem dX2_preyByRanks_14 : decode cX2_preyByRanks 14 = .ok (.getfield 33, 3) := by decide +kernel
theorem dX2_preyByRanks_17 : decode cX2_preyByRanks 17 = .ok (.iload_n 1, 1) := by decide +kernel
theorem dX2_preyByRanks_18 : decode cX2_preyByRanks 18 = .ok (.iaload, 1) := by decide +kernel
theorem dX2_preyByRanks_19 : decode cX2_preyByRanks 19 = .ok (.ifCond .ne 7, 3) := by decide +kernel
theorem dX2_preyByRanks_22 : decode cX2_preyByRanks 22 = .ok (.iconst 1, 1) := by decide +kernel
theorem dX2_preyByRanks_23 : decode cX2_preyByRanks 23 = .ok (.goto 4, 3) := by decide +kernel
theorem dX2_preyByRanks_26 : decode cX2_preyByRanks 26 = .ok (.iconst 0, 1) := by decide +kernel
theorem dX2_preyByRanks_27 : decode cX2_preyByRanks 27 = .ok (.istore_n 2, 1) := by decide +kernel
theorem dX2_preyByRanks_28 : decode cX2_preyByRanks 28 = .ok (.aload_n 0, 1) := by decide +kernel
theorem dX2_preyByRanks_29 : decode cX2_preyByRanks 29 = .ok (.getfield 24, 3) := by decide +kernel
theorem dX2_preyByRanks_32 : decode cX2_preyByRanks 32 = .ok (.iload_n 1, 1) := by decide +kernel
theorem dX2_preyByRanks_33 : decode cX2_preyByRanks 33 = .ok (.iaload, 1) := by decide +kernel
theorem dX2_preyByRanks_34 : decode cX2_preyByRanks 34 = .ok (.tableswitch 96 1 3 #[26, 49, 65], 26) := by decide +kernel
theorem dX2_preyByRanks_60 : decode cX2_preyByRanks 60 = .ok (.iload_n 2, 1) := by decide +kernel
theorem dX2_preyByRanks_61 : decode cX2_preyByRanks 61 = .ok (.ifCond .eq 8, 3) := by decide +kernel
theorem dX2_preyByRanks_64 : decode cX2_preyByRanks 64 = .ok (.ldc 81, 2) := by decide +kernel
theorem dX2_preyByRanks_66 : decode cX2_preyByRanks 66 = .ok (.goto 16, 3) := by decide +kernel
theorem dX2_preyByRanks_69 : decode cX2_preyByRanks 69 = .ok (.aload_n 0, 1) := by decide +kernel
theorem dX2_preyByRanks_70 : decode cX2_preyByRanks 70 = .ok (.getfield 36, 3) := by decide +kernel
theorem dX2_preyByRanks_73 : decode cX2_preyByRanks 73 = .ok (.aload_n 0, 1) := by decide +kernel
theorem dX2_preyByRanks_74 : decode cX2_preyByRanks 74 = .ok (.getfield 33, 3) := by decide +kernel
theorem dX2_preyByRanks_77 : decode cX2_preyByRanks 77 = .ok (.iload_n 1, 1) := by decide +kernel
theorem dX2_preyByRanks_78 : decode cX2_preyByRanks 78 = .ok (.iaload, 1) := by decide +kernel
theorem dX2_preyByRanks_79 : decode cX2_preyByRanks 79 = .ok (.iconst 1, 1) := by decide +kernel
theorem dX2_preyByRanks_80 : decode cX2_preyByRanks 80 = .ok (.isub, 1) := by decide +kernel
theorem dX2_preyByRanks_81 : decode cX2_preyByRanks 81 = .ok (.iaload, 1) := by decide +kernel
theorem dX2_preyByRanks_82 : decode cX2_preyByRanks 82 = .ok (.ireturn, 1) := by decide +kernel
theorem dX2_preyByRanks_83 : decode cX2_preyByRanks 83 = .ok (.iload_n 2, 1) := by decide +kernel
theorem dX2_preyByRanks_84 : decode cX2_preyByRanks 84 = .ok (.ifCond .eq 8, 3) := by decide +kernel
theorem dX2_preyByRanks_87 : decode cX2_preyByRanks 87 = .ok (.ldc 81, 2) := by decide +kernel
theorem dX2_preyByRanks_89 : decode cX2_preyByRanks 89 = .ok (.goto 9, 3) := by decide +kernel
theorem dX2_preyByRanks_92 : decode cX2_preyByRanks 92 = .ok (.aload_n 0, 1) := by decide +kernel
theorem dX2_preyByRanks_93 : decode cX2_preyByRanks 93 = .ok (.getfield 36, 3) := by decide +kernel
theorem dX2_preyByRanks_96 : decode cX2_preyByRanks 96 = .ok (.iconst 0, 1) := by decide +kernel
theorem dX2_preyByRanks_97 : decode cX2_preyByRanks 97 = .ok (.iaload, 1) := by decide +kernel
theorem dX2_preyByRanks_98 : decode cX2_preyByRanks 98 = .ok (.ireturn, 1) := by decide +kernel
theorem dX2_preyByRanks_99 : decode cX2_preyByRanks 99 = .ok (.aload_n 0, 1) := by decide +kernel
theorem dX2_preyByRanks_100 : decode cX2_preyByRanks 100 = .ok (.getfield 39, 3) := by decide +kernel
theorem dX2_preyByRanks_103 : decode cX2_preyByRanks 103 = .ok (.iconst 2, 1) := by decide +kernel
theorem dX2_preyByRanks_104 : decode cX2_preyByRanks 104 = .ok (.if_icmp .ge 8, 3) := by decide +kernel
theorem dX2_preyByRanks_107 : decode cX2_preyByRanks 107 = .ok (.ldc 81, 2) := by decide +kernel
theorem dX2_preyByRanks_109 : decode cX2_preyByRanks 109 = .ok (.goto 20, 3) := by decide +kernel
theorem dX2_preyByRanks_112 : decode cX2_preyByRanks 112 = .ok (.iload_n 1, 1) := by decide +kernel
theorem dX2_preyByRanks_113 : decode cX2_preyByRanks 113 = .ok (.iconst 1, 1) := by decide +kernel
theorem dX2_preyByRanks_114 : decode cX2_preyByRanks 114 = .ok (.iadd, 1) := by decide +kernel
theorem dX2_preyByRanks_115 : decode cX2_preyByRanks 115 = .ok (.aload_n 0, 1) := by decide +kernel
theorem dX2_preyByRanks_116 : decode cX2_preyByRanks 116 = .ok (.getfield 39, 3) := by decide +kernel
theorem dX2_preyByRanks_119 : decode cX2_preyByRanks 119 = .ok (.if_icmp .ge 9, 3) := by decide +kernel
theorem dX2_preyByRanks_122 : decode cX2_preyByRanks 122 = .ok (.iload_n 1, 1) := by decide +kernel
theorem dX2_preyByRanks_123 : decode cX2_preyByRanks 123 = .ok (.iconst 1, 1) := by decide +kernel
theorem dX2_preyByRanks_124 : decode cX2_preyByRanks 124 = .ok (.iadd, 1) := by decide +kernel
theorem dX2_preyByRanks_125 : decode cX2_preyByRanks 125 = .ok (.goto 4, 3) := by decide +kernel
theorem dX2_preyByRanks_128 : decode cX2_preyByRanks 128 = .ok (.iconst 0, 1) := by decide +kernel
theorem dX2_preyByRanks_129 : decode cX2_preyByRanks 129 = .ok (.ireturn, 1) := by decide +kernel
theorem dX2_preyByRanks_130 : decode cX2_preyByRanks 130 = .ok (.ldc 81, 2) := by decide +kernel
theorem dX2_preyByRanks_132 : decode cX2_preyByRanks 132 = .ok (.ireturn, 1) := by decide +kernel
theorem dX2_passNight_0 : decode cX2_passNight 0 = .ok (.aload_n 0, 1) := by decide +kernel
theorem dX2_passNight_1 : decode cX2_passNight 1 = .ok (.invokevirtual 65, 3) := by decide +kernel
theorem dX2_passNight_4 : decode cX2_passNight 4 = .ok (.iconst 0, 1) := by decide +kernel
theorem dX2_passNight_5 : decode cX2_passNight 5 = .ok (.istore_n 1, 1) := by decide +kernel
theorem dX2_passNight_6 : decode cX2_passNight 6 = .ok (.iconst 0, 1) := by decide +kernel
theorem dX2_passNight_7 : decode cX2_passNight 7 = .ok (.istore_n 2, 1) := by decide +kernel
theorem dX2_passNight_8 : decode cX2_passNight 8 = .ok (.iload_n 2, 1) := by decide +kernel
theorem dX2_passNight_9 : decode cX2_passNight 9 = .ok (.aload_n 0, 1) := by decide +kernel
theorem dX2_passNight_10 : decode cX2_passNight 10 = .ok (.getfield 39, 3) := by decide +kernel
theorem dX2_passNight_13 : decode cX2_passNight 13 = .ok (.if_icmp .ge 71, 3) := by decide +kernel
theorem dX2_passNight_16 : decode cX2_passNight 16 = .ok (.aload_n 0, 1) := by decide +kernel
theorem dX2_passNight_17 : decode cX2_passNight 17 = .ok (.iload_n 2, 1) := by decide +kernel
theorem dX2_passNight_18 : decode cX2_passNight 18 = .ok (.invokevirtual 68, 3) := by decide +kernel
theorem dX2_passNight_21 : decode cX2_passNight 21 = .ok (.istore_n 3, 1) := by decide +kernel
theorem dX2_passNight_22 : decode cX2_passNight 22 = .ok (.iload_n 3, 1) := by decide +kernel
theorem dX2_passNight_23 : decode cX2_passNight 23 = .ok (.ldc 81, 2) := by decide +kernel
theorem dX2_passNight_25 : decode cX2_passNight 25 = .ok (.if_icmp .ne 6, 3) := by decide +kernel
theorem dX2_passNight_28 : decode cX2_passNight 28 = .ok (.goto 50, 3) := by decide +kernel
theorem dX2_passNight_31 : decode cX2_passNight 31 = .ok (.aload_n 0, 1) := by decide +kernel
theorem dX2_passNight_32 : decode cX2_passNight 32 = .ok (.iload_n 3, 1) := by decide +kernel
theorem dX2_passNight_33 : decode cX2_passNight 33 = .ok (.invokevirtual 82, 3) := by decide +kernel
theorem dX2_passNight_36 : decode cX2_passNight 36 = .ok (.ifCond .eq 26, 3) := by decide +kernel
theorem dX2_passNight_39 : decode cX2_passNight 39 = .ok (.aload_n 0, 1) := by decide +kernel
theorem dX2_passNight_40 : decode cX2_passNight 40 = .ok (.getfield 27, 3) := by decide +kernel
theorem dX2_passNight_43 : decode cX2_passNight 43 = .ok (.iload_n 2, 1) := by decide +kernel
theorem dX2_passNight_44 : decode cX2_passNight 44 = .ok (.dup2, 1) := by decide +kernel
theorem dX2_passNight_45 : decode cX2_passNight 45 = .ok (.iaload, 1) := by decide +kernel
theorem dX2_passNight_46 : decode cX2_passNight 46 = .ok (.iconst 1, 1) := by decide +kernel
theorem dX2_passNight_47 : decode cX2_passNight 47 = .ok (.iadd, 1) := by decide +kernel
theorem dX2_passNight_48 : decode cX2_passNight 48 = .ok (.iastore, 1) := by decide +kernel
theorem dX2_passNight_49 : decode cX2_passNight 49 = .ok (.aload_n 0, 1) := by decide +kernel
theorem dX2_passNight_50 : decode cX2_passNight 50 = .ok (.getfield 21, 3) := by decide +kernel
theorem dX2_passNight_53 : decode cX2_passNight 53 = .ok (.iload_n 2, 1) := by decide +kernel
theorem dX2_passNight_54 : decode cX2_passNight 54 = .ok (.dup2, 1) := by decide +kernel
theorem dX2_passNight_55 : decode cX2_passNight 55 = .ok (.iaload, 1) := by decide +kernel
theorem dX2_passNight_56 : decode cX2_passNight 56 = .ok (.iconst 1, 1) := by decide +kernel
theorem dX2_passNight_57 : decode cX2_passNight 57 = .ok (.isub, 1) := by decide +kernel
theorem dX2_passNight_58 : decode cX2_passNight 58 = .ok (.iastore, 1) := by decide +kernel
theorem dX2_passNight_59 : decode cX2_passNight 59 = .ok (.goto 19, 3) := by decide +kernel
theorem dX2_passNight_62 : decode cX2_passNight 62 = .ok (.aload_n 0, 1) := by decide +kernel
theorem dX2_passNight_63 : decode cX2_passNight 63 = .ok (.iload_n 3, 1) := by decide +kernel
theorem dX2_passNight_64 : decode cX2_passNight 64 = .ok (.aload_n 0, 1) := by decide +kernel
theorem dX2_passNight_65 : decode cX2_passNight 65 = .ok (.getfield 21, 3) := by decide +kernel
theorem dX2_passNight_68 : decode cX2_passNight 68 = .ok (.iload_n 2, 1) := by decide +kernel
theorem dX2_passNight_69 : decode cX2_passNight 69 = .ok (.iaload, 1) := by decide +kernel
theorem dX2_passNight_70 : decode cX2_passNight 70 = .ok (.invokevirtual 86, 3) := by decide +kernel
theorem dX2_passNight_73 : decode cX2_passNight 73 = .ok (.ifCond .eq 5, 3) := by decide +kernel
theorem dX2_passNight_76 : decode cX2_passNight 76 = .ok (.iconst 1, 1) := by decide +kernel
theorem dX2_passNight_77 : decode cX2_passNight 77 = .ok (.istore_n 1, 1) := by decide +kernel
theorem dX2_passNight_78 : decode cX2_passNight 78 = .ok (.iinc 2 1, 3) := by decide +kernel
theorem dX2_passNight_81 : decode cX2_passNight 81 = .ok (.goto (-73), 3) := by decide +kernel
theorem dX2_passNight_84 : decode cX2_passNight 84 = .ok (.aload_n 0, 1) := by decide +kernel
theorem dX2_passNight_85 : decode cX2_passNight 85 = .ok (.dup, 1) := by decide +kernel
theorem dX2_passNight_86 : decode cX2_passNight 86 = .ok (.getfield 43, 3) := by decide +kernel
theorem dX2_passNight_89 : decode cX2_passNight 89 = .ok (.iconst 1, 1) := by decide +kernel
theorem dX2_passNight_90 : decode cX2_passNight 90 = .ok (.iadd, 1) := by decide +kernel
theorem dX2_passNight_91 : decode cX2_passNight 91 = .ok (.putfield 43, 3) := by decide +kernel
theorem dX2_passNight_94 : decode cX2_passNight 94 = .ok (.iload_n 1, 1) := by decide +kernel
theorem dX2_passNight_95 : decode cX2_passNight 95 = .ok (.ireturn, 1) := by decide +kernel
theorem dX2_sawLeg_0 : decode cX2_sawLeg 0 = .ok (.aload_n 0, 1) := by decide +kernel
theorem dX2_sawLeg_1 : decode cX2_sawLeg 1 = .ok (.getfield 9, 3) := by decide +kernel
theorem dX2_sawLeg_4 : decode cX2_sawLeg 4 = .ok (.iload_n 1, 1) := by decide +kernel
theorem dX2_sawLeg_5 : decode cX2_sawLeg 5 = .ok (.iaload, 1) := by decide +kernel
theorem dX2_sawLeg_6 : decode cX2_sawLeg 6 = .ok (.iconst 4, 1) := by decide +kernel
theorem dX2_sawLeg_7 : decode cX2_sawLeg 7 = .ok (.if_icmp .eq 13, 3) := by decide +kernel
theorem dX2_sawLeg_10 : decode cX2_sawLeg 10 = .ok (.aload_n 0, 1) := by decide +kernel
theorem dX2_sawLeg_11 : decode cX2_sawLeg 11 = .ok (.getfield 9, 3) := by decide +kernel
theorem dX2_sawLeg_14 : decode cX2_sawLeg 14 = .ok (.iload_n 1, 1) := by decide +kernel
theorem dX2_sawLeg_15 : decode cX2_sawLeg 15 = .ok (.iaload, 1) := by decide +kernel
theorem dX2_sawLeg_16 : decode cX2_sawLeg 16 = .ok (.iconst 5, 1) := by decide +kernel
theorem dX2_sawLeg_17 : decode cX2_sawLeg 17 = .ok (.if_icmp .ne 7, 3) := by decide +kernel
theorem dX2_sawLeg_20 : decode cX2_sawLeg 20 = .ok (.iconst 1, 1) := by decide +kernel
theorem dX2_sawLeg_21 : decode cX2_sawLeg 21 = .ok (.goto 4, 3) := by decide +kernel
theorem dX2_sawLeg_24 : decode cX2_sawLeg 24 = .ok (.iconst 0, 1) := by decide +kernel
theorem dX2_sawLeg_25 : decode cX2_sawLeg 25 = .ok (.istore_n 3, 1) := by decide +kernel
theorem dX2_sawLeg_26 : decode cX2_sawLeg 26 = .ok (.aload_n 0, 1) := by decide +kernel
theorem dX2_sawLeg_27 : decode cX2_sawLeg 27 = .ok (.getfield 15, 3) := by decide +kernel
theorem dX2_sawLeg_30 : decode cX2_sawLeg 30 = .ok (.iload_n 1, 1) := by decide +kernel
theorem dX2_sawLeg_31 : decode cX2_sawLeg 31 = .ok (.iaload, 1) := by decide +kernel
theorem dX2_sawLeg_32 : decode cX2_sawLeg 32 = .ok (.istore 4, 2) := by decide +kernel
theorem dX2_sawLeg_34 : decode cX2_sawLeg 34 = .ok (.aload_n 0, 1) := by decide +kernel
theorem dX2_sawLeg_35 : decode cX2_sawLeg 35 = .ok (.getfield 15, 3) := by decide +kernel
theorem dX2_sawLeg_38 : decode cX2_sawLeg 38 = .ok (.iload_n 1, 1) := by decide +kernel
theorem dX2_sawLeg_39 : decode cX2_sawLeg 39 = .ok (.iconst 0, 1) := by decide +kernel
theorem dX2_sawLeg_40 : decode cX2_sawLeg 40 = .ok (.iload 4, 2) := by decide +kernel
theorem dX2_sawLeg_42 : decode cX2_sawLeg 42 = .ok (.iload_n 3, 1) := by decide +kernel
theorem dX2_sawLeg_43 : decode cX2_sawLeg 43 = .ok (.ifCond .eq 9, 3) := by decide +kernel
theorem dX2_sawLeg_46 : decode cX2_sawLeg 46 = .ok (.iload_n 2, 1) := by decide +kernel
theorem dX2_sawLeg_47 : decode cX2_sawLeg 47 = .ok (.iconst 2, 1) := by decide +kernel
theorem dX2_sawLeg_48 : decode cX2_sawLeg 48 = .ok (.idiv, 1) := by decide +kernel
theorem dX2_sawLeg_49 : decode cX2_sawLeg 49 = .ok (.goto 4, 3) := by decide +kernel
theorem dX2_sawLeg_52 : decode cX2_sawLeg 52 = .ok (.iload_n 2, 1) := by decide +kernel
theorem dX2_sawLeg_53 : decode cX2_sawLeg 53 = .ok (.isub, 1) := by decide +kernel
theorem dX2_sawLeg_54 : decode cX2_sawLeg 54 = .ok (.invokestatic 90, 3) := by decide +kernel
theorem dX2_sawLeg_57 : decode cX2_sawLeg 57 = .ok (.iastore, 1) := by decide +kernel
theorem dX2_sawLeg_58 : decode cX2_sawLeg 58 = .ok (.aload_n 0, 1) := by decide +kernel
theorem dX2_sawLeg_59 : decode cX2_sawLeg 59 = .ok (.getfield 15, 3) := by decide +kernel
theorem dX2_sawLeg_62 : decode cX2_sawLeg 62 = .ok (.iload_n 1, 1) := by decide +kernel
theorem dX2_sawLeg_63 : decode cX2_sawLeg 63 = .ok (.iaload, 1) := by decide +kernel
theorem dX2_sawLeg_64 : decode cX2_sawLeg 64 = .ok (.iload 4, 2) := by decide +kernel
theorem dX2_sawLeg_66 : decode cX2_sawLeg 66 = .ok (.if_icmp .ge 7, 3) := by decide +kernel
theorem dX2_sawLeg_69 : decode cX2_sawLeg 69 = .ok (.iconst 1, 1) := by decide +kernel
theorem dX2_sawLeg_70 : decode cX2_sawLeg 70 = .ok (.goto 4, 3) := by decide +kernel
theorem dX2_sawLeg_73 : decode cX2_sawLeg 73 = .ok (.iconst 0, 1) := by decide +kernel
theorem dX2_sawLeg_74 : decode cX2_sawLeg 74 = .ok (.ireturn, 1) := by decide +kernel
theorem dX2_passNights_0 : decode cX2_passNights 0 = .ok (.iconst 0, 1) := by decide +kernel
theorem dX2_passNights_1 : decode cX2_passNights 1 = .ok (.istore_n 2, 1) := by decide +kernel
theorem dX2_passNights_2 : decode cX2_passNights 2 = .ok (.iload_n 2, 1) := by decide +kernel
theorem dX2_passNights_3 : decode cX2_passNights 3 = .ok (.iload_n 1, 1) := by decide +kernel
theorem dX2_passNights_4 : decode cX2_passNights 4 = .ok (.if_icmp .ge 17, 3) := by decide +kernel
theorem dX2_passNights_7 : decode cX2_passNights 7 = .ok (.aload_n 0, 1) := by decide +kernel
theorem dX2_passNights_8 : decode cX2_passNights 8 = .ok (.invokevirtual 93, 3) := by decide +kernel
theorem dX2_passNights_11 : decode cX2_passNights 11 = .ok (.ifCond .ne 4, 3) := by decide +kernel
theorem dX2_passNights_14 : decode cX2_passNights 14 = .ok (.return_, 1) := by decide +kernel
theorem dX2_passNights_15 : decode cX2_passNights 15 = .ok (.iinc 2 1, 3) := by decide +kernel
theorem dX2_passNights_18 : decode cX2_passNights 18 = .ok (.goto (-16), 3) := by decide +kernel
theorem dX2_passNights_21 : decode cX2_passNights 21 = .ok (.return_, 1) := by decide +kernel
theorem dX3_init_0 : decode cX3_init 0 = .ok (.aload_n 0, 1) := by decide +kernel
theorem dX3_init_1 : decode cX3_init 1 = .ok (.invokespecial 3, 3) := by decide +kernel
theorem dX3_init_4 : decode cX3_init 4 = .ok (.aload_n 0, 1) := by decide +kernel
theorem dX3_init_5 : decode cX3_init 5 = .ok (.bipush 40, 2) := by decide +kernel
theorem dX3_init_7 : decode cX3_init 7 = .ok (.newarray .int, 2) := by decide +kernel
theorem dX3_init_9 : decode cX3_init 9 = .ok (.putfield 9, 3) := by decide +kernel
theorem dX3_init_12 : decode cX3_init 12 = .ok (.aload_n 0, 1) := by decide +kernel
theorem dX3_init_13 : decode cX3_init 13 = .ok (.iconst (-1), 1) := by decide +kernel
theorem dX3_init_14 : decode cX3_init 14 = .ok (.putfield 15, 3) := by decide +kernel
theorem dX3_init_17 : decode cX3_init 17 = .ok (.return_, 1) := by decide +kernel
theorem dX3_isMissing_0 : decode cX3_isMissing 0 = .ok (.aload_n 0, 1) := by decide +kernel
theorem dX3_isMissing_1 : decode cX3_isMissing 1 = .ok (.getfield 15, 3) := by decide +kernel
theorem dX3_isMissing_4 : decode cX3_isMissing 4 = .ok (.iconst (-1), 1) := by decide +kernel
theorem dX3_isMissing_5 : decode cX3_isMissing 5 = .ok (.if_icmp .ne 7, 3) := by decide +kernel
theorem dX3_isMissing_8 : decode cX3_isMissing 8 = .ok (.iconst 1, 1) := by decide +kernel
theorem dX3_isMissing_9 : decode cX3_isMissing 9 = .ok (.goto 4, 3) := by decide +kernel
theorem dX3_isMissing_12 : decode cX3_isMissing 12 = .ok (.iconst 0, 1) := by decide +kernel
theorem dX3_isMissing_13 : decode cX3_isMissing 13 = .ok (.ireturn, 1) := by decide +kernel
theorem dX3_begin_0 : decode cX3_begin 0 = .ok (.aload_n 0, 1) := by decide +kernel
theorem dX3_begin_1 : decode cX3_begin 1 = .ok (.iload_n 1, 1) := by decide +kernel
theorem dX3_begin_2 : decode cX3_begin 2 = .ok (.putfield 15, 3) := by decide +kernel
theorem dX3_begin_5 : decode cX3_begin 5 = .ok (.aload_n 0, 1) := by decide +kernel
theorem dX3_begin_6 : decode cX3_begin 6 = .ok (.iload_n 2, 1) := by decide +kernel
theorem dX3_begin_7 : decode cX3_begin 7 = .ok (.putfield 19, 3) := by decide +kernel
theorem dX3_begin_10 : decode cX3_begin 10 = .ok (.aload_n 0, 1) := by decide +kernel
theorem dX3_begin_11 : decode cX3_begin 11 = .ok (.getfield 9, 3) := by decide +kernel
theorem dX3_begin_14 : decode cX3_begin 14 = .ok (.iconst 0, 1) := by decide +kernel
theorem dX3_begin_15 : decode cX3_begin 15 = .ok (.invokestatic 22, 3) := by decide +kernel
theorem dX3_begin_18 : decode cX3_begin 18 = .ok (.return_, 1) := by decide +kernel
theorem dX3_end_0 : decode cX3_end 0 = .ok (.aload_n 0, 1) := by decide +kernel
theorem dX3_end_1 : decode cX3_end 1 = .ok (.iconst (-1), 1) := by decide +kernel
theorem dX3_end_2 : decode cX3_end 2 = .ok (.putfield 15, 3) := by decide +kernel
theorem dX3_end_5 : decode cX3_end 5 = .ok (.aload_n 0, 1) := by decide +kernel
theorem dX3_end_6 : decode cX3_end 6 = .ok (.getfield 19, 3) := by decide +kernel
theorem dX3_end_9 : decode cX3_end 9 = .ok (.ireturn, 1) := by decide +kernel
theorem dX3_holds_0 : decode cX3_holds 0 = .ok (.iload_n 1, 1) := by decide +kernel
theorem dX3_holds_1 : decode cX3_holds 1 = .ok (.ifCond .lt 21, 3) := by decide +kernel
theorem dX3_holds_4 : decode cX3_holds 4 = .ok (.iload_n 2, 1) := by decide +kernel
theorem dX3_holds_5 : decode cX3_holds 5 = .ok (.ifCond .lt 17, 3) := by decide +kernel
theorem dX3_holds_8 : decode cX3_holds 8 = .ok (.iload_n 1, 1) := by decide +kernel
theorem dX3_holds_9 : decode cX3_holds 9 = .ok (.aload_n 0, 1) := by decide +kernel
theorem dX3_holds_10 : decode cX3_holds 10 = .ok (.getfield 19, 3) := by decide +kernel
theorem dX3_holds_13 : decode cX3_holds 13 = .ok (.iload_n 2, 1) := by decide +kernel
theorem dX3_holds_14 : decode cX3_holds 14 = .ok (.isub, 1) := by decide +kernel
theorem dX3_holds_15 : decode cX3_holds 15 = .ok (.if_icmp .gt 7, 3) := by decide +kernel
theorem dX3_holds_18 : decode cX3_holds 18 = .ok (.iconst 1, 1) := by decide +kernel
theorem dX3_holds_19 : decode cX3_holds 19 = .ok (.goto 4, 3) := by decide +kernel
theorem dX3_holds_22 : decode cX3_holds 22 = .ok (.iconst 0, 1) := by decide +kernel
theorem dX3_holds_23 : decode cX3_holds 23 = .ok (.ireturn, 1) := by decide +kernel
theorem dX3_put_0 : decode cX3_put 0 = .ok (.aload_n 0, 1) := by decide +kernel
theorem dX3_put_1 : decode cX3_put 1 = .ok (.getfield 9, 3) := by decide +kernel
theorem dX3_put_4 : decode cX3_put 4 = .ok (.iload_n 1, 1) := by decide +kernel
theorem dX3_put_5 : decode cX3_put 5 = .ok (.aload_n 0, 1) := by decide +kernel
theorem dX3_put_6 : decode cX3_put 6 = .ok (.getfield 15, 3) := by decide +kernel
theorem dX3_put_9 : decode cX3_put 9 = .ok (.ifCond .ne 8, 3) := by decide +kernel
theorem dX3_put_12 : decode cX3_put 12 = .ok (.iload_n 2, 1) := by decide +kernel
theorem dX3_put_13 : decode cX3_put 13 = .ok (.i2b, 1) := by decide +kernel
theorem dX3_put_14 : decode cX3_put 14 = .ok (.goto 17, 3) := by decide +kernel
theorem dX3_put_17 : decode cX3_put 17 = .ok (.aload_n 0, 1) := by decide +kernel
theorem dX3_put_18 : decode cX3_put 18 = .ok (.getfield 15, 3) := by decide +kernel
theorem dX3_put_21 : decode cX3_put 21 = .ok (.iconst 1, 1) := by decide +kernel
theorem dX3_put_22 : decode cX3_put 22 = .ok (.if_icmp .ne 8, 3) := by decide +kernel
theorem dX3_put_25 : decode cX3_put 25 = .ok (.iload_n 2, 1) := by decide +kernel
theorem dX3_put_26 : decode cX3_put 26 = .ok (.i2s, 1) := by decide +kernel
theorem dX3_put_27 : decode cX3_put 27 = .ok (.goto 4, 3) := by decide +kernel
theorem dX3_put_30 : decode cX3_put 30 = .ok (.iload_n 2, 1) := by decide +kernel
theorem dX3_put_31 : decode cX3_put 31 = .ok (.iastore, 1) := by decide +kernel
theorem dX3_put_32 : decode cX3_put 32 = .ok (.aload_n 0, 1) := by decide +kernel
theorem dX3_put_33 : decode cX3_put 33 = .ok (.getfield 9, 3) := by decide +kernel
theorem dX3_put_36 : decode cX3_put 36 = .ok (.iload_n 1, 1) := by decide +kernel
theorem dX3_put_37 : decode cX3_put 37 = .ok (.iaload, 1) := by decide +kernel
theorem dX3_put_38 : decode cX3_put 38 = .ok (.ireturn, 1) := by decide +kernel
theorem dX4_init_0 : decode cX4_init 0 = .ok (.aload_n 0, 1) := by decide +kernel
theorem dX4_init_1 : decode cX4_init 1 = .ok (.invokespecial 3, 3) := by decide +kernel
theorem dX4_init_4 : decode cX4_init 4 = .ok (.aload_n 0, 1) := by decide +kernel
theorem dX4_init_5 : decode cX4_init 5 = .ok (.bipush 120, 2) := by decide +kernel
theorem dX4_init_7 : decode cX4_init 7 = .ok (.newarray .int, 2) := by decide +kernel
theorem dX4_init_9 : decode cX4_init 9 = .ok (.putfield 9, 3) := by decide +kernel
theorem dX4_init_12 : decode cX4_init 12 = .ok (.return_, 1) := by decide +kernel
theorem dX4_add_0 : decode cX4_add 0 = .ok (.aload_n 0, 1) := by decide +kernel
theorem dX4_add_1 : decode cX4_add 1 = .ok (.getfield 15, 3) := by decide +kernel
theorem dX4_add_4 : decode cX4_add 4 = .ok (.bipush 120, 2) := by decide +kernel
theorem dX4_add_6 : decode cX4_add 6 = .ok (.if_icmp .lt 5, 3) := by decide +kernel
theorem dX4_add_9 : decode cX4_add 9 = .ok (.iconst 0, 1) := by decide +kernel
theorem dX4_add_10 : decode cX4_add 10 = .ok (.ireturn, 1) := by decide +kernel
theorem dX4_add_11 : decode cX4_add 11 = .ok (.aload_n 0, 1) := by decide +kernel
theorem dX4_add_12 : decode cX4_add 12 = .ok (.getfield 9, 3) := by decide +kernel
theorem dX4_add_15 : decode cX4_add 15 = .ok (.aload_n 0, 1) := by decide +kernel
theorem dX4_add_16 : decode cX4_add 16 = .ok (.getfield 15, 3) := by decide +kernel
theorem dX4_add_19 : decode cX4_add 19 = .ok (.iload_n 1, 1) := by decide +kernel
theorem dX4_add_20 : decode cX4_add 20 = .ok (.iastore, 1) := by decide +kernel
theorem dX4_add_21 : decode cX4_add 21 = .ok (.aload_n 0, 1) := by decide +kernel
theorem dX4_add_22 : decode cX4_add 22 = .ok (.dup, 1) := by decide +kernel
theorem dX4_add_23 : decode cX4_add 23 = .ok (.getfield 15, 3) := by decide +kernel
theorem dX4_add_26 : decode cX4_add 26 = .ok (.iconst 1, 1) := by decide +kernel
theorem dX4_add_27 : decode cX4_add 27 = .ok (.iadd, 1) := by decide +kernel
theorem dX4_add_28 : decode cX4_add 28 = .ok (.putfield 15, 3) := by decide +kernel
theorem dX4_add_31 : decode cX4_add 31 = .ok (.iconst 1, 1) := by decide +kernel
theorem dX4_add_32 : decode cX4_add 32 = .ok (.ireturn, 1) := by decide +kernel
theorem dX4_readInto_0 : decode cX4_readInto 0 = .ok (.aload_n 0, 1) := by decide +kernel
theorem dX4_readInto_1 : decode cX4_readInto 1 = .ok (.iconst 0, 1) := by decide +kernel
theorem dX4_readInto_2 : decode cX4_readInto 2 = .ok (.putfield 19, 3) := by decide +kernel
theorem dX4_readInto_5 : decode cX4_readInto 5 = .ok (.aload_n 0, 1) := by decide +kernel
theorem dX4_readInto_6 : decode cX4_readInto 6 = .ok (.iconst 0, 1) := by decide +kernel
theorem dX4_readInto_7 : decode cX4_readInto 7 = .ok (.putfield 22, 3) := by decide +kernel
theorem dX4_readInto_10 : decode cX4_readInto 10 = .ok (.aload_n 1, 1) := by decide +kernel
theorem dX4_readInto_11 : decode cX4_readInto 11 = .ok (.invokevirtual 25, 3) := by decide +kernel
theorem dX4_readInto_14 : decode cX4_readInto 14 = .ok (.aload_n 0, 1) := by decide +kernel
theorem dX4_readInto_15 : decode cX4_readInto 15 = .ok (.aload_n 1, 1) := by decide +kernel
theorem dX4_readInto_16 : decode cX4_readInto 16 = .ok (.invokevirtual 30, 3) := by decide +kernel
theorem dX4_readInto_19 : decode cX4_readInto 19 = .ok (.iconst 0, 1) := by decide +kernel
theorem dX4_readInto_20 : decode cX4_readInto 20 = .ok (.istore_n 2, 1) := by decide +kernel
theorem dX4_readInto_21 : decode cX4_readInto 21 = .ok (.iload_n 2, 1) := by decide +kernel
theorem dX4_readInto_22 : decode cX4_readInto 22 = .ok (.bipush 6, 2) := by decide +kernel
theorem dX4_readInto_24 : decode cX4_readInto 24 = .ok (.if_icmp .gt 36, 3) := by decide +kernel
theorem dX4_readInto_27 : decode cX4_readInto 27 = .ok (.aload_n 0, 1) := by decide +kernel
theorem dX4_readInto_28 : decode cX4_readInto 28 = .ok (.getfield 22, 3) := by decide +kernel
theorem dX4_readInto_31 : decode cX4_readInto 31 = .ok (.ifCond .ne 29, 3) := by decide +kernel
theorem dX4_readInto_34 : decode cX4_readInto 34 = .ok (.iload_n 2, 1) := by decide +kernel
theorem dX4_readInto_35 : decode cX4_readInto 35 = .ok (.ifCond .eq 14, 3) := by decide +kernel
theorem dX4_readInto_38 : decode cX4_readInto 38 = .ok (.aload_n 0, 1) := by decide +kernel
theorem dX4_readInto_39 : decode cX4_readInto 39 = .ok (.getfield 19, 3) := by decide +kernel
theorem dX4_readInto_42 : decode cX4_readInto 42 = .ok (.aload_n 0, 1) := by decide +kernel
theorem dX4_readInto_43 : decode cX4_readInto 43 = .ok (.getfield 15, 3) := by decide +kernel
theorem dX4_readInto_46 : decode cX4_readInto 46 = .ok (.if_icmp .ge 14, 3) := by decide +kernel
theorem dX4_readInto_49 : decode cX4_readInto 49 = .ok (.aload_n 0, 1) := by decide +kernel
theorem dX4_readInto_50 : decode cX4_readInto 50 = .ok (.aload_n 1, 1) := by decide +kernel
theorem dX4_readInto_51 : decode cX4_readInto 51 = .ok (.invokevirtual 34, 3) := by decide +kernel
theorem dX4_readInto_54 : decode cX4_readInto 54 = .ok (.iinc 2 1, 3) := by decide +kernel
theorem dX4_readInto_57 : decode cX4_readInto 57 = .ok (.goto (-36), 3) := by decide +kernel
theorem dX4_readInto_60 : decode cX4_readInto 60 = .ok (.aload_n 0, 1) := by decide +kernel
theorem dX4_readInto_61 : decode cX4_readInto 61 = .ok (.getfield 22, 3) := by decide +kernel
theorem dX4_readInto_64 : decode cX4_readInto 64 = .ok (.ireturn, 1) := by decide +kernel
theorem dX4_readLaw_0 : decode cX4_readLaw 0 = .ok (.aload_n 0, 1) := by decide +kernel
theorem dX4_readLaw_1 : decode cX4_readLaw 1 = .ok (.bipush 109, 2) := by decide +kernel
theorem dX4_readLaw_3 : decode cX4_readLaw 3 = .ok (.invokevirtual 37, 3) := by decide +kernel
theorem dX4_readLaw_6 : decode cX4_readLaw 6 = .ok (.aload_n 1, 1) := by decide +kernel
theorem dX4_readLaw_7 : decode cX4_readLaw 7 = .ok (.aload_n 0, 1) := by decide +kernel
theorem dX4_readLaw_8 : decode cX4_readLaw 8 = .ok (.iconst 0, 1) := by decide +kernel
theorem dX4_readLaw_9 : decode cX4_readLaw 9 = .ok (.iconst 5, 1) := by decide +kernel
theorem dX4_readLaw_10 : decode cX4_readLaw 10 = .ok (.invokevirtual 41, 3) := by decide +kernel
theorem dX4_readLaw_13 : decode cX4_readLaw 13 = .ok (.putfield 45, 3) := by decide +kernel
theorem dX4_readLaw_16 : decode cX4_readLaw 16 = .ok (.aload_n 0, 1) := by decide +kernel
theorem dX4_readLaw_17 : decode cX4_readLaw 17 = .ok (.bipush 44, 2) := by decide +kernel
theorem dX4_readLaw_19 : decode cX4_readLaw 19 = .ok (.invokevirtual 37, 3) := by decide +kernel
theorem dX4_readLaw_22 : decode cX4_readLaw 22 = .ok (.aload_n 1, 1) := by decide +kernel
theorem dX4_readLaw_23 : decode cX4_readLaw 23 = .ok (.aload_n 0, 1) := by decide +kernel
theorem dX4_readLaw_24 : decode cX4_readLaw 24 = .ok (.iconst 1, 1) := by decide +kernel
theorem dX4_readLaw_25 : decode cX4_readLaw 25 = .ok (.bipush 9, 2) := by decide +kernel
theorem dX4_readLaw_27 : decode cX4_readLaw 27 = .ok (.invokevirtual 41, 3) := by decide +kernel
theorem dX4_readLaw_30 : decode cX4_readLaw 30 = .ok (.putfield 48, 3) := by decide +kernel
theorem dX4_readLaw_33 : decode cX4_readLaw 33 = .ok (.aload_n 0, 1) := by decide +kernel
theorem dX4_readLaw_34 : decode cX4_readLaw 34 = .ok (.bipush 59, 2) := by decide +kernel
theorem dX4_readLaw_36 : decode cX4_readLaw 36 = .ok (.invokevirtual 37, 3) := by decide +kernel
theorem dX4_readLaw_39 : decode cX4_readLaw 39 = .ok (.return_, 1) := by decide +kernel
theorem dX4_readOneChair_0 : decode cX4_readOneChair 0 = .ok (.aload_n 0, 1) := by decide +kernel
theorem dX4_readOneChair_1 : decode cX4_readOneChair 1 = .ok (.getfield 19, 3) := by decide +kernel
theorem dX4_readOneChair_4 : decode cX4_readOneChair 4 = .ok (.aload_n 0, 1) := by decide +kernel
theorem dX4_readOneChair_5 : decode cX4_readOneChair 5 = .ok (.getfield 15, 3) := by decide +kernel
theorem dX4_readOneChair_8 : decode cX4_readOneChair 8 = .ok (.if_icmp .ge 23, 3) := by decide +kernel
theorem dX4_readOneChair_11 : decode cX4_readOneChair 11 = .ok (.ldc 51, 2) := by decide +kernel
theorem dX4_readOneChair_13 : decode cX4_readOneChair 13 = .ok (.aload_n 0, 1) := by decide +kernel
theorem dX4_readOneChair_14 : decode cX4_readOneChair 14 = .ok (.getfield 9, 3) := by decide +kernel
theorem dX4_readOneChair_17 : decode cX4_readOneChair 17 = .ok (.aload_n 0, 1) := by decide +kernel
theorem dX4_readOneChair_18 : decode cX4_readOneChair 18 = .ok (.getfield 19, 3) := by decide +kernel
theorem dX4_readOneChair_21 : decode cX4_readOneChair 21 = .ok (.iaload, 1) := by decide +kernel
theorem dX4_readOneChair_22 : decode cX4_readOneChair 22 = .ok (.i2c, 1) := by decide +kernel
theorem dX4_readOneChair_23 : decode cX4_readOneChair 23 = .ok (.invokevirtual 53, 3) := by decide +kernel
theorem dX4_readOneChair_26 : decode cX4_readOneChair 26 = .ok (.iconst 1, 1) := by decide +kernel
theorem dX4_readOneChair_27 : decode cX4_readOneChair 27 = .ok (.iadd, 1) := by decide +kernel
theorem dX4_readOneChair_28 : decode cX4_readOneChair 28 = .ok (.goto 4, 3) := by decide +kernel
theorem dX4_readOneChair_31 : decode cX4_readOneChair 31 = .ok (.iconst 0, 1) := by decide +kernel
theorem dX4_readOneChair_32 : decode cX4_readOneChair 32 = .ok (.istore_n 2, 1) := by decide +kernel
theorem dX4_readOneChair_33 : decode cX4_readOneChair 33 = .ok (.iload_n 2, 1) := by decide +kernel
theorem dX4_readOneChair_34 : decode cX4_readOneChair 34 = .ok (.ifCond .ne 9, 3) := by decide +kernel
theorem dX4_readOneChair_37 : decode cX4_readOneChair 37 = .ok (.aload_n 0, 1) := by decide +kernel
theorem dX4_readOneChair_38 : decode cX4_readOneChair 38 = .ok (.iconst 1, 1) := by decide +kernel
theorem dX4_readOneChair_39 : decode cX4_readOneChair 39 = .ok (.putfield 22, 3) := by decide +kernel
theorem dX4_readOneChair_42 : decode cX4_readOneChair 42 = .ok (.return_, 1) := by decide +kernel
theorem dX4_readOneChair_43 : decode cX4_readOneChair 43 = .ok (.aload_n 1, 1) := by decide +kernel
theorem dX4_readOneChair_44 : decode cX4_readOneChair 44 = .ok (.getfield 59, 3) := by decide +kernel
theorem dX4_readOneChair_47 : decode cX4_readOneChair 47 = .ok (.bipush 6, 2) := by decide +kernel
theorem dX4_readOneChair_49 : decode cX4_readOneChair 49 = .ok (.if_icmp .lt 9, 3) := by decide +kernel
theorem dX4_readOneChair_52 : decode cX4_readOneChair 52 = .ok (.aload_n 0, 1) := by decide +kernel
theorem dX4_readOneChair_53 : decode cX4_readOneChair 53 = .ok (.iconst 3, 1) := by decide +kernel
theorem dX4_readOneChair_54 : decode cX4_readOneChair 54 = .ok (.putfield 22, 3) := by decide +kernel
theorem dX4_readOneChair_57 : decode cX4_readOneChair 57 = .ok (.return_, 1) := by decide +kernel
theorem dX4_readOneChair_58 : decode cX4_readOneChair 58 = .ok (.aload_n 0, 1) := by decide +kernel
theorem dX4_readOneChair_59 : decode cX4_readOneChair 59 = .ok (.dup, 1) := by decide +kernel
theorem dX4_readOneChair_60 : decode cX4_readOneChair 60 = .ok (.getfield 19, 3) := by decide +kernel
theorem dX4_readOneChair_63 : decode cX4_readOneChair 63 = .ok (.iconst 1, 1) := by decide +kernel
theorem dX4_readOneChair_64 : decode cX4_readOneChair 64 = .ok (.iadd, 1) := by decide +kernel
theorem dX4_readOneChair_65 : decode cX4_readOneChair 65 = .ok (.putfield 19, 3) := by decide +kernel
theorem dX4_readOneChair_68 : decode cX4_readOneChair 68 = .ok (.aload_n 0, 1) := by decide +kernel
theorem dX4_readOneChair_69 : decode cX4_readOneChair 69 = .ok (.iconst 0, 1) := by decide +kernel
theorem dX4_readOneChair_70 : decode cX4_readOneChair 70 = .ok (.bipush 60, 2) := by decide +kernel
theorem dX4_readOneChair_72 : decode cX4_readOneChair 72 = .ok (.invokevirtual 41, 3) := by decide +kernel
theorem dX4_readOneChair_75 : decode cX4_readOneChair 75 = .ok (.istore_n 3, 1) := by decide +kernel
theorem dX4_readOneChair_76 : decode cX4_readOneChair 76 = .ok (.aload_n 0, 1) := by decide +kernel
theorem dX4_readOneChair_77 : decode cX4_readOneChair 77 = .ok (.bipush 44, 2) := by decide +kernel
theorem dX4_readOneChair_79 : decode cX4_readOneChair 79 = .ok (.invokevirtual 37, 3) := by decide +kernel
theorem dX4_readOneChair_82 : decode cX4_readOneChair 82 = .ok (.aload_n 0, 1) := by decide +kernel
theorem dX4_readOneChair_83 : decode cX4_readOneChair 83 = .ok (.iconst 0, 1) := by decide +kernel
theorem dX4_readOneChair_84 : decode cX4_readOneChair 84 = .ok (.bipush 9, 2) := by decide +kernel
theorem dX4_readOneChair_86 : decode cX4_readOneChair 86 = .ok (.invokevirtual 41, 3) := by decide +kernel
theorem dX4_readOneChair_89 : decode cX4_readOneChair 89 = .ok (.istore 4, 2) := by decide +kernel
theorem dX4_readOneChair_91 : decode cX4_readOneChair 91 = .ok (.aload_n 0, 1) := by decide +kernel
theorem dX4_readOneChair_92 : decode cX4_readOneChair 92 = .ok (.bipush 44, 2) := by decide +kernel
theorem dX4_readOneChair_94 : decode cX4_readOneChair 94 = .ok (.invokevirtual 37, 3) := by decide +kernel
theorem dX4_readOneChair_97 : decode cX4_readOneChair 97 = .ok (.aload_n 0, 1) := by decide +kernel
theorem dX4_readOneChair_98 : decode cX4_readOneChair 98 = .ok (.iconst 0, 1) := by decide +kernel
theorem dX4_readOneChair_99 : decode cX4_readOneChair 99 = .ok (.iconst 3, 1) := by decide +kernel
theorem dX4_readOneChair_100 : decode cX4_readOneChair 100 = .ok (.invokevirtual 41, 3) := by decide +kernel
theorem dX4_readOneChair_103 : decode cX4_readOneChair 103 = .ok (.istore 5, 2) := by decide +kernel
theorem dX4_readOneChair_105 : decode cX4_readOneChair 105 = .ok (.aload_n 0, 1) := by decide +kernel
theorem dX4_readOneChair_106 : decode cX4_readOneChair 106 = .ok (.bipush 59, 2) := by decide +kernel
theorem dX4_readOneChair_108 : decode cX4_readOneChair 108 = .ok (.invokevirtual 37, 3) := by decide +kernel
theorem dX4_readOneChair_111 : decode cX4_readOneChair 111 = .ok (.aload_n 0, 1) := by decide +kernel
theorem dX4_readOneChair_112 : decode cX4_readOneChair 112 = .ok (.getfield 22, 3) := by decide +kernel
theorem dX4_readOneChair_115 : decode cX4_readOneChair 115 = .ok (.ifCond .ne 13, 3) := by decide +kernel
theorem dX4_readOneChair_118 : decode cX4_readOneChair 118 = .ok (.aload_n 1, 1) := by decide +kernel
theorem dX4_readOneChair_119 : decode cX4_readOneChair 119 = .ok (.iload_n 2, 1) := by decide +kernel
theorem dX4_readOneChair_120 : decode cX4_readOneChair 120 = .ok (.iload_n 3, 1) := by decide +kernel
theorem dX4_readOneChair_121 : decode cX4_readOneChair 121 = .ok (.iload 4, 2) := by decide +kernel
theorem dX4_readOneChair_123 : decode cX4_readOneChair 123 = .ok (.iload 5, 2) := by decide +kernel
theorem dX4_readOneChair_125 : decode cX4_readOneChair 125 = .ok (.invokevirtual 60, 3) := by decide +kernel
theorem dX4_readOneChair_128 : decode cX4_readOneChair 128 = .ok (.return_, 1) := by decide +kernel
theorem dX4_takeSign_0 : decode cX4_takeSign 0 = .ok (.aload_n 0, 1) := by decide +kernel
theorem dX4_takeSign_1 : decode cX4_takeSign 1 = .ok (.getfield 22, 3) := by decide +kernel
theorem dX4_takeSign_4 : decode cX4_takeSign 4 = .ok (.ifCond .eq 4, 3) := by decide +kernel
theorem dX4_takeSign_7 : decode cX4_takeSign 7 = .ok (.return_, 1) := by decide +kernel
theorem dX4_takeSign_8 : decode cX4_takeSign 8 = .ok (.aload_n 0, 1) := by decide +kernel
theorem dX4_takeSign_9 : decode cX4_takeSign 9 = .ok (.getfield 19, 3) := by decide +kernel
theorem dX4_takeSign_12 : decode cX4_takeSign 12 = .ok (.aload_n 0, 1) := by decide +kernel
theorem dX4_takeSign_13 : decode cX4_takeSign 13 = .ok (.getfield 15, 3) := by decide +kernel
theorem dX4_takeSign_16 : decode cX4_takeSign 16 = .ok (.if_icmp .ge 29, 3) := by decide +kernel
theorem dX4_takeSign_19 : decode cX4_takeSign 19 = .ok (.aload_n 0, 1) := by decide +kernel
theorem dX4_takeSign_20 : decode cX4_takeSign 20 = .ok (.getfield 9, 3) := by decide +kernel
theorem dX4_takeSign_23 : decode cX4_takeSign 23 = .ok (.aload_n 0, 1) := by decide +kernel
theorem dX4_takeSign_24 : decode cX4_takeSign 24 = .ok (.getfield 19, 3) := by decide +kernel
theorem dX4_takeSign_27 : decode cX4_takeSign 27 = .ok (.iaload, 1) := by decide +kernel
theorem dX4_takeSign_28 : decode cX4_takeSign 28 = .ok (.iload_n 1, 1) := by decide +kernel
theorem dX4_takeSign_29 : decode cX4_takeSign 29 = .ok (.if_icmp .ne 16, 3) := by decide +kernel
theorem dX4_takeSign_32 : decode cX4_takeSign 32 = .ok (.aload_n 0, 1) := by decide +kernel
theorem dX4_takeSign_33 : decode cX4_takeSign 33 = .ok (.dup, 1) := by decide +kernel
theorem dX4_takeSign_34 : decode cX4_takeSign 34 = .ok (.getfield 19, 3) := by decide +kernel
theorem dX4_takeSign_37 : decode cX4_takeSign 37 = .ok (.iconst 1, 1) := by decide +kernel
theorem dX4_takeSign_38 : decode cX4_takeSign 38 = .ok (.iadd, 1) := by decide +kernel
theorem dX4_takeSign_39 : decode cX4_takeSign 39 = .ok (.putfield 19, 3) := by decide +kernel
theorem dX4_takeSign_42 : decode cX4_takeSign 42 = .ok (.goto 8, 3) := by decide +kernel
theorem dX4_takeSign_45 : decode cX4_takeSign 45 = .ok (.aload_n 0, 1) := by decide +kernel
theorem dX4_takeSign_46 : decode cX4_takeSign 46 = .ok (.iconst 1, 1) := by decide +kernel
theorem dX4_takeSign_47 : decode cX4_takeSign 47 = .ok (.putfield 22, 3) := by decide +kernel
theorem dX4_takeSign_50 : decode cX4_takeSign 50 = .ok (.return_, 1) := by decide +kernel
theorem dX4_takeNumber_0 : decode cX4_takeNumber 0 = .ok (.aload_n 0, 1) := by decide +kernel
theorem dX4_takeNumber_1 : decode cX4_takeNumber 1 = .ok (.getfield 22, 3) := by decide +kernel
theorem dX4_takeNumber_4 : decode cX4_takeNumber 4 = .ok (.ifCond .eq 5, 3) := by decide +kernel
theorem dX4_takeNumber_7 : decode cX4_takeNumber 7 = .ok (.iconst 0, 1) := by decide +kernel
theorem dX4_takeNumber_8 : decode cX4_takeNumber 8 = .ok (.ireturn, 1) := by decide +kernel
theorem dX4_takeNumber_9 : decode cX4_takeNumber 9 = .ok (.iconst 0, 1) := by decide +kernel
theorem dX4_takeNumber_10 : decode cX4_takeNumber 10 = .ok (.istore_n 3, 1) := by decide +kernel
theorem dX4_takeNumber_11 : decode cX4_takeNumber 11 = .ok (.aload_n 0, 1) := by decide +kernel
theorem dX4_takeNumber_12 : decode cX4_takeNumber 12 = .ok (.getfield 19, 3) := by decide +kernel
theorem dX4_takeNumber_15 : decode cX4_takeNumber 15 = .ok (.istore 4, 2) := by decide +kernel
theorem dX4_takeNumber_17 : decode cX4_takeNumber 17 = .ok (.iload 4, 2) := by decide +kernel
theorem dX4_takeNumber_19 : decode cX4_takeNumber 19 = .ok (.aload_n 0, 1) := by decide +kernel
theorem dX4_takeNumber_20 : decode cX4_takeNumber 20 = .ok (.getfield 15, 3) := by decide +kernel
theorem dX4_takeNumber_23 : decode cX4_takeNumber 23 = .ok (.if_icmp .ge 53, 3) := by decide +kernel
theorem dX4_takeNumber_26 : decode cX4_takeNumber 26 = .ok (.iload 4, 2) := by decide +kernel
theorem dX4_takeNumber_28 : decode cX4_takeNumber 28 = .ok (.aload_n 0, 1) := by decide +kernel
theorem dX4_takeNumber_29 : decode cX4_takeNumber 29 = .ok (.getfield 19, 3) := by decide +kernel
theorem dX4_takeNumber_32 : decode cX4_takeNumber 32 = .ok (.isub, 1) := by decide +kernel
theorem dX4_takeNumber_33 : decode cX4_takeNumber 33 = .ok (.iconst 3, 1) := by decide +kernel
theorem dX4_takeNumber_34 : decode cX4_takeNumber 34 = .ok (.if_icmp .ge 42, 3) := by decide +kernel
theorem dX4_takeNumber_37 : decode cX4_takeNumber 37 = .ok (.aload_n 0, 1) := by decide +kernel
theorem dX4_takeNumber_38 : decode cX4_takeNumber 38 = .ok (.getfield 9, 3) := by decide +kernel
theorem dX4_takeNumber_41 : decode cX4_takeNumber 41 = .ok (.iload 4, 2) := by decide +kernel
theorem dX4_takeNumber_43 : decode cX4_takeNumber 43 = .ok (.iaload, 1) := by decide +kernel
theorem dX4_takeNumber_44 : decode cX4_takeNumber 44 = .ok (.bipush 48, 2) := by decide +kernel
theorem dX4_takeNumber_46 : decode cX4_takeNumber 46 = .ok (.bipush 57, 2) := by decide +kernel
theorem dX4_takeNumber_48 : decode cX4_takeNumber 48 = .ok (.invokestatic 64, 3) := by decide +kernel
theorem dX4_takeNumber_51 : decode cX4_takeNumber 51 = .ok (.ifCond .eq 25, 3) := by decide +kernel
theorem dX4_takeNumber_54 : decode cX4_takeNumber 54 = .ok (.iload_n 3, 1) := by decide +kernel
theorem dX4_takeNumber_55 : decode cX4_takeNumber 55 = .ok (.bipush 10, 2) := by decide +kernel
theorem dX4_takeNumber_57 : decode cX4_takeNumber 57 = .ok (.imul, 1) := by decide +kernel
theorem dX4_takeNumber_58 : decode cX4_takeNumber 58 = .ok (.aload_n 0, 1) := by decide +kernel
theorem dX4_takeNumber_59 : decode cX4_takeNumber 59 = .ok (.getfield 9, 3) := by decide +kernel
theorem dX4_takeNumber_62 : decode cX4_takeNumber 62 = .ok (.iload 4, 2) := by decide +kernel
theorem dX4_takeNumber_64 : decode cX4_takeNumber 64 = .ok (.iaload, 1) := by decide +kernel
theorem dX4_takeNumber_65 : decode cX4_takeNumber 65 = .ok (.iadd, 1) := by decide +kernel
theorem dX4_takeNumber_66 : decode cX4_takeNumber 66 = .ok (.bipush 48, 2) := by decide +kernel
theorem dX4_takeNumber_68 : decode cX4_takeNumber 68 = .ok (.isub, 1) := by decide +kernel
theorem dX4_takeNumber_69 : decode cX4_takeNumber 69 = .ok (.istore_n 3, 1) := by decide +kernel
theorem dX4_takeNumber_70 : decode cX4_takeNumber 70 = .ok (.iinc 4 1, 3) := by decide +kernel
theorem dX4_takeNumber_73 : decode cX4_takeNumber 73 = .ok (.goto (-56), 3) := by decide +kernel
theorem dX4_takeNumber_76 : decode cX4_takeNumber 76 = .ok (.iload 4, 2) := by decide +kernel
theorem dX4_takeNumber_78 : decode cX4_takeNumber 78 = .ok (.aload_n 0, 1) := by decide +kernel
theorem dX4_takeNumber_79 : decode cX4_takeNumber 79 = .ok (.getfield 19, 3) := by decide +kernel
theorem dX4_takeNumber_82 : decode cX4_takeNumber 82 = .ok (.isub, 1) := by decide +kernel
theorem dX4_takeNumber_83 : decode cX4_takeNumber 83 = .ok (.istore 5, 2) := by decide +kernel
theorem dX4_takeNumber_85 : decode cX4_takeNumber 85 = .ok (.iload 5, 2) := by decide +kernel
theorem dX4_takeNumber_87 : decode cX4_takeNumber 87 = .ok (.iconst 1, 1) := by decide +kernel
theorem dX4_takeNumber_88 : decode cX4_takeNumber 88 = .ok (.if_icmp .lt 9, 3) := by decide +kernel
theorem dX4_takeNumber_91 : decode cX4_takeNumber 91 = .ok (.iload 5, 2) := by decide +kernel
theorem dX4_takeNumber_93 : decode cX4_takeNumber 93 = .ok (.iconst 2, 1) := by decide +kernel
theorem dX4_takeNumber_94 : decode cX4_takeNumber 94 = .ok (.if_icmp .le 10, 3) := by decide +kernel
theorem dX4_takeNumber_97 : decode cX4_takeNumber 97 = .ok (.aload_n 0, 1) := by decide +kernel
theorem dX4_takeNumber_98 : decode cX4_takeNumber 98 = .ok (.iconst 1, 1) := by decide +kernel
theorem dX4_takeNumber_99 : decode cX4_takeNumber 99 = .ok (.putfield 22, 3) := by decide +kernel
theorem dX4_takeNumber_102 : decode cX4_takeNumber 102 = .ok (.iconst 0, 1) := by decide +kernel
theorem dX4_takeNumber_103 : decode cX4_takeNumber 103 = .ok (.ireturn, 1) := by decide +kernel
theorem dX4_takeNumber_104 : decode cX4_takeNumber 104 = .ok (.iload_n 3, 1) := by decide +kernel
theorem dX4_takeNumber_105 : decode cX4_takeNumber 105 = .ok (.iload_n 1, 1) := by decide +kernel
theorem dX4_takeNumber_106 : decode cX4_takeNumber 106 = .ok (.iload_n 2, 1) := by decide +kernel
theorem dX4_takeNumber_107 : decode cX4_takeNumber 107 = .ok (.invokestatic 64, 3) := by decide +kernel
theorem dX4_takeNumber_110 : decode cX4_takeNumber 110 = .ok (.ifCond .ne 10, 3) := by decide +kernel
theorem dX4_takeNumber_113 : decode cX4_takeNumber 113 = .ok (.aload_n 0, 1) := by decide +kernel
theorem dX4_takeNumber_114 : decode cX4_takeNumber 114 = .ok (.iconst 2, 1) := by decide +kernel
theorem dX4_takeNumber_115 : decode cX4_takeNumber 115 = .ok (.putfield 22, 3) := by decide +kernel
theorem dX4_takeNumber_118 : decode cX4_takeNumber 118 = .ok (.iconst 0, 1) := by decide +kernel
theorem dX4_takeNumber_119 : decode cX4_takeNumber 119 = .ok (.ireturn, 1) := by decide +kernel
theorem dX4_takeNumber_120 : decode cX4_takeNumber 120 = .ok (.aload_n 0, 1) := by decide +kernel
theorem dX4_takeNumber_121 : decode cX4_takeNumber 121 = .ok (.iload 4, 2) := by decide +kernel
theorem dX4_takeNumber_123 : decode cX4_takeNumber 123 = .ok (.putfield 19, 3) := by decide +kernel
theorem dX4_takeNumber_126 : decode cX4_takeNumber 126 = .ok (.iload_n 3, 1) := by decide +kernel
theorem dX4_takeNumber_127 : decode cX4_takeNumber 127 = .ok (.ireturn, 1) := by decide +kernel
theorem dX5_init_0 : decode cX5_init 0 = .ok (.aload_n 0, 1) := by decide +kernel
theorem dX5_init_1 : decode cX5_init 1 = .ok (.invokespecial 3, 3) := by decide +kernel
theorem dX5_init_4 : decode cX5_init 4 = .ok (.aload_n 0, 1) := by decide +kernel
theorem dX5_init_5 : decode cX5_init 5 = .ok (.bipush 8, 2) := by decide +kernel
theorem dX5_init_7 : decode cX5_init 7 = .ok (.anewarray 9, 3) := by decide +kernel
theorem dX5_init_10 : decode cX5_init 10 = .ok (.putfield 11, 3) := by decide +kernel
theorem dX5_init_13 : decode cX5_init 13 = .ok (.aload_n 0, 1) := by decide +kernel
theorem dX5_init_14 : decode cX5_init 14 = .ok (.new 15, 3) := by decide +kernel
theorem dX5_init_17 : decode cX5_init 17 = .ok (.dup, 1) := by decide +kernel
theorem dX5_init_18 : decode cX5_init 18 = .ok (.invokespecial 17, 3) := by decide +kernel
theorem dX5_init_21 : decode cX5_init 21 = .ok (.putfield 18, 3) := by decide +kernel
theorem dX5_init_24 : decode cX5_init 24 = .ok (.aload_n 0, 1) := by decide +kernel
theorem dX5_init_25 : decode cX5_init 25 = .ok (.new 22, 3) := by decide +kernel
theorem dX5_init_28 : decode cX5_init 28 = .ok (.dup, 1) := by decide +kernel
theorem dX5_init_29 : decode cX5_init 29 = .ok (.invokespecial 24, 3) := by decide +kernel
theorem dX5_init_32 : decode cX5_init 32 = .ok (.putfield 25, 3) := by decide +kernel
theorem dX5_init_35 : decode cX5_init 35 = .ok (.aload_n 0, 1) := by decide +kernel
theorem dX5_init_36 : decode cX5_init 36 = .ok (.new 22, 3) := by decide +kernel
theorem dX5_init_39 : decode cX5_init 39 = .ok (.dup, 1) := by decide +kernel
theorem dX5_init_40 : decode cX5_init 40 = .ok (.invokespecial 24, 3) := by decide +kernel
theorem dX5_init_43 : decode cX5_init 43 = .ok (.putfield 29, 3) := by decide +kernel
theorem dX5_init_46 : decode cX5_init 46 = .ok (.aload_n 0, 1) := by decide +kernel
theorem dX5_init_47 : decode cX5_init 47 = .ok (.bipush 41, 2) := by decide +kernel
theorem dX5_init_49 : decode cX5_init 49 = .ok (.newarray .int, 2) := by decide +kernel
theorem dX5_init_51 : decode cX5_init 51 = .ok (.putfield 32, 3) := by decide +kernel
theorem dX5_init_54 : decode cX5_init 54 = .ok (.aload_n 0, 1) := by decide +kernel
theorem dX5_init_55 : decode cX5_init 55 = .ok (.bipush 6, 2) := by decide +kernel
theorem dX5_init_57 : decode cX5_init 57 = .ok (.newarray .int, 2) := by decide +kernel
theorem dX5_init_59 : decode cX5_init 59 = .ok (.putfield 36, 3) := by decide +kernel
theorem dX5_init_62 : decode cX5_init 62 = .ok (.aload_n 0, 1) := by decide +kernel
theorem dX5_init_63 : decode cX5_init 63 = .ok (.new 39, 3) := by decide +kernel
theorem dX5_init_66 : decode cX5_init 66 = .ok (.dup, 1) := by decide +kernel
theorem dX5_init_67 : decode cX5_init 67 = .ok (.invokespecial 41, 3) := by decide +kernel
theorem dX5_init_70 : decode cX5_init 70 = .ok (.putfield 42, 3) := by decide +kernel
theorem dX5_init_73 : decode cX5_init 73 = .ok (.aload_n 0, 1) := by decide +kernel
theorem dX5_init_74 : decode cX5_init 74 = .ok (.iconst 2, 1) := by decide +kernel
theorem dX5_init_75 : decode cX5_init 75 = .ok (.bipush 41, 2) := by decide +kernel
theorem dX5_init_77 : decode cX5_init 77 = .ok (.multianewarray 46 2, 4) := by decide +kernel
theorem dX5_init_81 : decode cX5_init 81 = .ok (.putfield 48, 3) := by decide +kernel
theorem dX5_init_84 : decode cX5_init 84 = .ok (.aload_n 0, 1) := by decide +kernel
theorem dX5_init_85 : decode cX5_init 85 = .ok (.new 51, 3) := by decide +kernel
theorem dX5_init_88 : decode cX5_init 88 = .ok (.dup, 1) := by decide +kernel
theorem dX5_init_89 : decode cX5_init 89 = .ok (.invokespecial 53, 3) := by decide +kernel
theorem dX5_init_92 : decode cX5_init 92 = .ok (.putfield 54, 3) := by decide +kernel
theorem dX5_init_95 : decode cX5_init 95 = .ok (.iconst 0, 1) := by decide +kernel
theorem dX5_init_96 : decode cX5_init 96 = .ok (.istore_n 1, 1) := by decide +kernel
theorem dX5_init_97 : decode cX5_init 97 = .ok (.iload_n 1, 1) := by decide +kernel
theorem dX5_init_98 : decode cX5_init 98 = .ok (.bipush 8, 2) := by decide +kernel
theorem dX5_init_100 : decode cX5_init 100 = .ok (.if_icmp .ge 22, 3) := by decide +kernel
theorem dX5_init_103 : decode cX5_init 103 = .ok (.aload_n 0, 1) := by decide +kernel
theorem dX5_init_104 : decode cX5_init 104 = .ok (.getfield 11, 3) := by decide +kernel
theorem dX5_init_107 : decode cX5_init 107 = .ok (.iload_n 1, 1) := by decide +kernel
theorem dX5_init_108 : decode cX5_init 108 = .ok (.new 9, 3) := by decide +kernel
theorem dX5_init_111 : decode cX5_init 111 = .ok (.dup, 1) := by decide +kernel
theorem dX5_init_112 : decode cX5_init 112 = .ok (.invokespecial 58, 3) := by decide +kernel
theorem dX5_init_115 : decode cX5_init 115 = .ok (.aastore, 1) := by decide +kernel
theorem dX5_init_116 : decode cX5_init 116 = .ok (.iinc 1 1, 3) := by decide +kernel
theorem dX5_init_119 : decode cX5_init 119 = .ok (.goto (-22), 3) := by decide +kernel
theorem dX5_init_122 : decode cX5_init 122 = .ok (.return_, 1) := by decide +kernel
theorem dX5_row_0 : decode cX5_row 0 = .ok (.iload_n 1, 1) := by decide +kernel
theorem dX5_row_1 : decode cX5_row 1 = .ok (.invokestatic 59, 3) := by decide +kernel
theorem dX5_row_4 : decode cX5_row 4 = .ok (.ifCond .eq 18, 3) := by decide +kernel
theorem dX5_row_7 : decode cX5_row 7 = .ok (.iload_n 2, 1) := by decide +kernel
theorem dX5_row_8 : decode cX5_row 8 = .ok (.iconst 0, 1) := by decide +kernel
theorem dX5_row_9 : decode cX5_row 9 = .ok (.iconst 2, 1) := by decide +kernel
theorem dX5_row_10 : decode cX5_row 10 = .ok (.invokestatic 63, 3) := by decide +kernel
theorem dX5_row_13 : decode cX5_row 13 = .ok (.ifCond .eq 9, 3) := by decide +kernel
theorem dX5_row_16 : decode cX5_row 16 = .ok (.iload_n 3, 1) := by decide +kernel
theorem dX5_row_17 : decode cX5_row 17 = .ok (.bipush 40, 2) := by decide +kernel
theorem dX5_row_19 : decode cX5_row 19 = .ok (.if_icmp .le 6, 3) := by decide +kernel
theorem dX5_row_22 : decode cX5_row 22 = .ok (.ldc 67, 2) := by decide +kernel
theorem dX5_row_24 : decode cX5_row 24 = .ok (.ireturn, 1) := by decide +kernel
theorem dX5_row_25 : decode cX5_row 25 = .ok (.iload_n 3, 1) := by decide +kernel
theorem dX5_row_26 : decode cX5_row 26 = .ok (.ifCond .ge 9, 3) := by decide +kernel
theorem dX5_row_29 : decode cX5_row 29 = .ok (.aload_n 0, 1) := by decide +kernel
theorem dX5_row_30 : decode cX5_row 30 = .ok (.iconst 4, 1) := by decide +kernel
theorem dX5_row_31 : decode cX5_row 31 = .ok (.invokevirtual 68, 3) := by decide +kernel
theorem dX5_row_34 : decode cX5_row 34 = .ok (.ireturn, 1) := by decide +kernel
theorem dX5_row_35 : decode cX5_row 35 = .ok (.aload_n 0, 1) := by decide +kernel
theorem dX5_row_36 : decode cX5_row 36 = .ok (.getfield 11, 3) := by decide +kernel
theorem dX5_row_39 : decode cX5_row 39 = .ok (.iload_n 1, 1) := by decide +kernel
theorem dX5_row_40 : decode cX5_row 40 = .ok (.aaload, 1) := by decide +kernel
theorem dX5_row_41 : decode cX5_row 41 = .ok (.iload_n 2, 1) := by decide +kernel
theorem dX5_row_42 : decode cX5_row 42 = .ok (.iload_n 3, 1) := by decide +kernel
theorem dX5_row_43 : decode cX5_row 43 = .ok (.invokevirtual 72, 3) := by decide +kernel
theorem dX5_row_46 : decode cX5_row 46 = .ok (.aload_n 0, 1) := by decide +kernel
theorem dX5_row_47 : decode cX5_row 47 = .ok (.iload_n 3, 1) := by decide +kernel
theorem dX5_row_48 : decode cX5_row 48 = .ok (.invokevirtual 76, 3) := by decide +kernel
theorem dX5_row_51 : decode cX5_row 51 = .ok (.ireturn, 1) := by decide +kernel
theorem dX5_set_0 : decode cX5_set 0 = .ok (.iload_n 1, 1) := by decide +kernel
theorem dX5_set_1 : decode cX5_set 1 = .ok (.invokestatic 59, 3) := by decide +kernel
theorem dX5_set_4 : decode cX5_set 4 = .ok (.ifCond .ne 6, 3) := by decide +kernel
theorem dX5_set_7 : decode cX5_set 7 = .ok (.ldc 67, 2) := by decide +kernel
theorem dX5_set_9 : decode cX5_set 9 = .ok (.ireturn, 1) := by decide +kernel
theorem dX5_set_10 : decode cX5_set 10 = .ok (.aload_n 0, 1) := by decide +kernel
theorem dX5_set_11 : decode cX5_set 11 = .ok (.iload_n 1, 1) := by decide +kernel
theorem dX5_set_12 : decode cX5_set 12 = .ok (.iload_n 2, 1) := by decide +kernel
theorem dX5_set_13 : decode cX5_set 13 = .ok (.iconst 1, 1) := by decide +kernel
theorem dX5_set_14 : decode cX5_set 14 = .ok (.invokevirtual 79, 3) := by decide +kernel
theorem dX5_set_17 : decode cX5_set 17 = .ok (.istore 4, 2) := by decide +kernel
theorem dX5_set_19 : decode cX5_set 19 = .ok (.iload 4, 2) := by decide +kernel
theorem dX5_set_21 : decode cX5_set 21 = .ok (.ifCond .eq 10, 3) := by decide +kernel
theorem dX5_set_24 : decode cX5_set 24 = .ok (.aload_n 0, 1) := by decide +kernel
theorem dX5_set_25 : decode cX5_set 25 = .ok (.iload 4, 2) := by decide +kernel
theorem dX5_set_27 : decode cX5_set 27 = .ok (.invokevirtual 68, 3) := by decide +kernel
theorem dX5_set_30 : decode cX5_set 30 = .ok (.ireturn, 1) := by decide +kernel
theorem dX5_set_31 : decode cX5_set 31 = .ok (.aload_n 0, 1) := by decide +kernel
theorem dX5_set_32 : decode cX5_set 32 = .ok (.aload_n 0, 1) := by decide +kernel
theorem dX5_set_33 : decode cX5_set 33 = .ok (.getfield 11, 3) := by decide +kernel
theorem dX5_set_36 : decode cX5_set 36 = .ok (.iload_n 1, 1) := by decide +kernel
theorem dX5_set_37 : decode cX5_set 37 = .ok (.aaload, 1) := by decide +kernel
theorem dX5_set_38 : decode cX5_set 38 = .ok (.iload_n 2, 1) := by decide +kernel
theorem dX5_set_39 : decode cX5_set 39 = .ok (.iload_n 3, 1) := by decide +kernel
theorem dX5_set_40 : decode cX5_set 40 = .ok (.invokevirtual 83, 3) := by decide +kernel
theorem dX5_set_43 : decode cX5_set 43 = .ok (.invokevirtual 76, 3) := by decide +kernel
theorem dX5_set_46 : decode cX5_set 46 = .ok (.ireturn, 1) := by decide +kernel
theorem dX5_copy_0 : decode cX5_copy 0 = .ok (.iload_n 1, 1) := by decide +kernel
theorem dX5_copy_1 : decode cX5_copy 1 = .ok (.invokestatic 59, 3) := by decide +kernel
theorem dX5_copy_4 : decode cX5_copy 4 = .ok (.ifCond .eq 10, 3) := by decide +kernel
theorem dX5_copy_7 : decode cX5_copy 7 = .ok (.iload_n 3, 1) := by decide +kernel
theorem dX5_copy_8 : decode cX5_copy 8 = .ok (.invokestatic 59, 3) := by decide +kernel
theorem dX5_copy_11 : decode cX5_copy 11 = .ok (.ifCond .ne 6, 3) := by decide +kernel
theorem dX5_copy_14 : decode cX5_copy 14 = .ok (.ldc 67, 2) := by decide +kernel
theorem dX5_copy_16 : decode cX5_copy 16 = .ok (.ireturn, 1) := by decide +kernel
theorem dX5_copy_17 : decode cX5_copy 17 = .ok (.aload_n 0, 1) := by decide +kernel
theorem dX5_copy_18 : decode cX5_copy 18 = .ok (.getfield 11, 3) := by decide +kernel
theorem dX5_copy_21 : decode cX5_copy 21 = .ok (.iload_n 1, 1) := by decide +kernel
theorem dX5_copy_22 : decode cX5_copy 22 = .ok (.aaload, 1) := by decide +kernel
theorem dX5_copy_23 : decode cX5_copy 23 = .ok (.astore 6, 2) := by decide +kernel
theorem dX5_copy_25 : decode cX5_copy 25 = .ok (.aload_n 0, 1) := by decide +kernel
theorem dX5_copy_26 : decode cX5_copy 26 = .ok (.getfield 11, 3) := by decide +kernel
theorem dX5_copy_29 : decode cX5_copy 29 = .ok (.iload_n 3, 1) := by decide +kernel
theorem dX5_copy_30 : decode cX5_copy 30 = .ok (.aaload, 1) := by decide +kernel
theorem dX5_copy_31 : decode cX5_copy 31 = .ok (.astore 7, 2) := by decide +kernel
theorem dX5_copy_33 : decode cX5_copy 33 = .ok (.aload 6, 2) := by decide +kernel
theorem dX5_copy_35 : decode cX5_copy 35 = .ok (.invokevirtual 87, 3) := by decide +kernel
theorem dX5_copy_38 : decode cX5_copy 38 = .ok (.ifCond .ne 11, 3) := by decide +kernel
theorem dX5_copy_41 : decode cX5_copy 41 = .ok (.aload 7, 2) := by decide +kernel
theorem dX5_copy_43 : decode cX5_copy 43 = .ok (.invokevirtual 87, 3) := by decide +kernel
theorem dX5_copy_46 : decode cX5_copy 46 = .ok (.ifCond .eq 9, 3) := by decide +kernel
theorem dX5_copy_49 : decode cX5_copy 49 = .ok (.aload_n 0, 1) := by decide +kernel
theorem dX5_copy_50 : decode cX5_copy 50 = .ok (.iconst 1, 1) := by decide +kernel
theorem dX5_copy_51 : decode cX5_copy 51 = .ok (.invokevirtual 68, 3) := by decide +kernel
theorem dX5_copy_54 : decode cX5_copy 54 = .ok (.ireturn, 1) := by decide +kernel
theorem dX5_copy_55 : decode cX5_copy 55 = .ok (.aload 6, 2) := by decide +kernel
theorem dX5_copy_57 : decode cX5_copy 57 = .ok (.getfield 91, 3) := by decide +kernel
theorem dX5_copy_60 : decode cX5_copy 60 = .ok (.aload 7, 2) := by decide +kernel
theorem dX5_copy_62 : decode cX5_copy 62 = .ok (.getfield 91, 3) := by decide +kernel
theorem dX5_copy_65 : decode cX5_copy 65 = .ok (.if_icmp .eq 9, 3) := by decide +kernel
theorem dX5_copy_68 : decode cX5_copy 68 = .ok (.aload_n 0, 1) := by decide +kernel
theorem dX5_copy_69 : decode cX5_copy 69 = .ok (.iconst 5, 1) := by decide +kernel
theorem dX5_copy_70 : decode cX5_copy 70 = .ok (.invokevirtual 68, 3) := by decide +kernel
theorem dX5_copy_73 : decode cX5_copy 73 = .ok (.ireturn, 1) := by decide +kernel
theorem dX5_copy_74 : decode cX5_copy 74 = .ok (.aload 6, 2) := by decide +kernel
theorem dX5_copy_76 : decode cX5_copy 76 = .ok (.iload_n 2, 1) := by decide +kernel
theorem dX5_copy_77 : decode cX5_copy 77 = .ok (.iload 5, 2) := by decide +kernel
theorem dX5_copy_79 : decode cX5_copy 79 = .ok (.invokevirtual 95, 3) := by decide +kernel
theorem dX5_copy_82 : decode cX5_copy 82 = .ok (.ifCond .eq 15, 3) := by decide +kernel
theorem dX5_copy_85 : decode cX5_copy 85 = .ok (.aload 7, 2) := by decide +kernel
theorem dX5_copy_87 : decode cX5_copy 87 = .ok (.iload 4, 2) := by decide +kernel
theorem dX5_copy_89 : decode cX5_copy 89 = .ok (.iload 5, 2) := by decide +kernel
theorem dX5_copy_91 : decode cX5_copy 91 = .ok (.invokevirtual 95, 3) := by decide +kernel
theorem dX5_copy_94 : decode cX5_copy 94 = .ok (.ifCond .ne 9, 3) := by decide +kernel
theorem dX5_copy_97 : decode cX5_copy 97 = .ok (.aload_n 0, 1) := by decide +kernel
theorem dX5_copy_98 : decode cX5_copy 98 = .ok (.iconst 2, 1) := by decide +kernel
theorem dX5_copy_99 : decode cX5_copy 99 = .ok (.invokevirtual 68, 3) := by decide +kernel
theorem dX5_copy_102 : decode cX5_copy 102 = .ok (.ireturn, 1) := by decide +kernel
theorem dX5_copy_103 : decode cX5_copy 103 = .ok (.aload 6, 2) := by decide +kernel
theorem dX5_copy_105 : decode cX5_copy 105 = .ok (.getfield 99, 3) := by decide +kernel
theorem dX5_copy_108 : decode cX5_copy 108 = .ok (.iload_n 2, 1) := by decide +kernel
theorem dX5_copy_109 : decode cX5_copy 109 = .ok (.aload 7, 2) := by decide +kernel
theorem dX5_copy_111 : decode cX5_copy 111 = .ok (.getfield 99, 3) := by decide +kernel
theorem dX5_copy_114 : decode cX5_copy 114 = .ok (.iload 4, 2) := by decide +kernel
theorem dX5_copy_116 : decode cX5_copy 116 = .ok (.iload 5, 2) := by decide +kernel
theorem dX5_copy_118 : decode cX5_copy 118 = .ok (.invokestatic 102, 3) := by decide +kernel
theorem dX5_copy_121 : decode cX5_copy 121 = .ok (.aload_n 0, 1) := by decide +kernel
theorem dX5_copy_122 : decode cX5_copy 122 = .ok (.iload 5, 2) := by decide +kernel
theorem dX5_copy_124 : decode cX5_copy 124 = .ok (.invokevirtual 76, 3) := by decide +kernel
theorem dX5_copy_127 : decode cX5_copy 127 = .ok (.ireturn, 1) := by decide +kernel
theorem dX5_drop_0 : decode cX5_drop 0 = .ok (.iload_n 1, 1) := by decide +kernel
theorem dX5_drop_1 : decode cX5_drop 1 = .ok (.invokestatic 59, 3) := by decide +kernel
theorem dX5_drop_4 : decode cX5_drop 4 = .ok (.ifCond .ne 6, 3) := by decide +kernel
theorem dX5_drop_7 : decode cX5_drop 7 = .ok (.ldc 67, 2) := by decide +kernel
theorem dX5_drop_9 : decode cX5_drop 9 = .ok (.ireturn, 1) := by decide +kernel
theorem dX5_drop_10 : decode cX5_drop 10 = .ok (.aload_n 0, 1) := by decide +kernel
theorem dX5_drop_11 : decode cX5_drop 11 = .ok (.getfield 11, 3) := by decide +kernel
theorem dX5_drop_14 : decode cX5_drop 14 = .ok (.iload_n 1, 1) := by decide +kernel
theorem dX5_drop_15 : decode cX5_drop 15 = .ok (.aaload, 1) := by decide +kernel
theorem dX5_drop_16 : decode cX5_drop 16 = .ok (.invokevirtual 87, 3) := by decide +kernel
theorem dX5_drop_19 : decode cX5_drop 19 = .ok (.ifCond .eq 9, 3) := by decide +kernel
theorem dX5_drop_22 : decode cX5_drop 22 = .ok (.aload_n 0, 1) := by decide +kernel
theorem dX5_drop_23 : decode cX5_drop 23 = .ok (.iconst 1, 1) := by decide +kernel
theorem dX5_drop_24 : decode cX5_drop 24 = .ok (.invokevirtual 68, 3) := by decide +kernel
theorem dX5_drop_27 : decode cX5_drop 27 = .ok (.ireturn, 1) := by decide +kernel
theorem dX5_drop_28 : decode cX5_drop 28 = .ok (.aload_n 0, 1) := by decide +kernel
theorem dX5_drop_29 : decode cX5_drop 29 = .ok (.aload_n 0, 1) := by decide +kernel
theorem dX5_drop_30 : decode cX5_drop 30 = .ok (.getfield 11, 3) := by decide +kernel
theorem dX5_drop_33 : decode cX5_drop 33 = .ok (.iload_n 1, 1) := by decide +kernel
theorem dX5_drop_34 : decode cX5_drop 34 = .ok (.aaload, 1) := by decide +kernel
theorem dX5_drop_35 : decode cX5_drop 35 = .ok (.invokevirtual 108, 3) := by decide +kernel
theorem dX5_drop_38 : decode cX5_drop 38 = .ok (.invokevirtual 76, 3) := by decide +kernel
theorem dX5_drop_41 : decode cX5_drop 41 = .ok (.ireturn, 1) := by decide +kernel
theorem dX5_feed_0 : decode cX5_feed 0 = .ok (.iload_n 1, 1) := by decide +kernel
theorem dX5_feed_1 : decode cX5_feed 1 = .ok (.iconst 0, 1) := by decide +kernel
theorem dX5_feed_2 : decode cX5_feed 2 = .ok (.sipush 255, 3) := by decide +kernel
theorem dX5_feed_5 : decode cX5_feed 5 = .ok (.invokestatic 63, 3) := by decide +kernel
theorem dX5_feed_8 : decode cX5_feed 8 = .ok (.ifCond .ne 6, 3) := by decide +kernel
theorem dX5_feed_11 : decode cX5_feed 11 = .ok (.ldc 67, 2) := by decide +kernel
theorem dX5_feed_13 : decode cX5_feed 13 = .ok (.ireturn, 1) := by decide +kernel
theorem dX5_feed_14 : decode cX5_feed 14 = .ok (.aload_n 0, 1) := by decide +kernel
theorem dX5_feed_15 : decode cX5_feed 15 = .ok (.getfield 18, 3) := by decide +kernel
theorem dX5_feed_18 : decode cX5_feed 18 = .ok (.iload_n 1, 1) := by decide +kernel
theorem dX5_feed_19 : decode cX5_feed 19 = .ok (.invokevirtual 112, 3) := by decide +kernel
theorem dX5_feed_22 : decode cX5_feed 22 = .ok (.ifCond .eq 13, 3) := by decide +kernel
theorem dX5_feed_25 : decode cX5_feed 25 = .ok (.aload_n 0, 1) := by decide +kernel
theorem dX5_feed_26 : decode cX5_feed 26 = .ok (.getfield 18, 3) := by decide +kernel
theorem dX5_feed_29 : decode cX5_feed 29 = .ok (.getfield 115, 3) := by decide +kernel
theorem dX5_feed_32 : decode cX5_feed 32 = .ok (.goto 5, 3) := by decide +kernel
theorem dX5_feed_35 : decode cX5_feed 35 = .ok (.ldc 118, 2) := by decide +kernel
theorem dX5_feed_37 : decode cX5_feed 37 = .ok (.ireturn, 1) := by decide +kernel
theorem dX5_ministry_0 : decode cX5_ministry 0 = .ok (.aload_n 0, 1) := by decide +kernel
theorem dX5_ministry_1 : decode cX5_ministry 1 = .ok (.getfield 18, 3) := by decide +kernel
theorem dX5_ministry_4 : decode cX5_ministry 4 = .ok (.aload_n 0, 1) := by decide +kernel
theorem dX5_ministry_5 : decode cX5_ministry 5 = .ok (.getfield 29, 3) := by decide +kernel
theorem dX5_ministry_8 : decode cX5_ministry 8 = .ok (.invokevirtual 119, 3) := by decide +kernel
theorem dX5_ministry_11 : decode cX5_ministry 11 = .ok (.istore_n 1, 1) := by decide +kernel
theorem dX5_ministry_12 : decode cX5_ministry 12 = .ok (.aload_n 0, 1) := by decide +kernel
theorem dX5_ministry_13 : decode cX5_ministry 13 = .ok (.getfield 18, 3) := by decide +kernel
theorem dX5_ministry_16 : decode cX5_ministry 16 = .ok (.iconst 0, 1) := by decide +kernel
theorem dX5_ministry_17 : decode cX5_ministry 17 = .ok (.putfield 115, 3) := by decide +kernel
theorem dX5_ministry_20 : decode cX5_ministry 20 = .ok (.iload_n 1, 1) := by decide +kernel
theorem dX5_ministry_21 : decode cX5_ministry 21 = .ok (.ifCond .eq 19, 3) := by decide +kernel
theorem dX5_ministry_24 : decode cX5_ministry 24 = .ok (.aload_n 0, 1) := by decide +kernel
theorem dX5_ministry_25 : decode cX5_ministry 25 = .ok (.iload_n 1, 1) := by decide +kernel
theorem dX5_ministry_26 : decode cX5_ministry 26 = .ok (.putfield 123, 3) := by decide +kernel
theorem dX5_ministry_29 : decode cX5_ministry 29 = .ok (.ldc 126, 2) := by decide +kernel
theorem dX5_ministry_31 : decode cX5_ministry 31 = .ok (.aload_n 0, 1) := by decide +kernel
theorem dX5_ministry_32 : decode cX5_ministry 32 = .ok (.getfield 18, 3) := by decide +kernel
theorem dX5_ministry_35 : decode cX5_ministry 35 = .ok (.getfield 127, 3) := by decide +kernel
theorem dX5_ministry_38 : decode cX5_ministry 38 = .ok (.isub, 1) := by decide +kernel
theorem dX5_ministry_39 : decode cX5_ministry 39 = .ok (.ireturn, 1) := by decide +kernel
theorem dX5_ministry_40 : decode cX5_ministry 40 = .ok (.aload_n 0, 1) := by decide +kernel
theorem dX5_ministry_41 : decode cX5_ministry 41 = .ok (.getfield 29, 3) := by decide +kernel
theorem dX5_ministry_44 : decode cX5_ministry 44 = .ok (.aload_n 0, 1) := by decide +kernel
theorem dX5_ministry_45 : decode cX5_ministry 45 = .ok (.getfield 32, 3) := by decide +kernel
theorem dX5_ministry_48 : decode cX5_ministry 48 = .ok (.invokevirtual 130, 3) := by decide +kernel
theorem dX5_ministry_51 : decode cX5_ministry 51 = .ok (.aload_n 0, 1) := by decide +kernel
theorem dX5_ministry_52 : decode cX5_ministry 52 = .ok (.getfield 25, 3) := by decide +kernel
theorem dX5_ministry_55 : decode cX5_ministry 55 = .ok (.aload_n 0, 1) := by decide +kernel
theorem dX5_ministry_56 : decode cX5_ministry 56 = .ok (.getfield 32, 3) := by decide +kernel
theorem dX5_ministry_59 : decode cX5_ministry 59 = .ok (.invokevirtual 134, 3) := by decide +kernel
theorem dX5_ministry_62 : decode cX5_ministry 62 = .ok (.aload_n 0, 1) := by decide +kernel
theorem dX5_ministry_63 : decode cX5_ministry 63 = .ok (.getfield 42, 3) := by decide +kernel
theorem dX5_ministry_66 : decode cX5_ministry 66 = .ok (.invokevirtual 137, 3) := by decide +kernel
theorem dX5_ministry_69 : decode cX5_ministry 69 = .ok (.aload_n 0, 1) := by decide +kernel
theorem dX5_ministry_70 : decode cX5_ministry 70 = .ok (.getfield 25, 3) := by decide +kernel
theorem dX5_ministry_73 : decode cX5_ministry 73 = .ok (.getfield 140, 3) := by decide +kernel
theorem dX5_ministry_76 : decode cX5_ministry 76 = .ok (.ireturn, 1) := by decide +kernel
theorem dX5_fault_0 : decode cX5_fault 0 = .ok (.aload_n 0, 1) := by decide +kernel
theorem dX5_fault_1 : decode cX5_fault 1 = .ok (.getfield 123, 3) := by decide +kernel
theorem dX5_fault_4 : decode cX5_fault 4 = .ok (.ireturn, 1) := by decide +kernel
theorem dX5_undo_0 : decode cX5_undo 0 = .ok (.aload_n 0, 1) := by decide +kernel
theorem dX5_undo_1 : decode cX5_undo 1 = .ok (.getfield 42, 3) := by decide +kernel
theorem dX5_undo_4 : decode cX5_undo 4 = .ok (.aload_n 0, 1) := by decide +kernel
theorem dX5_undo_5 : decode cX5_undo 5 = .ok (.getfield 25, 3) := by decide +kernel
theorem dX5_undo_8 : decode cX5_undo 8 = .ok (.invokevirtual 141, 3) := by decide +kernel
theorem dX5_undo_11 : decode cX5_undo 11 = .ok (.ifCond .eq 13, 3) := by decide +kernel
theorem dX5_undo_14 : decode cX5_undo 14 = .ok (.aload_n 0, 1) := by decide +kernel
theorem dX5_undo_15 : decode cX5_undo 15 = .ok (.getfield 42, 3) := by decide +kernel
theorem dX5_undo_18 : decode cX5_undo 18 = .ok (.getfield 145, 3) := by decide +kernel
theorem dX5_undo_21 : decode cX5_undo 21 = .ok (.goto 5, 3) := by decide +kernel
theorem dX5_undo_24 : decode cX5_undo 24 = .ok (.ldc 148, 2) := by decide +kernel
theorem dX5_undo_26 : decode cX5_undo 26 = .ok (.ireturn, 1) := by decide +kernel
theorem dX5_nights_0 : decode cX5_nights 0 = .ok (.aload_n 0, 1) := by decide +kernel
theorem dX5_nights_1 : decode cX5_nights 1 = .ok (.invokevirtual 149, 3) := by decide +kernel
theorem dX5_nights_4 : decode cX5_nights 4 = .ok (.ifCond .eq 6, 3) := by decide +kernel
theorem dX5_nights_7 : decode cX5_nights 7 = .ok (.ldc 148, 2) := by decide +kernel
theorem dX5_nights_9 : decode cX5_nights 9 = .ok (.ireturn, 1) := by decide +kernel
theorem dX5_nights_10 : decode cX5_nights 10 = .ok (.iload_n 1, 1) := by decide +kernel
theorem dX5_nights_11 : decode cX5_nights 11 = .ok (.iconst 1, 1) := by decide +kernel
theorem dX5_nights_12 : decode cX5_nights 12 = .ok (.bipush 24, 2) := by decide +kernel
theorem dX5_nights_14 : decode cX5_nights 14 = .ok (.invokestatic 63, 3) := by decide +kernel
theorem dX5_nights_17 : decode cX5_nights 17 = .ok (.ifCond .ne 6, 3) := by decide +kernel
theorem dX5_nights_20 : decode cX5_nights 20 = .ok (.ldc 67, 2) := by decide +kernel
theorem dX5_nights_22 : decode cX5_nights 22 = .ok (.ireturn, 1) := by decide +kernel
theorem dX5_nights_23 : decode cX5_nights 23 = .ok (.aload_n 0, 1) := by decide +kernel
theorem dX5_nights_24 : decode cX5_nights 24 = .ok (.getfield 25, 3) := by decide +kernel
theorem dX5_nights_27 : decode cX5_nights 27 = .ok (.getfield 152, 3) := by decide +kernel
theorem dX5_nights_30 : decode cX5_nights 30 = .ok (.iload_n 1, 1) := by decide +kernel
theorem dX5_nights_31 : decode cX5_nights 31 = .ok (.iadd, 1) := by decide +kernel
theorem dX5_nights_32 : decode cX5_nights 32 = .ok (.sipush 999, 3) := by decide +kernel
theorem dX5_nights_35 : decode cX5_nights 35 = .ok (.if_icmp .le 6, 3) := by decide +kernel
theorem dX5_nights_38 : decode cX5_nights 38 = .ok (.ldc 118, 2) := by decide +kernel
theorem dX5_nights_40 : decode cX5_nights 40 = .ok (.ireturn, 1) := by decide +kernel
theorem dX5_nights_41 : decode cX5_nights 41 = .ok (.iconst 0, 1) := by decide +kernel
theorem dX5_nights_42 : decode cX5_nights 42 = .ok (.istore_n 2, 1) := by decide +kernel
theorem dX5_nights_43 : decode cX5_nights 43 = .ok (.iload_n 2, 1) := by decide +kernel
theorem dX5_nights_44 : decode cX5_nights 44 = .ok (.iload_n 1, 1) := by decide +kernel
theorem dX5_nights_45 : decode cX5_nights 45 = .ok (.if_icmp .ge 28, 3) := by decide +kernel
theorem dX5_nights_48 : decode cX5_nights 48 = .ok (.aload_n 0, 1) := by decide +kernel
theorem dX5_nights_49 : decode cX5_nights 49 = .ok (.getfield 42, 3) := by decide +kernel
theorem dX5_nights_52 : decode cX5_nights 52 = .ok (.aload_n 0, 1) := by decide +kernel
theorem dX5_nights_53 : decode cX5_nights 53 = .ok (.getfield 25, 3) := by decide +kernel
theorem dX5_nights_56 : decode cX5_nights 56 = .ok (.invokevirtual 155, 3) := by decide +kernel
theorem dX5_nights_59 : decode cX5_nights 59 = .ok (.aload_n 0, 1) := by decide +kernel
theorem dX5_nights_60 : decode cX5_nights 60 = .ok (.getfield 25, 3) := by decide +kernel
theorem dX5_nights_63 : decode cX5_nights 63 = .ok (.invokevirtual 159, 3) := by decide +kernel
theorem dX5_nights_66 : decode cX5_nights 66 = .ok (.pop, 1) := by decide +kernel
theorem dX5_nights_67 : decode cX5_nights 67 = .ok (.iinc 2 1, 3) := by decide +kernel
theorem dX5_nights_70 : decode cX5_nights 70 = .ok (.goto (-27), 3) := by decide +kernel
theorem dX5_nights_73 : decode cX5_nights 73 = .ok (.aload_n 0, 1) := by decide +kernel
theorem dX5_nights_74 : decode cX5_nights 74 = .ok (.getfield 25, 3) := by decide +kernel
theorem dX5_nights_77 : decode cX5_nights 77 = .ok (.iconst 0, 1) := by decide +kernel
theorem dX5_nights_78 : decode cX5_nights 78 = .ok (.invokevirtual 162, 3) := by decide +kernel
theorem dX5_nights_81 : decode cX5_nights 81 = .ok (.ireturn, 1) := by decide +kernel
theorem dX5_cushions_0 : decode cX5_cushions 0 = .ok (.aload_n 0, 1) := by decide +kernel
theorem dX5_cushions_1 : decode cX5_cushions 1 = .ok (.iload_n 1, 1) := by decide +kernel
theorem dX5_cushions_2 : decode cX5_cushions 2 = .ok (.invokevirtual 165, 3) := by decide +kernel
theorem dX5_cushions_5 : decode cX5_cushions 5 = .ok (.ifCond .eq 13, 3) := by decide +kernel
theorem dX5_cushions_8 : decode cX5_cushions 8 = .ok (.iload_n 2, 1) := by decide +kernel
theorem dX5_cushions_9 : decode cX5_cushions 9 = .ok (.iconst 0, 1) := by decide +kernel
theorem dX5_cushions_10 : decode cX5_cushions 10 = .ok (.bipush 20, 2) := by decide +kernel
theorem dX5_cushions_12 : decode cX5_cushions 12 = .ok (.invokestatic 63, 3) := by decide +kernel
theorem dX5_cushions_15 : decode cX5_cushions 15 = .ok (.ifCond .ne 6, 3) := by decide +kernel
theorem dX5_cushions_18 : decode cX5_cushions 18 = .ok (.ldc 67, 2) := by decide +kernel
theorem dX5_cushions_20 : decode cX5_cushions 20 = .ok (.ireturn, 1) := by decide +kernel
theorem dX5_cushions_21 : decode cX5_cushions 21 = .ok (.aload_n 0, 1) := by decide +kernel
theorem dX5_cushions_22 : decode cX5_cushions 22 = .ok (.getfield 42, 3) := by decide +kernel
theorem dX5_cushions_25 : decode cX5_cushions 25 = .ok (.aload_n 0, 1) := by decide +kernel
theorem dX5_cushions_26 : decode cX5_cushions 26 = .ok (.getfield 25, 3) := by decide +kernel
theorem dX5_cushions_29 : decode cX5_cushions 29 = .ok (.invokevirtual 155, 3) := by decide +kernel
theorem dX5_cushions_32 : decode cX5_cushions 32 = .ok (.aload_n 0, 1) := by decide +kernel
theorem dX5_cushions_33 : decode cX5_cushions 33 = .ok (.getfield 25, 3) := by decide +kernel
theorem dX5_cushions_36 : decode cX5_cushions 36 = .ok (.getfield 168, 3) := by decide +kernel
theorem dX5_cushions_39 : decode cX5_cushions 39 = .ok (.iload_n 1, 1) := by decide +kernel
theorem dX5_cushions_40 : decode cX5_cushions 40 = .ok (.iaload, 1) := by decide +kernel
theorem dX5_cushions_41 : decode cX5_cushions 41 = .ok (.istore_n 3, 1) := by decide +kernel
theorem dX5_cushions_42 : decode cX5_cushions 42 = .ok (.aload_n 0, 1) := by decide +kernel
theorem dX5_cushions_43 : decode cX5_cushions 43 = .ok (.getfield 25, 3) := by decide +kernel
theorem dX5_cushions_46 : decode cX5_cushions 46 = .ok (.getfield 168, 3) := by decide +kernel
theorem dX5_cushions_49 : decode cX5_cushions 49 = .ok (.iload_n 1, 1) := by decide +kernel
theorem dX5_cushions_50 : decode cX5_cushions 50 = .ok (.iload_n 2, 1) := by decide +kernel
theorem dX5_cushions_51 : decode cX5_cushions 51 = .ok (.iastore, 1) := by decide +kernel
theorem dX5_cushions_52 : decode cX5_cushions 52 = .ok (.iload_n 3, 1) := by decide +kernel
theorem dX5_cushions_53 : decode cX5_cushions 53 = .ok (.ireturn, 1) := by decide +kernel
theorem dX5_mend_0 : decode cX5_mend 0 = .ok (.aload_n 0, 1) := by decide +kernel
theorem dX5_mend_1 : decode cX5_mend 1 = .ok (.iload_n 1, 1) := by decide +kernel
theorem dX5_mend_2 : decode cX5_mend 2 = .ok (.invokevirtual 165, 3) := by decide +kernel
theorem dX5_mend_5 : decode cX5_mend 5 = .ok (.ifCond .ne 6, 3) := by decide +kernel
theorem dX5_mend_8 : decode cX5_mend 8 = .ok (.ldc 67, 2) := by decide +kernel
theorem dX5_mend_10 : decode cX5_mend 10 = .ok (.ireturn, 1) := by decide +kernel
theorem dX5_mend_11 : decode cX5_mend 11 = .ok (.aload_n 0, 1) := by decide +kernel
theorem dX5_mend_12 : decode cX5_mend 12 = .ok (.getfield 25, 3) := by decide +kernel
theorem dX5_mend_15 : decode cX5_mend 15 = .ok (.getfield 171, 3) := by decide +kernel
theorem dX5_mend_18 : decode cX5_mend 18 = .ok (.iload_n 1, 1) := by decide +kernel
theorem dX5_mend_19 : decode cX5_mend 19 = .ok (.iaload, 1) := by decide +kernel
theorem dX5_mend_20 : decode cX5_mend 20 = .ok (.bipush 60, 2) := by decide +kernel
theorem dX5_mend_22 : decode cX5_mend 22 = .ok (.if_icmp .lt 6, 3) := by decide +kernel
theorem dX5_mend_25 : decode cX5_mend 25 = .ok (.ldc 118, 2) := by decide +kernel
theorem dX5_mend_27 : decode cX5_mend 27 = .ok (.ireturn, 1) := by decide +kernel
theorem dX5_mend_28 : decode cX5_mend 28 = .ok (.aload_n 0, 1) := by decide +kernel
theorem dX5_mend_29 : decode cX5_mend 29 = .ok (.getfield 42, 3) := by decide +kernel
theorem dX5_mend_32 : decode cX5_mend 32 = .ok (.aload_n 0, 1) := by decide +kernel
theorem dX5_mend_33 : decode cX5_mend 33 = .ok (.getfield 25, 3) := by decide +kernel
theorem dX5_mend_36 : decode cX5_mend 36 = .ok (.invokevirtual 155, 3) := by decide +kernel
theorem dX5_mend_39 : decode cX5_mend 39 = .ok (.aload_n 0, 1) := by decide +kernel
theorem dX5_mend_40 : decode cX5_mend 40 = .ok (.getfield 25, 3) := by decide +kernel
theorem dX5_mend_43 : decode cX5_mend 43 = .ok (.iload_n 1, 1) := by decide +kernel
theorem dX5_mend_44 : decode cX5_mend 44 = .ok (.invokevirtual 174, 3) := by decide +kernel
theorem dX5_mend_47 : decode cX5_mend 47 = .ok (.aload_n 0, 1) := by decide +kernel
theorem dX5_mend_48 : decode cX5_mend 48 = .ok (.getfield 25, 3) := by decide +kernel
theorem dX5_mend_51 : decode cX5_mend 51 = .ok (.getfield 171, 3) := by decide +kernel
theorem dX5_mend_54 : decode cX5_mend 54 = .ok (.iload_n 1, 1) := by decide +kernel
theorem dX5_mend_55 : decode cX5_mend 55 = .ok (.iaload, 1) := by decide +kernel
theorem dX5_mend_56 : decode cX5_mend 56 = .ok (.ireturn, 1) := by decide +kernel
theorem dX5_watch_0 : decode cX5_watch 0 = .ok (.aload_n 0, 1) := by decide +kernel
theorem dX5_watch_1 : decode cX5_watch 1 = .ok (.iload_n 1, 1) := by decide +kernel
theorem dX5_watch_2 : decode cX5_watch 2 = .ok (.invokevirtual 165, 3) := by decide +kernel
theorem dX5_watch_5 : decode cX5_watch 5 = .ok (.ifCond .eq 12, 3) := by decide +kernel
theorem dX5_watch_8 : decode cX5_watch 8 = .ok (.iload_n 2, 1) := by decide +kernel
theorem dX5_watch_9 : decode cX5_watch 9 = .ok (.iconst 0, 1) := by decide +kernel
theorem dX5_watch_10 : decode cX5_watch 10 = .ok (.iconst 1, 1) := by decide +kernel
theorem dX5_watch_11 : decode cX5_watch 11 = .ok (.invokestatic 63, 3) := by decide +kernel
theorem dX5_watch_14 : decode cX5_watch 14 = .ok (.ifCond .ne 6, 3) := by decide +kernel
theorem dX5_watch_17 : decode cX5_watch 17 = .ok (.ldc 67, 2) := by decide +kernel
theorem dX5_watch_19 : decode cX5_watch 19 = .ok (.ireturn, 1) := by decide +kernel
theorem dX5_watch_20 : decode cX5_watch 20 = .ok (.aload_n 0, 1) := by decide +kernel
theorem dX5_watch_21 : decode cX5_watch 21 = .ok (.getfield 25, 3) := by decide +kernel
theorem dX5_watch_24 : decode cX5_watch 24 = .ok (.iload_n 1, 1) := by decide +kernel
theorem dX5_watch_25 : decode cX5_watch 25 = .ok (.invokevirtual 178, 3) := by decide +kernel
theorem dX5_watch_28 : decode cX5_watch 28 = .ok (.iload_n 2, 1) := by decide +kernel
theorem dX5_watch_29 : decode cX5_watch 29 = .ok (.iconst 1, 1) := by decide +kernel
theorem dX5_watch_30 : decode cX5_watch 30 = .ok (.if_icmp .ne 7, 3) := by decide +kernel
theorem dX5_watch_33 : decode cX5_watch 33 = .ok (.iconst 1, 1) := by decide +kernel
theorem dX5_watch_34 : decode cX5_watch 34 = .ok (.goto 4, 3) := by decide +kernel
theorem dX5_watch_37 : decode cX5_watch 37 = .ok (.iconst 0, 1) := by decide +kernel
theorem dX5_watch_38 : decode cX5_watch 38 = .ok (.if_icmp .ne 6, 3) := by decide +kernel
theorem dX5_watch_41 : decode cX5_watch 41 = .ok (.ldc 148, 2) := by decide +kernel
theorem dX5_watch_43 : decode cX5_watch 43 = .ok (.ireturn, 1) := by decide +kernel
theorem dX5_watch_44 : decode cX5_watch 44 = .ok (.iload_n 2, 1) := by decide +kernel
theorem dX5_watch_45 : decode cX5_watch 45 = .ok (.iconst 1, 1) := by decide +kernel
theorem dX5_watch_46 : decode cX5_watch 46 = .ok (.if_icmp .ne 26, 3) := by decide +kernel
theorem dX5_watch_49 : decode cX5_watch 49 = .ok (.aload_n 0, 1) := by decide +kernel
theorem dX5_watch_50 : decode cX5_watch 50 = .ok (.getfield 25, 3) := by decide +kernel
theorem dX5_watch_53 : decode cX5_watch 53 = .ok (.getfield 181, 3) := by decide +kernel
theorem dX5_watch_56 : decode cX5_watch 56 = .ok (.invokestatic 184, 3) := by decide +kernel
theorem dX5_watch_59 : decode cX5_watch 59 = .ok (.aload_n 0, 1) := by decide +kernel
theorem dX5_watch_60 : decode cX5_watch 60 = .ok (.getfield 25, 3) := by decide +kernel
theorem dX5_watch_63 : decode cX5_watch 63 = .ok (.getfield 189, 3) := by decide +kernel
theorem dX5_watch_66 : decode cX5_watch 66 = .ok (.if_icmp .lt 6, 3) := by decide +kernel
theorem dX5_watch_69 : decode cX5_watch 69 = .ok (.ldc 118, 2) := by decide +kernel
theorem dX5_watch_71 : decode cX5_watch 71 = .ok (.ireturn, 1) := by decide +kernel
theorem dX5_watch_72 : decode cX5_watch 72 = .ok (.aload_n 0, 1) := by decide +kernel
theorem dX5_watch_73 : decode cX5_watch 73 = .ok (.getfield 42, 3) := by decide +kernel
theorem dX5_watch_76 : decode cX5_watch 76 = .ok (.aload_n 0, 1) := by decide +kernel
theorem dX5_watch_77 : decode cX5_watch 77 = .ok (.getfield 25, 3) := by decide +kernel
theorem dX5_watch_80 : decode cX5_watch 80 = .ok (.invokevirtual 155, 3) := by decide +kernel
theorem dX5_watch_83 : decode cX5_watch 83 = .ok (.aload_n 0, 1) := by decide +kernel
theorem dX5_watch_84 : decode cX5_watch 84 = .ok (.getfield 25, 3) := by decide +kernel
theorem dX5_watch_87 : decode cX5_watch 87 = .ok (.dup, 1) := by decide +kernel
theorem dX5_watch_88 : decode cX5_watch 88 = .ok (.getfield 181, 3) := by decide +kernel
theorem dX5_watch_91 : decode cX5_watch 91 = .ok (.iconst 1, 1) := by decide +kernel
theorem dX5_watch_92 : decode cX5_watch 92 = .ok (.iload_n 1, 1) := by decide +kernel
theorem dX5_watch_93 : decode cX5_watch 93 = .ok (.ishl, 1) := by decide +kernel
theorem dX5_watch_94 : decode cX5_watch 94 = .ok (.ixor, 1) := by decide +kernel
theorem dX5_watch_95 : decode cX5_watch 95 = .ok (.putfield 181, 3) := by decide +kernel
theorem dX5_watch_98 : decode cX5_watch 98 = .ok (.aload_n 0, 1) := by decide +kernel
theorem dX5_watch_99 : decode cX5_watch 99 = .ok (.getfield 25, 3) := by decide +kernel
theorem dX5_watch_102 : decode cX5_watch 102 = .ok (.getfield 181, 3) := by decide +kernel
theorem dX5_watch_105 : decode cX5_watch 105 = .ok (.ireturn, 1) := by decide +kernel
theorem dX5_change_0 : decode cX5_change 0 = .ok (.aload_n 0, 1) := by decide +kernel
theorem dX5_change_1 : decode cX5_change 1 = .ok (.iload_n 1, 1) := by decide +kernel
theorem dX5_change_2 : decode cX5_change 2 = .ok (.invokevirtual 165, 3) := by decide +kernel
theorem dX5_change_5 : decode cX5_change 5 = .ok (.ifCond .eq 16, 3) := by decide +kernel
theorem dX5_change_8 : decode cX5_change 8 = .ok (.aload_n 0, 1) := by decide +kernel
theorem dX5_change_9 : decode cX5_change 9 = .ok (.iload_n 2, 1) := by decide +kernel
theorem dX5_change_10 : decode cX5_change 10 = .ok (.invokevirtual 165, 3) := by decide +kernel
theorem dX5_change_13 : decode cX5_change 13 = .ok (.ifCond .eq 8, 3) := by decide +kernel
theorem dX5_change_16 : decode cX5_change 16 = .ok (.iload_n 1, 1) := by decide +kernel
theorem dX5_change_17 : decode cX5_change 17 = .ok (.iload_n 2, 1) := by decide +kernel
theorem dX5_change_18 : decode cX5_change 18 = .ok (.if_icmp .ne 6, 3) := by decide +kernel
theorem dX5_change_21 : decode cX5_change 21 = .ok (.ldc 67, 2) := by decide +kernel
theorem dX5_change_23 : decode cX5_change 23 = .ok (.ireturn, 1) := by decide +kernel
theorem dX5_change_24 : decode cX5_change 24 = .ok (.aload_n 0, 1) := by decide +kernel
theorem dX5_change_25 : decode cX5_change 25 = .ok (.getfield 42, 3) := by decide +kernel
theorem dX5_change_28 : decode cX5_change 28 = .ok (.aload_n 0, 1) := by decide +kernel
theorem dX5_change_29 : decode cX5_change 29 = .ok (.getfield 25, 3) := by decide +kernel
theorem dX5_change_32 : decode cX5_change 32 = .ok (.invokevirtual 155, 3) := by decide +kernel
theorem dX5_change_35 : decode cX5_change 35 = .ok (.aload_n 0, 1) := by decide +kernel
theorem dX5_change_36 : decode cX5_change 36 = .ok (.getfield 25, 3) := by decide +kernel
theorem dX5_change_39 : decode cX5_change 39 = .ok (.iload_n 1, 1) := by decide +kernel
theorem dX5_change_40 : decode cX5_change 40 = .ok (.iload_n 2, 1) := by decide +kernel
theorem dX5_change_41 : decode cX5_change 41 = .ok (.invokevirtual 192, 3) := by decide +kernel
theorem dX5_change_44 : decode cX5_change 44 = .ok (.aload_n 0, 1) := by decide +kernel
theorem dX5_change_45 : decode cX5_change 45 = .ok (.getfield 25, 3) := by decide +kernel
theorem dX5_change_48 : decode cX5_change 48 = .ok (.iload_n 1, 1) := by decide +kernel
theorem dX5_change_49 : decode cX5_change 49 = .ok (.invokevirtual 195, 3) := by decide +kernel
theorem dX5_change_52 : decode cX5_change 52 = .ok (.ireturn, 1) := by decide +kernel
theorem dX5_saw_0 : decode cX5_saw 0 = .ok (.aload_n 0, 1) := by decide +kernel
theorem dX5_saw_1 : decode cX5_saw 1 = .ok (.iload_n 1, 1) := by decide +kernel
theorem dX5_saw_2 : decode cX5_saw 2 = .ok (.invokevirtual 165, 3) := by decide +kernel
theorem dX5_saw_5 : decode cX5_saw 5 = .ok (.ifCond .eq 13, 3) := by decide +kernel
theorem dX5_saw_8 : decode cX5_saw 8 = .ok (.iload_n 2, 1) := by decide +kernel
theorem dX5_saw_9 : decode cX5_saw 9 = .ok (.iconst 0, 1) := by decide +kernel
theorem dX5_saw_10 : decode cX5_saw 10 = .ok (.bipush 9, 2) := by decide +kernel
theorem dX5_saw_12 : decode cX5_saw 12 = .ok (.invokestatic 63, 3) := by decide +kernel
theorem dX5_saw_15 : decode cX5_saw 15 = .ok (.ifCond .ne 6, 3) := by decide +kernel
theorem dX5_saw_18 : decode cX5_saw 18 = .ok (.ldc 67, 2) := by decide +kernel
theorem dX5_saw_20 : decode cX5_saw 20 = .ok (.ireturn, 1) := by decide +kernel
theorem dX5_saw_21 : decode cX5_saw 21 = .ok (.aload_n 0, 1) := by decide +kernel
theorem dX5_saw_22 : decode cX5_saw 22 = .ok (.getfield 42, 3) := by decide +kernel
theorem dX5_saw_25 : decode cX5_saw 25 = .ok (.aload_n 0, 1) := by decide +kernel
theorem dX5_saw_26 : decode cX5_saw 26 = .ok (.getfield 25, 3) := by decide +kernel
theorem dX5_saw_29 : decode cX5_saw 29 = .ok (.invokevirtual 155, 3) := by decide +kernel
theorem dX5_saw_32 : decode cX5_saw 32 = .ok (.aload_n 0, 1) := by decide +kernel
theorem dX5_saw_33 : decode cX5_saw 33 = .ok (.getfield 25, 3) := by decide +kernel
theorem dX5_saw_36 : decode cX5_saw 36 = .ok (.getfield 198, 3) := by decide +kernel
theorem dX5_saw_39 : decode cX5_saw 39 = .ok (.iload_n 1, 1) := by decide +kernel
theorem dX5_saw_40 : decode cX5_saw 40 = .ok (.iaload, 1) := by decide +kernel
theorem dX5_saw_41 : decode cX5_saw 41 = .ok (.istore_n 3, 1) := by decide +kernel
theorem dX5_saw_42 : decode cX5_saw 42 = .ok (.aload_n 0, 1) := by decide +kernel
theorem dX5_saw_43 : decode cX5_saw 43 = .ok (.getfield 25, 3) := by decide +kernel
theorem dX5_saw_46 : decode cX5_saw 46 = .ok (.getfield 198, 3) := by decide +kernel
theorem dX5_saw_49 : decode cX5_saw 49 = .ok (.iload_n 1, 1) := by decide +kernel
theorem dX5_saw_50 : decode cX5_saw 50 = .ok (.iload_n 2, 1) := by decide +kernel
theorem dX5_saw_51 : decode cX5_saw 51 = .ok (.iastore, 1) := by decide +kernel
theorem dX5_saw_52 : decode cX5_saw 52 = .ok (.iload_n 3, 1) := by decide +kernel
theorem dX5_saw_53 : decode cX5_saw 53 = .ok (.ireturn, 1) := by decide +kernel
theorem dX5_chair_0 : decode cX5_chair 0 = .ok (.aload_n 0, 1) := by decide +kernel
theorem dX5_chair_1 : decode cX5_chair 1 = .ok (.iload_n 1, 1) := by decide +kernel
theorem dX5_chair_2 : decode cX5_chair 2 = .ok (.invokevirtual 165, 3) := by decide +kernel
theorem dX5_chair_5 : decode cX5_chair 5 = .ok (.ifCond .ne 6, 3) := by decide +kernel
theorem dX5_chair_8 : decode cX5_chair 8 = .ok (.ldc 67, 2) := by decide +kernel
theorem dX5_chair_10 : decode cX5_chair 10 = .ok (.ireturn, 1) := by decide +kernel
theorem dX5_chair_11 : decode cX5_chair 11 = .ok (.iload_n 2, 1) := by decide +kernel
theorem dX5_chair_12 : decode cX5_chair 12 = .ok (.tableswitch 146 0 8 #[52, 62, 72, 81, 90, 107, 117, 127, 136], 52) := by decide +kernel
theorem dX5_chair_64 : decode cX5_chair 64 = .ok (.aload_n 0, 1) := by decide +kernel
theorem dX5_chair_65 : decode cX5_chair 65 = .ok (.getfield 25, 3) := by decide +kernel
theorem dX5_chair_68 : decode cX5_chair 68 = .ok (.getfield 171, 3) := by decide +kernel
theorem dX5_chair_71 : decode cX5_chair 71 = .ok (.iload_n 1, 1) := by decide +kernel
theorem dX5_chair_72 : decode cX5_chair 72 = .ok (.iaload, 1) := by decide +kernel
theorem dX5_chair_73 : decode cX5_chair 73 = .ok (.ireturn, 1) := by decide +kernel
theorem dX5_chair_74 : decode cX5_chair 74 = .ok (.aload_n 0, 1) := by decide +kernel
theorem dX5_chair_75 : decode cX5_chair 75 = .ok (.getfield 25, 3) := by decide +kernel
theorem dX5_chair_78 : decode cX5_chair 78 = .ok (.getfield 168, 3) := by decide +kernel
theorem dX5_chair_81 : decode cX5_chair 81 = .ok (.iload_n 1, 1) := by decide +kernel
theorem dX5_chair_82 : decode cX5_chair 82 = .ok (.iaload, 1) := by decide +kernel
theorem dX5_chair_83 : decode cX5_chair 83 = .ok (.ireturn, 1) := by decide +kernel
theorem dX5_chair_84 : decode cX5_chair 84 = .ok (.aload_n 0, 1) := by decide +kernel
theorem dX5_chair_85 : decode cX5_chair 85 = .ok (.getfield 25, 3) := by decide +kernel
theorem dX5_chair_88 : decode cX5_chair 88 = .ok (.iload_n 1, 1) := by decide +kernel
theorem dX5_chair_89 : decode cX5_chair 89 = .ok (.invokevirtual 201, 3) := by decide +kernel
theorem dX5_chair_92 : decode cX5_chair 92 = .ok (.ireturn, 1) := by decide +kernel
theorem dX5_chair_93 : decode cX5_chair 93 = .ok (.aload_n 0, 1) := by decide +kernel
theorem dX5_chair_94 : decode cX5_chair 94 = .ok (.getfield 25, 3) := by decide +kernel
theorem dX5_chair_97 : decode cX5_chair 97 = .ok (.iload_n 1, 1) := by decide +kernel
theorem dX5_chair_98 : decode cX5_chair 98 = .ok (.invokevirtual 204, 3) := by decide +kernel
theorem dX5_chair_101 : decode cX5_chair 101 = .ok (.ireturn, 1) := by decide +kernel
theorem dX5_chair_102 : decode cX5_chair 102 = .ok (.aload_n 0, 1) := by decide +kernel
theorem dX5_chair_103 : decode cX5_chair 103 = .ok (.getfield 25, 3) := by decide +kernel
theorem dX5_chair_106 : decode cX5_chair 106 = .ok (.iload_n 1, 1) := by decide +kernel
theorem dX5_chair_107 : decode cX5_chair 107 = .ok (.invokevirtual 178, 3) := by decide +kernel
theorem dX5_chair_110 : decode cX5_chair 110 = .ok (.ifCond .eq 7, 3) := by decide +kernel
theorem dX5_chair_113 : decode cX5_chair 113 = .ok (.iconst 1, 1) := by decide +kernel
theorem dX5_chair_114 : decode cX5_chair 114 = .ok (.goto 4, 3) := by decide +kernel
theorem dX5_chair_117 : decode cX5_chair 117 = .ok (.iconst 0, 1) := by decide +kernel
theorem dX5_chair_118 : decode cX5_chair 118 = .ok (.ireturn, 1) := by decide +kernel
theorem dX5_chair_119 : decode cX5_chair 119 = .ok (.aload_n 0, 1) := by decide +kernel
theorem dX5_chair_120 : decode cX5_chair 120 = .ok (.getfield 25, 3) := by decide +kernel
theorem dX5_chair_123 : decode cX5_chair 123 = .ok (.getfield 198, 3) := by decide +kernel
theorem dX5_chair_126 : decode cX5_chair 126 = .ok (.iload_n 1, 1) := by decide +kernel
theorem dX5_chair_127 : decode cX5_chair 127 = .ok (.iaload, 1) := by decide +kernel
theorem dX5_chair_128 : decode cX5_chair 128 = .ok (.ireturn, 1) := by decide +kernel
theorem dX5_chair_129 : decode cX5_chair 129 = .ok (.aload_n 0, 1) := by decide +kernel
theorem dX5_chair_130 : decode cX5_chair 130 = .ok (.getfield 25, 3) := by decide +kernel
theorem dX5_chair_133 : decode cX5_chair 133 = .ok (.getfield 207, 3) := by decide +kernel
theorem dX5_chair_136 : decode cX5_chair 136 = .ok (.iload_n 1, 1) := by decide +kernel
theorem dX5_chair_137 : decode cX5_chair 137 = .ok (.iaload, 1) := by decide +kernel
theorem dX5_chair_138 : decode cX5_chair 138 = .ok (.ireturn, 1) := by decide +kernel
theorem dX5_chair_139 : decode cX5_chair 139 = .ok (.aload_n 0, 1) := by decide +kernel
theorem dX5_chair_140 : decode cX5_chair 140 = .ok (.getfield 25, 3) := by decide +kernel
theorem dX5_chair_143 : decode cX5_chair 143 = .ok (.iload_n 1, 1) := by decide +kernel
theorem dX5_chair_144 : decode cX5_chair 144 = .ok (.invokevirtual 195, 3) := by decide +kernel
theorem dX5_chair_147 : decode cX5_chair 147 = .ok (.ireturn, 1) := by decide +kernel
theorem dX5_chair_148 : decode cX5_chair 148 = .ok (.aload_n 0, 1) := by decide +kernel
theorem dX5_chair_149 : decode cX5_chair 149 = .ok (.getfield 25, 3) := by decide +kernel
theorem dX5_chair_152 : decode cX5_chair 152 = .ok (.getfield 210, 3) := by decide +kernel
theorem dX5_chair_155 : decode cX5_chair 155 = .ok (.iload_n 1, 1) := by decide +kernel
theorem dX5_chair_156 : decode cX5_chair 156 = .ok (.iaload, 1) := by decide +kernel
theorem dX5_chair_157 : decode cX5_chair 157 = .ok (.ireturn, 1) := by decide +kernel
theorem dX5_chair_158 : decode cX5_chair 158 = .ok (.ldc 67, 2) := by decide +kernel
theorem dX5_chair_160 : decode cX5_chair 160 = .ok (.ireturn, 1) := by decide +kernel
theorem dX5_ranked_0 : decode cX5_ranked 0 = .ok (.aload_n 0, 1) := by decide +kernel
theorem dX5_ranked_1 : decode cX5_ranked 1 = .ok (.iload_n 1, 1) := by decide +kernel
theorem dX5_ranked_2 : decode cX5_ranked 2 = .ok (.invokevirtual 165, 3) := by decide +kernel
theorem dX5_ranked_5 : decode cX5_ranked 5 = .ok (.ifCond .eq 14, 3) := by decide +kernel
theorem dX5_ranked_8 : decode cX5_ranked 8 = .ok (.aload_n 0, 1) := by decide +kernel
theorem dX5_ranked_9 : decode cX5_ranked 9 = .ok (.getfield 25, 3) := by decide +kernel
theorem dX5_ranked_12 : decode cX5_ranked 12 = .ok (.iload_n 1, 1) := by decide +kernel
theorem dX5_ranked_13 : decode cX5_ranked 13 = .ok (.invokevirtual 162, 3) := by decide +kernel
theorem dX5_ranked_16 : decode cX5_ranked 16 = .ok (.goto 5, 3) := by decide +kernel
theorem dX5_ranked_19 : decode cX5_ranked 19 = .ok (.ldc 67, 2) := by decide +kernel
theorem dX5_ranked_21 : decode cX5_ranked 21 = .ok (.ireturn, 1) := by decide +kernel
theorem dX5_ahead_0 : decode cX5_ahead 0 = .ok (.aload_n 0, 1) := by decide +kernel
theorem dX5_ahead_1 : decode cX5_ahead 1 = .ok (.iload_n 1, 1) := by decide +kernel
theorem dX5_ahead_2 : decode cX5_ahead 2 = .ok (.invokevirtual 165, 3) := by decide +kernel
theorem dX5_ahead_5 : decode cX5_ahead 5 = .ok (.ifCond .eq 22, 3) := by decide +kernel
theorem dX5_ahead_8 : decode cX5_ahead 8 = .ok (.iload_n 2, 1) := by decide +kernel
theorem dX5_ahead_9 : decode cX5_ahead 9 = .ok (.iconst 0, 1) := by decide +kernel
theorem dX5_ahead_10 : decode cX5_ahead 10 = .ok (.bipush 60, 2) := by decide +kernel
theorem dX5_ahead_12 : decode cX5_ahead 12 = .ok (.invokestatic 63, 3) := by decide +kernel
theorem dX5_ahead_15 : decode cX5_ahead 15 = .ok (.ifCond .eq 12, 3) := by decide +kernel
theorem dX5_ahead_18 : decode cX5_ahead 18 = .ok (.iload_n 3, 1) := by decide +kernel
theorem dX5_ahead_19 : decode cX5_ahead 19 = .ok (.iconst 0, 1) := by decide +kernel
theorem dX5_ahead_20 : decode cX5_ahead 20 = .ok (.iconst 2, 1) := by decide +kernel
theorem dX5_ahead_21 : decode cX5_ahead 21 = .ok (.invokestatic 63, 3) := by decide +kernel
theorem dX5_ahead_24 : decode cX5_ahead 24 = .ok (.ifCond .ne 6, 3) := by decide +kernel
theorem dX5_ahead_27 : decode cX5_ahead 27 = .ok (.ldc 67, 2) := by decide +kernel
theorem dX5_ahead_29 : decode cX5_ahead 29 = .ok (.ireturn, 1) := by decide +kernel
theorem dX5_ahead_30 : decode cX5_ahead 30 = .ok (.aload_n 0, 1) := by decide +kernel
theorem dX5_ahead_31 : decode cX5_ahead 31 = .ok (.invokevirtual 213, 3) := by decide +kernel
theorem dX5_ahead_34 : decode cX5_ahead 34 = .ok (.aload_n 0, 1) := by decide +kernel
theorem dX5_ahead_35 : decode cX5_ahead 35 = .ok (.getfield 29, 3) := by decide +kernel
theorem dX5_ahead_38 : decode cX5_ahead 38 = .ok (.iload_n 2, 1) := by decide +kernel
theorem dX5_ahead_39 : decode cX5_ahead 39 = .ok (.invokevirtual 216, 3) := by decide +kernel
theorem dX5_ahead_42 : decode cX5_ahead 42 = .ok (.iload_n 3, 1) := by decide +kernel
theorem dX5_ahead_43 : decode cX5_ahead 43 = .ok (.ifCond .ne 12, 3) := by decide +kernel
theorem dX5_ahead_46 : decode cX5_ahead 46 = .ok (.aload_n 0, 1) := by decide +kernel
theorem dX5_ahead_47 : decode cX5_ahead 47 = .ok (.getfield 29, 3) := by decide +kernel
theorem dX5_ahead_50 : decode cX5_ahead 50 = .ok (.iload_n 1, 1) := by decide +kernel
theorem dX5_ahead_51 : decode cX5_ahead 51 = .ok (.invokevirtual 201, 3) := by decide +kernel
theorem dX5_ahead_54 : decode cX5_ahead 54 = .ok (.ireturn, 1) := by decide +kernel
theorem dX5_ahead_55 : decode cX5_ahead 55 = .ok (.iload_n 3, 1) := by decide +kernel
theorem dX5_ahead_56 : decode cX5_ahead 56 = .ok (.iconst 1, 1) := by decide +kernel
theorem dX5_ahead_57 : decode cX5_ahead 57 = .ok (.if_icmp .ne 14, 3) := by decide +kernel
theorem dX5_ahead_60 : decode cX5_ahead 60 = .ok (.aload_n 0, 1) := by decide +kernel
theorem dX5_ahead_61 : decode cX5_ahead 61 = .ok (.getfield 29, 3) := by decide +kernel
theorem dX5_ahead_64 : decode cX5_ahead 64 = .ok (.iload_n 1, 1) := by decide +kernel
theorem dX5_ahead_65 : decode cX5_ahead 65 = .ok (.invokevirtual 204, 3) := by decide +kernel
theorem dX5_ahead_68 : decode cX5_ahead 68 = .ok (.goto 12, 3) := by decide +kernel
theorem dX5_ahead_71 : decode cX5_ahead 71 = .ok (.aload_n 0, 1) := by decide +kernel
theorem dX5_ahead_72 : decode cX5_ahead 72 = .ok (.getfield 29, 3) := by decide +kernel
theorem dX5_ahead_75 : decode cX5_ahead 75 = .ok (.getfield 171, 3) := by decide +kernel
theorem dX5_ahead_78 : decode cX5_ahead 78 = .ok (.iload_n 1, 1) := by decide +kernel
theorem dX5_ahead_79 : decode cX5_ahead 79 = .ok (.iaload, 1) := by decide +kernel
theorem dX5_ahead_80 : decode cX5_ahead 80 = .ok (.ireturn, 1) := by decide +kernel
theorem dX5_minister_0 : decode cX5_minister 0 = .ok (.aload_n 0, 1) := by decide +kernel
theorem dX5_minister_1 : decode cX5_minister 1 = .ok (.invokevirtual 149, 3) := by decide +kernel
theorem dX5_minister_4 : decode cX5_minister 4 = .ok (.ifCond .eq 6, 3) := by decide +kernel
theorem dX5_minister_7 : decode cX5_minister 7 = .ok (.ldc 148, 2) := by decide +kernel
theorem dX5_minister_9 : decode cX5_minister 9 = .ok (.ireturn, 1) := by decide +kernel
theorem dX5_minister_10 : decode cX5_minister 10 = .ok (.iload_n 1, 1) := by decide +kernel
theorem dX5_minister_11 : decode cX5_minister 11 = .ok (.iconst 0, 1) := by decide +kernel
theorem dX5_minister_12 : decode cX5_minister 12 = .ok (.bipush 60, 2) := by decide +kernel
theorem dX5_minister_14 : decode cX5_minister 14 = .ok (.invokestatic 63, 3) := by decide +kernel
theorem dX5_minister_17 : decode cX5_minister 17 = .ok (.ifCond .ne 6, 3) := by decide +kernel
theorem dX5_minister_20 : decode cX5_minister 20 = .ok (.ldc 67, 2) := by decide +kernel
theorem dX5_minister_22 : decode cX5_minister 22 = .ok (.ireturn, 1) := by decide +kernel
theorem dX5_minister_23 : decode cX5_minister 23 = .ok (.aload_n 0, 1) := by decide +kernel
theorem dX5_minister_24 : decode cX5_minister 24 = .ok (.invokevirtual 213, 3) := by decide +kernel
theorem dX5_minister_27 : decode cX5_minister 27 = .ok (.aload_n 0, 1) := by decide +kernel
theorem dX5_minister_28 : decode cX5_minister 28 = .ok (.getfield 29, 3) := by decide +kernel
theorem dX5_minister_31 : decode cX5_minister 31 = .ok (.iload_n 1, 1) := by decide +kernel
theorem dX5_minister_32 : decode cX5_minister 32 = .ok (.invokevirtual 216, 3) := by decide +kernel
theorem dX5_minister_35 : decode cX5_minister 35 = .ok (.aload_n 0, 1) := by decide +kernel
theorem dX5_minister_36 : decode cX5_minister 36 = .ok (.getfield 29, 3) := by decide +kernel
theorem dX5_minister_39 : decode cX5_minister 39 = .ok (.iconst 0, 1) := by decide +kernel
theorem dX5_minister_40 : decode cX5_minister 40 = .ok (.invokevirtual 162, 3) := by decide +kernel
theorem dX5_minister_43 : decode cX5_minister 43 = .ok (.ireturn, 1) := by decide +kernel
theorem dX5_floor_0 : decode cX5_floor 0 = .ok (.aload_n 0, 1) := by decide +kernel
theorem dX5_floor_1 : decode cX5_floor 1 = .ok (.iload_n 1, 1) := by decide +kernel
theorem dX5_floor_2 : decode cX5_floor 2 = .ok (.invokevirtual 165, 3) := by decide +kernel
theorem dX5_floor_5 : decode cX5_floor 5 = .ok (.ifCond .ne 6, 3) := by decide +kernel
theorem dX5_floor_8 : decode cX5_floor 8 = .ok (.ldc 67, 2) := by decide +kernel
theorem dX5_floor_10 : decode cX5_floor 10 = .ok (.ireturn, 1) := by decide +kernel
theorem dX5_floor_11 : decode cX5_floor 11 = .ok (.aload_n 0, 1) := by decide +kernel
theorem dX5_floor_12 : decode cX5_floor 12 = .ok (.invokevirtual 213, 3) := by decide +kernel
theorem dX5_floor_15 : decode cX5_floor 15 = .ok (.iconst 0, 1) := by decide +kernel
theorem dX5_floor_16 : decode cX5_floor 16 = .ok (.istore_n 2, 1) := by decide +kernel
theorem dX5_floor_17 : decode cX5_floor 17 = .ok (.iload_n 2, 1) := by decide +kernel
theorem dX5_floor_18 : decode cX5_floor 18 = .ok (.bipush 60, 2) := by decide +kernel
theorem dX5_floor_20 : decode cX5_floor 20 = .ok (.if_icmp .gt 36, 3) := by decide +kernel
theorem dX5_floor_23 : decode cX5_floor 23 = .ok (.aload_n 0, 1) := by decide +kernel
theorem dX5_floor_24 : decode cX5_floor 24 = .ok (.getfield 29, 3) := by decide +kernel
theorem dX5_floor_27 : decode cX5_floor 27 = .ok (.getfield 171, 3) := by decide +kernel
theorem dX5_floor_30 : decode cX5_floor 30 = .ok (.iload_n 1, 1) := by decide +kernel
theorem dX5_floor_31 : decode cX5_floor 31 = .ok (.iaload, 1) := by decide +kernel
theorem dX5_floor_32 : decode cX5_floor 32 = .ok (.ifCond .ne 5, 3) := by decide +kernel
theorem dX5_floor_35 : decode cX5_floor 35 = .ok (.iload_n 2, 1) := by decide +kernel
theorem dX5_floor_36 : decode cX5_floor 36 = .ok (.ireturn, 1) := by decide +kernel
theorem dX5_floor_37 : decode cX5_floor 37 = .ok (.aload_n 0, 1) := by decide +kernel
theorem dX5_floor_38 : decode cX5_floor 38 = .ok (.getfield 29, 3) := by decide +kernel
theorem dX5_floor_41 : decode cX5_floor 41 = .ok (.invokevirtual 159, 3) := by decide +kernel
theorem dX5_floor_44 : decode cX5_floor 44 = .ok (.ifCond .ne 6, 3) := by decide +kernel
theorem dX5_floor_47 : decode cX5_floor 47 = .ok (.ldc 219, 2) := by decide +kernel
theorem dX5_floor_49 : decode cX5_floor 49 = .ok (.ireturn, 1) := by decide +kernel
theorem dX5_floor_50 : decode cX5_floor 50 = .ok (.iinc 2 1, 3) := by decide +kernel
theorem dX5_floor_53 : decode cX5_floor 53 = .ok (.goto (-36), 3) := by decide +kernel
theorem dX5_floor_56 : decode cX5_floor 56 = .ok (.ldc 219, 2) := by decide +kernel
theorem dX5_floor_58 : decode cX5_floor 58 = .ok (.ireturn, 1) := by decide +kernel
theorem dX5_rises_0 : decode cX5_rises 0 = .ok (.aload_n 0, 1) := by decide +kernel
theorem dX5_rises_1 : decode cX5_rises 1 = .ok (.iload_n 1, 1) := by decide +kernel
theorem dX5_rises_2 : decode cX5_rises 2 = .ok (.invokevirtual 165, 3) := by decide +kernel
theorem dX5_rises_5 : decode cX5_rises 5 = .ok (.ifCond .eq 12, 3) := by decide +kernel
theorem dX5_rises_8 : decode cX5_rises 8 = .ok (.iload_n 2, 1) := by decide +kernel
theorem dX5_rises_9 : decode cX5_rises 9 = .ok (.iconst 0, 1) := by decide +kernel
theorem dX5_rises_10 : decode cX5_rises 10 = .ok (.iconst 5, 1) := by decide +kernel
theorem dX5_rises_11 : decode cX5_rises 11 = .ok (.invokestatic 63, 3) := by decide +kernel
theorem dX5_rises_14 : decode cX5_rises 14 = .ok (.ifCond .ne 6, 3) := by decide +kernel
theorem dX5_rises_17 : decode cX5_rises 17 = .ok (.ldc 67, 2) := by decide +kernel
theorem dX5_rises_19 : decode cX5_rises 19 = .ok (.ireturn, 1) := by decide +kernel
theorem dX5_rises_20 : decode cX5_rises 20 = .ok (.aload_n 0, 1) := by decide +kernel
theorem dX5_rises_21 : decode cX5_rises 21 = .ok (.invokevirtual 213, 3) := by decide +kernel
theorem dX5_rises_24 : decode cX5_rises 24 = .ok (.iconst 0, 1) := by decide +kernel
theorem dX5_rises_25 : decode cX5_rises 25 = .ok (.istore_n 3, 1) := by decide +kernel
theorem dX5_rises_26 : decode cX5_rises 26 = .ok (.iload_n 3, 1) := by decide +kernel
theorem dX5_rises_27 : decode cX5_rises 27 = .ok (.bipush 60, 2) := by decide +kernel
theorem dX5_rises_29 : decode cX5_rises 29 = .ok (.if_icmp .gt 36, 3) := by decide +kernel
theorem dX5_rises_32 : decode cX5_rises 32 = .ok (.aload_n 0, 1) := by decide +kernel
theorem dX5_rises_33 : decode cX5_rises 33 = .ok (.getfield 29, 3) := by decide +kernel
theorem dX5_rises_36 : decode cX5_rises 36 = .ok (.iload_n 1, 1) := by decide +kernel
theorem dX5_rises_37 : decode cX5_rises 37 = .ok (.invokevirtual 204, 3) := by decide +kernel
theorem dX5_rises_40 : decode cX5_rises 40 = .ok (.iload_n 2, 1) := by decide +kernel
theorem dX5_rises_41 : decode cX5_rises 41 = .ok (.if_icmp .gt 5, 3) := by decide +kernel
theorem dX5_rises_44 : decode cX5_rises 44 = .ok (.iload_n 3, 1) := by decide +kernel
theorem dX5_rises_45 : decode cX5_rises 45 = .ok (.ireturn, 1) := by decide +kernel
theorem dX5_rises_46 : decode cX5_rises 46 = .ok (.aload_n 0, 1) := by decide +kernel
theorem dX5_rises_47 : decode cX5_rises 47 = .ok (.getfield 29, 3) := by decide +kernel
theorem dX5_rises_50 : decode cX5_rises 50 = .ok (.invokevirtual 159, 3) := by decide +kernel
theorem dX5_rises_53 : decode cX5_rises 53 = .ok (.ifCond .ne 6, 3) := by decide +kernel
theorem dX5_rises_56 : decode cX5_rises 56 = .ok (.ldc 219, 2) := by decide +kernel
theorem dX5_rises_58 : decode cX5_rises 58 = .ok (.ireturn, 1) := by decide +kernel
theorem dX5_rises_59 : decode cX5_rises 59 = .ok (.iinc 3 1, 3) := by decide +kernel
theorem dX5_rises_62 : decode cX5_rises 62 = .ok (.goto (-36), 3) := by decide +kernel
theorem dX5_rises_65 : decode cX5_rises 65 = .ok (.ldc 219, 2) := by decide +kernel
theorem dX5_rises_67 : decode cX5_rises 67 = .ok (.ireturn, 1) := by decide +kernel
theorem dX5_calm_0 : decode cX5_calm 0 = .ok (.aload_n 0, 1) := by decide +kernel
theorem dX5_calm_1 : decode cX5_calm 1 = .ok (.invokevirtual 149, 3) := by decide +kernel
theorem dX5_calm_4 : decode cX5_calm 4 = .ok (.ifCond .eq 6, 3) := by decide +kernel
theorem dX5_calm_7 : decode cX5_calm 7 = .ok (.ldc 148, 2) := by decide +kernel
theorem dX5_calm_9 : decode cX5_calm 9 = .ok (.ireturn, 1) := by decide +kernel
theorem dX5_calm_10 : decode cX5_calm 10 = .ok (.aload_n 0, 1) := by decide +kernel
theorem dX5_calm_11 : decode cX5_calm 11 = .ok (.invokevirtual 213, 3) := by decide +kernel
theorem dX5_calm_14 : decode cX5_calm 14 = .ok (.iconst 0, 1) := by decide +kernel
theorem dX5_calm_15 : decode cX5_calm 15 = .ok (.istore_n 1, 1) := by decide +kernel
theorem dX5_calm_16 : decode cX5_calm 16 = .ok (.iload_n 1, 1) := by decide +kernel
theorem dX5_calm_17 : decode cX5_calm 17 = .ok (.bipush 60, 2) := by decide +kernel
theorem dX5_calm_19 : decode cX5_calm 19 = .ok (.if_icmp .gt 21, 3) := by decide +kernel
theorem dX5_calm_22 : decode cX5_calm 22 = .ok (.aload_n 0, 1) := by decide +kernel
theorem dX5_calm_23 : decode cX5_calm 23 = .ok (.getfield 29, 3) := by decide +kernel
theorem dX5_calm_26 : decode cX5_calm 26 = .ok (.invokevirtual 159, 3) := by decide +kernel
theorem dX5_calm_29 : decode cX5_calm 29 = .ok (.ifCond .ne 5, 3) := by decide +kernel
theorem dX5_calm_32 : decode cX5_calm 32 = .ok (.iload_n 1, 1) := by decide +kernel
theorem dX5_calm_33 : decode cX5_calm 33 = .ok (.ireturn, 1) := by decide +kernel
theorem dX5_calm_34 : decode cX5_calm 34 = .ok (.iinc 1 1, 3) := by decide +kernel
theorem dX5_calm_37 : decode cX5_calm 37 = .ok (.goto (-21), 3) := by decide +kernel
theorem dX5_calm_40 : decode cX5_calm 40 = .ok (.ldc 219, 2) := by decide +kernel
theorem dX5_calm_42 : decode cX5_calm 42 = .ok (.ireturn, 1) := by decide +kernel
theorem dX5_cushionFor_0 : decode cX5_cushionFor 0 = .ok (.aload_n 0, 1) := by decide +kernel
theorem dX5_cushionFor_1 : decode cX5_cushionFor 1 = .ok (.iload_n 1, 1) := by decide +kernel
theorem dX5_cushionFor_2 : decode cX5_cushionFor 2 = .ok (.invokevirtual 165, 3) := by decide +kernel
theorem dX5_cushionFor_5 : decode cX5_cushionFor 5 = .ok (.ifCond .eq 22, 3) := by decide +kernel
theorem dX5_cushionFor_8 : decode cX5_cushionFor 8 = .ok (.iload_n 2, 1) := by decide +kernel
theorem dX5_cushionFor_9 : decode cX5_cushionFor 9 = .ok (.iconst 0, 1) := by decide +kernel
theorem dX5_cushionFor_10 : decode cX5_cushionFor 10 = .ok (.iconst 5, 1) := by decide +kernel
theorem dX5_cushionFor_11 : decode cX5_cushionFor 11 = .ok (.invokestatic 63, 3) := by decide +kernel
theorem dX5_cushionFor_14 : decode cX5_cushionFor 14 = .ok (.ifCond .eq 13, 3) := by decide +kernel
theorem dX5_cushionFor_17 : decode cX5_cushionFor 17 = .ok (.iload_n 3, 1) := by decide +kernel
theorem dX5_cushionFor_18 : decode cX5_cushionFor 18 = .ok (.iconst 0, 1) := by decide +kernel
theorem dX5_cushionFor_19 : decode cX5_cushionFor 19 = .ok (.bipush 30, 2) := by decide +kernel
theorem dX5_cushionFor_21 : decode cX5_cushionFor 21 = .ok (.invokestatic 63, 3) := by decide +kernel
theorem dX5_cushionFor_24 : decode cX5_cushionFor 24 = .ok (.ifCond .ne 6, 3) := by decide +kernel
theorem dX5_cushionFor_27 : decode cX5_cushionFor 27 = .ok (.ldc 67, 2) := by decide +kernel
theorem dX5_cushionFor_29 : decode cX5_cushionFor 29 = .ok (.ireturn, 1) := by decide +kernel
theorem dX5_cushionFor_30 : decode cX5_cushionFor 30 = .ok (.iconst 0, 1) := by decide +kernel
theorem dX5_cushionFor_31 : decode cX5_cushionFor 31 = .ok (.istore 4, 2) := by decide +kernel
theorem dX5_cushionFor_33 : decode cX5_cushionFor 33 = .ok (.iload 4, 2) := by decide +kernel
theorem dX5_cushionFor_35 : decode cX5_cushionFor 35 = .ok (.bipush 20, 2) := by decide +kernel
theorem dX5_cushionFor_37 : decode cX5_cushionFor 37 = .ok (.if_icmp .gt 47, 3) := by decide +kernel
theorem dX5_cushionFor_40 : decode cX5_cushionFor 40 = .ok (.aload_n 0, 1) := by decide +kernel
theorem dX5_cushionFor_41 : decode cX5_cushionFor 41 = .ok (.invokevirtual 213, 3) := by decide +kernel
theorem dX5_cushionFor_44 : decode cX5_cushionFor 44 = .ok (.aload_n 0, 1) := by decide +kernel
theorem dX5_cushionFor_45 : decode cX5_cushionFor 45 = .ok (.getfield 29, 3) := by decide +kernel
theorem dX5_cushionFor_48 : decode cX5_cushionFor 48 = .ok (.getfield 168, 3) := by decide +kernel
theorem dX5_cushionFor_51 : decode cX5_cushionFor 51 = .ok (.iload_n 1, 1) := by decide +kernel
theorem dX5_cushionFor_52 : decode cX5_cushionFor 52 = .ok (.iload 4, 2) := by decide +kernel
theorem dX5_cushionFor_54 : decode cX5_cushionFor 54 = .ok (.iastore, 1) := by decide +kernel
theorem dX5_cushionFor_55 : decode cX5_cushionFor 55 = .ok (.aload_n 0, 1) := by decide +kernel
theorem dX5_cushionFor_56 : decode cX5_cushionFor 56 = .ok (.getfield 29, 3) := by decide +kernel
theorem dX5_cushionFor_59 : decode cX5_cushionFor 59 = .ok (.iload_n 3, 1) := by decide +kernel
theorem dX5_cushionFor_60 : decode cX5_cushionFor 60 = .ok (.invokevirtual 216, 3) := by decide +kernel
theorem dX5_cushionFor_63 : decode cX5_cushionFor 63 = .ok (.aload_n 0, 1) := by decide +kernel
theorem dX5_cushionFor_64 : decode cX5_cushionFor 64 = .ok (.getfield 29, 3) := by decide +kernel
theorem dX5_cushionFor_67 : decode cX5_cushionFor 67 = .ok (.iload_n 1, 1) := by decide +kernel
theorem dX5_cushionFor_68 : decode cX5_cushionFor 68 = .ok (.invokevirtual 204, 3) := by decide +kernel
theorem dX5_cushionFor_71 : decode cX5_cushionFor 71 = .ok (.iload_n 2, 1) := by decide +kernel
theorem dX5_cushionFor_72 : decode cX5_cushionFor 72 = .ok (.if_icmp .gt 6, 3) := by decide +kernel
theorem dX5_cushionFor_75 : decode cX5_cushionFor 75 = .ok (.iload 4, 2) := by decide +kernel
theorem dX5_cushionFor_77 : decode cX5_cushionFor 77 = .ok (.ireturn, 1) := by decide +kernel
theorem dX5_cushionFor_78 : decode cX5_cushionFor 78 = .ok (.iinc 4 1, 3) := by decide +kernel
theorem dX5_cushionFor_81 : decode cX5_cushionFor 81 = .ok (.goto (-48), 3) := by decide +kernel
theorem dX5_cushionFor_84 : decode cX5_cushionFor 84 = .ok (.ldc 219, 2) := by decide +kernel
theorem dX5_cushionFor_86 : decode cX5_cushionFor 86 = .ok (.ireturn, 1) := by decide +kernel
theorem dX5_guard_0 : decode cX5_guard 0 = .ok (.aload_n 0, 1) := by decide +kernel
theorem dX5_guard_1 : decode cX5_guard 1 = .ok (.iload_n 1, 1) := by decide +kernel
theorem dX5_guard_2 : decode cX5_guard 2 = .ok (.invokevirtual 165, 3) := by decide +kernel
theorem dX5_guard_5 : decode cX5_guard 5 = .ok (.ifCond .eq 32, 3) := by decide +kernel
theorem dX5_guard_8 : decode cX5_guard 8 = .ok (.iload_n 2, 1) := by decide +kernel
theorem dX5_guard_9 : decode cX5_guard 9 = .ok (.iconst 0, 1) := by decide +kernel
theorem dX5_guard_10 : decode cX5_guard 10 = .ok (.iconst 5, 1) := by decide +kernel
theorem dX5_guard_11 : decode cX5_guard 11 = .ok (.invokestatic 63, 3) := by decide +kernel
theorem dX5_guard_14 : decode cX5_guard 14 = .ok (.ifCond .eq 23, 3) := by decide +kernel
theorem dX5_guard_17 : decode cX5_guard 17 = .ok (.iload_n 3, 1) := by decide +kernel
theorem dX5_guard_18 : decode cX5_guard 18 = .ok (.iconst 0, 1) := by decide +kernel
theorem dX5_guard_19 : decode cX5_guard 19 = .ok (.bipush 30, 2) := by decide +kernel
theorem dX5_guard_21 : decode cX5_guard 21 = .ok (.invokestatic 63, 3) := by decide +kernel
theorem dX5_guard_24 : decode cX5_guard 24 = .ok (.ifCond .eq 13, 3) := by decide +kernel
theorem dX5_guard_27 : decode cX5_guard 27 = .ok (.iload 4, 2) := by decide +kernel
theorem dX5_guard_29 : decode cX5_guard 29 = .ok (.iconst 0, 1) := by decide +kernel
theorem dX5_guard_30 : decode cX5_guard 30 = .ok (.iconst 1, 1) := by decide +kernel
theorem dX5_guard_31 : decode cX5_guard 31 = .ok (.invokestatic 63, 3) := by decide +kernel
theorem dX5_guard_34 : decode cX5_guard 34 = .ok (.ifCond .ne 6, 3) := by decide +kernel
theorem dX5_guard_37 : decode cX5_guard 37 = .ok (.ldc 67, 2) := by decide +kernel
theorem dX5_guard_39 : decode cX5_guard 39 = .ok (.ireturn, 1) := by decide +kernel
theorem dX5_guard_40 : decode cX5_guard 40 = .ok (.aload_n 0, 1) := by decide +kernel
theorem dX5_guard_41 : decode cX5_guard 41 = .ok (.iload_n 1, 1) := by decide +kernel
theorem dX5_guard_42 : decode cX5_guard 42 = .ok (.iload_n 2, 1) := by decide +kernel
theorem dX5_guard_43 : decode cX5_guard 43 = .ok (.iload_n 3, 1) := by decide +kernel
theorem dX5_guard_44 : decode cX5_guard 44 = .ok (.invokevirtual 220, 3) := by decide +kernel
theorem dX5_guard_47 : decode cX5_guard 47 = .ok (.istore 5, 2) := by decide +kernel
theorem dX5_guard_49 : decode cX5_guard 49 = .ok (.iload 5, 2) := by decide +kernel
theorem dX5_guard_51 : decode cX5_guard 51 = .ok (.ldc 219, 2) := by decide +kernel
theorem dX5_guard_53 : decode cX5_guard 53 = .ok (.if_icmp .eq 9, 3) := by decide +kernel
theorem dX5_guard_56 : decode cX5_guard 56 = .ok (.iload 4, 2) := by decide +kernel
theorem dX5_guard_58 : decode cX5_guard 58 = .ok (.iconst 1, 1) := by decide +kernel
theorem dX5_guard_59 : decode cX5_guard 59 = .ok (.if_icmp .ne 8, 3) := by decide +kernel
theorem dX5_guard_62 : decode cX5_guard 62 = .ok (.iload 5, 2) := by decide +kernel
theorem dX5_guard_64 : decode cX5_guard 64 = .ok (.goto 8, 3) := by decide +kernel
theorem dX5_guard_67 : decode cX5_guard 67 = .ok (.iload 5, 2) := by decide +kernel
theorem dX5_guard_69 : decode cX5_guard 69 = .ok (.invokestatic 184, 3) := by decide +kernel
theorem dX5_guard_72 : decode cX5_guard 72 = .ok (.ireturn, 1) := by decide +kernel
theorem dX5_bestWatch_0 : decode cX5_bestWatch 0 = .ok (.aload_n 0, 1) := by decide +kernel
theorem dX5_bestWatch_1 : decode cX5_bestWatch 1 = .ok (.invokevirtual 149, 3) := by decide +kernel
theorem dX5_bestWatch_4 : decode cX5_bestWatch 4 = .ok (.ifCond .eq 6, 3) := by decide +kernel
theorem dX5_bestWatch_7 : decode cX5_bestWatch 7 = .ok (.ldc 148, 2) := by decide +kernel
theorem dX5_bestWatch_9 : decode cX5_bestWatch 9 = .ok (.ireturn, 1) := by decide +kernel
theorem dX5_bestWatch_10 : decode cX5_bestWatch 10 = .ok (.iload_n 1, 1) := by decide +kernel
theorem dX5_bestWatch_11 : decode cX5_bestWatch 11 = .ok (.iconst 1, 1) := by decide +kernel
theorem dX5_bestWatch_12 : decode cX5_bestWatch 12 = .ok (.bipush 30, 2) := by decide +kernel
theorem dX5_bestWatch_14 : decode cX5_bestWatch 14 = .ok (.invokestatic 63, 3) := by decide +kernel
theorem dX5_bestWatch_17 : decode cX5_bestWatch 17 = .ok (.ifCond .eq 12, 3) := by decide +kernel
theorem dX5_bestWatch_20 : decode cX5_bestWatch 20 = .ok (.iload_n 2, 1) := by decide +kernel
theorem dX5_bestWatch_21 : decode cX5_bestWatch 21 = .ok (.iconst 0, 1) := by decide +kernel
theorem dX5_bestWatch_22 : decode cX5_bestWatch 22 = .ok (.iconst 1, 1) := by decide +kernel
theorem dX5_bestWatch_23 : decode cX5_bestWatch 23 = .ok (.invokestatic 63, 3) := by decide +kernel
theorem dX5_bestWatch_26 : decode cX5_bestWatch 26 = .ok (.ifCond .ne 6, 3) := by decide +kernel
theorem dX5_bestWatch_29 : decode cX5_bestWatch 29 = .ok (.ldc 67, 2) := by decide +kernel
theorem dX5_bestWatch_31 : decode cX5_bestWatch 31 = .ok (.ireturn, 1) := by decide +kernel
theorem dX5_bestWatch_32 : decode cX5_bestWatch 32 = .ok (.iconst (-1), 1) := by decide +kernel
theorem dX5_bestWatch_33 : decode cX5_bestWatch 33 = .ok (.istore_n 3, 1) := by decide +kernel
theorem dX5_bestWatch_34 : decode cX5_bestWatch 34 = .ok (.ldc 219, 2) := by decide +kernel
theorem dX5_bestWatch_36 : decode cX5_bestWatch 36 = .ok (.istore 4, 2) := by decide +kernel
theorem dX5_bestWatch_38 : decode cX5_bestWatch 38 = .ok (.iconst 0, 1) := by decide +kernel
theorem dX5_bestWatch_39 : decode cX5_bestWatch 39 = .ok (.istore 5, 2) := by decide +kernel
theorem dX5_bestWatch_41 : decode cX5_bestWatch 41 = .ok (.iload 5, 2) := by decide +kernel
theorem dX5_bestWatch_43 : decode cX5_bestWatch 43 = .ok (.aload_n 0, 1) := by decide +kernel
theorem dX5_bestWatch_44 : decode cX5_bestWatch 44 = .ok (.getfield 25, 3) := by decide +kernel
theorem dX5_bestWatch_47 : decode cX5_bestWatch 47 = .ok (.getfield 140, 3) := by decide +kernel
theorem dX5_bestWatch_50 : decode cX5_bestWatch 50 = .ok (.if_icmp .ge 40, 3) := by decide +kernel
theorem dX5_bestWatch_53 : decode cX5_bestWatch 53 = .ok (.aload_n 0, 1) := by decide +kernel
theorem dX5_bestWatch_54 : decode cX5_bestWatch 54 = .ok (.iload_n 1, 1) := by decide +kernel
theorem dX5_bestWatch_55 : decode cX5_bestWatch 55 = .ok (.iconst 1, 1) := by decide +kernel
theorem dX5_bestWatch_56 : decode cX5_bestWatch 56 = .ok (.iload 5, 2) := by decide +kernel
theorem dX5_bestWatch_58 : decode cX5_bestWatch 58 = .ok (.ishl, 1) := by decide +kernel
theorem dX5_bestWatch_59 : decode cX5_bestWatch 59 = .ok (.invokevirtual 223, 3) := by decide +kernel
theorem dX5_bestWatch_62 : decode cX5_bestWatch 62 = .ok (.aload_n 0, 1) := by decide +kernel
theorem dX5_bestWatch_63 : decode cX5_bestWatch 63 = .ok (.getfield 29, 3) := by decide +kernel
theorem dX5_bestWatch_66 : decode cX5_bestWatch 66 = .ok (.invokevirtual 226, 3) := by decide +kernel
theorem dX5_bestWatch_69 : decode cX5_bestWatch 69 = .ok (.istore 6, 2) := by decide +kernel
theorem dX5_bestWatch_71 : decode cX5_bestWatch 71 = .ok (.iload 6, 2) := by decide +kernel
theorem dX5_bestWatch_73 : decode cX5_bestWatch 73 = .ok (.iload_n 3, 1) := by decide +kernel
theorem dX5_bestWatch_74 : decode cX5_bestWatch 74 = .ok (.if_icmp .le 10, 3) := by decide +kernel
theorem dX5_bestWatch_77 : decode cX5_bestWatch 77 = .ok (.iload 6, 2) := by decide +kernel
theorem dX5_bestWatch_79 : decode cX5_bestWatch 79 = .ok (.istore_n 3, 1) := by decide +kernel
theorem dX5_bestWatch_80 : decode cX5_bestWatch 80 = .ok (.iload 5, 2) := by decide +kernel
theorem dX5_bestWatch_82 : decode cX5_bestWatch 82 = .ok (.istore 4, 2) := by decide +kernel
theorem dX5_bestWatch_84 : decode cX5_bestWatch 84 = .ok (.iinc 5 1, 3) := by decide +kernel
theorem dX5_bestWatch_87 : decode cX5_bestWatch 87 = .ok (.goto (-46), 3) := by decide +kernel
theorem dX5_bestWatch_90 : decode cX5_bestWatch 90 = .ok (.iload_n 2, 1) := by decide +kernel
theorem dX5_bestWatch_91 : decode cX5_bestWatch 91 = .ok (.ifCond .ne 8, 3) := by decide +kernel
theorem dX5_bestWatch_94 : decode cX5_bestWatch 94 = .ok (.iload 4, 2) := by decide +kernel
theorem dX5_bestWatch_96 : decode cX5_bestWatch 96 = .ok (.goto 4, 3) := by decide +kernel
theorem dX5_bestWatch_99 : decode cX5_bestWatch 99 = .ok (.iload_n 3, 1) := by decide +kernel
theorem dX5_bestWatch_100 : decode cX5_bestWatch 100 = .ok (.ireturn, 1) := by decide +kernel
theorem dX5_sawdust_0 : decode cX5_sawdust 0 = .ok (.aload_n 0, 1) := by decide +kernel
theorem dX5_sawdust_1 : decode cX5_sawdust 1 = .ok (.iload_n 1, 1) := by decide +kernel
theorem dX5_sawdust_2 : decode cX5_sawdust 2 = .ok (.iload_n 2, 1) := by decide +kernel
theorem dX5_sawdust_3 : decode cX5_sawdust 3 = .ok (.invokevirtual 229, 3) := by decide +kernel
theorem dX5_sawdust_6 : decode cX5_sawdust 6 = .ok (.istore_n 3, 1) := by decide +kernel
theorem dX5_sawdust_7 : decode cX5_sawdust 7 = .ok (.iload_n 3, 1) := by decide +kernel
theorem dX5_sawdust_8 : decode cX5_sawdust 8 = .ok (.ifCond .eq 7, 3) := by decide +kernel
theorem dX5_sawdust_11 : decode cX5_sawdust 11 = .ok (.iload_n 3, 1) := by decide +kernel
theorem dX5_sawdust_12 : decode cX5_sawdust 12 = .ok (.goto 11, 3) := by decide +kernel
theorem dX5_sawdust_15 : decode cX5_sawdust 15 = .ok (.aload_n 0, 1) := by decide +kernel
theorem dX5_sawdust_16 : decode cX5_sawdust 16 = .ok (.aload_n 0, 1) := by decide +kernel
theorem dX5_sawdust_17 : decode cX5_sawdust 17 = .ok (.invokevirtual 232, 3) := by decide +kernel
theorem dX5_sawdust_20 : decode cX5_sawdust 20 = .ok (.invokevirtual 76, 3) := by decide +kernel
theorem dX5_sawdust_23 : decode cX5_sawdust 23 = .ok (.ireturn, 1) := by decide +kernel
theorem dX5_pile_0 : decode cX5_pile 0 = .ok (.aload_n 0, 1) := by decide +kernel
theorem dX5_pile_1 : decode cX5_pile 1 = .ok (.iload_n 1, 1) := by decide +kernel
theorem dX5_pile_2 : decode cX5_pile 2 = .ok (.iload_n 2, 1) := by decide +kernel
theorem dX5_pile_3 : decode cX5_pile 3 = .ok (.invokevirtual 229, 3) := by decide +kernel
theorem dX5_pile_6 : decode cX5_pile 6 = .ok (.istore_n 3, 1) := by decide +kernel
theorem dX5_pile_7 : decode cX5_pile 7 = .ok (.iload_n 3, 1) := by decide +kernel
theorem dX5_pile_8 : decode cX5_pile 8 = .ok (.ifCond .eq 7, 3) := by decide +kernel
theorem dX5_pile_11 : decode cX5_pile 11 = .ok (.iload_n 3, 1) := by decide +kernel
theorem dX5_pile_12 : decode cX5_pile 12 = .ok (.goto 11, 3) := by decide +kernel
theorem dX5_pile_15 : decode cX5_pile 15 = .ok (.aload_n 0, 1) := by decide +kernel
theorem dX5_pile_16 : decode cX5_pile 16 = .ok (.aload_n 0, 1) := by decide +kernel
theorem dX5_pile_17 : decode cX5_pile 17 = .ok (.invokevirtual 235, 3) := by decide +kernel
theorem dX5_pile_20 : decode cX5_pile 20 = .ok (.invokevirtual 76, 3) := by decide +kernel
theorem dX5_pile_23 : decode cX5_pile 23 = .ok (.ireturn, 1) := by decide +kernel
theorem dX5_climb_0 : decode cX5_climb 0 = .ok (.aload_n 0, 1) := by decide +kernel
theorem dX5_climb_1 : decode cX5_climb 1 = .ok (.iload_n 1, 1) := by decide +kernel
theorem dX5_climb_2 : decode cX5_climb 2 = .ok (.invokevirtual 165, 3) := by decide +kernel
theorem dX5_climb_5 : decode cX5_climb 5 = .ok (.ifCond .ne 6, 3) := by decide +kernel
theorem dX5_climb_8 : decode cX5_climb 8 = .ok (.ldc 67, 2) := by decide +kernel
theorem dX5_climb_10 : decode cX5_climb 10 = .ok (.ireturn, 1) := by decide +kernel
theorem dX5_climb_11 : decode cX5_climb 11 = .ok (.aload_n 0, 1) := by decide +kernel
theorem dX5_climb_12 : decode cX5_climb 12 = .ok (.getfield 25, 3) := by decide +kernel
theorem dX5_climb_15 : decode cX5_climb 15 = .ok (.iconst 0, 1) := by decide +kernel
theorem dX5_climb_16 : decode cX5_climb 16 = .ok (.invokevirtual 162, 3) := by decide +kernel
theorem dX5_climb_19 : decode cX5_climb 19 = .ok (.istore_n 2, 1) := by decide +kernel
theorem dX5_climb_20 : decode cX5_climb 20 = .ok (.aload_n 0, 1) := by decide +kernel
theorem dX5_climb_21 : decode cX5_climb 21 = .ok (.getfield 25, 3) := by decide +kernel
theorem dX5_climb_24 : decode cX5_climb 24 = .ok (.iload_n 2, 1) := by decide +kernel
theorem dX5_climb_25 : decode cX5_climb 25 = .ok (.invokevirtual 201, 3) := by decide +kernel
theorem dX5_climb_28 : decode cX5_climb 28 = .ok (.aload_n 0, 1) := by decide +kernel
theorem dX5_climb_29 : decode cX5_climb 29 = .ok (.getfield 25, 3) := by decide +kernel
theorem dX5_climb_32 : decode cX5_climb 32 = .ok (.iload_n 1, 1) := by decide +kernel
theorem dX5_climb_33 : decode cX5_climb 33 = .ok (.invokevirtual 201, 3) := by decide +kernel
theorem dX5_climb_36 : decode cX5_climb 36 = .ok (.isub, 1) := by decide +kernel
theorem dX5_climb_37 : decode cX5_climb 37 = .ok (.istore_n 3, 1) := by decide +kernel
theorem dX5_climb_38 : decode cX5_climb 38 = .ok (.iload_n 2, 1) := by decide +kernel
theorem dX5_climb_39 : decode cX5_climb 39 = .ok (.iload_n 1, 1) := by decide +kernel
theorem dX5_climb_40 : decode cX5_climb 40 = .ok (.if_icmp .ge 9, 3) := by decide +kernel
theorem dX5_climb_43 : decode cX5_climb 43 = .ok (.iload_n 3, 1) := by decide +kernel
theorem dX5_climb_44 : decode cX5_climb 44 = .ok (.iconst 1, 1) := by decide +kernel
theorem dX5_climb_45 : decode cX5_climb 45 = .ok (.iadd, 1) := by decide +kernel
theorem dX5_climb_46 : decode cX5_climb 46 = .ok (.goto 4, 3) := by decide +kernel
theorem dX5_climb_49 : decode cX5_climb 49 = .ok (.iload_n 3, 1) := by decide +kernel
theorem dX5_climb_50 : decode cX5_climb 50 = .ok (.ireturn, 1) := by decide +kernel
theorem dX5_coalition_0 : decode cX5_coalition 0 = .ok (.aload_n 0, 1) := by decide +kernel
theorem dX5_coalition_1 : decode cX5_coalition 1 = .ok (.invokevirtual 149, 3) := by decide +kernel
theorem dX5_coalition_4 : decode cX5_coalition 4 = .ok (.ifCond .eq 6, 3) := by decide +kernel
theorem dX5_coalition_7 : decode cX5_coalition 7 = .ok (.ldc 148, 2) := by decide +kernel
theorem dX5_coalition_9 : decode cX5_coalition 9 = .ok (.ireturn, 1) := by decide +kernel
theorem dX5_coalition_10 : decode cX5_coalition 10 = .ok (.iload_n 1, 1) := by decide +kernel
theorem dX5_coalition_11 : decode cX5_coalition 11 = .ok (.iconst 0, 1) := by decide +kernel
theorem dX5_coalition_12 : decode cX5_coalition 12 = .ok (.iconst 1, 1) := by decide +kernel
theorem dX5_coalition_13 : decode cX5_coalition 13 = .ok (.invokestatic 63, 3) := by decide +kernel
theorem dX5_coalition_16 : decode cX5_coalition 16 = .ok (.ifCond .ne 6, 3) := by decide +kernel
theorem dX5_coalition_19 : decode cX5_coalition 19 = .ok (.ldc 67, 2) := by decide +kernel
theorem dX5_coalition_21 : decode cX5_coalition 21 = .ok (.ireturn, 1) := by decide +kernel
theorem dX5_coalition_22 : decode cX5_coalition 22 = .ok (.aload_n 0, 1) := by decide +kernel
theorem dX5_coalition_23 : decode cX5_coalition 23 = .ok (.invokevirtual 238, 3) := by decide +kernel
theorem dX5_coalition_26 : decode cX5_coalition 26 = .ok (.istore_n 2, 1) := by decide +kernel
theorem dX5_coalition_27 : decode cX5_coalition 27 = .ok (.iload_n 2, 1) := by decide +kernel
theorem dX5_coalition_28 : decode cX5_coalition 28 = .ok (.ldc 219, 2) := by decide +kernel
theorem dX5_coalition_30 : decode cX5_coalition 30 = .ok (.if_icmp .eq 8, 3) := by decide +kernel
theorem dX5_coalition_33 : decode cX5_coalition 33 = .ok (.iload_n 1, 1) := by decide +kernel
theorem dX5_coalition_34 : decode cX5_coalition 34 = .ok (.iconst 1, 1) := by decide +kernel
theorem dX5_coalition_35 : decode cX5_coalition 35 = .ok (.if_icmp .ne 7, 3) := by decide +kernel
theorem dX5_coalition_38 : decode cX5_coalition 38 = .ok (.iload_n 2, 1) := by decide +kernel
theorem dX5_coalition_39 : decode cX5_coalition 39 = .ok (.goto 7, 3) := by decide +kernel
theorem dX5_coalition_42 : decode cX5_coalition 42 = .ok (.iload_n 2, 1) := by decide +kernel
theorem dX5_coalition_43 : decode cX5_coalition 43 = .ok (.invokestatic 184, 3) := by decide +kernel
theorem dX5_coalition_46 : decode cX5_coalition 46 = .ok (.ireturn, 1) := by decide +kernel
theorem dX5_sawnBy_0 : decode cX5_sawnBy 0 = .ok (.aload_n 0, 1) := by decide +kernel
theorem dX5_sawnBy_1 : decode cX5_sawnBy 1 = .ok (.iload_n 1, 1) := by decide +kernel
theorem dX5_sawnBy_2 : decode cX5_sawnBy 2 = .ok (.invokevirtual 165, 3) := by decide +kernel
theorem dX5_sawnBy_5 : decode cX5_sawnBy 5 = .ok (.ifCond .ne 6, 3) := by decide +kernel
theorem dX5_sawnBy_8 : decode cX5_sawnBy 8 = .ok (.ldc 67, 2) := by decide +kernel
theorem dX5_sawnBy_10 : decode cX5_sawnBy 10 = .ok (.ireturn, 1) := by decide +kernel
theorem dX5_sawnBy_11 : decode cX5_sawnBy 11 = .ok (.iconst 0, 1) := by decide +kernel
theorem dX5_sawnBy_12 : decode cX5_sawnBy 12 = .ok (.istore_n 2, 1) := by decide +kernel
theorem dX5_sawnBy_13 : decode cX5_sawnBy 13 = .ok (.iconst 0, 1) := by decide +kernel
theorem dX5_sawnBy_14 : decode cX5_sawnBy 14 = .ok (.istore_n 3, 1) := by decide +kernel
theorem dX5_sawnBy_15 : decode cX5_sawnBy 15 = .ok (.iload_n 3, 1) := by decide +kernel
theorem dX5_sawnBy_16 : decode cX5_sawnBy 16 = .ok (.aload_n 0, 1) := by decide +kernel
theorem dX5_sawnBy_17 : decode cX5_sawnBy 17 = .ok (.getfield 25, 3) := by decide +kernel
theorem dX5_sawnBy_20 : decode cX5_sawnBy 20 = .ok (.getfield 140, 3) := by decide +kernel
theorem dX5_sawnBy_23 : decode cX5_sawnBy 23 = .ok (.if_icmp .ge 27, 3) := by decide +kernel
theorem dX5_sawnBy_26 : decode cX5_sawnBy 26 = .ok (.aload_n 0, 1) := by decide +kernel
theorem dX5_sawnBy_27 : decode cX5_sawnBy 27 = .ok (.getfield 25, 3) := by decide +kernel
theorem dX5_sawnBy_30 : decode cX5_sawnBy 30 = .ok (.iload_n 3, 1) := by decide +kernel
theorem dX5_sawnBy_31 : decode cX5_sawnBy 31 = .ok (.invokevirtual 195, 3) := by decide +kernel
theorem dX5_sawnBy_34 : decode cX5_sawnBy 34 = .ok (.iload_n 1, 1) := by decide +kernel
theorem dX5_sawnBy_35 : decode cX5_sawnBy 35 = .ok (.if_icmp .ne 9, 3) := by decide +kernel
theorem dX5_sawnBy_38 : decode cX5_sawnBy 38 = .ok (.iload_n 2, 1) := by decide +kernel
theorem dX5_sawnBy_39 : decode cX5_sawnBy 39 = .ok (.iconst 1, 1) := by decide +kernel
theorem dX5_sawnBy_40 : decode cX5_sawnBy 40 = .ok (.iload_n 3, 1) := by decide +kernel
theorem dX5_sawnBy_41 : decode cX5_sawnBy 41 = .ok (.ishl, 1) := by decide +kernel
theorem dX5_sawnBy_42 : decode cX5_sawnBy 42 = .ok (.ior, 1) := by decide +kernel
theorem dX5_sawnBy_43 : decode cX5_sawnBy 43 = .ok (.istore_n 2, 1) := by decide +kernel
theorem dX5_sawnBy_44 : decode cX5_sawnBy 44 = .ok (.iinc 3 1, 3) := by decide +kernel
theorem dX5_sawnBy_47 : decode cX5_sawnBy 47 = .ok (.goto (-32), 3) := by decide +kernel
theorem dX5_sawnBy_50 : decode cX5_sawnBy 50 = .ok (.iload_n 2, 1) := by decide +kernel
theorem dX5_sawnBy_51 : decode cX5_sawnBy 51 = .ok (.ireturn, 1) := by decide +kernel
theorem dX5_round_0 : decode cX5_round 0 = .ok (.aload_n 0, 1) := by decide +kernel
theorem dX5_round_1 : decode cX5_round 1 = .ok (.invokevirtual 149, 3) := by decide +kernel
theorem dX5_round_4 : decode cX5_round 4 = .ok (.ifCond .eq 6, 3) := by decide +kernel
theorem dX5_round_7 : decode cX5_round 7 = .ok (.ldc 148, 2) := by decide +kernel
theorem dX5_round_9 : decode cX5_round 9 = .ok (.ireturn, 1) := by decide +kernel
theorem dX5_round_10 : decode cX5_round 10 = .ok (.iconst 0, 1) := by decide +kernel
theorem dX5_round_11 : decode cX5_round 11 = .ok (.istore_n 1, 1) := by decide +kernel
theorem dX5_round_12 : decode cX5_round 12 = .ok (.iconst 0, 1) := by decide +kernel
theorem dX5_round_13 : decode cX5_round 13 = .ok (.istore_n 2, 1) := by decide +kernel
theorem dX5_round_14 : decode cX5_round 14 = .ok (.iload_n 2, 1) := by decide +kernel
theorem dX5_round_15 : decode cX5_round 15 = .ok (.aload_n 0, 1) := by decide +kernel
theorem dX5_round_16 : decode cX5_round 16 = .ok (.getfield 25, 3) := by decide +kernel
theorem dX5_round_19 : decode cX5_round 19 = .ok (.getfield 140, 3) := by decide +kernel
theorem dX5_round_22 : decode cX5_round 22 = .ok (.if_icmp .ge 42, 3) := by decide +kernel
theorem dX5_round_25 : decode cX5_round 25 = .ok (.aload_n 0, 1) := by decide +kernel
theorem dX5_round_26 : decode cX5_round 26 = .ok (.getfield 25, 3) := by decide +kernel
theorem dX5_round_29 : decode cX5_round 29 = .ok (.iload_n 2, 1) := by decide +kernel
theorem dX5_round_30 : decode cX5_round 30 = .ok (.invokevirtual 195, 3) := by decide +kernel
theorem dX5_round_33 : decode cX5_round 33 = .ok (.istore_n 3, 1) := by decide +kernel
theorem dX5_round_34 : decode cX5_round 34 = .ok (.iload_n 3, 1) := by decide +kernel
theorem dX5_round_35 : decode cX5_round 35 = .ok (.ldc 219, 2) := by decide +kernel
theorem dX5_round_37 : decode cX5_round 37 = .ok (.if_icmp .eq 21, 3) := by decide +kernel
theorem dX5_round_40 : decode cX5_round 40 = .ok (.aload_n 0, 1) := by decide +kernel
theorem dX5_round_41 : decode cX5_round 41 = .ok (.getfield 25, 3) := by decide +kernel
theorem dX5_round_44 : decode cX5_round 44 = .ok (.iload_n 3, 1) := by decide +kernel
theorem dX5_round_45 : decode cX5_round 45 = .ok (.invokevirtual 195, 3) := by decide +kernel
theorem dX5_round_48 : decode cX5_round 48 = .ok (.iload_n 2, 1) := by decide +kernel
theorem dX5_round_49 : decode cX5_round 49 = .ok (.if_icmp .ne 9, 3) := by decide +kernel
theorem dX5_round_52 : decode cX5_round 52 = .ok (.iload_n 1, 1) := by decide +kernel
theorem dX5_round_53 : decode cX5_round 53 = .ok (.iconst 1, 1) := by decide +kernel
theorem dX5_round_54 : decode cX5_round 54 = .ok (.iload_n 2, 1) := by decide +kernel
theorem dX5_round_55 : decode cX5_round 55 = .ok (.ishl, 1) := by decide +kernel
theorem dX5_round_56 : decode cX5_round 56 = .ok (.ior, 1) := by decide +kernel
theorem dX5_round_57 : decode cX5_round 57 = .ok (.istore_n 1, 1) := by decide +kernel
theorem dX5_round_58 : decode cX5_round 58 = .ok (.iinc 2 1, 3) := by decide +kernel
theorem dX5_round_61 : decode cX5_round 61 = .ok (.goto (-47), 3) := by decide +kernel
theorem dX5_round_64 : decode cX5_round 64 = .ok (.iload_n 1, 1) := by decide +kernel
theorem dX5_round_65 : decode cX5_round 65 = .ok (.ireturn, 1) := by decide +kernel
theorem dX5_enemy_0 : decode cX5_enemy 0 = .ok (.aload_n 0, 1) := by decide +kernel
theorem dX5_enemy_1 : decode cX5_enemy 1 = .ok (.iload_n 1, 1) := by decide +kernel
theorem dX5_enemy_2 : decode cX5_enemy 2 = .ok (.invokevirtual 165, 3) := by decide +kernel
theorem dX5_enemy_5 : decode cX5_enemy 5 = .ok (.ifCond .eq 22, 3) := by decide +kernel
theorem dX5_enemy_8 : decode cX5_enemy 8 = .ok (.iload_n 2, 1) := by decide +kernel
theorem dX5_enemy_9 : decode cX5_enemy 9 = .ok (.iconst 1, 1) := by decide +kernel
theorem dX5_enemy_10 : decode cX5_enemy 10 = .ok (.bipush 30, 2) := by decide +kernel
theorem dX5_enemy_12 : decode cX5_enemy 12 = .ok (.invokestatic 63, 3) := by decide +kernel
theorem dX5_enemy_15 : decode cX5_enemy 15 = .ok (.ifCond .eq 12, 3) := by decide +kernel
theorem dX5_enemy_18 : decode cX5_enemy 18 = .ok (.iload_n 3, 1) := by decide +kernel
theorem dX5_enemy_19 : decode cX5_enemy 19 = .ok (.iconst 0, 1) := by decide +kernel
theorem dX5_enemy_20 : decode cX5_enemy 20 = .ok (.iconst 1, 1) := by decide +kernel
theorem dX5_enemy_21 : decode cX5_enemy 21 = .ok (.invokestatic 63, 3) := by decide +kernel
theorem dX5_enemy_24 : decode cX5_enemy 24 = .ok (.ifCond .ne 6, 3) := by decide +kernel
theorem dX5_enemy_27 : decode cX5_enemy 27 = .ok (.ldc 67, 2) := by decide +kernel
theorem dX5_enemy_29 : decode cX5_enemy 29 = .ok (.ireturn, 1) := by decide +kernel
theorem dX5_enemy_30 : decode cX5_enemy 30 = .ok (.iconst (-1), 1) := by decide +kernel
theorem dX5_enemy_31 : decode cX5_enemy 31 = .ok (.istore 4, 2) := by decide +kernel
theorem dX5_enemy_33 : decode cX5_enemy 33 = .ok (.ldc 219, 2) := by decide +kernel
theorem dX5_enemy_35 : decode cX5_enemy 35 = .ok (.istore 5, 2) := by decide +kernel
theorem dX5_enemy_37 : decode cX5_enemy 37 = .ok (.iconst 0, 1) := by decide +kernel
theorem dX5_enemy_38 : decode cX5_enemy 38 = .ok (.istore 6, 2) := by decide +kernel
theorem dX5_enemy_40 : decode cX5_enemy 40 = .ok (.iload 6, 2) := by decide +kernel
theorem dX5_enemy_42 : decode cX5_enemy 42 = .ok (.aload_n 0, 1) := by decide +kernel
theorem dX5_enemy_43 : decode cX5_enemy 43 = .ok (.getfield 25, 3) := by decide +kernel
theorem dX5_enemy_46 : decode cX5_enemy 46 = .ok (.getfield 140, 3) := by decide +kernel
theorem dX5_enemy_49 : decode cX5_enemy 49 = .ok (.if_icmp .ge 57, 3) := by decide +kernel
theorem dX5_enemy_52 : decode cX5_enemy 52 = .ok (.aload_n 0, 1) := by decide +kernel
theorem dX5_enemy_53 : decode cX5_enemy 53 = .ok (.invokevirtual 213, 3) := by decide +kernel
theorem dX5_enemy_56 : decode cX5_enemy 56 = .ok (.aload_n 0, 1) := by decide +kernel
theorem dX5_enemy_57 : decode cX5_enemy 57 = .ok (.getfield 29, 3) := by decide +kernel
theorem dX5_enemy_60 : decode cX5_enemy 60 = .ok (.getfield 198, 3) := by decide +kernel
theorem dX5_enemy_63 : decode cX5_enemy 63 = .ok (.iload 6, 2) := by decide +kernel
theorem dX5_enemy_65 : decode cX5_enemy 65 = .ok (.iconst 0, 1) := by decide +kernel
theorem dX5_enemy_66 : decode cX5_enemy 66 = .ok (.iastore, 1) := by decide +kernel
theorem dX5_enemy_67 : decode cX5_enemy 67 = .ok (.aload_n 0, 1) := by decide +kernel
theorem dX5_enemy_68 : decode cX5_enemy 68 = .ok (.getfield 29, 3) := by decide +kernel
theorem dX5_enemy_71 : decode cX5_enemy 71 = .ok (.iload_n 2, 1) := by decide +kernel
theorem dX5_enemy_72 : decode cX5_enemy 72 = .ok (.invokevirtual 216, 3) := by decide +kernel
theorem dX5_enemy_75 : decode cX5_enemy 75 = .ok (.aload_n 0, 1) := by decide +kernel
theorem dX5_enemy_76 : decode cX5_enemy 76 = .ok (.getfield 29, 3) := by decide +kernel
theorem dX5_enemy_79 : decode cX5_enemy 79 = .ok (.iload_n 1, 1) := by decide +kernel
theorem dX5_enemy_80 : decode cX5_enemy 80 = .ok (.invokevirtual 201, 3) := by decide +kernel
theorem dX5_enemy_83 : decode cX5_enemy 83 = .ok (.istore 7, 2) := by decide +kernel
theorem dX5_enemy_85 : decode cX5_enemy 85 = .ok (.iload 7, 2) := by decide +kernel
theorem dX5_enemy_87 : decode cX5_enemy 87 = .ok (.iload 4, 2) := by decide +kernel
theorem dX5_enemy_89 : decode cX5_enemy 89 = .ok (.if_icmp .le 11, 3) := by decide +kernel
theorem dX5_enemy_92 : decode cX5_enemy 92 = .ok (.iload 7, 2) := by decide +kernel
theorem dX5_enemy_94 : decode cX5_enemy 94 = .ok (.istore 4, 2) := by decide +kernel
theorem dX5_enemy_96 : decode cX5_enemy 96 = .ok (.iload 6, 2) := by decide +kernel
theorem dX5_enemy_98 : decode cX5_enemy 98 = .ok (.istore 5, 2) := by decide +kernel
theorem dX5_enemy_100 : decode cX5_enemy 100 = .ok (.iinc 6 1, 3) := by decide +kernel
theorem dX5_enemy_103 : decode cX5_enemy 103 = .ok (.goto (-63), 3) := by decide +kernel
theorem dX5_enemy_106 : decode cX5_enemy 106 = .ok (.iload_n 3, 1) := by decide +kernel
theorem dX5_enemy_107 : decode cX5_enemy 107 = .ok (.ifCond .ne 8, 3) := by decide +kernel
theorem dX5_enemy_110 : decode cX5_enemy 110 = .ok (.iload 5, 2) := by decide +kernel
theorem dX5_enemy_112 : decode cX5_enemy 112 = .ok (.goto 5, 3) := by decide +kernel
theorem dX5_enemy_115 : decode cX5_enemy 115 = .ok (.iload 4, 2) := by decide +kernel
theorem dX5_enemy_117 : decode cX5_enemy 117 = .ok (.ireturn, 1) := by decide +kernel
theorem dX5_who_0 : decode cX5_who 0 = .ok (.aload_n 0, 1) := by decide +kernel
theorem dX5_who_1 : decode cX5_who 1 = .ok (.iload_n 1, 1) := by decide +kernel
theorem dX5_who_2 : decode cX5_who 2 = .ok (.invokevirtual 165, 3) := by decide +kernel
theorem dX5_who_5 : decode cX5_who 5 = .ok (.ifCond .eq 39, 3) := by decide +kernel
theorem dX5_who_8 : decode cX5_who 8 = .ok (.iload_n 2, 1) := by decide +kernel
theorem dX5_who_9 : decode cX5_who 9 = .ok (.iconst 0, 1) := by decide +kernel
theorem dX5_who_10 : decode cX5_who 10 = .ok (.iconst 2, 1) := by decide +kernel
theorem dX5_who_11 : decode cX5_who 11 = .ok (.invokestatic 63, 3) := by decide +kernel
theorem dX5_who_14 : decode cX5_who 14 = .ok (.ifCond .eq 30, 3) := by decide +kernel
theorem dX5_who_17 : decode cX5_who 17 = .ok (.aload_n 0, 1) := by decide +kernel
theorem dX5_who_18 : decode cX5_who 18 = .ok (.iload_n 3, 1) := by decide +kernel
theorem dX5_who_19 : decode cX5_who 19 = .ok (.invokevirtual 165, 3) := by decide +kernel
theorem dX5_who_22 : decode cX5_who 22 = .ok (.ifCond .eq 22, 3) := by decide +kernel
theorem dX5_who_25 : decode cX5_who 25 = .ok (.iload 4, 2) := by decide +kernel
theorem dX5_who_27 : decode cX5_who 27 = .ok (.invokestatic 59, 3) := by decide +kernel
theorem dX5_who_30 : decode cX5_who 30 = .ok (.ifCond .eq 14, 3) := by decide +kernel
theorem dX5_who_33 : decode cX5_who 33 = .ok (.iload 6, 2) := by decide +kernel
theorem dX5_who_35 : decode cX5_who 35 = .ok (.iconst 1, 1) := by decide +kernel
theorem dX5_who_36 : decode cX5_who 36 = .ok (.bipush 12, 2) := by decide +kernel
theorem dX5_who_38 : decode cX5_who 38 = .ok (.invokestatic 63, 3) := by decide +kernel
theorem dX5_who_41 : decode cX5_who 41 = .ok (.ifCond .ne 6, 3) := by decide +kernel
theorem dX5_who_44 : decode cX5_who 44 = .ok (.ldc 67, 2) := by decide +kernel
theorem dX5_who_46 : decode cX5_who 46 = .ok (.ireturn, 1) := by decide +kernel
theorem dX5_who_47 : decode cX5_who 47 = .ok (.aload_n 0, 1) := by decide +kernel
theorem dX5_who_48 : decode cX5_who 48 = .ok (.iload 4, 2) := by decide +kernel
theorem dX5_who_50 : decode cX5_who 50 = .ok (.iload 5, 2) := by decide +kernel
theorem dX5_who_52 : decode cX5_who 52 = .ok (.iload 6, 2) := by decide +kernel
theorem dX5_who_54 : decode cX5_who 54 = .ok (.invokevirtual 79, 3) := by decide +kernel
theorem dX5_who_57 : decode cX5_who 57 = .ok (.istore 7, 2) := by decide +kernel
theorem dX5_who_59 : decode cX5_who 59 = .ok (.iload 7, 2) := by decide +kernel
theorem dX5_who_61 : decode cX5_who 61 = .ok (.ifCond .eq 10, 3) := by decide +kernel
theorem dX5_who_64 : decode cX5_who 64 = .ok (.aload_n 0, 1) := by decide +kernel
theorem dX5_who_65 : decode cX5_who 65 = .ok (.iload 7, 2) := by decide +kernel
theorem dX5_who_67 : decode cX5_who 67 = .ok (.invokevirtual 68, 3) := by decide +kernel
theorem dX5_who_70 : decode cX5_who 70 = .ok (.ireturn, 1) := by decide +kernel
theorem dX5_who_71 : decode cX5_who 71 = .ok (.iconst 0, 1) := by decide +kernel
theorem dX5_who_72 : decode cX5_who 72 = .ok (.istore 8, 2) := by decide +kernel
theorem dX5_who_74 : decode cX5_who 74 = .ok (.iload_n 2, 1) := by decide +kernel
theorem dX5_who_75 : decode cX5_who 75 = .ok (.invokestatic 241, 3) := by decide +kernel
theorem dX5_who_78 : decode cX5_who 78 = .ok (.istore 9, 2) := by decide +kernel
theorem dX5_who_80 : decode cX5_who 80 = .ok (.iload 9, 2) := by decide +kernel
theorem dX5_who_82 : decode cX5_who 82 = .ok (.iload_n 2, 1) := by decide +kernel
theorem dX5_who_83 : decode cX5_who 83 = .ok (.invokestatic 244, 3) := by decide +kernel
theorem dX5_who_86 : decode cX5_who 86 = .ok (.if_icmp .gt 49, 3) := by decide +kernel
theorem dX5_who_89 : decode cX5_who 89 = .ok (.aload_n 0, 1) := by decide +kernel
theorem dX5_who_90 : decode cX5_who 90 = .ok (.invokevirtual 213, 3) := by decide +kernel
theorem dX5_who_93 : decode cX5_who 93 = .ok (.aload_n 0, 1) := by decide +kernel
theorem dX5_who_94 : decode cX5_who 94 = .ok (.iload_n 1, 1) := by decide +kernel
theorem dX5_who_95 : decode cX5_who 95 = .ok (.iload_n 2, 1) := by decide +kernel
theorem dX5_who_96 : decode cX5_who 96 = .ok (.iload 9, 2) := by decide +kernel
theorem dX5_who_98 : decode cX5_who 98 = .ok (.invokevirtual 247, 3) := by decide +kernel
theorem dX5_who_101 : decode cX5_who 101 = .ok (.aload_n 0, 1) := by decide +kernel
theorem dX5_who_102 : decode cX5_who 102 = .ok (.iload_n 3, 1) := by decide +kernel
theorem dX5_who_103 : decode cX5_who 103 = .ok (.aload_n 0, 1) := by decide +kernel
theorem dX5_who_104 : decode cX5_who 104 = .ok (.getfield 11, 3) := by decide +kernel
theorem dX5_who_107 : decode cX5_who 107 = .ok (.iload 4, 2) := by decide +kernel
theorem dX5_who_109 : decode cX5_who 109 = .ok (.aaload, 1) := by decide +kernel
theorem dX5_who_110 : decode cX5_who 110 = .ok (.iload 5, 2) := by decide +kernel
theorem dX5_who_112 : decode cX5_who 112 = .ok (.iload 6, 2) := by decide +kernel
theorem dX5_who_114 : decode cX5_who 114 = .ok (.invokevirtual 251, 3) := by decide +kernel
theorem dX5_who_117 : decode cX5_who 117 = .ok (.ifCond .eq 12, 3) := by decide +kernel
theorem dX5_who_120 : decode cX5_who 120 = .ok (.iload 8, 2) := by decide +kernel
theorem dX5_who_122 : decode cX5_who 122 = .ok (.iconst 1, 1) := by decide +kernel
theorem dX5_who_123 : decode cX5_who 123 = .ok (.iload 9, 2) := by decide +kernel
theorem dX5_who_125 : decode cX5_who 125 = .ok (.ishl, 1) := by decide +kernel
theorem dX5_who_126 : decode cX5_who 126 = .ok (.ior, 1) := by decide +kernel
theorem dX5_who_127 : decode cX5_who 127 = .ok (.istore 8, 2) := by decide +kernel
theorem dX5_who_129 : decode cX5_who 129 = .ok (.iinc 9 1, 3) := by decide +kernel
theorem dX5_who_132 : decode cX5_who 132 = .ok (.goto (-52), 3) := by decide +kernel
theorem dX5_who_135 : decode cX5_who 135 = .ok (.aload_n 0, 1) := by decide +kernel
theorem dX5_who_136 : decode cX5_who 136 = .ok (.iload 8, 2) := by decide +kernel
theorem dX5_who_138 : decode cX5_who 138 = .ok (.invokevirtual 76, 3) := by decide +kernel
theorem dX5_who_141 : decode cX5_who 141 = .ok (.ireturn, 1) := by decide +kernel
theorem dX5_guarded_0 : decode cX5_guarded 0 = .ok (.aload_n 0, 1) := by decide +kernel
theorem dX5_guarded_1 : decode cX5_guarded 1 = .ok (.iload_n 1, 1) := by decide +kernel
theorem dX5_guarded_2 : decode cX5_guarded 2 = .ok (.invokevirtual 165, 3) := by decide +kernel
theorem dX5_guarded_5 : decode cX5_guarded 5 = .ok (.ifCond .eq 21, 3) := by decide +kernel
theorem dX5_guarded_8 : decode cX5_guarded 8 = .ok (.iload_n 2, 1) := by decide +kernel
theorem dX5_guarded_9 : decode cX5_guarded 9 = .ok (.invokestatic 59, 3) := by decide +kernel
theorem dX5_guarded_12 : decode cX5_guarded 12 = .ok (.ifCond .eq 14, 3) := by decide +kernel
theorem dX5_guarded_15 : decode cX5_guarded 15 = .ok (.iload 4, 2) := by decide +kernel
theorem dX5_guarded_17 : decode cX5_guarded 17 = .ok (.iconst 1, 1) := by decide +kernel
theorem dX5_guarded_18 : decode cX5_guarded 18 = .ok (.bipush 12, 2) := by decide +kernel
theorem dX5_guarded_20 : decode cX5_guarded 20 = .ok (.invokestatic 63, 3) := by decide +kernel
theorem dX5_guarded_23 : decode cX5_guarded 23 = .ok (.ifCond .ne 6, 3) := by decide +kernel
theorem dX5_guarded_26 : decode cX5_guarded 26 = .ok (.ldc 67, 2) := by decide +kernel
theorem dX5_guarded_28 : decode cX5_guarded 28 = .ok (.ireturn, 1) := by decide +kernel
theorem dX5_guarded_29 : decode cX5_guarded 29 = .ok (.aload_n 0, 1) := by decide +kernel
theorem dX5_guarded_30 : decode cX5_guarded 30 = .ok (.iload_n 2, 1) := by decide +kernel
theorem dX5_guarded_31 : decode cX5_guarded 31 = .ok (.iload_n 3, 1) := by decide +kernel
theorem dX5_guarded_32 : decode cX5_guarded 32 = .ok (.iload 4, 2) := by decide +kernel
theorem dX5_guarded_34 : decode cX5_guarded 34 = .ok (.invokevirtual 79, 3) := by decide +kernel
theorem dX5_guarded_37 : decode cX5_guarded 37 = .ok (.istore 5, 2) := by decide +kernel
theorem dX5_guarded_39 : decode cX5_guarded 39 = .ok (.iload 5, 2) := by decide +kernel
theorem dX5_guarded_41 : decode cX5_guarded 41 = .ok (.ifCond .eq 10, 3) := by decide +kernel
theorem dX5_guarded_44 : decode cX5_guarded 44 = .ok (.aload_n 0, 1) := by decide +kernel
theorem dX5_guarded_45 : decode cX5_guarded 45 = .ok (.iload 5, 2) := by decide +kernel
theorem dX5_guarded_47 : decode cX5_guarded 47 = .ok (.invokevirtual 68, 3) := by decide +kernel
theorem dX5_guarded_50 : decode cX5_guarded 50 = .ok (.ireturn, 1) := by decide +kernel
theorem dX5_guarded_51 : decode cX5_guarded 51 = .ok (.aload_n 0, 1) := by decide +kernel
theorem dX5_guarded_52 : decode cX5_guarded 52 = .ok (.invokevirtual 213, 3) := by decide +kernel
theorem dX5_guarded_55 : decode cX5_guarded 55 = .ok (.aload_n 0, 1) := by decide +kernel
theorem dX5_guarded_56 : decode cX5_guarded 56 = .ok (.iload_n 1, 1) := by decide +kernel
theorem dX5_guarded_57 : decode cX5_guarded 57 = .ok (.aload_n 0, 1) := by decide +kernel
theorem dX5_guarded_58 : decode cX5_guarded 58 = .ok (.getfield 11, 3) := by decide +kernel
theorem dX5_guarded_61 : decode cX5_guarded 61 = .ok (.iload_n 2, 1) := by decide +kernel
theorem dX5_guarded_62 : decode cX5_guarded 62 = .ok (.aaload, 1) := by decide +kernel
theorem dX5_guarded_63 : decode cX5_guarded 63 = .ok (.iload_n 3, 1) := by decide +kernel
theorem dX5_guarded_64 : decode cX5_guarded 64 = .ok (.iload 4, 2) := by decide +kernel
theorem dX5_guarded_66 : decode cX5_guarded 66 = .ok (.invokevirtual 251, 3) := by decide +kernel
theorem dX5_guarded_69 : decode cX5_guarded 69 = .ok (.ifCond .eq 8, 3) := by decide +kernel
theorem dX5_guarded_72 : decode cX5_guarded 72 = .ok (.bipush 64, 2) := by decide +kernel
theorem dX5_guarded_74 : decode cX5_guarded 74 = .ok (.goto 4, 3) := by decide +kernel
theorem dX5_guarded_77 : decode cX5_guarded 77 = .ok (.iconst 0, 1) := by decide +kernel
theorem dX5_guarded_78 : decode cX5_guarded 78 = .ok (.istore 6, 2) := by decide +kernel
theorem dX5_guarded_80 : decode cX5_guarded 80 = .ok (.iconst 0, 1) := by decide +kernel
theorem dX5_guarded_81 : decode cX5_guarded 81 = .ok (.istore 7, 2) := by decide +kernel
theorem dX5_guarded_83 : decode cX5_guarded 83 = .ok (.iload 7, 2) := by decide +kernel
theorem dX5_guarded_85 : decode cX5_guarded 85 = .ok (.aload_n 0, 1) := by decide +kernel
theorem dX5_guarded_86 : decode cX5_guarded 86 = .ok (.getfield 25, 3) := by decide +kernel
theorem dX5_guarded_89 : decode cX5_guarded 89 = .ok (.getfield 140, 3) := by decide +kernel
theorem dX5_guarded_92 : decode cX5_guarded 92 = .ok (.if_icmp .ge 70, 3) := by decide +kernel
theorem dX5_guarded_95 : decode cX5_guarded 95 = .ok (.aload_n 0, 1) := by decide +kernel
theorem dX5_guarded_96 : decode cX5_guarded 96 = .ok (.getfield 25, 3) := by decide +kernel
theorem dX5_guarded_99 : decode cX5_guarded 99 = .ok (.iload 7, 2) := by decide +kernel
theorem dX5_guarded_101 : decode cX5_guarded 101 = .ok (.invokevirtual 178, 3) := by decide +kernel
theorem dX5_guarded_104 : decode cX5_guarded 104 = .ok (.ifCond .eq 6, 3) := by decide +kernel
theorem dX5_guarded_107 : decode cX5_guarded 107 = .ok (.goto 49, 3) := by decide +kernel
theorem dX5_guarded_110 : decode cX5_guarded 110 = .ok (.aload_n 0, 1) := by decide +kernel
theorem dX5_guarded_111 : decode cX5_guarded 111 = .ok (.invokevirtual 213, 3) := by decide +kernel
theorem dX5_guarded_114 : decode cX5_guarded 114 = .ok (.aload_n 0, 1) := by decide +kernel
theorem dX5_guarded_115 : decode cX5_guarded 115 = .ok (.getfield 29, 3) := by decide +kernel
theorem dX5_guarded_118 : decode cX5_guarded 118 = .ok (.dup, 1) := by decide +kernel
theorem dX5_guarded_119 : decode cX5_guarded 119 = .ok (.getfield 181, 3) := by decide +kernel
theorem dX5_guarded_122 : decode cX5_guarded 122 = .ok (.iconst 1, 1) := by decide +kernel
theorem dX5_guarded_123 : decode cX5_guarded 123 = .ok (.iload 7, 2) := by decide +kernel
theorem dX5_guarded_125 : decode cX5_guarded 125 = .ok (.ishl, 1) := by decide +kernel
theorem dX5_guarded_126 : decode cX5_guarded 126 = .ok (.ior, 1) := by decide +kernel
theorem dX5_guarded_127 : decode cX5_guarded 127 = .ok (.putfield 181, 3) := by decide +kernel
theorem dX5_guarded_130 : decode cX5_guarded 130 = .ok (.aload_n 0, 1) := by decide +kernel
theorem dX5_guarded_131 : decode cX5_guarded 131 = .ok (.iload_n 1, 1) := by decide +kernel
theorem dX5_guarded_132 : decode cX5_guarded 132 = .ok (.aload_n 0, 1) := by decide +kernel
theorem dX5_guarded_133 : decode cX5_guarded 133 = .ok (.getfield 11, 3) := by decide +kernel
theorem dX5_guarded_136 : decode cX5_guarded 136 = .ok (.iload_n 2, 1) := by decide +kernel
theorem dX5_guarded_137 : decode cX5_guarded 137 = .ok (.aaload, 1) := by decide +kernel
theorem dX5_guarded_138 : decode cX5_guarded 138 = .ok (.iload_n 3, 1) := by decide +kernel
theorem dX5_guarded_139 : decode cX5_guarded 139 = .ok (.iload 4, 2) := by decide +kernel
theorem dX5_guarded_141 : decode cX5_guarded 141 = .ok (.invokevirtual 251, 3) := by decide +kernel
theorem dX5_guarded_144 : decode cX5_guarded 144 = .ok (.ifCond .eq 12, 3) := by decide +kernel
theorem dX5_guarded_147 : decode cX5_guarded 147 = .ok (.iload 6, 2) := by decide +kernel
theorem dX5_guarded_149 : decode cX5_guarded 149 = .ok (.iconst 1, 1) := by decide +kernel
theorem dX5_guarded_150 : decode cX5_guarded 150 = .ok (.iload 7, 2) := by decide +kernel
theorem dX5_guarded_152 : decode cX5_guarded 152 = .ok (.ishl, 1) := by decide +kernel
theorem dX5_guarded_153 : decode cX5_guarded 153 = .ok (.ior, 1) := by decide +kernel
theorem dX5_guarded_154 : decode cX5_guarded 154 = .ok (.istore 6, 2) := by decide +kernel
theorem dX5_guarded_156 : decode cX5_guarded 156 = .ok (.iinc 7 1, 3) := by decide +kernel
theorem dX5_guarded_159 : decode cX5_guarded 159 = .ok (.goto (-76), 3) := by decide +kernel
theorem dX5_guarded_162 : decode cX5_guarded 162 = .ok (.aload_n 0, 1) := by decide +kernel
theorem dX5_guarded_163 : decode cX5_guarded 163 = .ok (.iload 6, 2) := by decide +kernel
theorem dX5_guarded_165 : decode cX5_guarded 165 = .ok (.invokevirtual 76, 3) := by decide +kernel
theorem dX5_guarded_168 : decode cX5_guarded 168 = .ok (.ireturn, 1) := by decide +kernel
theorem dX5_doze_0 : decode cX5_doze 0 = .ok (.aload_n 0, 1) := by decide +kernel
theorem dX5_doze_1 : decode cX5_doze 1 = .ok (.iload_n 1, 1) := by decide +kernel
theorem dX5_doze_2 : decode cX5_doze 2 = .ok (.invokevirtual 165, 3) := by decide +kernel
theorem dX5_doze_5 : decode cX5_doze 5 = .ok (.ifCond .eq 43, 3) := by decide +kernel
theorem dX5_doze_8 : decode cX5_doze 8 = .ok (.iload_n 2, 1) := by decide +kernel
theorem dX5_doze_9 : decode cX5_doze 9 = .ok (.iconst 0, 1) := by decide +kernel
theorem dX5_doze_10 : decode cX5_doze 10 = .ok (.iconst 5, 1) := by decide +kernel
theorem dX5_doze_11 : decode cX5_doze 11 = .ok (.invokestatic 63, 3) := by decide +kernel
theorem dX5_doze_14 : decode cX5_doze 14 = .ok (.ifCond .eq 34, 3) := by decide +kernel
theorem dX5_doze_17 : decode cX5_doze 17 = .ok (.iload_n 3, 1) := by decide +kernel
theorem dX5_doze_18 : decode cX5_doze 18 = .ok (.iconst 0, 1) := by decide +kernel
theorem dX5_doze_19 : decode cX5_doze 19 = .ok (.bipush 30, 2) := by decide +kernel
theorem dX5_doze_21 : decode cX5_doze 21 = .ok (.invokestatic 63, 3) := by decide +kernel
theorem dX5_doze_24 : decode cX5_doze 24 = .ok (.ifCond .eq 24, 3) := by decide +kernel
theorem dX5_doze_27 : decode cX5_doze 27 = .ok (.iload 4, 2) := by decide +kernel
theorem dX5_doze_29 : decode cX5_doze 29 = .ok (.iconst 0, 1) := by decide +kernel
theorem dX5_doze_30 : decode cX5_doze 30 = .ok (.bipush 10, 2) := by decide +kernel
theorem dX5_doze_32 : decode cX5_doze 32 = .ok (.invokestatic 63, 3) := by decide +kernel
theorem dX5_doze_35 : decode cX5_doze 35 = .ok (.ifCond .eq 13, 3) := by decide +kernel
theorem dX5_doze_38 : decode cX5_doze 38 = .ok (.iload 5, 2) := by decide +kernel
theorem dX5_doze_40 : decode cX5_doze 40 = .ok (.iconst 0, 1) := by decide +kernel
theorem dX5_doze_41 : decode cX5_doze 41 = .ok (.iconst 1, 1) := by decide +kernel
theorem dX5_doze_42 : decode cX5_doze 42 = .ok (.invokestatic 63, 3) := by decide +kernel
theorem dX5_doze_45 : decode cX5_doze 45 = .ok (.ifCond .ne 7, 3) := by decide +kernel
theorem dX5_doze_48 : decode cX5_doze 48 = .ok (.ldc2_w 255, 3) := by decide +kernel
theorem dX5_doze_51 : decode cX5_doze 51 = .ok (.lreturn, 1) := by decide +kernel
theorem dX5_doze_52 : decode cX5_doze 52 = .ok (.lconst 0, 1) := by decide +kernel
theorem dX5_doze_53 : decode cX5_doze 53 = .ok (.lstore 6, 2) := by decide +kernel
theorem dX5_doze_55 : decode cX5_doze 55 = .ok (.lconst 0, 1) := by decide +kernel
theorem dX5_doze_56 : decode cX5_doze 56 = .ok (.lstore 8, 2) := by decide +kernel
theorem dX5_doze_58 : decode cX5_doze 58 = .ok (.iconst 0, 1) := by decide +kernel
theorem dX5_doze_59 : decode cX5_doze 59 = .ok (.istore 10, 2) := by decide +kernel
theorem dX5_doze_61 : decode cX5_doze 61 = .ok (.iload 10, 2) := by decide +kernel
theorem dX5_doze_63 : decode cX5_doze 63 = .ok (.iconst 1, 1) := by decide +kernel
theorem dX5_doze_64 : decode cX5_doze 64 = .ok (.aload_n 0, 1) := by decide +kernel
theorem dX5_doze_65 : decode cX5_doze 65 = .ok (.getfield 25, 3) := by decide +kernel
theorem dX5_doze_68 : decode cX5_doze 68 = .ok (.getfield 140, 3) := by decide +kernel
theorem dX5_doze_71 : decode cX5_doze 71 = .ok (.ishl, 1) := by decide +kernel
theorem dX5_doze_72 : decode cX5_doze 72 = .ok (.if_icmp .ge 70, 3) := by decide +kernel
theorem dX5_doze_75 : decode cX5_doze 75 = .ok (.iload 10, 2) := by decide +kernel
theorem dX5_doze_77 : decode cX5_doze 77 = .ok (.aload_n 0, 1) := by decide +kernel
theorem dX5_doze_78 : decode cX5_doze 78 = .ok (.getfield 25, 3) := by decide +kernel
theorem dX5_doze_81 : decode cX5_doze 81 = .ok (.getfield 181, 3) := by decide +kernel
theorem dX5_doze_84 : decode cX5_doze 84 = .ok (.iconst (-1), 1) := by decide +kernel
theorem dX5_doze_85 : decode cX5_doze 85 = .ok (.ixor, 1) := by decide +kernel
theorem dX5_doze_86 : decode cX5_doze 86 = .ok (.iand, 1) := by decide +kernel
theorem dX5_doze_87 : decode cX5_doze 87 = .ok (.ifCond .eq 6, 3) := by decide +kernel
theorem dX5_doze_90 : decode cX5_doze 90 = .ok (.goto 46, 3) := by decide +kernel
theorem dX5_doze_93 : decode cX5_doze 93 = .ok (.aload_n 0, 1) := by decide +kernel
theorem dX5_doze_94 : decode cX5_doze 94 = .ok (.iload 10, 2) := by decide +kernel
theorem dX5_doze_96 : decode cX5_doze 96 = .ok (.iload 4, 2) := by decide +kernel
theorem dX5_doze_98 : decode cX5_doze 98 = .ok (.invokevirtual 257, 3) := by decide +kernel
theorem dX5_doze_101 : decode cX5_doze 101 = .ok (.lstore 11, 2) := by decide +kernel
theorem dX5_doze_103 : decode cX5_doze 103 = .ok (.lload 8, 2) := by decide +kernel
theorem dX5_doze_105 : decode cX5_doze 105 = .ok (.lload 11, 2) := by decide +kernel
theorem dX5_doze_107 : decode cX5_doze 107 = .ok (.ladd, 1) := by decide +kernel
theorem dX5_doze_108 : decode cX5_doze 108 = .ok (.lstore 8, 2) := by decide +kernel
theorem dX5_doze_110 : decode cX5_doze 110 = .ok (.lload 11, 2) := by decide +kernel
theorem dX5_doze_112 : decode cX5_doze 112 = .ok (.lconst 0, 1) := by decide +kernel
theorem dX5_doze_113 : decode cX5_doze 113 = .ok (.lcmp, 1) := by decide +kernel
theorem dX5_doze_114 : decode cX5_doze 114 = .ok (.ifCond .le 22, 3) := by decide +kernel
theorem dX5_doze_117 : decode cX5_doze 117 = .ok (.aload_n 0, 1) := by decide +kernel
theorem dX5_doze_118 : decode cX5_doze 118 = .ok (.iload_n 1, 1) := by decide +kernel
theorem dX5_doze_119 : decode cX5_doze 119 = .ok (.iload_n 3, 1) := by decide +kernel
theorem dX5_doze_120 : decode cX5_doze 120 = .ok (.iload 10, 2) := by decide +kernel
theorem dX5_doze_122 : decode cX5_doze 122 = .ok (.invokevirtual 261, 3) := by decide +kernel
theorem dX5_doze_125 : decode cX5_doze 125 = .ok (.iload_n 2, 1) := by decide +kernel
theorem dX5_doze_126 : decode cX5_doze 126 = .ok (.if_icmp .gt 10, 3) := by decide +kernel
theorem dX5_doze_129 : decode cX5_doze 129 = .ok (.lload 6, 2) := by decide +kernel
theorem dX5_doze_131 : decode cX5_doze 131 = .ok (.lload 11, 2) := by decide +kernel
theorem dX5_doze_133 : decode cX5_doze 133 = .ok (.ladd, 1) := by decide +kernel
theorem dX5_doze_134 : decode cX5_doze 134 = .ok (.lstore 6, 2) := by decide +kernel
theorem dX5_doze_136 : decode cX5_doze 136 = .ok (.iinc 10 1, 3) := by decide +kernel
theorem dX5_doze_139 : decode cX5_doze 139 = .ok (.goto (-78), 3) := by decide +kernel
theorem dX5_doze_142 : decode cX5_doze 142 = .ok (.lload 6, 2) := by decide +kernel
theorem dX5_doze_144 : decode cX5_doze 144 = .ok (.lload 8, 2) := by decide +kernel
theorem dX5_doze_146 : decode cX5_doze 146 = .ok (.invokestatic 264, 3) := by decide +kernel
theorem dX5_doze_149 : decode cX5_doze 149 = .ok (.lstore 10, 2) := by decide +kernel
theorem dX5_doze_151 : decode cX5_doze 151 = .ok (.lload 10, 2) := by decide +kernel
theorem dX5_doze_153 : decode cX5_doze 153 = .ok (.lconst 0, 1) := by decide +kernel
theorem dX5_doze_154 : decode cX5_doze 154 = .ok (.lcmp, 1) := by decide +kernel
theorem dX5_doze_155 : decode cX5_doze 155 = .ok (.ifCond .ne 7, 3) := by decide +kernel
theorem dX5_doze_158 : decode cX5_doze 158 = .ok (.iload 5, 2) := by decide +kernel
theorem dX5_doze_160 : decode cX5_doze 160 = .ok (.i2l, 1) := by decide +kernel
theorem dX5_doze_161 : decode cX5_doze 161 = .ok (.lreturn, 1) := by decide +kernel
theorem dX5_doze_162 : decode cX5_doze 162 = .ok (.iload 5, 2) := by decide +kernel
theorem dX5_doze_164 : decode cX5_doze 164 = .ok (.ifCond .ne 11, 3) := by decide +kernel
theorem dX5_doze_167 : decode cX5_doze 167 = .ok (.lload 6, 2) := by decide +kernel
theorem dX5_doze_169 : decode cX5_doze 169 = .ok (.lload 10, 2) := by decide +kernel
theorem dX5_doze_171 : decode cX5_doze 171 = .ok (.ldiv, 1) := by decide +kernel
theorem dX5_doze_172 : decode cX5_doze 172 = .ok (.goto 8, 3) := by decide +kernel
theorem dX5_doze_175 : decode cX5_doze 175 = .ok (.lload 8, 2) := by decide +kernel
theorem dX5_doze_177 : decode cX5_doze 177 = .ok (.lload 10, 2) := by decide +kernel
theorem dX5_doze_179 : decode cX5_doze 179 = .ok (.ldiv, 1) := by decide +kernel
theorem dX5_doze_180 : decode cX5_doze 180 = .ok (.lreturn, 1) := by decide +kernel
theorem dX5_drawn_0 : decode cX5_drawn 0 = .ok (.aload_n 0, 1) := by decide +kernel
theorem dX5_drawn_1 : decode cX5_drawn 1 = .ok (.invokevirtual 149, 3) := by decide +kernel
theorem dX5_drawn_4 : decode cX5_drawn 4 = .ok (.ifCond .eq 6, 3) := by decide +kernel
theorem dX5_drawn_7 : decode cX5_drawn 7 = .ok (.ldc 148, 2) := by decide +kernel
theorem dX5_drawn_9 : decode cX5_drawn 9 = .ok (.ireturn, 1) := by decide +kernel
theorem dX5_drawn_10 : decode cX5_drawn 10 = .ok (.iload_n 1, 1) := by decide +kernel
theorem dX5_drawn_11 : decode cX5_drawn 11 = .ok (.iconst 0, 1) := by decide +kernel
theorem dX5_drawn_12 : decode cX5_drawn 12 = .ok (.bipush 60, 2) := by decide +kernel
theorem dX5_drawn_14 : decode cX5_drawn 14 = .ok (.invokestatic 63, 3) := by decide +kernel
theorem dX5_drawn_17 : decode cX5_drawn 17 = .ok (.ifCond .eq 23, 3) := by decide +kernel
theorem dX5_drawn_20 : decode cX5_drawn 20 = .ok (.iload_n 2, 1) := by decide +kernel
theorem dX5_drawn_21 : decode cX5_drawn 21 = .ok (.iconst 1, 1) := by decide +kernel
theorem dX5_drawn_22 : decode cX5_drawn 22 = .ok (.ldc_w 268, 3) := by decide +kernel
theorem dX5_drawn_25 : decode cX5_drawn 25 = .ok (.invokestatic 63, 3) := by decide +kernel
theorem dX5_drawn_28 : decode cX5_drawn 28 = .ok (.ifCond .eq 12, 3) := by decide +kernel
theorem dX5_drawn_31 : decode cX5_drawn 31 = .ok (.iload_n 3, 1) := by decide +kernel
theorem dX5_drawn_32 : decode cX5_drawn 32 = .ok (.iconst 0, 1) := by decide +kernel
theorem dX5_drawn_33 : decode cX5_drawn 33 = .ok (.iconst 1, 1) := by decide +kernel
theorem dX5_drawn_34 : decode cX5_drawn 34 = .ok (.invokestatic 63, 3) := by decide +kernel
theorem dX5_drawn_37 : decode cX5_drawn 37 = .ok (.ifCond .ne 6, 3) := by decide +kernel
theorem dX5_drawn_40 : decode cX5_drawn 40 = .ok (.ldc 67, 2) := by decide +kernel
theorem dX5_drawn_42 : decode cX5_drawn 42 = .ok (.ireturn, 1) := by decide +kernel
theorem dX5_drawn_43 : decode cX5_drawn 43 = .ok (.aload_n 0, 1) := by decide +kernel
theorem dX5_drawn_44 : decode cX5_drawn 44 = .ok (.invokevirtual 213, 3) := by decide +kernel
theorem dX5_drawn_47 : decode cX5_drawn 47 = .ok (.iload_n 2, 1) := by decide +kernel
theorem dX5_drawn_48 : decode cX5_drawn 48 = .ok (.i2l, 1) := by decide +kernel
theorem dX5_drawn_49 : decode cX5_drawn 49 = .ok (.lstore 4, 2) := by decide +kernel
theorem dX5_drawn_51 : decode cX5_drawn 51 = .ok (.iconst 0, 1) := by decide +kernel
theorem dX5_drawn_52 : decode cX5_drawn 52 = .ok (.istore 6, 2) := by decide +kernel
theorem dX5_drawn_54 : decode cX5_drawn 54 = .ok (.iload 6, 2) := by decide +kernel
theorem dX5_drawn_56 : decode cX5_drawn 56 = .ok (.iload_n 1, 1) := by decide +kernel
theorem dX5_drawn_57 : decode cX5_drawn 57 = .ok (.if_icmp .ge 74, 3) := by decide +kernel
theorem dX5_drawn_60 : decode cX5_drawn 60 = .ok (.lload 4, 2) := by decide +kernel
theorem dX5_drawn_62 : decode cX5_drawn 62 = .ok (.ldc2_w 269, 3) := by decide +kernel
theorem dX5_drawn_65 : decode cX5_drawn 65 = .ok (.lmul, 1) := by decide +kernel
theorem dX5_drawn_66 : decode cX5_drawn 66 = .ok (.ldc2_w 271, 3) := by decide +kernel
theorem dX5_drawn_69 : decode cX5_drawn 69 = .ok (.lrem, 1) := by decide +kernel
theorem dX5_drawn_70 : decode cX5_drawn 70 = .ok (.lstore 4, 2) := by decide +kernel
theorem dX5_drawn_72 : decode cX5_drawn 72 = .ok (.lload 4, 2) := by decide +kernel
theorem dX5_drawn_74 : decode cX5_drawn 74 = .ok (.aload_n 0, 1) := by decide +kernel
theorem dX5_drawn_75 : decode cX5_drawn 75 = .ok (.getfield 25, 3) := by decide +kernel
theorem dX5_drawn_78 : decode cX5_drawn 78 = .ok (.getfield 140, 3) := by decide +kernel
theorem dX5_drawn_81 : decode cX5_drawn 81 = .ok (.i2l, 1) := by decide +kernel
theorem dX5_drawn_82 : decode cX5_drawn 82 = .ok (.lrem, 1) := by decide +kernel
theorem dX5_drawn_83 : decode cX5_drawn 83 = .ok (.l2i, 1) := by decide +kernel
theorem dX5_drawn_84 : decode cX5_drawn 84 = .ok (.istore 7, 2) := by decide +kernel
theorem dX5_drawn_86 : decode cX5_drawn 86 = .ok (.aload_n 0, 1) := by decide +kernel
theorem dX5_drawn_87 : decode cX5_drawn 87 = .ok (.getfield 29, 3) := by decide +kernel
theorem dX5_drawn_90 : decode cX5_drawn 90 = .ok (.iconst 1, 1) := by decide +kernel
theorem dX5_drawn_91 : decode cX5_drawn 91 = .ok (.iload 7, 2) := by decide +kernel
theorem dX5_drawn_93 : decode cX5_drawn 93 = .ok (.ishl, 1) := by decide +kernel
theorem dX5_drawn_94 : decode cX5_drawn 94 = .ok (.putfield 181, 3) := by decide +kernel
theorem dX5_drawn_97 : decode cX5_drawn 97 = .ok (.lload 4, 2) := by decide +kernel
theorem dX5_drawn_99 : decode cX5_drawn 99 = .ok (.ldc2_w 273, 3) := by decide +kernel
theorem dX5_drawn_102 : decode cX5_drawn 102 = .ok (.lrem, 1) := by decide +kernel
theorem dX5_drawn_103 : decode cX5_drawn 103 = .ok (.lconst 0, 1) := by decide +kernel
theorem dX5_drawn_104 : decode cX5_drawn 104 = .ok (.lcmp, 1) := by decide +kernel
theorem dX5_drawn_105 : decode cX5_drawn 105 = .ok (.ifCond .ne 12, 3) := by decide +kernel
theorem dX5_drawn_108 : decode cX5_drawn 108 = .ok (.aload_n 0, 1) := by decide +kernel
theorem dX5_drawn_109 : decode cX5_drawn 109 = .ok (.getfield 29, 3) := by decide +kernel
theorem dX5_drawn_112 : decode cX5_drawn 112 = .ok (.iload 7, 2) := by decide +kernel
theorem dX5_drawn_114 : decode cX5_drawn 114 = .ok (.invokevirtual 174, 3) := by decide +kernel
theorem dX5_drawn_117 : decode cX5_drawn 117 = .ok (.aload_n 0, 1) := by decide +kernel
theorem dX5_drawn_118 : decode cX5_drawn 118 = .ok (.getfield 29, 3) := by decide +kernel
theorem dX5_drawn_121 : decode cX5_drawn 121 = .ok (.invokevirtual 159, 3) := by decide +kernel
theorem dX5_drawn_124 : decode cX5_drawn 124 = .ok (.pop, 1) := by decide +kernel
theorem dX5_drawn_125 : decode cX5_drawn 125 = .ok (.iinc 6 1, 3) := by decide +kernel
theorem dX5_drawn_128 : decode cX5_drawn 128 = .ok (.goto (-74), 3) := by decide +kernel
theorem dX5_drawn_131 : decode cX5_drawn 131 = .ok (.iload_n 3, 1) := by decide +kernel
theorem dX5_drawn_132 : decode cX5_drawn 132 = .ok (.ifCond .ne 14, 3) := by decide +kernel
theorem dX5_drawn_135 : decode cX5_drawn 135 = .ok (.aload_n 0, 1) := by decide +kernel
theorem dX5_drawn_136 : decode cX5_drawn 136 = .ok (.getfield 29, 3) := by decide +kernel
theorem dX5_drawn_139 : decode cX5_drawn 139 = .ok (.iconst 0, 1) := by decide +kernel
theorem dX5_drawn_140 : decode cX5_drawn 140 = .ok (.invokevirtual 162, 3) := by decide +kernel
theorem dX5_drawn_143 : decode cX5_drawn 143 = .ok (.goto 10, 3) := by decide +kernel
theorem dX5_drawn_146 : decode cX5_drawn 146 = .ok (.aload_n 0, 1) := by decide +kernel
theorem dX5_drawn_147 : decode cX5_drawn 147 = .ok (.getfield 29, 3) := by decide +kernel
theorem dX5_drawn_150 : decode cX5_drawn 150 = .ok (.invokevirtual 226, 3) := by decide +kernel
theorem dX5_drawn_153 : decode cX5_drawn 153 = .ok (.ireturn, 1) := by decide +kernel
theorem dX5_image_0 : decode cX5_image 0 = .ok (.iload_n 1, 1) := by decide +kernel
theorem dX5_image_1 : decode cX5_image 1 = .ok (.iconst 0, 1) := by decide +kernel
theorem dX5_image_2 : decode cX5_image 2 = .ok (.iconst 1, 1) := by decide +kernel
theorem dX5_image_3 : decode cX5_image 3 = .ok (.invokestatic 63, 3) := by decide +kernel
theorem dX5_image_6 : decode cX5_image 6 = .ok (.ifCond .ne 6, 3) := by decide +kernel
theorem dX5_image_9 : decode cX5_image 9 = .ok (.ldc 67, 2) := by decide +kernel
theorem dX5_image_11 : decode cX5_image 11 = .ok (.ireturn, 1) := by decide +kernel
theorem dX5_image_12 : decode cX5_image 12 = .ok (.aload_n 0, 1) := by decide +kernel
theorem dX5_image_13 : decode cX5_image 13 = .ok (.invokevirtual 149, 3) := by decide +kernel
theorem dX5_image_16 : decode cX5_image 16 = .ok (.ifCond .eq 6, 3) := by decide +kernel
theorem dX5_image_19 : decode cX5_image 19 = .ok (.ldc 148, 2) := by decide +kernel
theorem dX5_image_21 : decode cX5_image 21 = .ok (.ireturn, 1) := by decide +kernel
theorem dX5_image_22 : decode cX5_image 22 = .ok (.aload_n 0, 1) := by decide +kernel
theorem dX5_image_23 : decode cX5_image 23 = .ok (.getfield 25, 3) := by decide +kernel
theorem dX5_image_26 : decode cX5_image 26 = .ok (.aload_n 0, 1) := by decide +kernel
theorem dX5_image_27 : decode cX5_image 27 = .ok (.getfield 48, 3) := by decide +kernel
theorem dX5_image_30 : decode cX5_image 30 = .ok (.iload_n 1, 1) := by decide +kernel
theorem dX5_image_31 : decode cX5_image 31 = .ok (.aaload, 1) := by decide +kernel
theorem dX5_image_32 : decode cX5_image 32 = .ok (.invokevirtual 130, 3) := by decide +kernel
theorem dX5_image_35 : decode cX5_image 35 = .ok (.aload_n 0, 1) := by decide +kernel
theorem dX5_image_36 : decode cX5_image 36 = .ok (.dup, 1) := by decide +kernel
theorem dX5_image_37 : decode cX5_image 37 = .ok (.getfield 275, 3) := by decide +kernel
theorem dX5_image_40 : decode cX5_image 40 = .ok (.iconst 1, 1) := by decide +kernel
theorem dX5_image_41 : decode cX5_image 41 = .ok (.iload_n 1, 1) := by decide +kernel
theorem dX5_image_42 : decode cX5_image 42 = .ok (.ishl, 1) := by decide +kernel
theorem dX5_image_43 : decode cX5_image 43 = .ok (.ior, 1) := by decide +kernel
theorem dX5_image_44 : decode cX5_image 44 = .ok (.putfield 275, 3) := by decide +kernel
theorem dX5_image_47 : decode cX5_image 47 = .ok (.iconst 1, 1) := by decide +kernel
theorem dX5_image_48 : decode cX5_image 48 = .ok (.ireturn, 1) := by decide +kernel
theorem dX5_restore_0 : decode cX5_restore 0 = .ok (.iload_n 1, 1) := by decide +kernel
theorem dX5_restore_1 : decode cX5_restore 1 = .ok (.iconst 0, 1) := by decide +kernel
theorem dX5_restore_2 : decode cX5_restore 2 = .ok (.iconst 1, 1) := by decide +kernel
theorem dX5_restore_3 : decode cX5_restore 3 = .ok (.invokestatic 63, 3) := by decide +kernel
theorem dX5_restore_6 : decode cX5_restore 6 = .ok (.ifCond .ne 6, 3) := by decide +kernel
theorem dX5_restore_9 : decode cX5_restore 9 = .ok (.ldc 67, 2) := by decide +kernel
theorem dX5_restore_11 : decode cX5_restore 11 = .ok (.ireturn, 1) := by decide +kernel
theorem dX5_restore_12 : decode cX5_restore 12 = .ok (.aload_n 0, 1) := by decide +kernel
theorem dX5_restore_13 : decode cX5_restore 13 = .ok (.getfield 275, 3) := by decide +kernel
theorem dX5_restore_16 : decode cX5_restore 16 = .ok (.iload_n 1, 1) := by decide +kernel
theorem dX5_restore_17 : decode cX5_restore 17 = .ok (.ishr, 1) := by decide +kernel
theorem dX5_restore_18 : decode cX5_restore 18 = .ok (.iconst 1, 1) := by decide +kernel
theorem dX5_restore_19 : decode cX5_restore 19 = .ok (.iand, 1) := by decide +kernel
theorem dX5_restore_20 : decode cX5_restore 20 = .ok (.ifCond .ne 6, 3) := by decide +kernel
theorem dX5_restore_23 : decode cX5_restore 23 = .ok (.ldc 148, 2) := by decide +kernel
theorem dX5_restore_25 : decode cX5_restore 25 = .ok (.ireturn, 1) := by decide +kernel
theorem dX5_restore_26 : decode cX5_restore 26 = .ok (.aload_n 0, 1) := by decide +kernel
theorem dX5_restore_27 : decode cX5_restore 27 = .ok (.getfield 25, 3) := by decide +kernel
theorem dX5_restore_30 : decode cX5_restore 30 = .ok (.aload_n 0, 1) := by decide +kernel
theorem dX5_restore_31 : decode cX5_restore 31 = .ok (.getfield 48, 3) := by decide +kernel
theorem dX5_restore_34 : decode cX5_restore 34 = .ok (.iload_n 1, 1) := by decide +kernel
theorem dX5_restore_35 : decode cX5_restore 35 = .ok (.aaload, 1) := by decide +kernel
theorem dX5_restore_36 : decode cX5_restore 36 = .ok (.invokevirtual 134, 3) := by decide +kernel
theorem dX5_restore_39 : decode cX5_restore 39 = .ok (.aload_n 0, 1) := by decide +kernel
theorem dX5_restore_40 : decode cX5_restore 40 = .ok (.getfield 42, 3) := by decide +kernel
theorem dX5_restore_43 : decode cX5_restore 43 = .ok (.invokevirtual 137, 3) := by decide +kernel
theorem dX5_restore_46 : decode cX5_restore 46 = .ok (.iconst 1, 1) := by decide +kernel
theorem dX5_restore_47 : decode cX5_restore 47 = .ok (.ireturn, 1) := by decide +kernel
theorem dX5_kind_0 : decode cX5_kind 0 = .ok (.aload_n 0, 1) := by decide +kernel
theorem dX5_kind_1 : decode cX5_kind 1 = .ok (.iload_n 1, 1) := by decide +kernel
theorem dX5_kind_2 : decode cX5_kind 2 = .ok (.invokevirtual 165, 3) := by decide +kernel
theorem dX5_kind_5 : decode cX5_kind 5 = .ok (.ifCond .eq 15, 3) := by decide +kernel
theorem dX5_kind_8 : decode cX5_kind 8 = .ok (.aload_n 0, 1) := by decide +kernel
theorem dX5_kind_9 : decode cX5_kind 9 = .ok (.getfield 25, 3) := by decide +kernel
theorem dX5_kind_12 : decode cX5_kind 12 = .ok (.getfield 278, 3) := by decide +kernel
theorem dX5_kind_15 : decode cX5_kind 15 = .ok (.iload_n 1, 1) := by decide +kernel
theorem dX5_kind_16 : decode cX5_kind 16 = .ok (.iaload, 1) := by decide +kernel
theorem dX5_kind_17 : decode cX5_kind 17 = .ok (.goto 5, 3) := by decide +kernel
theorem dX5_kind_20 : decode cX5_kind 20 = .ok (.ldc 67, 2) := by decide +kernel
theorem dX5_kind_22 : decode cX5_kind 22 = .ok (.ireturn, 1) := by decide +kernel
theorem dX5_as_0 : decode cX5_as 0 = .ok (.aload_n 0, 1) := by decide +kernel
theorem dX5_as_1 : decode cX5_as 1 = .ok (.iload_n 1, 1) := by decide +kernel
theorem dX5_as_2 : decode cX5_as 2 = .ok (.invokevirtual 165, 3) := by decide +kernel
theorem dX5_as_5 : decode cX5_as 5 = .ok (.ifCond .eq 12, 3) := by decide +kernel
theorem dX5_as_8 : decode cX5_as 8 = .ok (.iload_n 2, 1) := by decide +kernel
theorem dX5_as_9 : decode cX5_as 9 = .ok (.iconst 0, 1) := by decide +kernel
theorem dX5_as_10 : decode cX5_as 10 = .ok (.iconst 5, 1) := by decide +kernel
theorem dX5_as_11 : decode cX5_as 11 = .ok (.invokestatic 63, 3) := by decide +kernel
theorem dX5_as_14 : decode cX5_as 14 = .ok (.ifCond .ne 6, 3) := by decide +kernel
theorem dX5_as_17 : decode cX5_as 17 = .ok (.ldc 67, 2) := by decide +kernel
theorem dX5_as_19 : decode cX5_as 19 = .ok (.ireturn, 1) := by decide +kernel
theorem dX5_as_20 : decode cX5_as 20 = .ok (.aload_n 0, 1) := by decide +kernel
theorem dX5_as_21 : decode cX5_as 21 = .ok (.getfield 25, 3) := by decide +kernel
theorem dX5_as_24 : decode cX5_as 24 = .ok (.getfield 278, 3) := by decide +kernel
theorem dX5_as_27 : decode cX5_as 27 = .ok (.iload_n 1, 1) := by decide +kernel
theorem dX5_as_28 : decode cX5_as 28 = .ok (.iaload, 1) := by decide +kernel
theorem dX5_as_29 : decode cX5_as 29 = .ok (.iload_n 2, 1) := by decide +kernel
theorem dX5_as_30 : decode cX5_as 30 = .ok (.invokestatic 281, 3) := by decide +kernel
theorem dX5_as_33 : decode cX5_as 33 = .ok (.ifCond .eq 11, 3) := by decide +kernel
theorem dX5_as_36 : decode cX5_as 36 = .ok (.aload_n 0, 1) := by decide +kernel
theorem dX5_as_37 : decode cX5_as 37 = .ok (.iload_n 1, 1) := by decide +kernel
theorem dX5_as_38 : decode cX5_as 38 = .ok (.invokevirtual 76, 3) := by decide +kernel
theorem dX5_as_41 : decode cX5_as 41 = .ok (.goto 8, 3) := by decide +kernel
theorem dX5_as_44 : decode cX5_as 44 = .ok (.aload_n 0, 1) := by decide +kernel
theorem dX5_as_45 : decode cX5_as 45 = .ok (.iconst 3, 1) := by decide +kernel
theorem dX5_as_46 : decode cX5_as 46 = .ok (.invokevirtual 68, 3) := by decide +kernel
theorem dX5_as_49 : decode cX5_as 49 = .ok (.ireturn, 1) := by decide +kernel
theorem dX5_ask_0 : decode cX5_ask 0 = .ok (.aload_n 0, 1) := by decide +kernel
theorem dX5_ask_1 : decode cX5_ask 1 = .ok (.iload_n 1, 1) := by decide +kernel
theorem dX5_ask_2 : decode cX5_ask 2 = .ok (.invokevirtual 165, 3) := by decide +kernel
theorem dX5_ask_5 : decode cX5_ask 5 = .ok (.ifCond .eq 12, 3) := by decide +kernel
theorem dX5_ask_8 : decode cX5_ask 8 = .ok (.iload_n 2, 1) := by decide +kernel
theorem dX5_ask_9 : decode cX5_ask 9 = .ok (.iconst 0, 1) := by decide +kernel
theorem dX5_ask_10 : decode cX5_ask 10 = .ok (.iconst 1, 1) := by decide +kernel
theorem dX5_ask_11 : decode cX5_ask 11 = .ok (.invokestatic 63, 3) := by decide +kernel
theorem dX5_ask_14 : decode cX5_ask 14 = .ok (.ifCond .ne 6, 3) := by decide +kernel
theorem dX5_ask_17 : decode cX5_ask 17 = .ok (.ldc 67, 2) := by decide +kernel
theorem dX5_ask_19 : decode cX5_ask 19 = .ok (.ireturn, 1) := by decide +kernel
theorem dX5_ask_20 : decode cX5_ask 20 = .ok (.aload_n 0, 1) := by decide +kernel
theorem dX5_ask_21 : decode cX5_ask 21 = .ok (.getfield 54, 3) := by decide +kernel
theorem dX5_ask_24 : decode cX5_ask 24 = .ok (.iconst 0, 1) := by decide +kernel
theorem dX5_ask_25 : decode cX5_ask 25 = .ok (.putfield 284, 3) := by decide +kernel
theorem dX5_ask_28 : decode cX5_ask 28 = .ok (.iload_n 2, 1) := by decide +kernel
theorem dX5_ask_29 : decode cX5_ask 29 = .ok (.ifCond .ne 19, 3) := by decide +kernel
theorem dX5_ask_32 : decode cX5_ask 32 = .ok (.aload_n 0, 1) := by decide +kernel
theorem dX5_ask_33 : decode cX5_ask 33 = .ok (.getfield 54, 3) := by decide +kernel
theorem dX5_ask_36 : decode cX5_ask 36 = .ok (.aload_n 0, 1) := by decide +kernel
theorem dX5_ask_37 : decode cX5_ask 37 = .ok (.getfield 25, 3) := by decide +kernel
theorem dX5_ask_40 : decode cX5_ask 40 = .ok (.iload_n 1, 1) := by decide +kernel
theorem dX5_ask_41 : decode cX5_ask 41 = .ok (.iconst 0, 1) := by decide +kernel
theorem dX5_ask_42 : decode cX5_ask 42 = .ok (.invokevirtual 285, 3) := by decide +kernel
theorem dX5_ask_45 : decode cX5_ask 45 = .ok (.goto 16, 3) := by decide +kernel
theorem dX5_ask_48 : decode cX5_ask 48 = .ok (.aload_n 0, 1) := by decide +kernel
theorem dX5_ask_49 : decode cX5_ask 49 = .ok (.getfield 54, 3) := by decide +kernel
theorem dX5_ask_52 : decode cX5_ask 52 = .ok (.aload_n 0, 1) := by decide +kernel
theorem dX5_ask_53 : decode cX5_ask 53 = .ok (.getfield 25, 3) := by decide +kernel
theorem dX5_ask_56 : decode cX5_ask 56 = .ok (.iload_n 1, 1) := by decide +kernel
theorem dX5_ask_57 : decode cX5_ask 57 = .ok (.iconst 0, 1) := by decide +kernel
theorem dX5_ask_58 : decode cX5_ask 58 = .ok (.invokevirtual 289, 3) := by decide +kernel
theorem dX5_ask_61 : decode cX5_ask 61 = .ok (.ireturn, 1) := by decide +kernel
theorem dX5_trace_0 : decode cX5_trace 0 = .ok (.iload_n 1, 1) := by decide +kernel
theorem dX5_trace_1 : decode cX5_trace 1 = .ok (.ifCond .lt 26, 3) := by decide +kernel
theorem dX5_trace_4 : decode cX5_trace 4 = .ok (.iload_n 1, 1) := by decide +kernel
theorem dX5_trace_5 : decode cX5_trace 5 = .ok (.aload_n 0, 1) := by decide +kernel
theorem dX5_trace_6 : decode cX5_trace 6 = .ok (.getfield 54, 3) := by decide +kernel
theorem dX5_trace_9 : decode cX5_trace 9 = .ok (.getfield 284, 3) := by decide +kernel
theorem dX5_trace_12 : decode cX5_trace 12 = .ok (.if_icmp .ge 15, 3) := by decide +kernel
theorem dX5_trace_15 : decode cX5_trace 15 = .ok (.aload_n 0, 1) := by decide +kernel
theorem dX5_trace_16 : decode cX5_trace 16 = .ok (.getfield 54, 3) := by decide +kernel
theorem dX5_trace_19 : decode cX5_trace 19 = .ok (.getfield 292, 3) := by decide +kernel
theorem dX5_trace_22 : decode cX5_trace 22 = .ok (.iload_n 1, 1) := by decide +kernel
theorem dX5_trace_23 : decode cX5_trace 23 = .ok (.iaload, 1) := by decide +kernel
theorem dX5_trace_24 : decode cX5_trace 24 = .ok (.goto 5, 3) := by decide +kernel
theorem dX5_trace_27 : decode cX5_trace 27 = .ok (.ldc 219, 2) := by decide +kernel
theorem dX5_trace_29 : decode cX5_trace 29 = .ok (.ireturn, 1) := by decide +kernel
theorem dX5_count_0 : decode cX5_count 0 = .ok (.iload_n 1, 1) := by decide +kernel
theorem dX5_count_1 : decode cX5_count 1 = .ok (.tableswitch 108 0 7 #[47, 52, 60, 68, 76, 84, 92, 100], 47) := by decide +kernel
theorem dX5_count_48 : decode cX5_count 48 = .ok (.aload_n 0, 1) := by decide +kernel
theorem dX5_count_49 : decode cX5_count 49 = .ok (.invokevirtual 295, 3) := by decide +kernel
theorem dX5_count_52 : decode cX5_count 52 = .ok (.ireturn, 1) := by decide +kernel
theorem dX5_count_53 : decode cX5_count 53 = .ok (.aload_n 0, 1) := by decide +kernel
theorem dX5_count_54 : decode cX5_count 54 = .ok (.getfield 25, 3) := by decide +kernel
theorem dX5_count_57 : decode cX5_count 57 = .ok (.getfield 140, 3) := by decide +kernel
theorem dX5_count_60 : decode cX5_count 60 = .ok (.ireturn, 1) := by decide +kernel
theorem dX5_count_61 : decode cX5_count 61 = .ok (.aload_n 0, 1) := by decide +kernel
theorem dX5_count_62 : decode cX5_count 62 = .ok (.getfield 25, 3) := by decide +kernel
theorem dX5_count_65 : decode cX5_count 65 = .ok (.getfield 152, 3) := by decide +kernel
theorem dX5_count_68 : decode cX5_count 68 = .ok (.ireturn, 1) := by decide +kernel
theorem dX5_count_69 : decode cX5_count 69 = .ok (.aload_n 0, 1) := by decide +kernel
theorem dX5_count_70 : decode cX5_count 70 = .ok (.getfield 25, 3) := by decide +kernel
theorem dX5_count_73 : decode cX5_count 73 = .ok (.getfield 181, 3) := by decide +kernel
theorem dX5_count_76 : decode cX5_count 76 = .ok (.ireturn, 1) := by decide +kernel
theorem dX5_count_77 : decode cX5_count 77 = .ok (.aload_n 0, 1) := by decide +kernel
theorem dX5_count_78 : decode cX5_count 78 = .ok (.getfield 25, 3) := by decide +kernel
theorem dX5_count_81 : decode cX5_count 81 = .ok (.invokevirtual 226, 3) := by decide +kernel
theorem dX5_count_84 : decode cX5_count 84 = .ok (.ireturn, 1) := by decide +kernel
theorem dX5_count_85 : decode cX5_count 85 = .ok (.aload_n 0, 1) := by decide +kernel
theorem dX5_count_86 : decode cX5_count 86 = .ok (.getfield 25, 3) := by decide +kernel
theorem dX5_count_89 : decode cX5_count 89 = .ok (.invokevirtual 298, 3) := by decide +kernel
theorem dX5_count_92 : decode cX5_count 92 = .ok (.ireturn, 1) := by decide +kernel
theorem dX5_count_93 : decode cX5_count 93 = .ok (.aload_n 0, 1) := by decide +kernel
theorem dX5_count_94 : decode cX5_count 94 = .ok (.getfield 42, 3) := by decide +kernel
theorem dX5_count_97 : decode cX5_count 97 = .ok (.getfield 145, 3) := by decide +kernel
theorem dX5_count_100 : decode cX5_count 100 = .ok (.ireturn, 1) := by decide +kernel
theorem dX5_count_101 : decode cX5_count 101 = .ok (.aload_n 0, 1) := by decide +kernel
theorem dX5_count_102 : decode cX5_count 102 = .ok (.getfield 18, 3) := by decide +kernel
theorem dX5_count_105 : decode cX5_count 105 = .ok (.getfield 115, 3) := by decide +kernel
theorem dX5_count_108 : decode cX5_count 108 = .ok (.ireturn, 1) := by decide +kernel
theorem dX5_count_109 : decode cX5_count 109 = .ok (.ldc 67, 2) := by decide +kernel
theorem dX5_count_111 : decode cX5_count 111 = .ok (.ireturn, 1) := by decide +kernel
theorem dX5_status_0 : decode cX5_status 0 = .ok (.aload_n 0, 1) := by decide +kernel
theorem dX5_status_1 : decode cX5_status 1 = .ok (.getfield 301, 3) := by decide +kernel
theorem dX5_status_4 : decode cX5_status 4 = .ok (.ireturn, 1) := by decide +kernel
theorem dX5_within_0 : decode cX5_within 0 = .ok (.iload_n 0, 1) := by decide +kernel
theorem dX5_within_1 : decode cX5_within 1 = .ok (.iload_n 1, 1) := by decide +kernel
theorem dX5_within_2 : decode cX5_within 2 = .ok (.if_icmp .lt 12, 3) := by decide +kernel
theorem dX5_within_5 : decode cX5_within 5 = .ok (.iload_n 0, 1) := by decide +kernel
theorem dX5_within_6 : decode cX5_within 6 = .ok (.iload_n 2, 1) := by decide +kernel
theorem dX5_within_7 : decode cX5_within 7 = .ok (.if_icmp .gt 7, 3) := by decide +kernel
theorem dX5_within_10 : decode cX5_within 10 = .ok (.iconst 1, 1) := by decide +kernel
theorem dX5_within_11 : decode cX5_within 11 = .ok (.goto 4, 3) := by decide +kernel
theorem dX5_within_14 : decode cX5_within 14 = .ok (.iconst 0, 1) := by decide +kernel
theorem dX5_within_15 : decode cX5_within 15 = .ok (.ireturn, 1) := by decide +kernel
theorem dX5_isRow_0 : decode cX5_isRow 0 = .ok (.iload_n 0, 1) := by decide +kernel
theorem dX5_isRow_1 : decode cX5_isRow 1 = .ok (.iconst 0, 1) := by decide +kernel
theorem dX5_isRow_2 : decode cX5_isRow 2 = .ok (.bipush 7, 2) := by decide +kernel
theorem dX5_isRow_4 : decode cX5_isRow 4 = .ok (.invokestatic 63, 3) := by decide +kernel
theorem dX5_isRow_7 : decode cX5_isRow 7 = .ok (.ireturn, 1) := by decide +kernel
theorem dX5_isChair_0 : decode cX5_isChair 0 = .ok (.iload_n 1, 1) := by decide +kernel
theorem dX5_isChair_1 : decode cX5_isChair 1 = .ok (.iconst 0, 1) := by decide +kernel
theorem dX5_isChair_2 : decode cX5_isChair 2 = .ok (.aload_n 0, 1) := by decide +kernel
theorem dX5_isChair_3 : decode cX5_isChair 3 = .ok (.getfield 25, 3) := by decide +kernel
theorem dX5_isChair_6 : decode cX5_isChair 6 = .ok (.getfield 140, 3) := by decide +kernel
theorem dX5_isChair_9 : decode cX5_isChair 9 = .ok (.iconst 1, 1) := by decide +kernel
theorem dX5_isChair_10 : decode cX5_isChair 10 = .ok (.isub, 1) := by decide +kernel
theorem dX5_isChair_11 : decode cX5_isChair 11 = .ok (.invokestatic 63, 3) := by decide +kernel
theorem dX5_isChair_14 : decode cX5_isChair 14 = .ok (.ireturn, 1) := by decide +kernel
theorem dX5_isEmpty_0 : decode cX5_isEmpty 0 = .ok (.aload_n 0, 1) := by decide +kernel
theorem dX5_isEmpty_1 : decode cX5_isEmpty 1 = .ok (.getfield 25, 3) := by decide +kernel
theorem dX5_isEmpty_4 : decode cX5_isEmpty 4 = .ok (.getfield 140, 3) := by decide +kernel
theorem dX5_isEmpty_7 : decode cX5_isEmpty 7 = .ok (.iconst 1, 1) := by decide +kernel
theorem dX5_isEmpty_8 : decode cX5_isEmpty 8 = .ok (.if_icmp .ge 7, 3) := by decide +kernel
theorem dX5_isEmpty_11 : decode cX5_isEmpty 11 = .ok (.iconst 1, 1) := by decide +kernel
theorem dX5_isEmpty_12 : decode cX5_isEmpty 12 = .ok (.goto 4, 3) := by decide +kernel
theorem dX5_isEmpty_15 : decode cX5_isEmpty 15 = .ok (.iconst 0, 1) := by decide +kernel
theorem dX5_isEmpty_16 : decode cX5_isEmpty 16 = .ok (.ireturn, 1) := by decide +kernel
theorem dX5_found_0 : decode cX5_found 0 = .ok (.aload_n 0, 1) := by decide +kernel
theorem dX5_found_1 : decode cX5_found 1 = .ok (.iload_n 1, 1) := by decide +kernel
theorem dX5_found_2 : decode cX5_found 2 = .ok (.putfield 301, 3) := by decide +kernel
theorem dX5_found_5 : decode cX5_found 5 = .ok (.ldc_w 304, 3) := by decide +kernel
theorem dX5_found_8 : decode cX5_found 8 = .ok (.iload_n 1, 1) := by decide +kernel
theorem dX5_found_9 : decode cX5_found 9 = .ok (.isub, 1) := by decide +kernel
theorem dX5_found_10 : decode cX5_found 10 = .ok (.ireturn, 1) := by decide +kernel
theorem dX5_nothingFound_0 : decode cX5_nothingFound 0 = .ok (.aload_n 0, 1) := by decide +kernel
theorem dX5_nothingFound_1 : decode cX5_nothingFound 1 = .ok (.iconst 0, 1) := by decide +kernel
theorem dX5_nothingFound_2 : decode cX5_nothingFound 2 = .ok (.putfield 301, 3) := by decide +kernel
theorem dX5_nothingFound_5 : decode cX5_nothingFound 5 = .ok (.iload_n 1, 1) := by decide +kernel
theorem dX5_nothingFound_6 : decode cX5_nothingFound 6 = .ok (.ireturn, 1) := by decide +kernel
theorem dX5_findingOfItems_0 : decode cX5_findingOfItems 0 = .ok (.aload_n 0, 1) := by decide +kernel
theorem dX5_findingOfItems_1 : decode cX5_findingOfItems 1 = .ok (.getfield 11, 3) := by decide +kernel
theorem dX5_findingOfItems_4 : decode cX5_findingOfItems 4 = .ok (.iload_n 1, 1) := by decide +kernel
theorem dX5_findingOfItems_5 : decode cX5_findingOfItems 5 = .ok (.aaload, 1) := by decide +kernel
theorem dX5_findingOfItems_6 : decode cX5_findingOfItems 6 = .ok (.invokevirtual 87, 3) := by decide +kernel
theorem dX5_findingOfItems_9 : decode cX5_findingOfItems 9 = .ok (.ifCond .eq 5, 3) := by decide +kernel
theorem dX5_findingOfItems_12 : decode cX5_findingOfItems 12 = .ok (.iconst 1, 1) := by decide +kernel
theorem dX5_findingOfItems_13 : decode cX5_findingOfItems 13 = .ok (.ireturn, 1) := by decide +kernel
theorem dX5_findingOfItems_14 : decode cX5_findingOfItems 14 = .ok (.aload_n 0, 1) := by decide +kernel
theorem dX5_findingOfItems_15 : decode cX5_findingOfItems 15 = .ok (.getfield 11, 3) := by decide +kernel
theorem dX5_findingOfItems_18 : decode cX5_findingOfItems 18 = .ok (.iload_n 1, 1) := by decide +kernel
theorem dX5_findingOfItems_19 : decode cX5_findingOfItems 19 = .ok (.aaload, 1) := by decide +kernel
theorem dX5_findingOfItems_20 : decode cX5_findingOfItems 20 = .ok (.iload_n 2, 1) := by decide +kernel
theorem dX5_findingOfItems_21 : decode cX5_findingOfItems 21 = .ok (.iload_n 3, 1) := by decide +kernel
theorem dX5_findingOfItems_22 : decode cX5_findingOfItems 22 = .ok (.invokevirtual 95, 3) := by decide +kernel
theorem dX5_findingOfItems_25 : decode cX5_findingOfItems 25 = .ok (.ifCond .eq 7, 3) := by decide +kernel
theorem dX5_findingOfItems_28 : decode cX5_findingOfItems 28 = .ok (.iconst 0, 1) := by decide +kernel
theorem dX5_findingOfItems_29 : decode cX5_findingOfItems 29 = .ok (.goto 4, 3) := by decide +kernel
theorem dX5_findingOfItems_32 : decode cX5_findingOfItems 32 = .ok (.iconst 2, 1) := by decide +kernel
theorem dX5_findingOfItems_33 : decode cX5_findingOfItems 33 = .ok (.ireturn, 1) := by decide +kernel
theorem dX5_refusalOfOrder_0 : decode cX5_refusalOfOrder 0 = .ok (.aload_n 0, 1) := by decide +kernel
theorem dX5_refusalOfOrder_1 : decode cX5_refusalOfOrder 1 = .ok (.invokevirtual 149, 3) := by decide +kernel
theorem dX5_refusalOfOrder_4 : decode cX5_refusalOfOrder 4 = .ok (.ifCond .eq 6, 3) := by decide +kernel
theorem dX5_refusalOfOrder_7 : decode cX5_refusalOfOrder 7 = .ok (.ldc 148, 2) := by decide +kernel
theorem dX5_refusalOfOrder_9 : decode cX5_refusalOfOrder 9 = .ok (.ireturn, 1) := by decide +kernel
theorem dX5_refusalOfOrder_10 : decode cX5_refusalOfOrder 10 = .ok (.iload_n 1, 1) := by decide +kernel
theorem dX5_refusalOfOrder_11 : decode cX5_refusalOfOrder 11 = .ok (.invokestatic 59, 3) := by decide +kernel
theorem dX5_refusalOfOrder_14 : decode cX5_refusalOfOrder 14 = .ok (.ifCond .ne 6, 3) := by decide +kernel
theorem dX5_refusalOfOrder_17 : decode cX5_refusalOfOrder 17 = .ok (.ldc 67, 2) := by decide +kernel
theorem dX5_refusalOfOrder_19 : decode cX5_refusalOfOrder 19 = .ok (.ireturn, 1) := by decide +kernel
theorem dX5_refusalOfOrder_20 : decode cX5_refusalOfOrder 20 = .ok (.aload_n 0, 1) := by decide +kernel
theorem dX5_refusalOfOrder_21 : decode cX5_refusalOfOrder 21 = .ok (.iload_n 1, 1) := by decide +kernel
theorem dX5_refusalOfOrder_22 : decode cX5_refusalOfOrder 22 = .ok (.iload_n 2, 1) := by decide +kernel
theorem dX5_refusalOfOrder_23 : decode cX5_refusalOfOrder 23 = .ok (.invokevirtual 305, 3) := by decide +kernel
theorem dX5_refusalOfOrder_26 : decode cX5_refusalOfOrder 26 = .ok (.istore_n 3, 1) := by decide +kernel
theorem dX5_refusalOfOrder_27 : decode cX5_refusalOfOrder 27 = .ok (.iload_n 3, 1) := by decide +kernel
theorem dX5_refusalOfOrder_28 : decode cX5_refusalOfOrder 28 = .ok (.ifCond .eq 11, 3) := by decide +kernel
theorem dX5_refusalOfOrder_31 : decode cX5_refusalOfOrder 31 = .ok (.aload_n 0, 1) := by decide +kernel
theorem dX5_refusalOfOrder_32 : decode cX5_refusalOfOrder 32 = .ok (.iload_n 3, 1) := by decide +kernel
theorem dX5_refusalOfOrder_33 : decode cX5_refusalOfOrder 33 = .ok (.invokevirtual 68, 3) := by decide +kernel
theorem dX5_refusalOfOrder_36 : decode cX5_refusalOfOrder 36 = .ok (.goto 4, 3) := by decide +kernel
theorem dX5_refusalOfOrder_39 : decode cX5_refusalOfOrder 39 = .ok (.iconst 0, 1) := by decide +kernel
theorem dX5_refusalOfOrder_40 : decode cX5_refusalOfOrder 40 = .ok (.ireturn, 1) := by decide +kernel
theorem dX5_findingOfOrder_0 : decode cX5_findingOfOrder 0 = .ok (.aload_n 0, 1) := by decide +kernel
theorem dX5_findingOfOrder_1 : decode cX5_findingOfOrder 1 = .ok (.iload_n 1, 1) := by decide +kernel
theorem dX5_findingOfOrder_2 : decode cX5_findingOfOrder 2 = .ok (.iload_n 2, 1) := by decide +kernel
theorem dX5_findingOfOrder_3 : decode cX5_findingOfOrder 3 = .ok (.aload_n 0, 1) := by decide +kernel
theorem dX5_findingOfOrder_4 : decode cX5_findingOfOrder 4 = .ok (.getfield 25, 3) := by decide +kernel
theorem dX5_findingOfOrder_7 : decode cX5_findingOfOrder 7 = .ok (.getfield 140, 3) := by decide +kernel
theorem dX5_findingOfOrder_10 : decode cX5_findingOfOrder 10 = .ok (.invokevirtual 79, 3) := by decide +kernel
theorem dX5_findingOfOrder_13 : decode cX5_findingOfOrder 13 = .ok (.istore_n 3, 1) := by decide +kernel
theorem dX5_findingOfOrder_14 : decode cX5_findingOfOrder 14 = .ok (.iload_n 3, 1) := by decide +kernel
theorem dX5_findingOfOrder_15 : decode cX5_findingOfOrder 15 = .ok (.ifCond .eq 5, 3) := by decide +kernel
theorem dX5_findingOfOrder_18 : decode cX5_findingOfOrder 18 = .ok (.iload_n 3, 1) := by decide +kernel
theorem dX5_findingOfOrder_19 : decode cX5_findingOfOrder 19 = .ok (.ireturn, 1) := by decide +kernel
theorem dX5_findingOfOrder_20 : decode cX5_findingOfOrder 20 = .ok (.iconst 0, 1) := by decide +kernel
theorem dX5_findingOfOrder_21 : decode cX5_findingOfOrder 21 = .ok (.istore 4, 2) := by decide +kernel
theorem dX5_findingOfOrder_23 : decode cX5_findingOfOrder 23 = .ok (.iconst 0, 1) := by decide +kernel
theorem dX5_findingOfOrder_24 : decode cX5_findingOfOrder 24 = .ok (.istore 5, 2) := by decide +kernel
theorem dX5_findingOfOrder_26 : decode cX5_findingOfOrder 26 = .ok (.iload 5, 2) := by decide +kernel
theorem dX5_findingOfOrder_28 : decode cX5_findingOfOrder 28 = .ok (.aload_n 0, 1) := by decide +kernel
theorem dX5_findingOfOrder_29 : decode cX5_findingOfOrder 29 = .ok (.getfield 25, 3) := by decide +kernel
theorem dX5_findingOfOrder_32 : decode cX5_findingOfOrder 32 = .ok (.getfield 140, 3) := by decide +kernel
theorem dX5_findingOfOrder_35 : decode cX5_findingOfOrder 35 = .ok (.if_icmp .ge 64, 3) := by decide +kernel
theorem dX5_findingOfOrder_38 : decode cX5_findingOfOrder 38 = .ok (.aload_n 0, 1) := by decide +kernel
theorem dX5_findingOfOrder_39 : decode cX5_findingOfOrder 39 = .ok (.getfield 11, 3) := by decide +kernel
theorem dX5_findingOfOrder_42 : decode cX5_findingOfOrder 42 = .ok (.iload_n 1, 1) := by decide +kernel
theorem dX5_findingOfOrder_43 : decode cX5_findingOfOrder 43 = .ok (.aaload, 1) := by decide +kernel
theorem dX5_findingOfOrder_44 : decode cX5_findingOfOrder 44 = .ok (.getfield 99, 3) := by decide +kernel
theorem dX5_findingOfOrder_47 : decode cX5_findingOfOrder 47 = .ok (.iload_n 2, 1) := by decide +kernel
theorem dX5_findingOfOrder_48 : decode cX5_findingOfOrder 48 = .ok (.iload 5, 2) := by decide +kernel
theorem dX5_findingOfOrder_50 : decode cX5_findingOfOrder 50 = .ok (.iadd, 1) := by decide +kernel
theorem dX5_findingOfOrder_51 : decode cX5_findingOfOrder 51 = .ok (.iaload, 1) := by decide +kernel
theorem dX5_findingOfOrder_52 : decode cX5_findingOfOrder 52 = .ok (.istore 6, 2) := by decide +kernel
theorem dX5_findingOfOrder_54 : decode cX5_findingOfOrder 54 = .ok (.aload_n 0, 1) := by decide +kernel
theorem dX5_findingOfOrder_55 : decode cX5_findingOfOrder 55 = .ok (.iload 6, 2) := by decide +kernel
theorem dX5_findingOfOrder_57 : decode cX5_findingOfOrder 57 = .ok (.invokevirtual 165, 3) := by decide +kernel
theorem dX5_findingOfOrder_60 : decode cX5_findingOfOrder 60 = .ok (.ifCond .eq 13, 3) := by decide +kernel
theorem dX5_findingOfOrder_63 : decode cX5_findingOfOrder 63 = .ok (.iload 4, 2) := by decide +kernel
theorem dX5_findingOfOrder_65 : decode cX5_findingOfOrder 65 = .ok (.iload 6, 2) := by decide +kernel
theorem dX5_findingOfOrder_67 : decode cX5_findingOfOrder 67 = .ok (.ishr, 1) := by decide +kernel
theorem dX5_findingOfOrder_68 : decode cX5_findingOfOrder 68 = .ok (.iconst 1, 1) := by decide +kernel
theorem dX5_findingOfOrder_69 : decode cX5_findingOfOrder 69 = .ok (.iand, 1) := by decide +kernel
theorem dX5_findingOfOrder_70 : decode cX5_findingOfOrder 70 = .ok (.ifCond .eq 5, 3) := by decide +kernel
theorem dX5_findingOfOrder_73 : decode cX5_findingOfOrder 73 = .ok (.iconst 3, 1) := by decide +kernel
theorem dX5_findingOfOrder_74 : decode cX5_findingOfOrder 74 = .ok (.ireturn, 1) := by decide +kernel
theorem dX5_findingOfOrder_75 : decode cX5_findingOfOrder 75 = .ok (.iload 4, 2) := by decide +kernel
theorem dX5_findingOfOrder_77 : decode cX5_findingOfOrder 77 = .ok (.iconst 1, 1) := by decide +kernel
theorem dX5_findingOfOrder_78 : decode cX5_findingOfOrder 78 = .ok (.iload 6, 2) := by decide +kernel
theorem dX5_findingOfOrder_80 : decode cX5_findingOfOrder 80 = .ok (.ishl, 1) := by decide +kernel
theorem dX5_findingOfOrder_81 : decode cX5_findingOfOrder 81 = .ok (.ior, 1) := by decide +kernel
theorem dX5_findingOfOrder_82 : decode cX5_findingOfOrder 82 = .ok (.istore 4, 2) := by decide +kernel
theorem dX5_findingOfOrder_84 : decode cX5_findingOfOrder 84 = .ok (.aload_n 0, 1) := by decide +kernel
theorem dX5_findingOfOrder_85 : decode cX5_findingOfOrder 85 = .ok (.getfield 36, 3) := by decide +kernel
theorem dX5_findingOfOrder_88 : decode cX5_findingOfOrder 88 = .ok (.iload 5, 2) := by decide +kernel
theorem dX5_findingOfOrder_90 : decode cX5_findingOfOrder 90 = .ok (.iload 6, 2) := by decide +kernel
theorem dX5_findingOfOrder_92 : decode cX5_findingOfOrder 92 = .ok (.iastore, 1) := by decide +kernel
theorem dX5_findingOfOrder_93 : decode cX5_findingOfOrder 93 = .ok (.iinc 5 1, 3) := by decide +kernel
theorem dX5_findingOfOrder_96 : decode cX5_findingOfOrder 96 = .ok (.goto (-70), 3) := by decide +kernel
theorem dX5_findingOfOrder_99 : decode cX5_findingOfOrder 99 = .ok (.iconst 0, 1) := by decide +kernel
theorem dX5_findingOfOrder_100 : decode cX5_findingOfOrder 100 = .ok (.ireturn, 1) := by decide +kernel
theorem dX5_rowsThere_0 : decode cX5_rowsThere 0 = .ok (.iconst 0, 1) := by decide +kernel
theorem dX5_rowsThere_1 : decode cX5_rowsThere 1 = .ok (.istore_n 1, 1) := by decide +kernel
theorem dX5_rowsThere_2 : decode cX5_rowsThere 2 = .ok (.iconst 0, 1) := by decide +kernel
theorem dX5_rowsThere_3 : decode cX5_rowsThere 3 = .ok (.istore_n 2, 1) := by decide +kernel
theorem dX5_rowsThere_4 : decode cX5_rowsThere 4 = .ok (.iload_n 2, 1) := by decide +kernel
theorem dX5_rowsThere_5 : decode cX5_rowsThere 5 = .ok (.bipush 8, 2) := by decide +kernel
theorem dX5_rowsThere_7 : decode cX5_rowsThere 7 = .ok (.if_icmp .ge 24, 3) := by decide +kernel
theorem dX5_rowsThere_10 : decode cX5_rowsThere 10 = .ok (.aload_n 0, 1) := by decide +kernel
theorem dX5_rowsThere_11 : decode cX5_rowsThere 11 = .ok (.getfield 11, 3) := by decide +kernel
theorem dX5_rowsThere_14 : decode cX5_rowsThere 14 = .ok (.iload_n 2, 1) := by decide +kernel
theorem dX5_rowsThere_15 : decode cX5_rowsThere 15 = .ok (.aaload, 1) := by decide +kernel
theorem dX5_rowsThere_16 : decode cX5_rowsThere 16 = .ok (.invokevirtual 87, 3) := by decide +kernel
theorem dX5_rowsThere_19 : decode cX5_rowsThere 19 = .ok (.ifCond .ne 6, 3) := by decide +kernel
theorem dX5_rowsThere_22 : decode cX5_rowsThere 22 = .ok (.iinc 1 1, 3) := by decide +kernel
theorem dX5_rowsThere_25 : decode cX5_rowsThere 25 = .ok (.iinc 2 1, 3) := by decide +kernel
theorem dX5_rowsThere_28 : decode cX5_rowsThere 28 = .ok (.goto (-24), 3) := by decide +kernel
theorem dX5_rowsThere_31 : decode cX5_rowsThere 31 = .ok (.iload_n 1, 1) := by decide +kernel
theorem dX5_rowsThere_32 : decode cX5_rowsThere 32 = .ok (.ireturn, 1) := by decide +kernel
theorem dX5_isOfKind_0 : decode cX5_isOfKind 0 = .ok (.iload_n 0, 1) := by decide +kernel
theorem dX5_isOfKind_1 : decode cX5_isOfKind 1 = .ok (.istore_n 2, 1) := by decide +kernel
theorem dX5_isOfKind_2 : decode cX5_isOfKind 2 = .ok (.iconst 0, 1) := by decide +kernel
theorem dX5_isOfKind_3 : decode cX5_isOfKind 3 = .ok (.istore_n 3, 1) := by decide +kernel
theorem dX5_isOfKind_4 : decode cX5_isOfKind 4 = .ok (.iload_n 3, 1) := by decide +kernel
theorem dX5_isOfKind_5 : decode cX5_isOfKind 5 = .ok (.getstatic 308, 3) := by decide +kernel
theorem dX5_isOfKind_8 : decode cX5_isOfKind 8 = .ok (.arraylength, 1) := by decide +kernel
theorem dX5_isOfKind_9 : decode cX5_isOfKind 9 = .ok (.if_icmp .ge 36, 3) := by decide +kernel
theorem dX5_isOfKind_12 : decode cX5_isOfKind 12 = .ok (.iload_n 2, 1) := by decide +kernel
theorem dX5_isOfKind_13 : decode cX5_isOfKind 13 = .ok (.iconst 0, 1) := by decide +kernel
theorem dX5_isOfKind_14 : decode cX5_isOfKind 14 = .ok (.getstatic 308, 3) := by decide +kernel
theorem dX5_isOfKind_17 : decode cX5_isOfKind 17 = .ok (.arraylength, 1) := by decide +kernel
theorem dX5_isOfKind_18 : decode cX5_isOfKind 18 = .ok (.iconst 1, 1) := by decide +kernel
theorem dX5_isOfKind_19 : decode cX5_isOfKind 19 = .ok (.isub, 1) := by decide +kernel
theorem dX5_isOfKind_20 : decode cX5_isOfKind 20 = .ok (.invokestatic 63, 3) := by decide +kernel
theorem dX5_isOfKind_23 : decode cX5_isOfKind 23 = .ok (.ifCond .eq 22, 3) := by decide +kernel
theorem dX5_isOfKind_26 : decode cX5_isOfKind 26 = .ok (.iload_n 2, 1) := by decide +kernel
theorem dX5_isOfKind_27 : decode cX5_isOfKind 27 = .ok (.iload_n 1, 1) := by decide +kernel
theorem dX5_isOfKind_28 : decode cX5_isOfKind 28 = .ok (.if_icmp .ne 5, 3) := by decide +kernel
theorem dX5_isOfKind_31 : decode cX5_isOfKind 31 = .ok (.iconst 1, 1) := by decide +kernel
theorem dX5_isOfKind_32 : decode cX5_isOfKind 32 = .ok (.ireturn, 1) := by decide +kernel
theorem dX5_isOfKind_33 : decode cX5_isOfKind 33 = .ok (.getstatic 308, 3) := by decide +kernel
theorem dX5_isOfKind_36 : decode cX5_isOfKind 36 = .ok (.iload_n 2, 1) := by decide +kernel
theorem dX5_isOfKind_37 : decode cX5_isOfKind 37 = .ok (.iaload, 1) := by decide +kernel
theorem dX5_isOfKind_38 : decode cX5_isOfKind 38 = .ok (.istore_n 2, 1) := by decide +kernel
theorem dX5_isOfKind_39 : decode cX5_isOfKind 39 = .ok (.iinc 3 1, 3) := by decide +kernel
theorem dX5_isOfKind_42 : decode cX5_isOfKind 42 = .ok (.goto (-38), 3) := by decide +kernel
theorem dX5_isOfKind_45 : decode cX5_isOfKind 45 = .ok (.iconst 0, 1) := by decide +kernel
theorem dX5_isOfKind_46 : decode cX5_isOfKind 46 = .ok (.ireturn, 1) := by decide +kernel
theorem dX5_foresee_0 : decode cX5_foresee 0 = .ok (.aload_n 0, 1) := by decide +kernel
theorem dX5_foresee_1 : decode cX5_foresee 1 = .ok (.getfield 25, 3) := by decide +kernel
theorem dX5_foresee_4 : decode cX5_foresee 4 = .ok (.aload_n 0, 1) := by decide +kernel
theorem dX5_foresee_5 : decode cX5_foresee 5 = .ok (.getfield 32, 3) := by decide +kernel
theorem dX5_foresee_8 : decode cX5_foresee 8 = .ok (.invokevirtual 130, 3) := by decide +kernel
theorem dX5_foresee_11 : decode cX5_foresee 11 = .ok (.aload_n 0, 1) := by decide +kernel
theorem dX5_foresee_12 : decode cX5_foresee 12 = .ok (.getfield 29, 3) := by decide +kernel
theorem dX5_foresee_15 : decode cX5_foresee 15 = .ok (.aload_n 0, 1) := by decide +kernel
theorem dX5_foresee_16 : decode cX5_foresee 16 = .ok (.getfield 32, 3) := by decide +kernel
theorem dX5_foresee_19 : decode cX5_foresee 19 = .ok (.invokevirtual 134, 3) := by decide +kernel
theorem dX5_foresee_22 : decode cX5_foresee 22 = .ok (.return_, 1) := by decide +kernel
theorem dX5_passWatched_0 : decode cX5_passWatched 0 = .ok (.aload_n 0, 1) := by decide +kernel
theorem dX5_passWatched_1 : decode cX5_passWatched 1 = .ok (.invokevirtual 213, 3) := by decide +kernel
theorem dX5_passWatched_4 : decode cX5_passWatched 4 = .ok (.aload_n 0, 1) := by decide +kernel
theorem dX5_passWatched_5 : decode cX5_passWatched 5 = .ok (.getfield 29, 3) := by decide +kernel
theorem dX5_passWatched_8 : decode cX5_passWatched 8 = .ok (.iload_n 2, 1) := by decide +kernel
theorem dX5_passWatched_9 : decode cX5_passWatched 9 = .ok (.putfield 181, 3) := by decide +kernel
theorem dX5_passWatched_12 : decode cX5_passWatched 12 = .ok (.aload_n 0, 1) := by decide +kernel
theorem dX5_passWatched_13 : decode cX5_passWatched 13 = .ok (.getfield 29, 3) := by decide +kernel
theorem dX5_passWatched_16 : decode cX5_passWatched 16 = .ok (.iload_n 1, 1) := by decide +kernel
theorem dX5_passWatched_17 : decode cX5_passWatched 17 = .ok (.invokevirtual 216, 3) := by decide +kernel
theorem dX5_passWatched_20 : decode cX5_passWatched 20 = .ok (.return_, 1) := by decide +kernel
theorem dX5_rankIfWatched_0 : decode cX5_rankIfWatched 0 = .ok (.aload_n 0, 1) := by decide +kernel
theorem dX5_rankIfWatched_1 : decode cX5_rankIfWatched 1 = .ok (.iload_n 2, 1) := by decide +kernel
theorem dX5_rankIfWatched_2 : decode cX5_rankIfWatched 2 = .ok (.iload_n 3, 1) := by decide +kernel
theorem dX5_rankIfWatched_3 : decode cX5_rankIfWatched 3 = .ok (.invokevirtual 223, 3) := by decide +kernel
theorem dX5_rankIfWatched_6 : decode cX5_rankIfWatched 6 = .ok (.aload_n 0, 1) := by decide +kernel
theorem dX5_rankIfWatched_7 : decode cX5_rankIfWatched 7 = .ok (.getfield 29, 3) := by decide +kernel
theorem dX5_rankIfWatched_10 : decode cX5_rankIfWatched 10 = .ok (.iload_n 1, 1) := by decide +kernel
theorem dX5_rankIfWatched_11 : decode cX5_rankIfWatched 11 = .ok (.invokevirtual 204, 3) := by decide +kernel
theorem dX5_rankIfWatched_14 : decode cX5_rankIfWatched 14 = .ok (.ireturn, 1) := by decide +kernel
theorem dX5_leastSawdust_0 : decode cX5_leastSawdust 0 = .ok (.aload_n 0, 1) := by decide +kernel
theorem dX5_leastSawdust_1 : decode cX5_leastSawdust 1 = .ok (.invokevirtual 213, 3) := by decide +kernel
theorem dX5_leastSawdust_4 : decode cX5_leastSawdust 4 = .ok (.iconst 0, 1) := by decide +kernel
theorem dX5_leastSawdust_5 : decode cX5_leastSawdust 5 = .ok (.istore_n 1, 1) := by decide +kernel
theorem dX5_leastSawdust_6 : decode cX5_leastSawdust 6 = .ok (.iconst 1, 1) := by decide +kernel
theorem dX5_leastSawdust_7 : decode cX5_leastSawdust 7 = .ok (.istore_n 2, 1) := by decide +kernel
theorem dX5_leastSawdust_8 : decode cX5_leastSawdust 8 = .ok (.iload_n 2, 1) := by decide +kernel
theorem dX5_leastSawdust_9 : decode cX5_leastSawdust 9 = .ok (.aload_n 0, 1) := by decide +kernel
theorem dX5_leastSawdust_10 : decode cX5_leastSawdust 10 = .ok (.getfield 25, 3) := by decide +kernel
theorem dX5_leastSawdust_13 : decode cX5_leastSawdust 13 = .ok (.getfield 140, 3) := by decide +kernel
theorem dX5_leastSawdust_16 : decode cX5_leastSawdust 16 = .ok (.if_icmp .ge 88, 3) := by decide +kernel
theorem dX5_leastSawdust_19 : decode cX5_leastSawdust 19 = .ok (.aload_n 0, 1) := by decide +kernel
theorem dX5_leastSawdust_20 : decode cX5_leastSawdust 20 = .ok (.getfield 36, 3) := by decide +kernel
theorem dX5_leastSawdust_23 : decode cX5_leastSawdust 23 = .ok (.iload_n 2, 1) := by decide +kernel
theorem dX5_leastSawdust_24 : decode cX5_leastSawdust 24 = .ok (.iaload, 1) := by decide +kernel
theorem dX5_leastSawdust_25 : decode cX5_leastSawdust 25 = .ok (.istore_n 3, 1) := by decide +kernel
theorem dX5_leastSawdust_26 : decode cX5_leastSawdust 26 = .ok (.aload_n 0, 1) := by decide +kernel
theorem dX5_leastSawdust_27 : decode cX5_leastSawdust 27 = .ok (.getfield 29, 3) := by decide +kernel
theorem dX5_leastSawdust_30 : decode cX5_leastSawdust 30 = .ok (.getfield 171, 3) := by decide +kernel
theorem dX5_leastSawdust_33 : decode cX5_leastSawdust 33 = .ok (.iload_n 3, 1) := by decide +kernel
theorem dX5_leastSawdust_34 : decode cX5_leastSawdust 34 = .ok (.iaload, 1) := by decide +kernel
theorem dX5_leastSawdust_35 : decode cX5_leastSawdust 35 = .ok (.ifCond .le 41, 3) := by decide +kernel
theorem dX5_leastSawdust_38 : decode cX5_leastSawdust 38 = .ok (.aload_n 0, 1) := by decide +kernel
theorem dX5_leastSawdust_39 : decode cX5_leastSawdust 39 = .ok (.getfield 29, 3) := by decide +kernel
theorem dX5_leastSawdust_42 : decode cX5_leastSawdust 42 = .ok (.aload_n 0, 1) := by decide +kernel
theorem dX5_leastSawdust_43 : decode cX5_leastSawdust 43 = .ok (.getfield 36, 3) := by decide +kernel
theorem dX5_leastSawdust_46 : decode cX5_leastSawdust 46 = .ok (.iload_n 2, 1) := by decide +kernel
theorem dX5_leastSawdust_47 : decode cX5_leastSawdust 47 = .ok (.iconst 1, 1) := by decide +kernel
theorem dX5_leastSawdust_48 : decode cX5_leastSawdust 48 = .ok (.isub, 1) := by decide +kernel
theorem dX5_leastSawdust_49 : decode cX5_leastSawdust 49 = .ok (.iaload, 1) := by decide +kernel
theorem dX5_leastSawdust_50 : decode cX5_leastSawdust 50 = .ok (.iload_n 3, 1) := by decide +kernel
theorem dX5_leastSawdust_51 : decode cX5_leastSawdust 51 = .ok (.invokevirtual 311, 3) := by decide +kernel
theorem dX5_leastSawdust_54 : decode cX5_leastSawdust 54 = .ok (.ifCond .ne 22, 3) := by decide +kernel
theorem dX5_leastSawdust_57 : decode cX5_leastSawdust 57 = .ok (.aload_n 0, 1) := by decide +kernel
theorem dX5_leastSawdust_58 : decode cX5_leastSawdust 58 = .ok (.getfield 29, 3) := by decide +kernel
theorem dX5_leastSawdust_61 : decode cX5_leastSawdust 61 = .ok (.getfield 171, 3) := by decide +kernel
theorem dX5_leastSawdust_64 : decode cX5_leastSawdust 64 = .ok (.iload_n 3, 1) := by decide +kernel
theorem dX5_leastSawdust_65 : decode cX5_leastSawdust 65 = .ok (.dup2, 1) := by decide +kernel
theorem dX5_leastSawdust_66 : decode cX5_leastSawdust 66 = .ok (.iaload, 1) := by decide +kernel
theorem dX5_leastSawdust_67 : decode cX5_leastSawdust 67 = .ok (.iconst 1, 1) := by decide +kernel
theorem dX5_leastSawdust_68 : decode cX5_leastSawdust 68 = .ok (.isub, 1) := by decide +kernel
theorem dX5_leastSawdust_69 : decode cX5_leastSawdust 69 = .ok (.iastore, 1) := by decide +kernel
theorem dX5_leastSawdust_70 : decode cX5_leastSawdust 70 = .ok (.iinc 1 1, 3) := by decide +kernel
theorem dX5_leastSawdust_73 : decode cX5_leastSawdust 73 = .ok (.goto (-47), 3) := by decide +kernel
theorem dX5_leastSawdust_76 : decode cX5_leastSawdust 76 = .ok (.aload_n 0, 1) := by decide +kernel
theorem dX5_leastSawdust_77 : decode cX5_leastSawdust 77 = .ok (.getfield 29, 3) := by decide +kernel
theorem dX5_leastSawdust_80 : decode cX5_leastSawdust 80 = .ok (.aload_n 0, 1) := by decide +kernel
theorem dX5_leastSawdust_81 : decode cX5_leastSawdust 81 = .ok (.getfield 36, 3) := by decide +kernel
theorem dX5_leastSawdust_84 : decode cX5_leastSawdust 84 = .ok (.iload_n 2, 1) := by decide +kernel
theorem dX5_leastSawdust_85 : decode cX5_leastSawdust 85 = .ok (.iconst 1, 1) := by decide +kernel
theorem dX5_leastSawdust_86 : decode cX5_leastSawdust 86 = .ok (.isub, 1) := by decide +kernel
theorem dX5_leastSawdust_87 : decode cX5_leastSawdust 87 = .ok (.iaload, 1) := by decide +kernel
theorem dX5_leastSawdust_88 : decode cX5_leastSawdust 88 = .ok (.iload_n 3, 1) := by decide +kernel
theorem dX5_leastSawdust_89 : decode cX5_leastSawdust 89 = .ok (.invokevirtual 311, 3) := by decide +kernel
theorem dX5_leastSawdust_92 : decode cX5_leastSawdust 92 = .ok (.ifCond .ne 6, 3) := by decide +kernel
theorem dX5_leastSawdust_95 : decode cX5_leastSawdust 95 = .ok (.ldc 219, 2) := by decide +kernel
theorem dX5_leastSawdust_97 : decode cX5_leastSawdust 97 = .ok (.ireturn, 1) := by decide +kernel
theorem dX5_leastSawdust_98 : decode cX5_leastSawdust 98 = .ok (.iinc 2 1, 3) := by decide +kernel
theorem dX5_leastSawdust_101 : decode cX5_leastSawdust 101 = .ok (.goto (-93), 3) := by decide +kernel
theorem dX5_leastSawdust_104 : decode cX5_leastSawdust 104 = .ok (.iload_n 1, 1) := by decide +kernel
theorem dX5_leastSawdust_105 : decode cX5_leastSawdust 105 = .ok (.ireturn, 1) := by decide +kernel
theorem dX5_fewestCushions_0 : decode cX5_fewestCushions 0 = .ok (.aload_n 0, 1) := by decide +kernel
theorem dX5_fewestCushions_1 : decode cX5_fewestCushions 1 = .ok (.invokevirtual 213, 3) := by decide +kernel
theorem dX5_fewestCushions_4 : decode cX5_fewestCushions 4 = .ok (.iconst 0, 1) := by decide +kernel
theorem dX5_fewestCushions_5 : decode cX5_fewestCushions 5 = .ok (.istore_n 1, 1) := by decide +kernel
theorem dX5_fewestCushions_6 : decode cX5_fewestCushions 6 = .ok (.aload_n 0, 1) := by decide +kernel
theorem dX5_fewestCushions_7 : decode cX5_fewestCushions 7 = .ok (.getfield 25, 3) := by decide +kernel
theorem dX5_fewestCushions_10 : decode cX5_fewestCushions 10 = .ok (.getfield 140, 3) := by decide +kernel
theorem dX5_fewestCushions_13 : decode cX5_fewestCushions 13 = .ok (.iconst 2, 1) := by decide +kernel
theorem dX5_fewestCushions_14 : decode cX5_fewestCushions 14 = .ok (.isub, 1) := by decide +kernel
theorem dX5_fewestCushions_15 : decode cX5_fewestCushions 15 = .ok (.istore_n 2, 1) := by decide +kernel
theorem dX5_fewestCushions_16 : decode cX5_fewestCushions 16 = .ok (.iload_n 2, 1) := by decide +kernel
theorem dX5_fewestCushions_17 : decode cX5_fewestCushions 17 = .ok (.ifCond .lt 90, 3) := by decide +kernel
theorem dX5_fewestCushions_20 : decode cX5_fewestCushions 20 = .ok (.aload_n 0, 1) := by decide +kernel
theorem dX5_fewestCushions_21 : decode cX5_fewestCushions 21 = .ok (.getfield 36, 3) := by decide +kernel
theorem dX5_fewestCushions_24 : decode cX5_fewestCushions 24 = .ok (.iload_n 2, 1) := by decide +kernel
theorem dX5_fewestCushions_25 : decode cX5_fewestCushions 25 = .ok (.iaload, 1) := by decide +kernel
theorem dX5_fewestCushions_26 : decode cX5_fewestCushions 26 = .ok (.istore_n 3, 1) := by decide +kernel
theorem dX5_fewestCushions_27 : decode cX5_fewestCushions 27 = .ok (.aload_n 0, 1) := by decide +kernel
theorem dX5_fewestCushions_28 : decode cX5_fewestCushions 28 = .ok (.getfield 29, 3) := by decide +kernel
theorem dX5_fewestCushions_31 : decode cX5_fewestCushions 31 = .ok (.getfield 168, 3) := by decide +kernel
theorem dX5_fewestCushions_34 : decode cX5_fewestCushions 34 = .ok (.iload_n 3, 1) := by decide +kernel
theorem dX5_fewestCushions_35 : decode cX5_fewestCushions 35 = .ok (.iaload, 1) := by decide +kernel
theorem dX5_fewestCushions_36 : decode cX5_fewestCushions 36 = .ok (.bipush 20, 2) := by decide +kernel
theorem dX5_fewestCushions_38 : decode cX5_fewestCushions 38 = .ok (.if_icmp .ge 41, 3) := by decide +kernel
theorem dX5_fewestCushions_41 : decode cX5_fewestCushions 41 = .ok (.aload_n 0, 1) := by decide +kernel
theorem dX5_fewestCushions_42 : decode cX5_fewestCushions 42 = .ok (.getfield 29, 3) := by decide +kernel
theorem dX5_fewestCushions_45 : decode cX5_fewestCushions 45 = .ok (.iload_n 3, 1) := by decide +kernel
theorem dX5_fewestCushions_46 : decode cX5_fewestCushions 46 = .ok (.aload_n 0, 1) := by decide +kernel
theorem dX5_fewestCushions_47 : decode cX5_fewestCushions 47 = .ok (.getfield 36, 3) := by decide +kernel
theorem dX5_fewestCushions_50 : decode cX5_fewestCushions 50 = .ok (.iload_n 2, 1) := by decide +kernel
theorem dX5_fewestCushions_51 : decode cX5_fewestCushions 51 = .ok (.iconst 1, 1) := by decide +kernel
theorem dX5_fewestCushions_52 : decode cX5_fewestCushions 52 = .ok (.iadd, 1) := by decide +kernel
theorem dX5_fewestCushions_53 : decode cX5_fewestCushions 53 = .ok (.iaload, 1) := by decide +kernel
theorem dX5_fewestCushions_54 : decode cX5_fewestCushions 54 = .ok (.invokevirtual 311, 3) := by decide +kernel
theorem dX5_fewestCushions_57 : decode cX5_fewestCushions 57 = .ok (.ifCond .ne 22, 3) := by decide +kernel
theorem dX5_fewestCushions_60 : decode cX5_fewestCushions 60 = .ok (.aload_n 0, 1) := by decide +kernel
theorem dX5_fewestCushions_61 : decode cX5_fewestCushions 61 = .ok (.getfield 29, 3) := by decide +kernel
theorem dX5_fewestCushions_64 : decode cX5_fewestCushions 64 = .ok (.getfield 168, 3) := by decide +kernel
theorem dX5_fewestCushions_67 : decode cX5_fewestCushions 67 = .ok (.iload_n 3, 1) := by decide +kernel
theorem dX5_fewestCushions_68 : decode cX5_fewestCushions 68 = .ok (.dup2, 1) := by decide +kernel
theorem dX5_fewestCushions_69 : decode cX5_fewestCushions 69 = .ok (.iaload, 1) := by decide +kernel
theorem dX5_fewestCushions_70 : decode cX5_fewestCushions 70 = .ok (.iconst 1, 1) := by decide +kernel
theorem dX5_fewestCushions_71 : decode cX5_fewestCushions 71 = .ok (.iadd, 1) := by decide +kernel
theorem dX5_fewestCushions_72 : decode cX5_fewestCushions 72 = .ok (.iastore, 1) := by decide +kernel
theorem dX5_fewestCushions_73 : decode cX5_fewestCushions 73 = .ok (.iinc 1 1, 3) := by decide +kernel
theorem dX5_fewestCushions_76 : decode cX5_fewestCushions 76 = .ok (.goto (-49), 3) := by decide +kernel
theorem dX5_fewestCushions_79 : decode cX5_fewestCushions 79 = .ok (.aload_n 0, 1) := by decide +kernel
theorem dX5_fewestCushions_80 : decode cX5_fewestCushions 80 = .ok (.getfield 29, 3) := by decide +kernel
theorem dX5_fewestCushions_83 : decode cX5_fewestCushions 83 = .ok (.iload_n 3, 1) := by decide +kernel
theorem dX5_fewestCushions_84 : decode cX5_fewestCushions 84 = .ok (.aload_n 0, 1) := by decide +kernel
theorem dX5_fewestCushions_85 : decode cX5_fewestCushions 85 = .ok (.getfield 36, 3) := by decide +kernel
theorem dX5_fewestCushions_88 : decode cX5_fewestCushions 88 = .ok (.iload_n 2, 1) := by decide +kernel
theorem dX5_fewestCushions_89 : decode cX5_fewestCushions 89 = .ok (.iconst 1, 1) := by decide +kernel
theorem dX5_fewestCushions_90 : decode cX5_fewestCushions 90 = .ok (.iadd, 1) := by decide +kernel
theorem dX5_fewestCushions_91 : decode cX5_fewestCushions 91 = .ok (.iaload, 1) := by decide +kernel
theorem dX5_fewestCushions_92 : decode cX5_fewestCushions 92 = .ok (.invokevirtual 311, 3) := by decide +kernel
theorem dX5_fewestCushions_95 : decode cX5_fewestCushions 95 = .ok (.ifCond .ne 6, 3) := by decide +kernel
theorem dX5_fewestCushions_98 : decode cX5_fewestCushions 98 = .ok (.ldc 219, 2) := by decide +kernel
theorem dX5_fewestCushions_100 : decode cX5_fewestCushions 100 = .ok (.ireturn, 1) := by decide +kernel
theorem dX5_fewestCushions_101 : decode cX5_fewestCushions 101 = .ok (.iinc 2 (-1), 3) := by decide +kernel
theorem dX5_fewestCushions_104 : decode cX5_fewestCushions 104 = .ok (.goto (-88), 3) := by decide +kernel
theorem dX5_fewestCushions_107 : decode cX5_fewestCushions 107 = .ok (.iload_n 1, 1) := by decide +kernel
theorem dX5_fewestCushions_108 : decode cX5_fewestCushions 108 = .ok (.ireturn, 1) := by decide +kernel
theorem dX5_fewestToWatch_0 : decode cX5_fewestToWatch 0 = .ok (.iconst 0, 1) := by decide +kernel
theorem dX5_fewestToWatch_1 : decode cX5_fewestToWatch 1 = .ok (.istore 4, 2) := by decide +kernel
theorem dX5_fewestToWatch_3 : decode cX5_fewestToWatch 3 = .ok (.iload 4, 2) := by decide +kernel
theorem dX5_fewestToWatch_5 : decode cX5_fewestToWatch 5 = .ok (.aload_n 0, 1) := by decide +kernel
theorem dX5_fewestToWatch_6 : decode cX5_fewestToWatch 6 = .ok (.getfield 25, 3) := by decide +kernel
theorem dX5_fewestToWatch_9 : decode cX5_fewestToWatch 9 = .ok (.getfield 140, 3) := by decide +kernel
theorem dX5_fewestToWatch_12 : decode cX5_fewestToWatch 12 = .ok (.if_icmp .gt 57, 3) := by decide +kernel
theorem dX5_fewestToWatch_15 : decode cX5_fewestToWatch 15 = .ok (.iconst 0, 1) := by decide +kernel
theorem dX5_fewestToWatch_16 : decode cX5_fewestToWatch 16 = .ok (.istore 5, 2) := by decide +kernel
theorem dX5_fewestToWatch_18 : decode cX5_fewestToWatch 18 = .ok (.iload 5, 2) := by decide +kernel
theorem dX5_fewestToWatch_20 : decode cX5_fewestToWatch 20 = .ok (.iconst 1, 1) := by decide +kernel
theorem dX5_fewestToWatch_21 : decode cX5_fewestToWatch 21 = .ok (.aload_n 0, 1) := by decide +kernel
theorem dX5_fewestToWatch_22 : decode cX5_fewestToWatch 22 = .ok (.getfield 25, 3) := by decide +kernel
theorem dX5_fewestToWatch_25 : decode cX5_fewestToWatch 25 = .ok (.getfield 140, 3) := by decide +kernel
theorem dX5_fewestToWatch_28 : decode cX5_fewestToWatch 28 = .ok (.ishl, 1) := by decide +kernel
theorem dX5_fewestToWatch_29 : decode cX5_fewestToWatch 29 = .ok (.if_icmp .ge 34, 3) := by decide +kernel
theorem dX5_fewestToWatch_32 : decode cX5_fewestToWatch 32 = .ok (.iload 5, 2) := by decide +kernel
theorem dX5_fewestToWatch_34 : decode cX5_fewestToWatch 34 = .ok (.invokestatic 184, 3) := by decide +kernel
theorem dX5_fewestToWatch_37 : decode cX5_fewestToWatch 37 = .ok (.iload 4, 2) := by decide +kernel
theorem dX5_fewestToWatch_39 : decode cX5_fewestToWatch 39 = .ok (.if_icmp .ne 18, 3) := by decide +kernel
theorem dX5_fewestToWatch_42 : decode cX5_fewestToWatch 42 = .ok (.aload_n 0, 1) := by decide +kernel
theorem dX5_fewestToWatch_43 : decode cX5_fewestToWatch 43 = .ok (.iload_n 1, 1) := by decide +kernel
theorem dX5_fewestToWatch_44 : decode cX5_fewestToWatch 44 = .ok (.iload_n 3, 1) := by decide +kernel
theorem dX5_fewestToWatch_45 : decode cX5_fewestToWatch 45 = .ok (.iload 5, 2) := by decide +kernel
theorem dX5_fewestToWatch_47 : decode cX5_fewestToWatch 47 = .ok (.invokevirtual 261, 3) := by decide +kernel
theorem dX5_fewestToWatch_50 : decode cX5_fewestToWatch 50 = .ok (.iload_n 2, 1) := by decide +kernel
theorem dX5_fewestToWatch_51 : decode cX5_fewestToWatch 51 = .ok (.if_icmp .gt 6, 3) := by decide +kernel
theorem dX5_fewestToWatch_54 : decode cX5_fewestToWatch 54 = .ok (.iload 5, 2) := by decide +kernel
theorem dX5_fewestToWatch_56 : decode cX5_fewestToWatch 56 = .ok (.ireturn, 1) := by decide +kernel
theorem dX5_fewestToWatch_57 : decode cX5_fewestToWatch 57 = .ok (.iinc 5 1, 3) := by decide +kernel
theorem dX5_fewestToWatch_60 : decode cX5_fewestToWatch 60 = .ok (.goto (-42), 3) := by decide +kernel
theorem dX5_fewestToWatch_63 : decode cX5_fewestToWatch 63 = .ok (.iinc 4 1, 3) := by decide +kernel
theorem dX5_fewestToWatch_66 : decode cX5_fewestToWatch 66 = .ok (.goto (-63), 3) := by decide +kernel
theorem dX5_fewestToWatch_69 : decode cX5_fewestToWatch 69 = .ok (.ldc 219, 2) := by decide +kernel
theorem dX5_fewestToWatch_71 : decode cX5_fewestToWatch 71 = .ok (.ireturn, 1) := by decide +kernel
theorem dX5_fewestAboveHalf_0 : decode cX5_fewestAboveHalf 0 = .ok (.aload_n 0, 1) := by decide +kernel
theorem dX5_fewestAboveHalf_1 : decode cX5_fewestAboveHalf 1 = .ok (.iconst 1, 1) := by decide +kernel
theorem dX5_fewestAboveHalf_2 : decode cX5_fewestAboveHalf 2 = .ok (.aload_n 0, 1) := by decide +kernel
theorem dX5_fewestAboveHalf_3 : decode cX5_fewestAboveHalf 3 = .ok (.getfield 25, 3) := by decide +kernel
theorem dX5_fewestAboveHalf_6 : decode cX5_fewestAboveHalf 6 = .ok (.getfield 140, 3) := by decide +kernel
theorem dX5_fewestAboveHalf_9 : decode cX5_fewestAboveHalf 9 = .ok (.ishl, 1) := by decide +kernel
theorem dX5_fewestAboveHalf_10 : decode cX5_fewestAboveHalf 10 = .ok (.iconst 1, 1) := by decide +kernel
theorem dX5_fewestAboveHalf_11 : decode cX5_fewestAboveHalf 11 = .ok (.isub, 1) := by decide +kernel
theorem dX5_fewestAboveHalf_12 : decode cX5_fewestAboveHalf 12 = .ok (.invokevirtual 314, 3) := by decide +kernel
theorem dX5_fewestAboveHalf_15 : decode cX5_fewestAboveHalf 15 = .ok (.istore_n 1, 1) := by decide +kernel
theorem dX5_fewestAboveHalf_16 : decode cX5_fewestAboveHalf 16 = .ok (.iconst 0, 1) := by decide +kernel
theorem dX5_fewestAboveHalf_17 : decode cX5_fewestAboveHalf 17 = .ok (.istore_n 2, 1) := by decide +kernel
theorem dX5_fewestAboveHalf_18 : decode cX5_fewestAboveHalf 18 = .ok (.iload_n 2, 1) := by decide +kernel
theorem dX5_fewestAboveHalf_19 : decode cX5_fewestAboveHalf 19 = .ok (.aload_n 0, 1) := by decide +kernel
theorem dX5_fewestAboveHalf_20 : decode cX5_fewestAboveHalf 20 = .ok (.getfield 25, 3) := by decide +kernel
theorem dX5_fewestAboveHalf_23 : decode cX5_fewestAboveHalf 23 = .ok (.getfield 140, 3) := by decide +kernel
theorem dX5_fewestAboveHalf_26 : decode cX5_fewestAboveHalf 26 = .ok (.if_icmp .gt 51, 3) := by decide +kernel
theorem dX5_fewestAboveHalf_29 : decode cX5_fewestAboveHalf 29 = .ok (.iconst 0, 1) := by decide +kernel
theorem dX5_fewestAboveHalf_30 : decode cX5_fewestAboveHalf 30 = .ok (.istore_n 3, 1) := by decide +kernel
theorem dX5_fewestAboveHalf_31 : decode cX5_fewestAboveHalf 31 = .ok (.iload_n 3, 1) := by decide +kernel
theorem dX5_fewestAboveHalf_32 : decode cX5_fewestAboveHalf 32 = .ok (.iconst 1, 1) := by decide +kernel
theorem dX5_fewestAboveHalf_33 : decode cX5_fewestAboveHalf 33 = .ok (.aload_n 0, 1) := by decide +kernel
theorem dX5_fewestAboveHalf_34 : decode cX5_fewestAboveHalf 34 = .ok (.getfield 25, 3) := by decide +kernel
theorem dX5_fewestAboveHalf_37 : decode cX5_fewestAboveHalf 37 = .ok (.getfield 140, 3) := by decide +kernel
theorem dX5_fewestAboveHalf_40 : decode cX5_fewestAboveHalf 40 = .ok (.ishl, 1) := by decide +kernel
theorem dX5_fewestAboveHalf_41 : decode cX5_fewestAboveHalf 41 = .ok (.if_icmp .ge 30, 3) := by decide +kernel
theorem dX5_fewestAboveHalf_44 : decode cX5_fewestAboveHalf 44 = .ok (.iload_n 3, 1) := by decide +kernel
theorem dX5_fewestAboveHalf_45 : decode cX5_fewestAboveHalf 45 = .ok (.invokestatic 184, 3) := by decide +kernel
theorem dX5_fewestAboveHalf_48 : decode cX5_fewestAboveHalf 48 = .ok (.iload_n 2, 1) := by decide +kernel
theorem dX5_fewestAboveHalf_49 : decode cX5_fewestAboveHalf 49 = .ok (.if_icmp .ne 16, 3) := by decide +kernel
theorem dX5_fewestAboveHalf_52 : decode cX5_fewestAboveHalf 52 = .ok (.iconst 2, 1) := by decide +kernel
theorem dX5_fewestAboveHalf_53 : decode cX5_fewestAboveHalf 53 = .ok (.aload_n 0, 1) := by decide +kernel
theorem dX5_fewestAboveHalf_54 : decode cX5_fewestAboveHalf 54 = .ok (.iload_n 3, 1) := by decide +kernel
theorem dX5_fewestAboveHalf_55 : decode cX5_fewestAboveHalf 55 = .ok (.invokevirtual 314, 3) := by decide +kernel
theorem dX5_fewestAboveHalf_58 : decode cX5_fewestAboveHalf 58 = .ok (.imul, 1) := by decide +kernel
theorem dX5_fewestAboveHalf_59 : decode cX5_fewestAboveHalf 59 = .ok (.iload_n 1, 1) := by decide +kernel
theorem dX5_fewestAboveHalf_60 : decode cX5_fewestAboveHalf 60 = .ok (.if_icmp .le 5, 3) := by decide +kernel
theorem dX5_fewestAboveHalf_63 : decode cX5_fewestAboveHalf 63 = .ok (.iload_n 3, 1) := by decide +kernel
theorem dX5_fewestAboveHalf_64 : decode cX5_fewestAboveHalf 64 = .ok (.ireturn, 1) := by decide +kernel
theorem dX5_fewestAboveHalf_65 : decode cX5_fewestAboveHalf 65 = .ok (.iinc 3 1, 3) := by decide +kernel
theorem dX5_fewestAboveHalf_68 : decode cX5_fewestAboveHalf 68 = .ok (.goto (-37), 3) := by decide +kernel
theorem dX5_fewestAboveHalf_71 : decode cX5_fewestAboveHalf 71 = .ok (.iinc 2 1, 3) := by decide +kernel
theorem dX5_fewestAboveHalf_74 : decode cX5_fewestAboveHalf 74 = .ok (.goto (-56), 3) := by decide +kernel
theorem dX5_fewestAboveHalf_77 : decode cX5_fewestAboveHalf 77 = .ok (.ldc 219, 2) := by decide +kernel
theorem dX5_fewestAboveHalf_79 : decode cX5_fewestAboveHalf 79 = .ok (.ireturn, 1) := by decide +kernel
theorem dX5_highTogether_0 : decode cX5_highTogether 0 = .ok (.iconst 0, 1) := by decide +kernel
theorem dX5_highTogether_1 : decode cX5_highTogether 1 = .ok (.istore_n 2, 1) := by decide +kernel
theorem dX5_highTogether_2 : decode cX5_highTogether 2 = .ok (.iconst 0, 1) := by decide +kernel
theorem dX5_highTogether_3 : decode cX5_highTogether 3 = .ok (.istore_n 3, 1) := by decide +kernel
theorem dX5_highTogether_4 : decode cX5_highTogether 4 = .ok (.iload_n 3, 1) := by decide +kernel
theorem dX5_highTogether_5 : decode cX5_highTogether 5 = .ok (.aload_n 0, 1) := by decide +kernel
theorem dX5_highTogether_6 : decode cX5_highTogether 6 = .ok (.getfield 25, 3) := by decide +kernel
theorem dX5_highTogether_9 : decode cX5_highTogether 9 = .ok (.getfield 140, 3) := by decide +kernel
theorem dX5_highTogether_12 : decode cX5_highTogether 12 = .ok (.if_icmp .ge 28, 3) := by decide +kernel
theorem dX5_highTogether_15 : decode cX5_highTogether 15 = .ok (.iload_n 1, 1) := by decide +kernel
theorem dX5_highTogether_16 : decode cX5_highTogether 16 = .ok (.iload_n 3, 1) := by decide +kernel
theorem dX5_highTogether_17 : decode cX5_highTogether 17 = .ok (.ishr, 1) := by decide +kernel
theorem dX5_highTogether_18 : decode cX5_highTogether 18 = .ok (.iconst 1, 1) := by decide +kernel
theorem dX5_highTogether_19 : decode cX5_highTogether 19 = .ok (.iand, 1) := by decide +kernel
theorem dX5_highTogether_20 : decode cX5_highTogether 20 = .ok (.ifCond .eq 14, 3) := by decide +kernel
theorem dX5_highTogether_23 : decode cX5_highTogether 23 = .ok (.iload_n 2, 1) := by decide +kernel
theorem dX5_highTogether_24 : decode cX5_highTogether 24 = .ok (.aload_n 0, 1) := by decide +kernel
theorem dX5_highTogether_25 : decode cX5_highTogether 25 = .ok (.getfield 25, 3) := by decide +kernel
theorem dX5_highTogether_28 : decode cX5_highTogether 28 = .ok (.iload_n 3, 1) := by decide +kernel
theorem dX5_highTogether_29 : decode cX5_highTogether 29 = .ok (.invokevirtual 201, 3) := by decide +kernel
theorem dX5_highTogether_32 : decode cX5_highTogether 32 = .ok (.iadd, 1) := by decide +kernel
theorem dX5_highTogether_33 : decode cX5_highTogether 33 = .ok (.istore_n 2, 1) := by decide +kernel
theorem dX5_highTogether_34 : decode cX5_highTogether 34 = .ok (.iinc 3 1, 3) := by decide +kernel
theorem dX5_highTogether_37 : decode cX5_highTogether 37 = .ok (.goto (-33), 3) := by decide +kernel
theorem dX5_highTogether_40 : decode cX5_highTogether 40 = .ok (.iload_n 2, 1) := by decide +kernel
theorem dX5_highTogether_41 : decode cX5_highTogether 41 = .ok (.ireturn, 1) := by decide +kernel
theorem dX5_leastOf_0 : decode cX5_leastOf 0 = .ok (.iload_n 0, 1) := by decide +kernel
theorem dX5_leastOf_1 : decode cX5_leastOf 1 = .ok (.ifCond .ne 7, 3) := by decide +kernel
theorem dX5_leastOf_4 : decode cX5_leastOf 4 = .ok (.iconst 1, 1) := by decide +kernel
theorem dX5_leastOf_5 : decode cX5_leastOf 5 = .ok (.goto 4, 3) := by decide +kernel
theorem dX5_leastOf_8 : decode cX5_leastOf 8 = .ok (.iconst 0, 1) := by decide +kernel
theorem dX5_leastOf_9 : decode cX5_leastOf 9 = .ok (.ireturn, 1) := by decide +kernel
theorem dX5_mostOf_0 : decode cX5_mostOf 0 = .ok (.iload_n 0, 1) := by decide +kernel
theorem dX5_mostOf_1 : decode cX5_mostOf 1 = .ok (.ifCond .ne 5, 3) := by decide +kernel
theorem dX5_mostOf_4 : decode cX5_mostOf 4 = .ok (.iconst 5, 1) := by decide +kernel
theorem dX5_mostOf_5 : decode cX5_mostOf 5 = .ok (.ireturn, 1) := by decide +kernel
theorem dX5_mostOf_6 : decode cX5_mostOf 6 = .ok (.iload_n 0, 1) := by decide +kernel
theorem dX5_mostOf_7 : decode cX5_mostOf 7 = .ok (.iconst 1, 1) := by decide +kernel
theorem dX5_mostOf_8 : decode cX5_mostOf 8 = .ok (.if_icmp .ne 8, 3) := by decide +kernel
theorem dX5_mostOf_11 : decode cX5_mostOf 11 = .ok (.bipush 9, 2) := by decide +kernel
theorem dX5_mostOf_13 : decode cX5_mostOf 13 = .ok (.goto 4, 3) := by decide +kernel
theorem dX5_mostOf_16 : decode cX5_mostOf 16 = .ok (.iconst 3, 1) := by decide +kernel
theorem dX5_mostOf_17 : decode cX5_mostOf 17 = .ok (.ireturn, 1) := by decide +kernel
theorem dX5_suppose_0 : decode cX5_suppose 0 = .ok (.iload_n 2, 1) := by decide +kernel
theorem dX5_suppose_1 : decode cX5_suppose 1 = .ok (.ifCond .ne 16, 3) := by decide +kernel
theorem dX5_suppose_4 : decode cX5_suppose 4 = .ok (.aload_n 0, 1) := by decide +kernel
theorem dX5_suppose_5 : decode cX5_suppose 5 = .ok (.getfield 29, 3) := by decide +kernel
theorem dX5_suppose_8 : decode cX5_suppose 8 = .ok (.getfield 278, 3) := by decide +kernel
theorem dX5_suppose_11 : decode cX5_suppose 11 = .ok (.iload_n 1, 1) := by decide +kernel
theorem dX5_suppose_12 : decode cX5_suppose 12 = .ok (.iload_n 3, 1) := by decide +kernel
theorem dX5_suppose_13 : decode cX5_suppose 13 = .ok (.iastore, 1) := by decide +kernel
theorem dX5_suppose_14 : decode cX5_suppose 14 = .ok (.goto 31, 3) := by decide +kernel
theorem dX5_suppose_17 : decode cX5_suppose 17 = .ok (.iload_n 2, 1) := by decide +kernel
theorem dX5_suppose_18 : decode cX5_suppose 18 = .ok (.iconst 1, 1) := by decide +kernel
theorem dX5_suppose_19 : decode cX5_suppose 19 = .ok (.if_icmp .ne 16, 3) := by decide +kernel
theorem dX5_suppose_22 : decode cX5_suppose 22 = .ok (.aload_n 0, 1) := by decide +kernel
theorem dX5_suppose_23 : decode cX5_suppose 23 = .ok (.getfield 29, 3) := by decide +kernel
theorem dX5_suppose_26 : decode cX5_suppose 26 = .ok (.getfield 198, 3) := by decide +kernel
theorem dX5_suppose_29 : decode cX5_suppose 29 = .ok (.iload_n 1, 1) := by decide +kernel
theorem dX5_suppose_30 : decode cX5_suppose 30 = .ok (.iload_n 3, 1) := by decide +kernel
theorem dX5_suppose_31 : decode cX5_suppose 31 = .ok (.iastore, 1) := by decide +kernel
theorem dX5_suppose_32 : decode cX5_suppose 32 = .ok (.goto 13, 3) := by decide +kernel
theorem dX5_suppose_35 : decode cX5_suppose 35 = .ok (.aload_n 0, 1) := by decide +kernel
theorem dX5_suppose_36 : decode cX5_suppose 36 = .ok (.getfield 29, 3) := by decide +kernel
theorem dX5_suppose_39 : decode cX5_suppose 39 = .ok (.getfield 207, 3) := by decide +kernel
theorem dX5_suppose_42 : decode cX5_suppose 42 = .ok (.iload_n 1, 1) := by decide +kernel
theorem dX5_suppose_43 : decode cX5_suppose 43 = .ok (.iload_n 3, 1) := by decide +kernel
theorem dX5_suppose_44 : decode cX5_suppose 44 = .ok (.iastore, 1) := by decide +kernel
theorem dX5_suppose_45 : decode cX5_suppose 45 = .ok (.return_, 1) := by decide +kernel
theorem dX5_comesTrue_0 : decode cX5_comesTrue 0 = .ok (.iconst 0, 1) := by decide +kernel
theorem dX5_comesTrue_1 : decode cX5_comesTrue 1 = .ok (.istore 5, 2) := by decide +kernel
theorem dX5_comesTrue_3 : decode cX5_comesTrue 3 = .ok (.iload 5, 2) := by decide +kernel
theorem dX5_comesTrue_5 : decode cX5_comesTrue 5 = .ok (.iload 4, 2) := by decide +kernel
theorem dX5_comesTrue_7 : decode cX5_comesTrue 7 = .ok (.if_icmp .ge 39, 3) := by decide +kernel
theorem dX5_comesTrue_10 : decode cX5_comesTrue 10 = .ok (.aload_n 0, 1) := by decide +kernel
theorem dX5_comesTrue_11 : decode cX5_comesTrue 11 = .ok (.getfield 29, 3) := by decide +kernel
theorem dX5_comesTrue_14 : decode cX5_comesTrue 14 = .ok (.invokevirtual 159, 3) := by decide +kernel
theorem dX5_comesTrue_17 : decode cX5_comesTrue 17 = .ok (.pop, 1) := by decide +kernel
theorem dX5_comesTrue_18 : decode cX5_comesTrue 18 = .ok (.aload_n 0, 1) := by decide +kernel
theorem dX5_comesTrue_19 : decode cX5_comesTrue 19 = .ok (.getfield 29, 3) := by decide +kernel
theorem dX5_comesTrue_22 : decode cX5_comesTrue 22 = .ok (.iload_n 1, 1) := by decide +kernel
theorem dX5_comesTrue_23 : decode cX5_comesTrue 23 = .ok (.invokevirtual 201, 3) := by decide +kernel
theorem dX5_comesTrue_26 : decode cX5_comesTrue 26 = .ok (.aload_n 2, 1) := by decide +kernel
theorem dX5_comesTrue_27 : decode cX5_comesTrue 27 = .ok (.getfield 99, 3) := by decide +kernel
theorem dX5_comesTrue_30 : decode cX5_comesTrue 30 = .ok (.iload_n 3, 1) := by decide +kernel
theorem dX5_comesTrue_31 : decode cX5_comesTrue 31 = .ok (.iload 5, 2) := by decide +kernel
theorem dX5_comesTrue_33 : decode cX5_comesTrue 33 = .ok (.iadd, 1) := by decide +kernel
theorem dX5_comesTrue_34 : decode cX5_comesTrue 34 = .ok (.iaload, 1) := by decide +kernel
theorem dX5_comesTrue_35 : decode cX5_comesTrue 35 = .ok (.if_icmp .eq 5, 3) := by decide +kernel
theorem dX5_comesTrue_38 : decode cX5_comesTrue 38 = .ok (.iconst 0, 1) := by decide +kernel
theorem dX5_comesTrue_39 : decode cX5_comesTrue 39 = .ok (.ireturn, 1) := by decide +kernel
theorem dX5_comesTrue_40 : decode cX5_comesTrue 40 = .ok (.iinc 5 1, 3) := by decide +kernel
theorem dX5_comesTrue_43 : decode cX5_comesTrue 43 = .ok (.goto (-40), 3) := by decide +kernel
theorem dX5_comesTrue_46 : decode cX5_comesTrue 46 = .ok (.iconst 1, 1) := by decide +kernel
theorem dX5_comesTrue_47 : decode cX5_comesTrue 47 = .ok (.ireturn, 1) := by decide +kernel
theorem dX5_weightOf_0 : decode cX5_weightOf 0 = .ok (.lconst 1, 1) := by decide +kernel
theorem dX5_weightOf_1 : decode cX5_weightOf 1 = .ok (.lstore_n 3, 1) := by decide +kernel
theorem dX5_weightOf_2 : decode cX5_weightOf 2 = .ok (.iconst 0, 1) := by decide +kernel
theorem dX5_weightOf_3 : decode cX5_weightOf 3 = .ok (.istore 5, 2) := by decide +kernel
theorem dX5_weightOf_5 : decode cX5_weightOf 5 = .ok (.iload 5, 2) := by decide +kernel
theorem dX5_weightOf_7 : decode cX5_weightOf 7 = .ok (.aload_n 0, 1) := by decide +kernel
theorem dX5_weightOf_8 : decode cX5_weightOf 8 = .ok (.getfield 25, 3) := by decide +kernel
theorem dX5_weightOf_11 : decode cX5_weightOf 11 = .ok (.getfield 140, 3) := by decide +kernel
theorem dX5_weightOf_14 : decode cX5_weightOf 14 = .ok (.if_icmp .ge 43, 3) := by decide +kernel
theorem dX5_weightOf_17 : decode cX5_weightOf 17 = .ok (.aload_n 0, 1) := by decide +kernel
theorem dX5_weightOf_18 : decode cX5_weightOf 18 = .ok (.getfield 25, 3) := by decide +kernel
theorem dX5_weightOf_21 : decode cX5_weightOf 21 = .ok (.iload 5, 2) := by decide +kernel
theorem dX5_weightOf_23 : decode cX5_weightOf 23 = .ok (.invokevirtual 178, 3) := by decide +kernel
theorem dX5_weightOf_26 : decode cX5_weightOf 26 = .ok (.ifCond .eq 25, 3) := by decide +kernel
theorem dX5_weightOf_29 : decode cX5_weightOf 29 = .ok (.lload_n 3, 1) := by decide +kernel
theorem dX5_weightOf_30 : decode cX5_weightOf 30 = .ok (.iload_n 1, 1) := by decide +kernel
theorem dX5_weightOf_31 : decode cX5_weightOf 31 = .ok (.iload 5, 2) := by decide +kernel
theorem dX5_weightOf_33 : decode cX5_weightOf 33 = .ok (.ishr, 1) := by decide +kernel
theorem dX5_weightOf_34 : decode cX5_weightOf 34 = .ok (.iconst 1, 1) := by decide +kernel
theorem dX5_weightOf_35 : decode cX5_weightOf 35 = .ok (.iand, 1) := by decide +kernel
theorem dX5_weightOf_36 : decode cX5_weightOf 36 = .ok (.ifCond .eq 11, 3) := by decide +kernel
theorem dX5_weightOf_39 : decode cX5_weightOf 39 = .ok (.bipush 10, 2) := by decide +kernel
theorem dX5_weightOf_41 : decode cX5_weightOf 41 = .ok (.iload_n 2, 1) := by decide +kernel
theorem dX5_weightOf_42 : decode cX5_weightOf 42 = .ok (.isub, 1) := by decide +kernel
theorem dX5_weightOf_43 : decode cX5_weightOf 43 = .ok (.i2l, 1) := by decide +kernel
theorem dX5_weightOf_44 : decode cX5_weightOf 44 = .ok (.goto 5, 3) := by decide +kernel
theorem dX5_weightOf_47 : decode cX5_weightOf 47 = .ok (.iload_n 2, 1) := by decide +kernel
theorem dX5_weightOf_48 : decode cX5_weightOf 48 = .ok (.i2l, 1) := by decide +kernel
theorem dX5_weightOf_49 : decode cX5_weightOf 49 = .ok (.lmul, 1) := by decide +kernel
theorem dX5_weightOf_50 : decode cX5_weightOf 50 = .ok (.lstore_n 3, 1) := by decide +kernel
theorem dX5_weightOf_51 : decode cX5_weightOf 51 = .ok (.iinc 5 1, 3) := by decide +kernel
theorem dX5_weightOf_54 : decode cX5_weightOf 54 = .ok (.goto (-49), 3) := by decide +kernel
theorem dX5_weightOf_57 : decode cX5_weightOf 57 = .ok (.lload_n 3, 1) := by decide +kernel
theorem dX5_weightOf_58 : decode cX5_weightOf 58 = .ok (.lreturn, 1) := by decide +kernel
theorem dX5_commonDivisor_0 : decode cX5_commonDivisor 0 = .ok (.lload_n 0, 1) := by decide +kernel
theorem dX5_commonDivisor_1 : decode cX5_commonDivisor 1 = .ok (.lstore 4, 2) := by decide +kernel
theorem dX5_commonDivisor_3 : decode cX5_commonDivisor 3 = .ok (.lload_n 2, 1) := by decide +kernel
theorem dX5_commonDivisor_4 : decode cX5_commonDivisor 4 = .ok (.lstore 6, 2) := by decide +kernel
theorem dX5_commonDivisor_6 : decode cX5_commonDivisor 6 = .ok (.iconst 0, 1) := by decide +kernel
theorem dX5_commonDivisor_7 : decode cX5_commonDivisor 7 = .ok (.istore 8, 2) := by decide +kernel
theorem dX5_commonDivisor_9 : decode cX5_commonDivisor 9 = .ok (.iload 8, 2) := by decide +kernel
theorem dX5_commonDivisor_11 : decode cX5_commonDivisor 11 = .ok (.bipush 100, 2) := by decide +kernel
theorem dX5_commonDivisor_13 : decode cX5_commonDivisor 13 = .ok (.if_icmp .ge 31, 3) := by decide +kernel
theorem dX5_commonDivisor_16 : decode cX5_commonDivisor 16 = .ok (.lload 6, 2) := by decide +kernel
theorem dX5_commonDivisor_18 : decode cX5_commonDivisor 18 = .ok (.lconst 0, 1) := by decide +kernel
theorem dX5_commonDivisor_19 : decode cX5_commonDivisor 19 = .ok (.lcmp, 1) := by decide +kernel
theorem dX5_commonDivisor_20 : decode cX5_commonDivisor 20 = .ok (.ifCond .eq 24, 3) := by decide +kernel
theorem dX5_commonDivisor_23 : decode cX5_commonDivisor 23 = .ok (.lload 4, 2) := by decide +kernel
theorem dX5_commonDivisor_25 : decode cX5_commonDivisor 25 = .ok (.lload 6, 2) := by decide +kernel
theorem dX5_commonDivisor_27 : decode cX5_commonDivisor 27 = .ok (.lrem, 1) := by decide +kernel
theorem dX5_commonDivisor_28 : decode cX5_commonDivisor 28 = .ok (.lstore 9, 2) := by decide +kernel
theorem dX5_commonDivisor_30 : decode cX5_commonDivisor 30 = .ok (.lload 6, 2) := by decide +kernel
theorem dX5_commonDivisor_32 : decode cX5_commonDivisor 32 = .ok (.lstore 4, 2) := by decide +kernel
theorem dX5_commonDivisor_34 : decode cX5_commonDivisor 34 = .ok (.lload 9, 2) := by decide +kernel
theorem dX5_commonDivisor_36 : decode cX5_commonDivisor 36 = .ok (.lstore 6, 2) := by decide +kernel
theorem dX5_commonDivisor_38 : decode cX5_commonDivisor 38 = .ok (.iinc 8 1, 3) := by decide +kernel
theorem dX5_commonDivisor_41 : decode cX5_commonDivisor 41 = .ok (.goto (-32), 3) := by decide +kernel
theorem dX5_commonDivisor_44 : decode cX5_commonDivisor 44 = .ok (.lload 4, 2) := by decide +kernel
theorem dX5_commonDivisor_46 : decode cX5_commonDivisor 46 = .ok (.lreturn, 1) := by decide +kernel
