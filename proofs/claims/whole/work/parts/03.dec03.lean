theorem dX5_init_0 : decode cX5_init 0 = .ok (.aload_n 0, 1) := by decide +kernel
theorem dX5_init_1 : decode cX5_init 1 = .ok (.invokespecial 3, 3) := by decide +kernel
theorem dX5_init_4 : decode cX5_init 4 = .ok (.aload_n 0, 1) := by decide +kernel
theorem dX5_init_5 : decode cX5_init 5 = .ok (.new 9, 3) := by decide +kernel
theorem dX5_init_8 : decode cX5_init 8 = .ok (.dup, 1) := by decide +kernel
theorem dX5_init_9 : decode cX5_init 9 = .ok (.invokespecial 11, 3) := by decide +kernel
theorem dX5_init_12 : decode cX5_init 12 = .ok (.putfield 12, 3) := by decide +kernel
theorem dX5_init_15 : decode cX5_init 15 = .ok (.aload_n 0, 1) := by decide +kernel
theorem dX5_init_16 : decode cX5_init 16 = .ok (.aload_n 1, 1) := by decide +kernel
theorem dX5_init_17 : decode cX5_init 17 = .ok (.putfield 18, 3) := by decide +kernel
theorem dX5_init_20 : decode cX5_init 20 = .ok (.return_, 1) := by decide +kernel
theorem dX5_parse_0 : decode cX5_parse 0 = .ok (.aload_n 0, 1) := by decide +kernel
theorem dX5_parse_1 : decode cX5_parse 1 = .ok (.getfield 12, 3) := by decide +kernel
theorem dX5_parse_4 : decode cX5_parse 4 = .ok (.invokevirtual 22, 3) := by decide +kernel
theorem dX5_parse_7 : decode cX5_parse 7 = .ok (.aload_n 0, 1) := by decide +kernel
theorem dX5_parse_8 : decode cX5_parse 8 = .ok (.iconst 0, 1) := by decide +kernel
theorem dX5_parse_9 : decode cX5_parse 9 = .ok (.putfield 25, 3) := by decide +kernel
theorem dX5_parse_12 : decode cX5_parse 12 = .ok (.aload_n 0, 1) := by decide +kernel
theorem dX5_parse_13 : decode cX5_parse 13 = .ok (.iconst 0, 1) := by decide +kernel
theorem dX5_parse_14 : decode cX5_parse 14 = .ok (.putfield 29, 3) := by decide +kernel
theorem dX5_parse_17 : decode cX5_parse 17 = .ok (.aload_n 0, 1) := by decide +kernel
theorem dX5_parse_18 : decode cX5_parse 18 = .ok (.invokevirtual 32, 3) := by decide +kernel
theorem dX5_parse_21 : decode cX5_parse 21 = .ok (.aload_n 0, 1) := by decide +kernel
theorem dX5_parse_22 : decode cX5_parse 22 = .ok (.invokevirtual 35, 3) := by decide +kernel
theorem dX5_parse_25 : decode cX5_parse 25 = .ok (.iconst 0, 1) := by decide +kernel
theorem dX5_parse_26 : decode cX5_parse 26 = .ok (.istore_n 1, 1) := by decide +kernel
theorem dX5_parse_27 : decode cX5_parse 27 = .ok (.iload_n 1, 1) := by decide +kernel
theorem dX5_parse_28 : decode cX5_parse 28 = .ok (.sipush 1400, 3) := by decide +kernel
theorem dX5_parse_31 : decode cX5_parse 31 = .ok (.if_icmp .ge 83, 3) := by decide +kernel
theorem dX5_parse_34 : decode cX5_parse 34 = .ok (.aload_n 0, 1) := by decide +kernel
theorem dX5_parse_35 : decode cX5_parse 35 = .ok (.getfield 25, 3) := by decide +kernel
theorem dX5_parse_38 : decode cX5_parse 38 = .ok (.ifCond .ne 76, 3) := by decide +kernel
theorem dX5_parse_41 : decode cX5_parse 41 = .ok (.aload_n 0, 1) := by decide +kernel
theorem dX5_parse_42 : decode cX5_parse 42 = .ok (.getfield 38, 3) := by decide +kernel
theorem dX5_parse_45 : decode cX5_parse 45 = .ok (.ifCond .eq 69, 3) := by decide +kernel
theorem dX5_parse_48 : decode cX5_parse 48 = .ok (.aload_n 0, 1) := by decide +kernel
theorem dX5_parse_49 : decode cX5_parse 49 = .ok (.getstatic 41, 3) := by decide +kernel
theorem dX5_parse_52 : decode cX5_parse 52 = .ok (.invokevirtual 47, 3) := by decide +kernel
theorem dX5_parse_55 : decode cX5_parse 55 = .ok (.ifCond .eq 10, 3) := by decide +kernel
theorem dX5_parse_58 : decode cX5_parse 58 = .ok (.aload_n 0, 1) := by decide +kernel
theorem dX5_parse_59 : decode cX5_parse 59 = .ok (.invokevirtual 51, 3) := by decide +kernel
theorem dX5_parse_62 : decode cX5_parse 62 = .ok (.goto 46, 3) := by decide +kernel
theorem dX5_parse_65 : decode cX5_parse 65 = .ok (.aload_n 0, 1) := by decide +kernel
theorem dX5_parse_66 : decode cX5_parse 66 = .ok (.getstatic 54, 3) := by decide +kernel
theorem dX5_parse_69 : decode cX5_parse 69 = .ok (.invokevirtual 47, 3) := by decide +kernel
theorem dX5_parse_72 : decode cX5_parse 72 = .ok (.ifCond .eq 10, 3) := by decide +kernel
theorem dX5_parse_75 : decode cX5_parse 75 = .ok (.aload_n 0, 1) := by decide +kernel
theorem dX5_parse_76 : decode cX5_parse 76 = .ok (.invokevirtual 57, 3) := by decide +kernel
theorem dX5_parse_79 : decode cX5_parse 79 = .ok (.goto 29, 3) := by decide +kernel
theorem dX5_parse_82 : decode cX5_parse 82 = .ok (.aload_n 0, 1) := by decide +kernel
theorem dX5_parse_83 : decode cX5_parse 83 = .ok (.getstatic 60, 3) := by decide +kernel
theorem dX5_parse_86 : decode cX5_parse 86 = .ok (.invokevirtual 47, 3) := by decide +kernel
theorem dX5_parse_89 : decode cX5_parse 89 = .ok (.ifCond .eq 10, 3) := by decide +kernel
theorem dX5_parse_92 : decode cX5_parse 92 = .ok (.aload_n 0, 1) := by decide +kernel
theorem dX5_parse_93 : decode cX5_parse 93 = .ok (.invokevirtual 63, 3) := by decide +kernel
theorem dX5_parse_96 : decode cX5_parse 96 = .ok (.goto 12, 3) := by decide +kernel
theorem dX5_parse_99 : decode cX5_parse 99 = .ok (.aload_n 0, 1) := by decide +kernel
theorem dX5_parse_100 : decode cX5_parse 100 = .ok (.iconst 1, 1) := by decide +kernel
theorem dX5_parse_101 : decode cX5_parse 101 = .ok (.aload_n 0, 1) := by decide +kernel
theorem dX5_parse_102 : decode cX5_parse 102 = .ok (.getfield 66, 3) := by decide +kernel
theorem dX5_parse_105 : decode cX5_parse 105 = .ok (.invokevirtual 69, 3) := by decide +kernel
theorem dX5_parse_108 : decode cX5_parse 108 = .ok (.iinc 1 1, 3) := by decide +kernel
theorem dX5_parse_111 : decode cX5_parse 111 = .ok (.goto (-84), 3) := by decide +kernel
theorem dX5_parse_114 : decode cX5_parse 114 = .ok (.aload_n 0, 1) := by decide +kernel
theorem dX5_parse_115 : decode cX5_parse 115 = .ok (.getfield 25, 3) := by decide +kernel
theorem dX5_parse_118 : decode cX5_parse 118 = .ok (.ifCond .ne 7, 3) := by decide +kernel
theorem dX5_parse_121 : decode cX5_parse 121 = .ok (.iconst 1, 1) := by decide +kernel
theorem dX5_parse_122 : decode cX5_parse 122 = .ok (.goto 4, 3) := by decide +kernel
theorem dX5_parse_125 : decode cX5_parse 125 = .ok (.iconst 0, 1) := by decide +kernel
theorem dX5_parse_126 : decode cX5_parse 126 = .ok (.ireturn, 1) := by decide +kernel
theorem dX5_readRing_0 : decode cX5_readRing 0 = .ok (.aload_n 0, 1) := by decide +kernel
theorem dX5_readRing_1 : decode cX5_readRing 1 = .ok (.getstatic 73, 3) := by decide +kernel
theorem dX5_readRing_4 : decode cX5_readRing 4 = .ok (.invokevirtual 76, 3) := by decide +kernel
theorem dX5_readRing_7 : decode cX5_readRing 7 = .ok (.aload_n 0, 1) := by decide +kernel
theorem dX5_readRing_8 : decode cX5_readRing 8 = .ok (.getstatic 80, 3) := by decide +kernel
theorem dX5_readRing_11 : decode cX5_readRing 11 = .ok (.invokevirtual 76, 3) := by decide +kernel
theorem dX5_readRing_14 : decode cX5_readRing 14 = .ok (.aload_n 0, 1) := by decide +kernel
theorem dX5_readRing_15 : decode cX5_readRing 15 = .ok (.getfield 12, 3) := by decide +kernel
theorem dX5_readRing_18 : decode cX5_readRing 18 = .ok (.aload_n 0, 1) := by decide +kernel
theorem dX5_readRing_19 : decode cX5_readRing 19 = .ok (.iconst 1, 1) := by decide +kernel
theorem dX5_readRing_20 : decode cX5_readRing 20 = .ok (.ldc 83, 2) := by decide +kernel
theorem dX5_readRing_22 : decode cX5_readRing 22 = .ok (.invokevirtual 84, 3) := by decide +kernel
theorem dX5_readRing_25 : decode cX5_readRing 25 = .ok (.putfield 88, 3) := by decide +kernel
theorem dX5_readRing_28 : decode cX5_readRing 28 = .ok (.aload_n 0, 1) := by decide +kernel
theorem dX5_readRing_29 : decode cX5_readRing 29 = .ok (.getstatic 91, 3) := by decide +kernel
theorem dX5_readRing_32 : decode cX5_readRing 32 = .ok (.invokevirtual 76, 3) := by decide +kernel
theorem dX5_readRing_35 : decode cX5_readRing 35 = .ok (.aload_n 0, 1) := by decide +kernel
theorem dX5_readRing_36 : decode cX5_readRing 36 = .ok (.getfield 12, 3) := by decide +kernel
theorem dX5_readRing_39 : decode cX5_readRing 39 = .ok (.aload_n 0, 1) := by decide +kernel
theorem dX5_readRing_40 : decode cX5_readRing 40 = .ok (.iconst 0, 1) := by decide +kernel
theorem dX5_readRing_41 : decode cX5_readRing 41 = .ok (.ldc 83, 2) := by decide +kernel
theorem dX5_readRing_43 : decode cX5_readRing 43 = .ok (.invokevirtual 84, 3) := by decide +kernel
theorem dX5_readRing_46 : decode cX5_readRing 46 = .ok (.putfield 94, 3) := by decide +kernel
theorem dX5_readRing_49 : decode cX5_readRing 49 = .ok (.aload_n 0, 1) := by decide +kernel
theorem dX5_readRing_50 : decode cX5_readRing 50 = .ok (.getstatic 97, 3) := by decide +kernel
theorem dX5_readRing_53 : decode cX5_readRing 53 = .ok (.invokevirtual 76, 3) := by decide +kernel
theorem dX5_readRing_56 : decode cX5_readRing 56 = .ok (.aload_n 0, 1) := by decide +kernel
theorem dX5_readRing_57 : decode cX5_readRing 57 = .ok (.getfield 12, 3) := by decide +kernel
theorem dX5_readRing_60 : decode cX5_readRing 60 = .ok (.aload_n 0, 1) := by decide +kernel
theorem dX5_readRing_61 : decode cX5_readRing 61 = .ok (.iconst 0, 1) := by decide +kernel
theorem dX5_readRing_62 : decode cX5_readRing 62 = .ok (.sipush 9999, 3) := by decide +kernel
theorem dX5_readRing_65 : decode cX5_readRing 65 = .ok (.invokevirtual 84, 3) := by decide +kernel
theorem dX5_readRing_68 : decode cX5_readRing 68 = .ok (.putfield 100, 3) := by decide +kernel
theorem dX5_readRing_71 : decode cX5_readRing 71 = .ok (.aload_n 0, 1) := by decide +kernel
theorem dX5_readRing_72 : decode cX5_readRing 72 = .ok (.getstatic 103, 3) := by decide +kernel
theorem dX5_readRing_75 : decode cX5_readRing 75 = .ok (.invokevirtual 76, 3) := by decide +kernel
theorem dX5_readRing_78 : decode cX5_readRing 78 = .ok (.aload_n 0, 1) := by decide +kernel
theorem dX5_readRing_79 : decode cX5_readRing 79 = .ok (.getfield 12, 3) := by decide +kernel
theorem dX5_readRing_82 : decode cX5_readRing 82 = .ok (.aload_n 0, 1) := by decide +kernel
theorem dX5_readRing_83 : decode cX5_readRing 83 = .ok (.invokevirtual 106, 3) := by decide +kernel
theorem dX5_readRing_86 : decode cX5_readRing 86 = .ok (.putfield 110, 3) := by decide +kernel
theorem dX5_readRing_89 : decode cX5_readRing 89 = .ok (.aload_n 0, 1) := by decide +kernel
theorem dX5_readRing_90 : decode cX5_readRing 90 = .ok (.invokevirtual 113, 3) := by decide +kernel
theorem dX5_readRing_93 : decode cX5_readRing 93 = .ok (.return_, 1) := by decide +kernel
theorem dX5_takeRule_0 : decode cX5_takeRule 0 = .ok (.aload_n 0, 1) := by decide +kernel
theorem dX5_takeRule_1 : decode cX5_takeRule 1 = .ok (.getstatic 116, 3) := by decide +kernel
theorem dX5_takeRule_4 : decode cX5_takeRule 4 = .ok (.invokevirtual 47, 3) := by decide +kernel
theorem dX5_takeRule_7 : decode cX5_takeRule 7 = .ok (.ifCond .eq 12, 3) := by decide +kernel
theorem dX5_takeRule_10 : decode cX5_takeRule 10 = .ok (.aload_n 0, 1) := by decide +kernel
theorem dX5_takeRule_11 : decode cX5_takeRule 11 = .ok (.getstatic 116, 3) := by decide +kernel
theorem dX5_takeRule_14 : decode cX5_takeRule 14 = .ok (.invokevirtual 76, 3) := by decide +kernel
theorem dX5_takeRule_17 : decode cX5_takeRule 17 = .ok (.iconst 1, 1) := by decide +kernel
theorem dX5_takeRule_18 : decode cX5_takeRule 18 = .ok (.ireturn, 1) := by decide +kernel
theorem dX5_takeRule_19 : decode cX5_takeRule 19 = .ok (.aload_n 0, 1) := by decide +kernel
theorem dX5_takeRule_20 : decode cX5_takeRule 20 = .ok (.getstatic 119, 3) := by decide +kernel
theorem dX5_takeRule_23 : decode cX5_takeRule 23 = .ok (.invokevirtual 47, 3) := by decide +kernel
theorem dX5_takeRule_26 : decode cX5_takeRule 26 = .ok (.ifCond .eq 12, 3) := by decide +kernel
theorem dX5_takeRule_29 : decode cX5_takeRule 29 = .ok (.aload_n 0, 1) := by decide +kernel
theorem dX5_takeRule_30 : decode cX5_takeRule 30 = .ok (.getstatic 119, 3) := by decide +kernel
theorem dX5_takeRule_33 : decode cX5_takeRule 33 = .ok (.invokevirtual 76, 3) := by decide +kernel
theorem dX5_takeRule_36 : decode cX5_takeRule 36 = .ok (.iconst 2, 1) := by decide +kernel
theorem dX5_takeRule_37 : decode cX5_takeRule 37 = .ok (.ireturn, 1) := by decide +kernel
theorem dX5_takeRule_38 : decode cX5_takeRule 38 = .ok (.aload_n 0, 1) := by decide +kernel
theorem dX5_takeRule_39 : decode cX5_takeRule 39 = .ok (.getstatic 122, 3) := by decide +kernel
theorem dX5_takeRule_42 : decode cX5_takeRule 42 = .ok (.invokevirtual 76, 3) := by decide +kernel
theorem dX5_takeRule_45 : decode cX5_takeRule 45 = .ok (.iconst 0, 1) := by decide +kernel
theorem dX5_takeRule_46 : decode cX5_takeRule 46 = .ok (.ireturn, 1) := by decide +kernel
theorem dX5_readNode_0 : decode cX5_readNode 0 = .ok (.aload_n 0, 1) := by decide +kernel
theorem dX5_readNode_1 : decode cX5_readNode 1 = .ok (.getstatic 41, 3) := by decide +kernel
theorem dX5_readNode_4 : decode cX5_readNode 4 = .ok (.aload_n 0, 1) := by decide +kernel
theorem dX5_readNode_5 : decode cX5_readNode 5 = .ok (.getfield 12, 3) := by decide +kernel
theorem dX5_readNode_8 : decode cX5_readNode 8 = .ok (.getfield 125, 3) := by decide +kernel
theorem dX5_readNode_11 : decode cX5_readNode 11 = .ok (.invokevirtual 129, 3) := by decide +kernel
theorem dX5_readNode_14 : decode cX5_readNode 14 = .ok (.istore_n 1, 1) := by decide +kernel
theorem dX5_readNode_15 : decode cX5_readNode 15 = .ok (.aload_n 0, 1) := by decide +kernel
theorem dX5_readNode_16 : decode cX5_readNode 16 = .ok (.getstatic 133, 3) := by decide +kernel
theorem dX5_readNode_19 : decode cX5_readNode 19 = .ok (.invokevirtual 76, 3) := by decide +kernel
theorem dX5_readNode_22 : decode cX5_readNode 22 = .ok (.aload_n 0, 1) := by decide +kernel
theorem dX5_readNode_23 : decode cX5_readNode 23 = .ok (.getfield 66, 3) := by decide +kernel
theorem dX5_readNode_26 : decode cX5_readNode 26 = .ok (.istore_n 2, 1) := by decide +kernel
theorem dX5_readNode_27 : decode cX5_readNode 27 = .ok (.aload_n 0, 1) := by decide +kernel
theorem dX5_readNode_28 : decode cX5_readNode 28 = .ok (.iconst 0, 1) := by decide +kernel
theorem dX5_readNode_29 : decode cX5_readNode 29 = .ok (.sipush 9999, 3) := by decide +kernel
theorem dX5_readNode_32 : decode cX5_readNode 32 = .ok (.invokevirtual 84, 3) := by decide +kernel
theorem dX5_readNode_35 : decode cX5_readNode 35 = .ok (.istore_n 3, 1) := by decide +kernel
theorem dX5_readNode_36 : decode cX5_readNode 36 = .ok (.aload_n 0, 1) := by decide +kernel
theorem dX5_readNode_37 : decode cX5_readNode 37 = .ok (.getfield 12, 3) := by decide +kernel
theorem dX5_readNode_40 : decode cX5_readNode 40 = .ok (.getfield 125, 3) := by decide +kernel
theorem dX5_readNode_43 : decode cX5_readNode 43 = .ok (.iconst 0, 1) := by decide +kernel
theorem dX5_readNode_44 : decode cX5_readNode 44 = .ok (.iload_n 3, 1) := by decide +kernel
theorem dX5_readNode_45 : decode cX5_readNode 45 = .ok (.invokevirtual 136, 3) := by decide +kernel
theorem dX5_readNode_48 : decode cX5_readNode 48 = .ok (.iconst (-1), 1) := by decide +kernel
theorem dX5_readNode_49 : decode cX5_readNode 49 = .ok (.if_icmp .eq 9, 3) := by decide +kernel
theorem dX5_readNode_52 : decode cX5_readNode 52 = .ok (.aload_n 0, 1) := by decide +kernel
theorem dX5_readNode_53 : decode cX5_readNode 53 = .ok (.iconst 3, 1) := by decide +kernel
theorem dX5_readNode_54 : decode cX5_readNode 54 = .ok (.iload_n 2, 1) := by decide +kernel
theorem dX5_readNode_55 : decode cX5_readNode 55 = .ok (.invokevirtual 69, 3) := by decide +kernel
theorem dX5_readNode_58 : decode cX5_readNode 58 = .ok (.aload_n 0, 1) := by decide +kernel
theorem dX5_readNode_59 : decode cX5_readNode 59 = .ok (.getstatic 141, 3) := by decide +kernel
theorem dX5_readNode_62 : decode cX5_readNode 62 = .ok (.invokevirtual 76, 3) := by decide +kernel
theorem dX5_readNode_65 : decode cX5_readNode 65 = .ok (.aload_n 0, 1) := by decide +kernel
theorem dX5_readNode_66 : decode cX5_readNode 66 = .ok (.iconst 0, 1) := by decide +kernel
theorem dX5_readNode_67 : decode cX5_readNode 67 = .ok (.bipush 9, 2) := by decide +kernel
theorem dX5_readNode_69 : decode cX5_readNode 69 = .ok (.invokevirtual 84, 3) := by decide +kernel
theorem dX5_readNode_72 : decode cX5_readNode 72 = .ok (.istore 4, 2) := by decide +kernel
theorem dX5_readNode_74 : decode cX5_readNode 74 = .ok (.aload_n 0, 1) := by decide +kernel
theorem dX5_readNode_75 : decode cX5_readNode 75 = .ok (.getstatic 144, 3) := by decide +kernel
theorem dX5_readNode_78 : decode cX5_readNode 78 = .ok (.invokevirtual 76, 3) := by decide +kernel
theorem dX5_readNode_81 : decode cX5_readNode 81 = .ok (.aload_n 0, 1) := by decide +kernel
theorem dX5_readNode_82 : decode cX5_readNode 82 = .ok (.iconst 0, 1) := by decide +kernel
theorem dX5_readNode_83 : decode cX5_readNode 83 = .ok (.sipush 999, 3) := by decide +kernel
theorem dX5_readNode_86 : decode cX5_readNode 86 = .ok (.invokevirtual 84, 3) := by decide +kernel
theorem dX5_readNode_89 : decode cX5_readNode 89 = .ok (.istore 5, 2) := by decide +kernel
theorem dX5_readNode_91 : decode cX5_readNode 91 = .ok (.aload_n 0, 1) := by decide +kernel
theorem dX5_readNode_92 : decode cX5_readNode 92 = .ok (.getstatic 147, 3) := by decide +kernel
theorem dX5_readNode_95 : decode cX5_readNode 95 = .ok (.invokevirtual 76, 3) := by decide +kernel
theorem dX5_readNode_98 : decode cX5_readNode 98 = .ok (.aload_n 0, 1) := by decide +kernel
theorem dX5_readNode_99 : decode cX5_readNode 99 = .ok (.iconst 1, 1) := by decide +kernel
theorem dX5_readNode_100 : decode cX5_readNode 100 = .ok (.bipush 50, 2) := by decide +kernel
theorem dX5_readNode_102 : decode cX5_readNode 102 = .ok (.invokevirtual 84, 3) := by decide +kernel
theorem dX5_readNode_105 : decode cX5_readNode 105 = .ok (.istore 6, 2) := by decide +kernel
theorem dX5_readNode_107 : decode cX5_readNode 107 = .ok (.aload_n 0, 1) := by decide +kernel
theorem dX5_readNode_108 : decode cX5_readNode 108 = .ok (.invokevirtual 113, 3) := by decide +kernel
theorem dX5_readNode_111 : decode cX5_readNode 111 = .ok (.aload_n 0, 1) := by decide +kernel
theorem dX5_readNode_112 : decode cX5_readNode 112 = .ok (.getfield 25, 3) := by decide +kernel
theorem dX5_readNode_115 : decode cX5_readNode 115 = .ok (.ifCond .ne 75, 3) := by decide +kernel
theorem dX5_readNode_118 : decode cX5_readNode 118 = .ok (.aload_n 0, 1) := by decide +kernel
theorem dX5_readNode_119 : decode cX5_readNode 119 = .ok (.getfield 12, 3) := by decide +kernel
theorem dX5_readNode_122 : decode cX5_readNode 122 = .ok (.getfield 125, 3) := by decide +kernel
theorem dX5_readNode_125 : decode cX5_readNode 125 = .ok (.iload_n 1, 1) := by decide +kernel
theorem dX5_readNode_126 : decode cX5_readNode 126 = .ok (.invokevirtual 150, 3) := by decide +kernel
theorem dX5_readNode_129 : decode cX5_readNode 129 = .ok (.istore 7, 2) := by decide +kernel
theorem dX5_readNode_131 : decode cX5_readNode 131 = .ok (.aload_n 0, 1) := by decide +kernel
theorem dX5_readNode_132 : decode cX5_readNode 132 = .ok (.getfield 12, 3) := by decide +kernel
theorem dX5_readNode_135 : decode cX5_readNode 135 = .ok (.getfield 125, 3) := by decide +kernel
theorem dX5_readNode_138 : decode cX5_readNode 138 = .ok (.iload 7, 2) := by decide +kernel
theorem dX5_readNode_140 : decode cX5_readNode 140 = .ok (.iconst 0, 1) := by decide +kernel
theorem dX5_readNode_141 : decode cX5_readNode 141 = .ok (.iload_n 3, 1) := by decide +kernel
theorem dX5_readNode_142 : decode cX5_readNode 142 = .ok (.invokevirtual 154, 3) := by decide +kernel
theorem dX5_readNode_145 : decode cX5_readNode 145 = .ok (.aload_n 0, 1) := by decide +kernel
theorem dX5_readNode_146 : decode cX5_readNode 146 = .ok (.getfield 12, 3) := by decide +kernel
theorem dX5_readNode_149 : decode cX5_readNode 149 = .ok (.getfield 125, 3) := by decide +kernel
theorem dX5_readNode_152 : decode cX5_readNode 152 = .ok (.iload 7, 2) := by decide +kernel
theorem dX5_readNode_154 : decode cX5_readNode 154 = .ok (.iconst 1, 1) := by decide +kernel
theorem dX5_readNode_155 : decode cX5_readNode 155 = .ok (.iload 4, 2) := by decide +kernel
theorem dX5_readNode_157 : decode cX5_readNode 157 = .ok (.invokevirtual 154, 3) := by decide +kernel
theorem dX5_readNode_160 : decode cX5_readNode 160 = .ok (.aload_n 0, 1) := by decide +kernel
theorem dX5_readNode_161 : decode cX5_readNode 161 = .ok (.getfield 12, 3) := by decide +kernel
theorem dX5_readNode_164 : decode cX5_readNode 164 = .ok (.getfield 125, 3) := by decide +kernel
theorem dX5_readNode_167 : decode cX5_readNode 167 = .ok (.iload 7, 2) := by decide +kernel
theorem dX5_readNode_169 : decode cX5_readNode 169 = .ok (.iconst 2, 1) := by decide +kernel
theorem dX5_readNode_170 : decode cX5_readNode 170 = .ok (.iload 5, 2) := by decide +kernel
theorem dX5_readNode_172 : decode cX5_readNode 172 = .ok (.invokevirtual 154, 3) := by decide +kernel
theorem dX5_readNode_175 : decode cX5_readNode 175 = .ok (.aload_n 0, 1) := by decide +kernel
theorem dX5_readNode_176 : decode cX5_readNode 176 = .ok (.getfield 12, 3) := by decide +kernel
theorem dX5_readNode_179 : decode cX5_readNode 179 = .ok (.getfield 125, 3) := by decide +kernel
theorem dX5_readNode_182 : decode cX5_readNode 182 = .ok (.iload 7, 2) := by decide +kernel
theorem dX5_readNode_184 : decode cX5_readNode 184 = .ok (.iconst 3, 1) := by decide +kernel
theorem dX5_readNode_185 : decode cX5_readNode 185 = .ok (.iload 6, 2) := by decide +kernel
theorem dX5_readNode_187 : decode cX5_readNode 187 = .ok (.invokevirtual 154, 3) := by decide +kernel
theorem dX5_readNode_190 : decode cX5_readNode 190 = .ok (.return_, 1) := by decide +kernel
theorem dX5_readTenant_0 : decode cX5_readTenant 0 = .ok (.aload_n 0, 1) := by decide +kernel
theorem dX5_readTenant_1 : decode cX5_readTenant 1 = .ok (.getstatic 54, 3) := by decide +kernel
theorem dX5_readTenant_4 : decode cX5_readTenant 4 = .ok (.aload_n 0, 1) := by decide +kernel
theorem dX5_readTenant_5 : decode cX5_readTenant 5 = .ok (.getfield 12, 3) := by decide +kernel
theorem dX5_readTenant_8 : decode cX5_readTenant 8 = .ok (.getfield 158, 3) := by decide +kernel
theorem dX5_readTenant_11 : decode cX5_readTenant 11 = .ok (.invokevirtual 129, 3) := by decide +kernel
theorem dX5_readTenant_14 : decode cX5_readTenant 14 = .ok (.istore_n 1, 1) := by decide +kernel
theorem dX5_readTenant_15 : decode cX5_readTenant 15 = .ok (.aload_n 0, 1) := by decide +kernel
theorem dX5_readTenant_16 : decode cX5_readTenant 16 = .ok (.getstatic 161, 3) := by decide +kernel
theorem dX5_readTenant_19 : decode cX5_readTenant 19 = .ok (.invokevirtual 76, 3) := by decide +kernel
theorem dX5_readTenant_22 : decode cX5_readTenant 22 = .ok (.aload_n 0, 1) := by decide +kernel
theorem dX5_readTenant_23 : decode cX5_readTenant 23 = .ok (.iconst 0, 1) := by decide +kernel
theorem dX5_readTenant_24 : decode cX5_readTenant 24 = .ok (.ldc 164, 2) := by decide +kernel
theorem dX5_readTenant_26 : decode cX5_readTenant 26 = .ok (.invokevirtual 84, 3) := by decide +kernel
theorem dX5_readTenant_29 : decode cX5_readTenant 29 = .ok (.istore_n 2, 1) := by decide +kernel
theorem dX5_readTenant_30 : decode cX5_readTenant 30 = .ok (.aload_n 0, 1) := by decide +kernel
theorem dX5_readTenant_31 : decode cX5_readTenant 31 = .ok (.getstatic 165, 3) := by decide +kernel
theorem dX5_readTenant_34 : decode cX5_readTenant 34 = .ok (.invokevirtual 76, 3) := by decide +kernel
theorem dX5_readTenant_37 : decode cX5_readTenant 37 = .ok (.aload_n 0, 1) := by decide +kernel
theorem dX5_readTenant_38 : decode cX5_readTenant 38 = .ok (.iconst 0, 1) := by decide +kernel
theorem dX5_readTenant_39 : decode cX5_readTenant 39 = .ok (.ldc 164, 2) := by decide +kernel
theorem dX5_readTenant_41 : decode cX5_readTenant 41 = .ok (.invokevirtual 84, 3) := by decide +kernel
theorem dX5_readTenant_44 : decode cX5_readTenant 44 = .ok (.istore_n 3, 1) := by decide +kernel
theorem dX5_readTenant_45 : decode cX5_readTenant 45 = .ok (.aload_n 0, 1) := by decide +kernel
theorem dX5_readTenant_46 : decode cX5_readTenant 46 = .ok (.invokevirtual 113, 3) := by decide +kernel
theorem dX5_readTenant_49 : decode cX5_readTenant 49 = .ok (.aload_n 0, 1) := by decide +kernel
theorem dX5_readTenant_50 : decode cX5_readTenant 50 = .ok (.getfield 25, 3) := by decide +kernel
theorem dX5_readTenant_53 : decode cX5_readTenant 53 = .ok (.ifCond .ne 44, 3) := by decide +kernel
theorem dX5_readTenant_56 : decode cX5_readTenant 56 = .ok (.aload_n 0, 1) := by decide +kernel
theorem dX5_readTenant_57 : decode cX5_readTenant 57 = .ok (.getfield 12, 3) := by decide +kernel
theorem dX5_readTenant_60 : decode cX5_readTenant 60 = .ok (.getfield 158, 3) := by decide +kernel
theorem dX5_readTenant_63 : decode cX5_readTenant 63 = .ok (.iload_n 1, 1) := by decide +kernel
theorem dX5_readTenant_64 : decode cX5_readTenant 64 = .ok (.invokevirtual 150, 3) := by decide +kernel
theorem dX5_readTenant_67 : decode cX5_readTenant 67 = .ok (.istore 4, 2) := by decide +kernel
theorem dX5_readTenant_69 : decode cX5_readTenant 69 = .ok (.aload_n 0, 1) := by decide +kernel
theorem dX5_readTenant_70 : decode cX5_readTenant 70 = .ok (.getfield 12, 3) := by decide +kernel
theorem dX5_readTenant_73 : decode cX5_readTenant 73 = .ok (.getfield 158, 3) := by decide +kernel
theorem dX5_readTenant_76 : decode cX5_readTenant 76 = .ok (.iload 4, 2) := by decide +kernel
theorem dX5_readTenant_78 : decode cX5_readTenant 78 = .ok (.iconst 0, 1) := by decide +kernel
theorem dX5_readTenant_79 : decode cX5_readTenant 79 = .ok (.iload_n 2, 1) := by decide +kernel
theorem dX5_readTenant_80 : decode cX5_readTenant 80 = .ok (.invokevirtual 154, 3) := by decide +kernel
theorem dX5_readTenant_83 : decode cX5_readTenant 83 = .ok (.aload_n 0, 1) := by decide +kernel
theorem dX5_readTenant_84 : decode cX5_readTenant 84 = .ok (.getfield 12, 3) := by decide +kernel
theorem dX5_readTenant_87 : decode cX5_readTenant 87 = .ok (.getfield 158, 3) := by decide +kernel
theorem dX5_readTenant_90 : decode cX5_readTenant 90 = .ok (.iload 4, 2) := by decide +kernel
theorem dX5_readTenant_92 : decode cX5_readTenant 92 = .ok (.iconst 1, 1) := by decide +kernel
theorem dX5_readTenant_93 : decode cX5_readTenant 93 = .ok (.iload_n 3, 1) := by decide +kernel
theorem dX5_readTenant_94 : decode cX5_readTenant 94 = .ok (.invokevirtual 154, 3) := by decide +kernel
theorem dX5_readTenant_97 : decode cX5_readTenant 97 = .ok (.return_, 1) := by decide +kernel
theorem dX5_readGroup_0 : decode cX5_readGroup 0 = .ok (.aload_n 0, 1) := by decide +kernel
theorem dX5_readGroup_1 : decode cX5_readGroup 1 = .ok (.getstatic 60, 3) := by decide +kernel
theorem dX5_readGroup_4 : decode cX5_readGroup 4 = .ok (.aload_n 0, 1) := by decide +kernel
theorem dX5_readGroup_5 : decode cX5_readGroup 5 = .ok (.getfield 12, 3) := by decide +kernel
theorem dX5_readGroup_8 : decode cX5_readGroup 8 = .ok (.getfield 168, 3) := by decide +kernel
theorem dX5_readGroup_11 : decode cX5_readGroup 11 = .ok (.invokevirtual 129, 3) := by decide +kernel
theorem dX5_readGroup_14 : decode cX5_readGroup 14 = .ok (.istore_n 1, 1) := by decide +kernel
theorem dX5_readGroup_15 : decode cX5_readGroup 15 = .ok (.aload_n 0, 1) := by decide +kernel
theorem dX5_readGroup_16 : decode cX5_readGroup 16 = .ok (.getstatic 171, 3) := by decide +kernel
theorem dX5_readGroup_19 : decode cX5_readGroup 19 = .ok (.invokevirtual 76, 3) := by decide +kernel
theorem dX5_readGroup_22 : decode cX5_readGroup 22 = .ok (.aload_n 0, 1) := by decide +kernel
theorem dX5_readGroup_23 : decode cX5_readGroup 23 = .ok (.getfield 66, 3) := by decide +kernel
theorem dX5_readGroup_26 : decode cX5_readGroup 26 = .ok (.istore_n 2, 1) := by decide +kernel
theorem dX5_readGroup_27 : decode cX5_readGroup 27 = .ok (.aload_n 0, 1) := by decide +kernel
theorem dX5_readGroup_28 : decode cX5_readGroup 28 = .ok (.getfield 12, 3) := by decide +kernel
theorem dX5_readGroup_31 : decode cX5_readGroup 31 = .ok (.getfield 158, 3) := by decide +kernel
theorem dX5_readGroup_34 : decode cX5_readGroup 34 = .ok (.aload_n 0, 1) := by decide +kernel
theorem dX5_readGroup_35 : decode cX5_readGroup 35 = .ok (.invokevirtual 174, 3) := by decide +kernel
theorem dX5_readGroup_38 : decode cX5_readGroup 38 = .ok (.invokevirtual 177, 3) := by decide +kernel
theorem dX5_readGroup_41 : decode cX5_readGroup 41 = .ok (.istore_n 3, 1) := by decide +kernel
theorem dX5_readGroup_42 : decode cX5_readGroup 42 = .ok (.iload_n 3, 1) := by decide +kernel
theorem dX5_readGroup_43 : decode cX5_readGroup 43 = .ok (.iconst (-1), 1) := by decide +kernel
theorem dX5_readGroup_44 : decode cX5_readGroup 44 = .ok (.if_icmp .ne 9, 3) := by decide +kernel
theorem dX5_readGroup_47 : decode cX5_readGroup 47 = .ok (.aload_n 0, 1) := by decide +kernel
theorem dX5_readGroup_48 : decode cX5_readGroup 48 = .ok (.iconst 3, 1) := by decide +kernel
theorem dX5_readGroup_49 : decode cX5_readGroup 49 = .ok (.iload_n 2, 1) := by decide +kernel
theorem dX5_readGroup_50 : decode cX5_readGroup 50 = .ok (.invokevirtual 69, 3) := by decide +kernel
theorem dX5_readGroup_53 : decode cX5_readGroup 53 = .ok (.aload_n 0, 1) := by decide +kernel
theorem dX5_readGroup_54 : decode cX5_readGroup 54 = .ok (.getstatic 180, 3) := by decide +kernel
theorem dX5_readGroup_57 : decode cX5_readGroup 57 = .ok (.invokevirtual 76, 3) := by decide +kernel
theorem dX5_readGroup_60 : decode cX5_readGroup 60 = .ok (.aload_n 0, 1) := by decide +kernel
theorem dX5_readGroup_61 : decode cX5_readGroup 61 = .ok (.iconst 0, 1) := by decide +kernel
theorem dX5_readGroup_62 : decode cX5_readGroup 62 = .ok (.sipush 9999, 3) := by decide +kernel
theorem dX5_readGroup_65 : decode cX5_readGroup 65 = .ok (.invokevirtual 84, 3) := by decide +kernel
theorem dX5_readGroup_68 : decode cX5_readGroup 68 = .ok (.istore 4, 2) := by decide +kernel
theorem dX5_readGroup_70 : decode cX5_readGroup 70 = .ok (.aload_n 0, 1) := by decide +kernel
theorem dX5_readGroup_71 : decode cX5_readGroup 71 = .ok (.getstatic 183, 3) := by decide +kernel
theorem dX5_readGroup_74 : decode cX5_readGroup 74 = .ok (.invokevirtual 76, 3) := by decide +kernel
theorem dX5_readGroup_77 : decode cX5_readGroup 77 = .ok (.aload_n 0, 1) := by decide +kernel
theorem dX5_readGroup_78 : decode cX5_readGroup 78 = .ok (.iconst 1, 1) := by decide +kernel
theorem dX5_readGroup_79 : decode cX5_readGroup 79 = .ok (.bipush 6, 2) := by decide +kernel
theorem dX5_readGroup_81 : decode cX5_readGroup 81 = .ok (.invokevirtual 84, 3) := by decide +kernel
theorem dX5_readGroup_84 : decode cX5_readGroup 84 = .ok (.istore 5, 2) := by decide +kernel
theorem dX5_readGroup_86 : decode cX5_readGroup 86 = .ok (.aload_n 0, 1) := by decide +kernel
theorem dX5_readGroup_87 : decode cX5_readGroup 87 = .ok (.getstatic 186, 3) := by decide +kernel
theorem dX5_readGroup_90 : decode cX5_readGroup 90 = .ok (.invokevirtual 76, 3) := by decide +kernel
theorem dX5_readGroup_93 : decode cX5_readGroup 93 = .ok (.aload_n 0, 1) := by decide +kernel
theorem dX5_readGroup_94 : decode cX5_readGroup 94 = .ok (.iconst 1, 1) := by decide +kernel
theorem dX5_readGroup_95 : decode cX5_readGroup 95 = .ok (.iconst 4, 1) := by decide +kernel
theorem dX5_readGroup_96 : decode cX5_readGroup 96 = .ok (.invokevirtual 84, 3) := by decide +kernel
theorem dX5_readGroup_99 : decode cX5_readGroup 99 = .ok (.istore 6, 2) := by decide +kernel
theorem dX5_readGroup_101 : decode cX5_readGroup 101 = .ok (.aload_n 0, 1) := by decide +kernel
theorem dX5_readGroup_102 : decode cX5_readGroup 102 = .ok (.getstatic 189, 3) := by decide +kernel
theorem dX5_readGroup_105 : decode cX5_readGroup 105 = .ok (.invokevirtual 76, 3) := by decide +kernel
theorem dX5_readGroup_108 : decode cX5_readGroup 108 = .ok (.aload_n 0, 1) := by decide +kernel
theorem dX5_readGroup_109 : decode cX5_readGroup 109 = .ok (.iconst 1, 1) := by decide +kernel
theorem dX5_readGroup_110 : decode cX5_readGroup 110 = .ok (.bipush 100, 2) := by decide +kernel
theorem dX5_readGroup_112 : decode cX5_readGroup 112 = .ok (.invokevirtual 84, 3) := by decide +kernel
theorem dX5_readGroup_115 : decode cX5_readGroup 115 = .ok (.istore 7, 2) := by decide +kernel
theorem dX5_readGroup_117 : decode cX5_readGroup 117 = .ok (.aload_n 0, 1) := by decide +kernel
theorem dX5_readGroup_118 : decode cX5_readGroup 118 = .ok (.getstatic 192, 3) := by decide +kernel
theorem dX5_readGroup_121 : decode cX5_readGroup 121 = .ok (.invokevirtual 76, 3) := by decide +kernel
theorem dX5_readGroup_124 : decode cX5_readGroup 124 = .ok (.aload_n 0, 1) := by decide +kernel
theorem dX5_readGroup_125 : decode cX5_readGroup 125 = .ok (.iconst 1, 1) := by decide +kernel
theorem dX5_readGroup_126 : decode cX5_readGroup 126 = .ok (.sipush 9999, 3) := by decide +kernel
theorem dX5_readGroup_129 : decode cX5_readGroup 129 = .ok (.invokevirtual 84, 3) := by decide +kernel
theorem dX5_readGroup_132 : decode cX5_readGroup 132 = .ok (.istore 8, 2) := by decide +kernel
theorem dX5_readGroup_134 : decode cX5_readGroup 134 = .ok (.aload_n 0, 1) := by decide +kernel
theorem dX5_readGroup_135 : decode cX5_readGroup 135 = .ok (.getfield 66, 3) := by decide +kernel
theorem dX5_readGroup_138 : decode cX5_readGroup 138 = .ok (.istore 9, 2) := by decide +kernel
theorem dX5_readGroup_140 : decode cX5_readGroup 140 = .ok (.aload_n 0, 1) := by decide +kernel
theorem dX5_readGroup_141 : decode cX5_readGroup 141 = .ok (.invokevirtual 113, 3) := by decide +kernel
theorem dX5_readGroup_144 : decode cX5_readGroup 144 = .ok (.aload_n 0, 1) := by decide +kernel
theorem dX5_readGroup_145 : decode cX5_readGroup 145 = .ok (.getfield 25, 3) := by decide +kernel
theorem dX5_readGroup_148 : decode cX5_readGroup 148 = .ok (.ifCond .ne 164, 3) := by decide +kernel
theorem dX5_readGroup_151 : decode cX5_readGroup 151 = .ok (.aload_n 0, 1) := by decide +kernel
theorem dX5_readGroup_152 : decode cX5_readGroup 152 = .ok (.getfield 12, 3) := by decide +kernel
theorem dX5_readGroup_155 : decode cX5_readGroup 155 = .ok (.getfield 168, 3) := by decide +kernel
theorem dX5_readGroup_158 : decode cX5_readGroup 158 = .ok (.iload_n 1, 1) := by decide +kernel
theorem dX5_readGroup_159 : decode cX5_readGroup 159 = .ok (.invokevirtual 150, 3) := by decide +kernel
theorem dX5_readGroup_162 : decode cX5_readGroup 162 = .ok (.istore 10, 2) := by decide +kernel
theorem dX5_readGroup_164 : decode cX5_readGroup 164 = .ok (.aload_n 0, 1) := by decide +kernel
theorem dX5_readGroup_165 : decode cX5_readGroup 165 = .ok (.getfield 12, 3) := by decide +kernel
theorem dX5_readGroup_168 : decode cX5_readGroup 168 = .ok (.getfield 168, 3) := by decide +kernel
theorem dX5_readGroup_171 : decode cX5_readGroup 171 = .ok (.iload 10, 2) := by decide +kernel
theorem dX5_readGroup_173 : decode cX5_readGroup 173 = .ok (.iconst 0, 1) := by decide +kernel
theorem dX5_readGroup_174 : decode cX5_readGroup 174 = .ok (.iload_n 3, 1) := by decide +kernel
theorem dX5_readGroup_175 : decode cX5_readGroup 175 = .ok (.invokevirtual 154, 3) := by decide +kernel
theorem dX5_readGroup_178 : decode cX5_readGroup 178 = .ok (.aload_n 0, 1) := by decide +kernel
theorem dX5_readGroup_179 : decode cX5_readGroup 179 = .ok (.getfield 12, 3) := by decide +kernel
theorem dX5_readGroup_182 : decode cX5_readGroup 182 = .ok (.getfield 168, 3) := by decide +kernel
theorem dX5_readGroup_185 : decode cX5_readGroup 185 = .ok (.iload 10, 2) := by decide +kernel
theorem dX5_readGroup_187 : decode cX5_readGroup 187 = .ok (.iconst 1, 1) := by decide +kernel
theorem dX5_readGroup_188 : decode cX5_readGroup 188 = .ok (.iload 4, 2) := by decide +kernel
theorem dX5_readGroup_190 : decode cX5_readGroup 190 = .ok (.invokevirtual 154, 3) := by decide +kernel
theorem dX5_readGroup_193 : decode cX5_readGroup 193 = .ok (.aload_n 0, 1) := by decide +kernel
theorem dX5_readGroup_194 : decode cX5_readGroup 194 = .ok (.getfield 12, 3) := by decide +kernel
theorem dX5_readGroup_197 : decode cX5_readGroup 197 = .ok (.getfield 168, 3) := by decide +kernel
theorem dX5_readGroup_200 : decode cX5_readGroup 200 = .ok (.iload 10, 2) := by decide +kernel
theorem dX5_readGroup_202 : decode cX5_readGroup 202 = .ok (.iconst 2, 1) := by decide +kernel
theorem dX5_readGroup_203 : decode cX5_readGroup 203 = .ok (.iload 5, 2) := by decide +kernel
theorem dX5_readGroup_205 : decode cX5_readGroup 205 = .ok (.invokevirtual 154, 3) := by decide +kernel
theorem dX5_readGroup_208 : decode cX5_readGroup 208 = .ok (.aload_n 0, 1) := by decide +kernel
theorem dX5_readGroup_209 : decode cX5_readGroup 209 = .ok (.getfield 12, 3) := by decide +kernel
theorem dX5_readGroup_212 : decode cX5_readGroup 212 = .ok (.getfield 168, 3) := by decide +kernel
theorem dX5_readGroup_215 : decode cX5_readGroup 215 = .ok (.iload 10, 2) := by decide +kernel
theorem dX5_readGroup_217 : decode cX5_readGroup 217 = .ok (.iconst 3, 1) := by decide +kernel
theorem dX5_readGroup_218 : decode cX5_readGroup 218 = .ok (.iload 6, 2) := by decide +kernel
theorem dX5_readGroup_220 : decode cX5_readGroup 220 = .ok (.invokevirtual 154, 3) := by decide +kernel
theorem dX5_readGroup_223 : decode cX5_readGroup 223 = .ok (.aload_n 0, 1) := by decide +kernel
theorem dX5_readGroup_224 : decode cX5_readGroup 224 = .ok (.getfield 12, 3) := by decide +kernel
theorem dX5_readGroup_227 : decode cX5_readGroup 227 = .ok (.getfield 168, 3) := by decide +kernel
theorem dX5_readGroup_230 : decode cX5_readGroup 230 = .ok (.iload 10, 2) := by decide +kernel
theorem dX5_readGroup_232 : decode cX5_readGroup 232 = .ok (.iconst 4, 1) := by decide +kernel
theorem dX5_readGroup_233 : decode cX5_readGroup 233 = .ok (.iload 7, 2) := by decide +kernel
theorem dX5_readGroup_235 : decode cX5_readGroup 235 = .ok (.invokevirtual 154, 3) := by decide +kernel
theorem dX5_readGroup_238 : decode cX5_readGroup 238 = .ok (.aload_n 0, 1) := by decide +kernel
theorem dX5_readGroup_239 : decode cX5_readGroup 239 = .ok (.getfield 12, 3) := by decide +kernel
theorem dX5_readGroup_242 : decode cX5_readGroup 242 = .ok (.getfield 168, 3) := by decide +kernel
theorem dX5_readGroup_245 : decode cX5_readGroup 245 = .ok (.iload 10, 2) := by decide +kernel
theorem dX5_readGroup_247 : decode cX5_readGroup 247 = .ok (.iconst 5, 1) := by decide +kernel
theorem dX5_readGroup_248 : decode cX5_readGroup 248 = .ok (.iload 8, 2) := by decide +kernel
theorem dX5_readGroup_250 : decode cX5_readGroup 250 = .ok (.invokevirtual 154, 3) := by decide +kernel
theorem dX5_readGroup_253 : decode cX5_readGroup 253 = .ok (.aload_n 0, 1) := by decide +kernel
theorem dX5_readGroup_254 : decode cX5_readGroup 254 = .ok (.getfield 12, 3) := by decide +kernel
theorem dX5_readGroup_257 : decode cX5_readGroup 257 = .ok (.getfield 168, 3) := by decide +kernel
theorem dX5_readGroup_260 : decode cX5_readGroup 260 = .ok (.iload 10, 2) := by decide +kernel
theorem dX5_readGroup_262 : decode cX5_readGroup 262 = .ok (.bipush 7, 2) := by decide +kernel
theorem dX5_readGroup_264 : decode cX5_readGroup 264 = .ok (.iload 5, 2) := by decide +kernel
theorem dX5_readGroup_266 : decode cX5_readGroup 266 = .ok (.iconst 1, 1) := by decide +kernel
theorem dX5_readGroup_267 : decode cX5_readGroup 267 = .ok (.iadd, 1) := by decide +kernel
theorem dX5_readGroup_268 : decode cX5_readGroup 268 = .ok (.iload 7, 2) := by decide +kernel
theorem dX5_readGroup_270 : decode cX5_readGroup 270 = .ok (.imul, 1) := by decide +kernel
theorem dX5_readGroup_271 : decode cX5_readGroup 271 = .ok (.invokevirtual 154, 3) := by decide +kernel
theorem dX5_readGroup_274 : decode cX5_readGroup 274 = .ok (.aload_n 0, 1) := by decide +kernel
theorem dX5_readGroup_275 : decode cX5_readGroup 275 = .ok (.getfield 12, 3) := by decide +kernel
theorem dX5_readGroup_278 : decode cX5_readGroup 278 = .ok (.getfield 168, 3) := by decide +kernel
theorem dX5_readGroup_281 : decode cX5_readGroup 281 = .ok (.iload 10, 2) := by decide +kernel
theorem dX5_readGroup_283 : decode cX5_readGroup 283 = .ok (.bipush 9, 2) := by decide +kernel
theorem dX5_readGroup_285 : decode cX5_readGroup 285 = .ok (.iload 5, 2) := by decide +kernel
theorem dX5_readGroup_287 : decode cX5_readGroup 287 = .ok (.iload 6, 2) := by decide +kernel
theorem dX5_readGroup_289 : decode cX5_readGroup 289 = .ok (.iadd, 1) := by decide +kernel
theorem dX5_readGroup_290 : decode cX5_readGroup 290 = .ok (.invokevirtual 154, 3) := by decide +kernel
theorem dX5_readGroup_293 : decode cX5_readGroup 293 = .ok (.aload_n 0, 1) := by decide +kernel
theorem dX5_readGroup_294 : decode cX5_readGroup 294 = .ok (.getfield 12, 3) := by decide +kernel
theorem dX5_readGroup_297 : decode cX5_readGroup 297 = .ok (.iload 10, 2) := by decide +kernel
theorem dX5_readGroup_299 : decode cX5_readGroup 299 = .ok (.invokevirtual 195, 3) := by decide +kernel
theorem dX5_readGroup_302 : decode cX5_readGroup 302 = .ok (.ifCond .ne 10, 3) := by decide +kernel
theorem dX5_readGroup_305 : decode cX5_readGroup 305 = .ok (.aload_n 0, 1) := by decide +kernel
theorem dX5_readGroup_306 : decode cX5_readGroup 306 = .ok (.iconst 5, 1) := by decide +kernel
theorem dX5_readGroup_307 : decode cX5_readGroup 307 = .ok (.iload 9, 2) := by decide +kernel
theorem dX5_readGroup_309 : decode cX5_readGroup 309 = .ok (.invokevirtual 69, 3) := by decide +kernel
theorem dX5_readGroup_312 : decode cX5_readGroup 312 = .ok (.return_, 1) := by decide +kernel
theorem dX5_takeBeginning_0 : decode cX5_takeBeginning 0 = .ok (.aload_n 2, 1) := by decide +kernel
theorem dX5_takeBeginning_1 : decode cX5_takeBeginning 1 = .ok (.invokevirtual 199, 3) := by decide +kernel
theorem dX5_takeBeginning_4 : decode cX5_takeBeginning 4 = .ok (.ifCond .eq 12, 3) := by decide +kernel
theorem dX5_takeBeginning_7 : decode cX5_takeBeginning 7 = .ok (.aload_n 0, 1) := by decide +kernel
theorem dX5_takeBeginning_8 : decode cX5_takeBeginning 8 = .ok (.iconst 4, 1) := by decide +kernel
theorem dX5_takeBeginning_9 : decode cX5_takeBeginning 9 = .ok (.aload_n 0, 1) := by decide +kernel
theorem dX5_takeBeginning_10 : decode cX5_takeBeginning 10 = .ok (.getfield 66, 3) := by decide +kernel
theorem dX5_takeBeginning_13 : decode cX5_takeBeginning 13 = .ok (.invokevirtual 69, 3) := by decide +kernel
theorem dX5_takeBeginning_16 : decode cX5_takeBeginning 16 = .ok (.aload_n 0, 1) := by decide +kernel
theorem dX5_takeBeginning_17 : decode cX5_takeBeginning 17 = .ok (.aload_n 1, 1) := by decide +kernel
theorem dX5_takeBeginning_18 : decode cX5_takeBeginning 18 = .ok (.invokevirtual 76, 3) := by decide +kernel
theorem dX5_takeBeginning_21 : decode cX5_takeBeginning 21 = .ok (.aload_n 0, 1) := by decide +kernel
theorem dX5_takeBeginning_22 : decode cX5_takeBeginning 22 = .ok (.getfield 66, 3) := by decide +kernel
theorem dX5_takeBeginning_25 : decode cX5_takeBeginning 25 = .ok (.istore_n 3, 1) := by decide +kernel
theorem dX5_takeBeginning_26 : decode cX5_takeBeginning 26 = .ok (.aload_n 0, 1) := by decide +kernel
theorem dX5_takeBeginning_27 : decode cX5_takeBeginning 27 = .ok (.invokevirtual 174, 3) := by decide +kernel
theorem dX5_takeBeginning_30 : decode cX5_takeBeginning 30 = .ok (.istore 4, 2) := by decide +kernel
theorem dX5_takeBeginning_32 : decode cX5_takeBeginning 32 = .ok (.aload_n 2, 1) := by decide +kernel
theorem dX5_takeBeginning_33 : decode cX5_takeBeginning 33 = .ok (.iload 4, 2) := by decide +kernel
theorem dX5_takeBeginning_35 : decode cX5_takeBeginning 35 = .ok (.invokevirtual 177, 3) := by decide +kernel
theorem dX5_takeBeginning_38 : decode cX5_takeBeginning 38 = .ok (.iconst (-1), 1) := by decide +kernel
theorem dX5_takeBeginning_39 : decode cX5_takeBeginning 39 = .ok (.if_icmp .eq 9, 3) := by decide +kernel
theorem dX5_takeBeginning_42 : decode cX5_takeBeginning 42 = .ok (.aload_n 0, 1) := by decide +kernel
theorem dX5_takeBeginning_43 : decode cX5_takeBeginning 43 = .ok (.iconst 3, 1) := by decide +kernel
theorem dX5_takeBeginning_44 : decode cX5_takeBeginning 44 = .ok (.iload_n 3, 1) := by decide +kernel
theorem dX5_takeBeginning_45 : decode cX5_takeBeginning 45 = .ok (.invokevirtual 69, 3) := by decide +kernel
theorem dX5_takeBeginning_48 : decode cX5_takeBeginning 48 = .ok (.iload 4, 2) := by decide +kernel
theorem dX5_takeBeginning_50 : decode cX5_takeBeginning 50 = .ok (.ireturn, 1) := by decide +kernel
theorem dX5_takeName_0 : decode cX5_takeName 0 = .ok (.aload_n 0, 1) := by decide +kernel
theorem dX5_takeName_1 : decode cX5_takeName 1 = .ok (.getfield 38, 3) := by decide +kernel
theorem dX5_takeName_4 : decode cX5_takeName 4 = .ok (.iconst 1, 1) := by decide +kernel
theorem dX5_takeName_5 : decode cX5_takeName 5 = .ok (.if_icmp .ne 21, 3) := by decide +kernel
theorem dX5_takeName_8 : decode cX5_takeName 8 = .ok (.aload_n 0, 1) := by decide +kernel
theorem dX5_takeName_9 : decode cX5_takeName 9 = .ok (.getfield 18, 3) := by decide +kernel
theorem dX5_takeName_12 : decode cX5_takeName 12 = .ok (.aload_n 0, 1) := by decide +kernel
theorem dX5_takeName_13 : decode cX5_takeName 13 = .ok (.getfield 66, 3) := by decide +kernel
theorem dX5_takeName_16 : decode cX5_takeName 16 = .ok (.aload_n 0, 1) := by decide +kernel
theorem dX5_takeName_17 : decode cX5_takeName 17 = .ok (.getfield 29, 3) := by decide +kernel
theorem dX5_takeName_20 : decode cX5_takeName 20 = .ok (.invokevirtual 203, 3) := by decide +kernel
theorem dX5_takeName_23 : decode cX5_takeName 23 = .ok (.goto 4, 3) := by decide +kernel
theorem dX5_takeName_26 : decode cX5_takeName 26 = .ok (.iconst 0, 1) := by decide +kernel
theorem dX5_takeName_27 : decode cX5_takeName 27 = .ok (.istore_n 1, 1) := by decide +kernel
theorem dX5_takeName_28 : decode cX5_takeName 28 = .ok (.iload_n 1, 1) := by decide +kernel
theorem dX5_takeName_29 : decode cX5_takeName 29 = .ok (.ifCond .eq 10, 3) := by decide +kernel
theorem dX5_takeName_32 : decode cX5_takeName 32 = .ok (.aload_n 0, 1) := by decide +kernel
theorem dX5_takeName_33 : decode cX5_takeName 33 = .ok (.invokevirtual 208, 3) := by decide +kernel
theorem dX5_takeName_36 : decode cX5_takeName 36 = .ok (.ifCond .eq 12, 3) := by decide +kernel
theorem dX5_takeName_39 : decode cX5_takeName 39 = .ok (.aload_n 0, 1) := by decide +kernel
theorem dX5_takeName_40 : decode cX5_takeName 40 = .ok (.iconst 1, 1) := by decide +kernel
theorem dX5_takeName_41 : decode cX5_takeName 41 = .ok (.aload_n 0, 1) := by decide +kernel
theorem dX5_takeName_42 : decode cX5_takeName 42 = .ok (.getfield 66, 3) := by decide +kernel
theorem dX5_takeName_45 : decode cX5_takeName 45 = .ok (.invokevirtual 69, 3) := by decide +kernel
theorem dX5_takeName_48 : decode cX5_takeName 48 = .ok (.aload_n 0, 1) := by decide +kernel
theorem dX5_takeName_49 : decode cX5_takeName 49 = .ok (.invokevirtual 32, 3) := by decide +kernel
theorem dX5_takeName_52 : decode cX5_takeName 52 = .ok (.iload_n 1, 1) := by decide +kernel
theorem dX5_takeName_53 : decode cX5_takeName 53 = .ok (.ireturn, 1) := by decide +kernel
theorem dX5_takeNumber_0 : decode cX5_takeNumber 0 = .ok (.aload_n 0, 1) := by decide +kernel
theorem dX5_takeNumber_1 : decode cX5_takeNumber 1 = .ok (.getfield 38, 3) := by decide +kernel
theorem dX5_takeNumber_4 : decode cX5_takeNumber 4 = .ok (.iconst 2, 1) := by decide +kernel
theorem dX5_takeNumber_5 : decode cX5_takeNumber 5 = .ok (.if_icmp .eq 15, 3) := by decide +kernel
theorem dX5_takeNumber_8 : decode cX5_takeNumber 8 = .ok (.aload_n 0, 1) := by decide +kernel
theorem dX5_takeNumber_9 : decode cX5_takeNumber 9 = .ok (.iconst 1, 1) := by decide +kernel
theorem dX5_takeNumber_10 : decode cX5_takeNumber 10 = .ok (.aload_n 0, 1) := by decide +kernel
theorem dX5_takeNumber_11 : decode cX5_takeNumber 11 = .ok (.getfield 66, 3) := by decide +kernel
theorem dX5_takeNumber_14 : decode cX5_takeNumber 14 = .ok (.invokevirtual 69, 3) := by decide +kernel
theorem dX5_takeNumber_17 : decode cX5_takeNumber 17 = .ok (.goto 28, 3) := by decide +kernel
theorem dX5_takeNumber_20 : decode cX5_takeNumber 20 = .ok (.aload_n 0, 1) := by decide +kernel
theorem dX5_takeNumber_21 : decode cX5_takeNumber 21 = .ok (.getfield 211, 3) := by decide +kernel
theorem dX5_takeNumber_24 : decode cX5_takeNumber 24 = .ok (.iload_n 1, 1) := by decide +kernel
theorem dX5_takeNumber_25 : decode cX5_takeNumber 25 = .ok (.if_icmp .lt 11, 3) := by decide +kernel
theorem dX5_takeNumber_28 : decode cX5_takeNumber 28 = .ok (.aload_n 0, 1) := by decide +kernel
theorem dX5_takeNumber_29 : decode cX5_takeNumber 29 = .ok (.getfield 211, 3) := by decide +kernel
theorem dX5_takeNumber_32 : decode cX5_takeNumber 32 = .ok (.iload_n 2, 1) := by decide +kernel
theorem dX5_takeNumber_33 : decode cX5_takeNumber 33 = .ok (.if_icmp .le 12, 3) := by decide +kernel
theorem dX5_takeNumber_36 : decode cX5_takeNumber 36 = .ok (.aload_n 0, 1) := by decide +kernel
theorem dX5_takeNumber_37 : decode cX5_takeNumber 37 = .ok (.iconst 2, 1) := by decide +kernel
theorem dX5_takeNumber_38 : decode cX5_takeNumber 38 = .ok (.aload_n 0, 1) := by decide +kernel
theorem dX5_takeNumber_39 : decode cX5_takeNumber 39 = .ok (.getfield 66, 3) := by decide +kernel
theorem dX5_takeNumber_42 : decode cX5_takeNumber 42 = .ok (.invokevirtual 69, 3) := by decide +kernel
theorem dX5_takeNumber_45 : decode cX5_takeNumber 45 = .ok (.aload_n 0, 1) := by decide +kernel
theorem dX5_takeNumber_46 : decode cX5_takeNumber 46 = .ok (.getfield 211, 3) := by decide +kernel
theorem dX5_takeNumber_49 : decode cX5_takeNumber 49 = .ok (.istore_n 3, 1) := by decide +kernel
theorem dX5_takeNumber_50 : decode cX5_takeNumber 50 = .ok (.aload_n 0, 1) := by decide +kernel
theorem dX5_takeNumber_51 : decode cX5_takeNumber 51 = .ok (.invokevirtual 32, 3) := by decide +kernel
theorem dX5_takeNumber_54 : decode cX5_takeNumber 54 = .ok (.iload_n 3, 1) := by decide +kernel
theorem dX5_takeNumber_55 : decode cX5_takeNumber 55 = .ok (.ireturn, 1) := by decide +kernel
theorem dX5_take_0 : decode cX5_take 0 = .ok (.aload_n 0, 1) := by decide +kernel
theorem dX5_take_1 : decode cX5_take 1 = .ok (.aload_n 1, 1) := by decide +kernel
theorem dX5_take_2 : decode cX5_take 2 = .ok (.invokevirtual 47, 3) := by decide +kernel
theorem dX5_take_5 : decode cX5_take 5 = .ok (.ifCond .ne 12, 3) := by decide +kernel
theorem dX5_take_8 : decode cX5_take 8 = .ok (.aload_n 0, 1) := by decide +kernel
theorem dX5_take_9 : decode cX5_take 9 = .ok (.iconst 1, 1) := by decide +kernel
theorem dX5_take_10 : decode cX5_take 10 = .ok (.aload_n 0, 1) := by decide +kernel
theorem dX5_take_11 : decode cX5_take 11 = .ok (.getfield 66, 3) := by decide +kernel
theorem dX5_take_14 : decode cX5_take 14 = .ok (.invokevirtual 69, 3) := by decide +kernel
theorem dX5_take_17 : decode cX5_take 17 = .ok (.aload_n 0, 1) := by decide +kernel
theorem dX5_take_18 : decode cX5_take 18 = .ok (.invokevirtual 32, 3) := by decide +kernel
theorem dX5_take_21 : decode cX5_take 21 = .ok (.return_, 1) := by decide +kernel
theorem dX5_takeEnd_0 : decode cX5_takeEnd 0 = .ok (.aload_n 0, 1) := by decide +kernel
theorem dX5_takeEnd_1 : decode cX5_takeEnd 1 = .ok (.getfield 38, 3) := by decide +kernel
theorem dX5_takeEnd_4 : decode cX5_takeEnd 4 = .ok (.iconst 3, 1) := by decide +kernel
theorem dX5_takeEnd_5 : decode cX5_takeEnd 5 = .ok (.if_icmp .ne 19, 3) := by decide +kernel
theorem dX5_takeEnd_8 : decode cX5_takeEnd 8 = .ok (.aload_n 0, 1) := by decide +kernel
theorem dX5_takeEnd_9 : decode cX5_takeEnd 9 = .ok (.getfield 18, 3) := by decide +kernel
theorem dX5_takeEnd_12 : decode cX5_takeEnd 12 = .ok (.aload_n 0, 1) := by decide +kernel
theorem dX5_takeEnd_13 : decode cX5_takeEnd 13 = .ok (.getfield 66, 3) := by decide +kernel
theorem dX5_takeEnd_16 : decode cX5_takeEnd 16 = .ok (.invokevirtual 214, 3) := by decide +kernel
theorem dX5_takeEnd_19 : decode cX5_takeEnd 19 = .ok (.bipush 59, 2) := by decide +kernel
theorem dX5_takeEnd_21 : decode cX5_takeEnd 21 = .ok (.if_icmp .eq 12, 3) := by decide +kernel
theorem dX5_takeEnd_24 : decode cX5_takeEnd 24 = .ok (.aload_n 0, 1) := by decide +kernel
theorem dX5_takeEnd_25 : decode cX5_takeEnd 25 = .ok (.iconst 1, 1) := by decide +kernel
theorem dX5_takeEnd_26 : decode cX5_takeEnd 26 = .ok (.aload_n 0, 1) := by decide +kernel
theorem dX5_takeEnd_27 : decode cX5_takeEnd 27 = .ok (.getfield 66, 3) := by decide +kernel
theorem dX5_takeEnd_30 : decode cX5_takeEnd 30 = .ok (.invokevirtual 69, 3) := by decide +kernel
theorem dX5_takeEnd_33 : decode cX5_takeEnd 33 = .ok (.aload_n 0, 1) := by decide +kernel
theorem dX5_takeEnd_34 : decode cX5_takeEnd 34 = .ok (.invokevirtual 32, 3) := by decide +kernel
theorem dX5_takeEnd_37 : decode cX5_takeEnd 37 = .ok (.return_, 1) := by decide +kernel
theorem dX5_isAt_0 : decode cX5_isAt 0 = .ok (.aload_n 0, 1) := by decide +kernel
theorem dX5_isAt_1 : decode cX5_isAt 1 = .ok (.getfield 38, 3) := by decide +kernel
theorem dX5_isAt_4 : decode cX5_isAt 4 = .ok (.iconst 1, 1) := by decide +kernel
theorem dX5_isAt_5 : decode cX5_isAt 5 = .ok (.if_icmp .ne 29, 3) := by decide +kernel
theorem dX5_isAt_8 : decode cX5_isAt 8 = .ok (.aload_n 0, 1) := by decide +kernel
theorem dX5_isAt_9 : decode cX5_isAt 9 = .ok (.getfield 18, 3) := by decide +kernel
theorem dX5_isAt_12 : decode cX5_isAt 12 = .ok (.aload_n 1, 1) := by decide +kernel
theorem dX5_isAt_13 : decode cX5_isAt 13 = .ok (.getfield 217, 3) := by decide +kernel
theorem dX5_isAt_16 : decode cX5_isAt 16 = .ok (.aload_n 0, 1) := by decide +kernel
theorem dX5_isAt_17 : decode cX5_isAt 17 = .ok (.getfield 66, 3) := by decide +kernel
theorem dX5_isAt_20 : decode cX5_isAt 20 = .ok (.aload_n 0, 1) := by decide +kernel
theorem dX5_isAt_21 : decode cX5_isAt 21 = .ok (.getfield 29, 3) := by decide +kernel
theorem dX5_isAt_24 : decode cX5_isAt 24 = .ok (.invokevirtual 220, 3) := by decide +kernel
theorem dX5_isAt_27 : decode cX5_isAt 27 = .ok (.ifCond .eq 7, 3) := by decide +kernel
theorem dX5_isAt_30 : decode cX5_isAt 30 = .ok (.iconst 1, 1) := by decide +kernel
theorem dX5_isAt_31 : decode cX5_isAt 31 = .ok (.goto 4, 3) := by decide +kernel
theorem dX5_isAt_34 : decode cX5_isAt 34 = .ok (.iconst 0, 1) := by decide +kernel
theorem dX5_isAt_35 : decode cX5_isAt 35 = .ok (.ireturn, 1) := by decide +kernel
theorem dX5_isKeyword_0 : decode cX5_isKeyword 0 = .ok (.iconst 0, 1) := by decide +kernel
theorem dX5_isKeyword_1 : decode cX5_isKeyword 1 = .ok (.istore_n 1, 1) := by decide +kernel
theorem dX5_isKeyword_2 : decode cX5_isKeyword 2 = .ok (.iload_n 1, 1) := by decide +kernel
theorem dX5_isKeyword_3 : decode cX5_isKeyword 3 = .ok (.getstatic 224, 3) := by decide +kernel
theorem dX5_isKeyword_6 : decode cX5_isKeyword 6 = .ok (.arraylength, 1) := by decide +kernel
theorem dX5_isKeyword_7 : decode cX5_isKeyword 7 = .ok (.if_icmp .ge 37, 3) := by decide +kernel
theorem dX5_isKeyword_10 : decode cX5_isKeyword 10 = .ok (.aload_n 0, 1) := by decide +kernel
theorem dX5_isKeyword_11 : decode cX5_isKeyword 11 = .ok (.getfield 18, 3) := by decide +kernel
theorem dX5_isKeyword_14 : decode cX5_isKeyword 14 = .ok (.getstatic 224, 3) := by decide +kernel
theorem dX5_isKeyword_17 : decode cX5_isKeyword 17 = .ok (.iload_n 1, 1) := by decide +kernel
theorem dX5_isKeyword_18 : decode cX5_isKeyword 18 = .ok (.aaload, 1) := by decide +kernel
theorem dX5_isKeyword_19 : decode cX5_isKeyword 19 = .ok (.getfield 217, 3) := by decide +kernel
theorem dX5_isKeyword_22 : decode cX5_isKeyword 22 = .ok (.aload_n 0, 1) := by decide +kernel
theorem dX5_isKeyword_23 : decode cX5_isKeyword 23 = .ok (.getfield 66, 3) := by decide +kernel
theorem dX5_isKeyword_26 : decode cX5_isKeyword 26 = .ok (.aload_n 0, 1) := by decide +kernel
theorem dX5_isKeyword_27 : decode cX5_isKeyword 27 = .ok (.getfield 29, 3) := by decide +kernel
theorem dX5_isKeyword_30 : decode cX5_isKeyword 30 = .ok (.invokevirtual 220, 3) := by decide +kernel
theorem dX5_isKeyword_33 : decode cX5_isKeyword 33 = .ok (.ifCond .eq 5, 3) := by decide +kernel
theorem dX5_isKeyword_36 : decode cX5_isKeyword 36 = .ok (.iconst 1, 1) := by decide +kernel
theorem dX5_isKeyword_37 : decode cX5_isKeyword 37 = .ok (.ireturn, 1) := by decide +kernel
theorem dX5_isKeyword_38 : decode cX5_isKeyword 38 = .ok (.iinc 1 1, 3) := by decide +kernel
theorem dX5_isKeyword_41 : decode cX5_isKeyword 41 = .ok (.goto (-39), 3) := by decide +kernel
theorem dX5_isKeyword_44 : decode cX5_isKeyword 44 = .ok (.iconst 0, 1) := by decide +kernel
theorem dX5_isKeyword_45 : decode cX5_isKeyword 45 = .ok (.ireturn, 1) := by decide +kernel
theorem dX5_refuse_0 : decode cX5_refuse 0 = .ok (.aload_n 0, 1) := by decide +kernel
theorem dX5_refuse_1 : decode cX5_refuse 1 = .ok (.getfield 25, 3) := by decide +kernel
theorem dX5_refuse_4 : decode cX5_refuse 4 = .ok (.ifCond .ne 13, 3) := by decide +kernel
theorem dX5_refuse_7 : decode cX5_refuse 7 = .ok (.aload_n 0, 1) := by decide +kernel
theorem dX5_refuse_8 : decode cX5_refuse 8 = .ok (.iload_n 1, 1) := by decide +kernel
theorem dX5_refuse_9 : decode cX5_refuse 9 = .ok (.putfield 25, 3) := by decide +kernel
theorem dX5_refuse_12 : decode cX5_refuse 12 = .ok (.aload_n 0, 1) := by decide +kernel
theorem dX5_refuse_13 : decode cX5_refuse 13 = .ok (.iload_n 2, 1) := by decide +kernel
theorem dX5_refuse_14 : decode cX5_refuse 14 = .ok (.putfield 228, 3) := by decide +kernel
theorem dX5_refuse_17 : decode cX5_refuse 17 = .ok (.return_, 1) := by decide +kernel
theorem dX5_nextToken_0 : decode cX5_nextToken 0 = .ok (.aload_n 0, 1) := by decide +kernel
theorem dX5_nextToken_1 : decode cX5_nextToken 1 = .ok (.getfield 25, 3) := by decide +kernel
theorem dX5_nextToken_4 : decode cX5_nextToken 4 = .ok (.ifCond .eq 4, 3) := by decide +kernel
theorem dX5_nextToken_7 : decode cX5_nextToken 7 = .ok (.return_, 1) := by decide +kernel
theorem dX5_nextToken_8 : decode cX5_nextToken 8 = .ok (.aload_n 0, 1) := by decide +kernel
theorem dX5_nextToken_9 : decode cX5_nextToken 9 = .ok (.aload_n 0, 1) := by decide +kernel
theorem dX5_nextToken_10 : decode cX5_nextToken 10 = .ok (.getfield 29, 3) := by decide +kernel
theorem dX5_nextToken_13 : decode cX5_nextToken 13 = .ok (.putfield 66, 3) := by decide +kernel
theorem dX5_nextToken_16 : decode cX5_nextToken 16 = .ok (.aload_n 0, 1) := by decide +kernel
theorem dX5_nextToken_17 : decode cX5_nextToken 17 = .ok (.getfield 66, 3) := by decide +kernel
theorem dX5_nextToken_20 : decode cX5_nextToken 20 = .ok (.aload_n 0, 1) := by decide +kernel
theorem dX5_nextToken_21 : decode cX5_nextToken 21 = .ok (.getfield 18, 3) := by decide +kernel
theorem dX5_nextToken_24 : decode cX5_nextToken 24 = .ok (.getfield 231, 3) := by decide +kernel
theorem dX5_nextToken_27 : decode cX5_nextToken 27 = .ok (.if_icmp .ge 33, 3) := by decide +kernel
theorem dX5_nextToken_30 : decode cX5_nextToken 30 = .ok (.aload_n 0, 1) := by decide +kernel
theorem dX5_nextToken_31 : decode cX5_nextToken 31 = .ok (.getfield 18, 3) := by decide +kernel
theorem dX5_nextToken_34 : decode cX5_nextToken 34 = .ok (.aload_n 0, 1) := by decide +kernel
theorem dX5_nextToken_35 : decode cX5_nextToken 35 = .ok (.getfield 66, 3) := by decide +kernel
theorem dX5_nextToken_38 : decode cX5_nextToken 38 = .ok (.invokevirtual 214, 3) := by decide +kernel
theorem dX5_nextToken_41 : decode cX5_nextToken 41 = .ok (.invokestatic 234, 3) := by decide +kernel
theorem dX5_nextToken_44 : decode cX5_nextToken 44 = .ok (.ifCond .eq 16, 3) := by decide +kernel
theorem dX5_nextToken_47 : decode cX5_nextToken 47 = .ok (.aload_n 0, 1) := by decide +kernel
theorem dX5_nextToken_48 : decode cX5_nextToken 48 = .ok (.dup, 1) := by decide +kernel
theorem dX5_nextToken_49 : decode cX5_nextToken 49 = .ok (.getfield 66, 3) := by decide +kernel
theorem dX5_nextToken_52 : decode cX5_nextToken 52 = .ok (.iconst 1, 1) := by decide +kernel
theorem dX5_nextToken_53 : decode cX5_nextToken 53 = .ok (.iadd, 1) := by decide +kernel
theorem dX5_nextToken_54 : decode cX5_nextToken 54 = .ok (.putfield 66, 3) := by decide +kernel
theorem dX5_nextToken_57 : decode cX5_nextToken 57 = .ok (.goto (-41), 3) := by decide +kernel
theorem dX5_nextToken_60 : decode cX5_nextToken 60 = .ok (.aload_n 0, 1) := by decide +kernel
theorem dX5_nextToken_61 : decode cX5_nextToken 61 = .ok (.aload_n 0, 1) := by decide +kernel
theorem dX5_nextToken_62 : decode cX5_nextToken 62 = .ok (.getfield 66, 3) := by decide +kernel
theorem dX5_nextToken_65 : decode cX5_nextToken 65 = .ok (.putfield 29, 3) := by decide +kernel
theorem dX5_nextToken_68 : decode cX5_nextToken 68 = .ok (.aload_n 0, 1) := by decide +kernel
theorem dX5_nextToken_69 : decode cX5_nextToken 69 = .ok (.iconst 0, 1) := by decide +kernel
theorem dX5_nextToken_70 : decode cX5_nextToken 70 = .ok (.putfield 211, 3) := by decide +kernel
theorem dX5_nextToken_73 : decode cX5_nextToken 73 = .ok (.aload_n 0, 1) := by decide +kernel
theorem dX5_nextToken_74 : decode cX5_nextToken 74 = .ok (.getfield 66, 3) := by decide +kernel
theorem dX5_nextToken_77 : decode cX5_nextToken 77 = .ok (.aload_n 0, 1) := by decide +kernel
theorem dX5_nextToken_78 : decode cX5_nextToken 78 = .ok (.getfield 18, 3) := by decide +kernel
theorem dX5_nextToken_81 : decode cX5_nextToken 81 = .ok (.getfield 231, 3) := by decide +kernel
theorem dX5_nextToken_84 : decode cX5_nextToken 84 = .ok (.if_icmp .lt 11, 3) := by decide +kernel
theorem dX5_nextToken_87 : decode cX5_nextToken 87 = .ok (.aload_n 0, 1) := by decide +kernel
theorem dX5_nextToken_88 : decode cX5_nextToken 88 = .ok (.iconst 0, 1) := by decide +kernel
theorem dX5_nextToken_89 : decode cX5_nextToken 89 = .ok (.putfield 38, 3) := by decide +kernel
theorem dX5_nextToken_92 : decode cX5_nextToken 92 = .ok (.goto 76, 3) := by decide +kernel
theorem dX5_nextToken_95 : decode cX5_nextToken 95 = .ok (.aload_n 0, 1) := by decide +kernel
theorem dX5_nextToken_96 : decode cX5_nextToken 96 = .ok (.getfield 18, 3) := by decide +kernel
theorem dX5_nextToken_99 : decode cX5_nextToken 99 = .ok (.aload_n 0, 1) := by decide +kernel
theorem dX5_nextToken_100 : decode cX5_nextToken 100 = .ok (.getfield 66, 3) := by decide +kernel
theorem dX5_nextToken_103 : decode cX5_nextToken 103 = .ok (.invokevirtual 214, 3) := by decide +kernel
theorem dX5_nextToken_106 : decode cX5_nextToken 106 = .ok (.invokestatic 237, 3) := by decide +kernel
theorem dX5_nextToken_109 : decode cX5_nextToken 109 = .ok (.ifCond .eq 15, 3) := by decide +kernel
theorem dX5_nextToken_112 : decode cX5_nextToken 112 = .ok (.aload_n 0, 1) := by decide +kernel
theorem dX5_nextToken_113 : decode cX5_nextToken 113 = .ok (.iconst 1, 1) := by decide +kernel
theorem dX5_nextToken_114 : decode cX5_nextToken 114 = .ok (.putfield 38, 3) := by decide +kernel
theorem dX5_nextToken_117 : decode cX5_nextToken 117 = .ok (.aload_n 0, 1) := by decide +kernel
theorem dX5_nextToken_118 : decode cX5_nextToken 118 = .ok (.invokevirtual 240, 3) := by decide +kernel
theorem dX5_nextToken_121 : decode cX5_nextToken 121 = .ok (.goto 47, 3) := by decide +kernel
theorem dX5_nextToken_124 : decode cX5_nextToken 124 = .ok (.aload_n 0, 1) := by decide +kernel
theorem dX5_nextToken_125 : decode cX5_nextToken 125 = .ok (.getfield 18, 3) := by decide +kernel
theorem dX5_nextToken_128 : decode cX5_nextToken 128 = .ok (.aload_n 0, 1) := by decide +kernel
theorem dX5_nextToken_129 : decode cX5_nextToken 129 = .ok (.getfield 66, 3) := by decide +kernel
theorem dX5_nextToken_132 : decode cX5_nextToken 132 = .ok (.invokevirtual 214, 3) := by decide +kernel
theorem dX5_nextToken_135 : decode cX5_nextToken 135 = .ok (.invokestatic 243, 3) := by decide +kernel
theorem dX5_nextToken_138 : decode cX5_nextToken 138 = .ok (.ifCond .eq 15, 3) := by decide +kernel
theorem dX5_nextToken_141 : decode cX5_nextToken 141 = .ok (.aload_n 0, 1) := by decide +kernel
theorem dX5_nextToken_142 : decode cX5_nextToken 142 = .ok (.iconst 2, 1) := by decide +kernel
theorem dX5_nextToken_143 : decode cX5_nextToken 143 = .ok (.putfield 38, 3) := by decide +kernel
theorem dX5_nextToken_146 : decode cX5_nextToken 146 = .ok (.aload_n 0, 1) := by decide +kernel
theorem dX5_nextToken_147 : decode cX5_nextToken 147 = .ok (.invokevirtual 246, 3) := by decide +kernel
theorem dX5_nextToken_150 : decode cX5_nextToken 150 = .ok (.goto 18, 3) := by decide +kernel
theorem dX5_nextToken_153 : decode cX5_nextToken 153 = .ok (.aload_n 0, 1) := by decide +kernel
theorem dX5_nextToken_154 : decode cX5_nextToken 154 = .ok (.iconst 3, 1) := by decide +kernel
theorem dX5_nextToken_155 : decode cX5_nextToken 155 = .ok (.putfield 38, 3) := by decide +kernel
theorem dX5_nextToken_158 : decode cX5_nextToken 158 = .ok (.aload_n 0, 1) := by decide +kernel
theorem dX5_nextToken_159 : decode cX5_nextToken 159 = .ok (.aload_n 0, 1) := by decide +kernel
theorem dX5_nextToken_160 : decode cX5_nextToken 160 = .ok (.getfield 66, 3) := by decide +kernel
theorem dX5_nextToken_163 : decode cX5_nextToken 163 = .ok (.iconst 1, 1) := by decide +kernel
theorem dX5_nextToken_164 : decode cX5_nextToken 164 = .ok (.iadd, 1) := by decide +kernel
theorem dX5_nextToken_165 : decode cX5_nextToken 165 = .ok (.putfield 29, 3) := by decide +kernel
theorem dX5_nextToken_168 : decode cX5_nextToken 168 = .ok (.return_, 1) := by decide +kernel
theorem dX5_skipLetters_0 : decode cX5_skipLetters 0 = .ok (.aload_n 0, 1) := by decide +kernel
theorem dX5_skipLetters_1 : decode cX5_skipLetters 1 = .ok (.getfield 29, 3) := by decide +kernel
theorem dX5_skipLetters_4 : decode cX5_skipLetters 4 = .ok (.aload_n 0, 1) := by decide +kernel
theorem dX5_skipLetters_5 : decode cX5_skipLetters 5 = .ok (.getfield 18, 3) := by decide +kernel
theorem dX5_skipLetters_8 : decode cX5_skipLetters 8 = .ok (.getfield 231, 3) := by decide +kernel
theorem dX5_skipLetters_11 : decode cX5_skipLetters 11 = .ok (.if_icmp .ge 33, 3) := by decide +kernel
theorem dX5_skipLetters_14 : decode cX5_skipLetters 14 = .ok (.aload_n 0, 1) := by decide +kernel
theorem dX5_skipLetters_15 : decode cX5_skipLetters 15 = .ok (.getfield 18, 3) := by decide +kernel
theorem dX5_skipLetters_18 : decode cX5_skipLetters 18 = .ok (.aload_n 0, 1) := by decide +kernel
theorem dX5_skipLetters_19 : decode cX5_skipLetters 19 = .ok (.getfield 29, 3) := by decide +kernel
theorem dX5_skipLetters_22 : decode cX5_skipLetters 22 = .ok (.invokevirtual 214, 3) := by decide +kernel
theorem dX5_skipLetters_25 : decode cX5_skipLetters 25 = .ok (.invokestatic 237, 3) := by decide +kernel
theorem dX5_skipLetters_28 : decode cX5_skipLetters 28 = .ok (.ifCond .eq 16, 3) := by decide +kernel
theorem dX5_skipLetters_31 : decode cX5_skipLetters 31 = .ok (.aload_n 0, 1) := by decide +kernel
theorem dX5_skipLetters_32 : decode cX5_skipLetters 32 = .ok (.dup, 1) := by decide +kernel
theorem dX5_skipLetters_33 : decode cX5_skipLetters 33 = .ok (.getfield 29, 3) := by decide +kernel
theorem dX5_skipLetters_36 : decode cX5_skipLetters 36 = .ok (.iconst 1, 1) := by decide +kernel
theorem dX5_skipLetters_37 : decode cX5_skipLetters 37 = .ok (.iadd, 1) := by decide +kernel
theorem dX5_skipLetters_38 : decode cX5_skipLetters 38 = .ok (.putfield 29, 3) := by decide +kernel
theorem dX5_skipLetters_41 : decode cX5_skipLetters 41 = .ok (.goto (-41), 3) := by decide +kernel
theorem dX5_skipLetters_44 : decode cX5_skipLetters 44 = .ok (.return_, 1) := by decide +kernel
theorem dX5_readDigits_0 : decode cX5_readDigits 0 = .ok (.aload_n 0, 1) := by decide +kernel
theorem dX5_readDigits_1 : decode cX5_readDigits 1 = .ok (.getfield 29, 3) := by decide +kernel
theorem dX5_readDigits_4 : decode cX5_readDigits 4 = .ok (.aload_n 0, 1) := by decide +kernel
theorem dX5_readDigits_5 : decode cX5_readDigits 5 = .ok (.getfield 18, 3) := by decide +kernel
theorem dX5_readDigits_8 : decode cX5_readDigits 8 = .ok (.getfield 231, 3) := by decide +kernel
theorem dX5_readDigits_11 : decode cX5_readDigits 11 = .ok (.if_icmp .ge 64, 3) := by decide +kernel
theorem dX5_readDigits_14 : decode cX5_readDigits 14 = .ok (.aload_n 0, 1) := by decide +kernel
theorem dX5_readDigits_15 : decode cX5_readDigits 15 = .ok (.getfield 18, 3) := by decide +kernel
theorem dX5_readDigits_18 : decode cX5_readDigits 18 = .ok (.aload_n 0, 1) := by decide +kernel
theorem dX5_readDigits_19 : decode cX5_readDigits 19 = .ok (.getfield 29, 3) := by decide +kernel
theorem dX5_readDigits_22 : decode cX5_readDigits 22 = .ok (.invokevirtual 214, 3) := by decide +kernel
theorem dX5_readDigits_25 : decode cX5_readDigits 25 = .ok (.invokestatic 243, 3) := by decide +kernel
theorem dX5_readDigits_28 : decode cX5_readDigits 28 = .ok (.ifCond .eq 47, 3) := by decide +kernel
theorem dX5_readDigits_31 : decode cX5_readDigits 31 = .ok (.aload_n 0, 1) := by decide +kernel
theorem dX5_readDigits_32 : decode cX5_readDigits 32 = .ok (.ldc 249, 2) := by decide +kernel
theorem dX5_readDigits_34 : decode cX5_readDigits 34 = .ok (.aload_n 0, 1) := by decide +kernel
theorem dX5_readDigits_35 : decode cX5_readDigits 35 = .ok (.getfield 211, 3) := by decide +kernel
theorem dX5_readDigits_38 : decode cX5_readDigits 38 = .ok (.bipush 10, 2) := by decide +kernel
theorem dX5_readDigits_40 : decode cX5_readDigits 40 = .ok (.imul, 1) := by decide +kernel
theorem dX5_readDigits_41 : decode cX5_readDigits 41 = .ok (.aload_n 0, 1) := by decide +kernel
theorem dX5_readDigits_42 : decode cX5_readDigits 42 = .ok (.getfield 18, 3) := by decide +kernel
theorem dX5_readDigits_45 : decode cX5_readDigits 45 = .ok (.aload_n 0, 1) := by decide +kernel
theorem dX5_readDigits_46 : decode cX5_readDigits 46 = .ok (.getfield 29, 3) := by decide +kernel
theorem dX5_readDigits_49 : decode cX5_readDigits 49 = .ok (.invokevirtual 214, 3) := by decide +kernel
theorem dX5_readDigits_52 : decode cX5_readDigits 52 = .ok (.iadd, 1) := by decide +kernel
theorem dX5_readDigits_53 : decode cX5_readDigits 53 = .ok (.bipush 48, 2) := by decide +kernel
theorem dX5_readDigits_55 : decode cX5_readDigits 55 = .ok (.isub, 1) := by decide +kernel
theorem dX5_readDigits_56 : decode cX5_readDigits 56 = .ok (.invokestatic 250, 3) := by decide +kernel
theorem dX5_readDigits_59 : decode cX5_readDigits 59 = .ok (.putfield 211, 3) := by decide +kernel
theorem dX5_readDigits_62 : decode cX5_readDigits 62 = .ok (.aload_n 0, 1) := by decide +kernel
theorem dX5_readDigits_63 : decode cX5_readDigits 63 = .ok (.dup, 1) := by decide +kernel
theorem dX5_readDigits_64 : decode cX5_readDigits 64 = .ok (.getfield 29, 3) := by decide +kernel
theorem dX5_readDigits_67 : decode cX5_readDigits 67 = .ok (.iconst 1, 1) := by decide +kernel
theorem dX5_readDigits_68 : decode cX5_readDigits 68 = .ok (.iadd, 1) := by decide +kernel
theorem dX5_readDigits_69 : decode cX5_readDigits 69 = .ok (.putfield 29, 3) := by decide +kernel
theorem dX5_readDigits_72 : decode cX5_readDigits 72 = .ok (.goto (-72), 3) := by decide +kernel
theorem dX5_readDigits_75 : decode cX5_readDigits 75 = .ok (.return_, 1) := by decide +kernel
