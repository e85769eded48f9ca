theorem dX10_thrown_0 : decode cX10_thrown 0 = .ok (.aload_n 0, 1) := by decide +kernel
theorem dX10_thrown_1 : decode cX10_thrown 1 = .ok (.getfield 3, 3) := by decide +kernel
theorem dX10_thrown_4 : decode cX10_thrown 4 = .ok (.ireturn, 1) := by decide +kernel
theorem dX10_in_0 : decode cX10_in 0 = .ok (.lload_n 0, 1) := by decide +kernel
theorem dX10_in_1 : decode cX10_in 1 = .ok (.lload_n 2, 1) := by decide +kernel
theorem dX10_in_2 : decode cX10_in 2 = .ok (.lcmp, 1) := by decide +kernel
theorem dX10_in_3 : decode cX10_in 3 = .ok (.ifCond .lt 14, 3) := by decide +kernel
theorem dX10_in_6 : decode cX10_in 6 = .ok (.lload_n 0, 1) := by decide +kernel
theorem dX10_in_7 : decode cX10_in 7 = .ok (.lload 4, 2) := by decide +kernel
theorem dX10_in_9 : decode cX10_in 9 = .ok (.lcmp, 1) := by decide +kernel
theorem dX10_in_10 : decode cX10_in 10 = .ok (.ifCond .gt 7, 3) := by decide +kernel
theorem dX10_in_13 : decode cX10_in 13 = .ok (.iconst 1, 1) := by decide +kernel
theorem dX10_in_14 : decode cX10_in 14 = .ok (.goto 4, 3) := by decide +kernel
theorem dX10_in_17 : decode cX10_in 17 = .ok (.iconst 0, 1) := by decide +kernel
theorem dX10_in_18 : decode cX10_in 18 = .ok (.ireturn, 1) := by decide +kernel
theorem dX10_passes3_0 : decode cX10_passes3 0 = .ok (.aload_n 0, 1) := by decide +kernel
theorem dX10_passes3_1 : decode cX10_passes3 1 = .ok (.iload_n 1, 1) := by decide +kernel
theorem dX10_passes3_2 : decode cX10_passes3 2 = .ok (.ifCond .ne 7, 3) := by decide +kernel
theorem dX10_passes3_5 : decode cX10_passes3 5 = .ok (.iconst 1, 1) := by decide +kernel
theorem dX10_passes3_6 : decode cX10_passes3 6 = .ok (.goto 20, 3) := by decide +kernel
theorem dX10_passes3_9 : decode cX10_passes3 9 = .ok (.iload_n 2, 1) := by decide +kernel
theorem dX10_passes3_10 : decode cX10_passes3 10 = .ok (.ifCond .ne 7, 3) := by decide +kernel
theorem dX10_passes3_13 : decode cX10_passes3 13 = .ok (.iconst 2, 1) := by decide +kernel
theorem dX10_passes3_14 : decode cX10_passes3 14 = .ok (.goto 12, 3) := by decide +kernel
theorem dX10_passes3_17 : decode cX10_passes3 17 = .ok (.iload_n 3, 1) := by decide +kernel
theorem dX10_passes3_18 : decode cX10_passes3 18 = .ok (.ifCond .ne 7, 3) := by decide +kernel
theorem dX10_passes3_21 : decode cX10_passes3 21 = .ok (.iconst 3, 1) := by decide +kernel
theorem dX10_passes3_22 : decode cX10_passes3 22 = .ok (.goto 4, 3) := by decide +kernel
theorem dX10_passes3_25 : decode cX10_passes3 25 = .ok (.iconst 0, 1) := by decide +kernel
theorem dX10_passes3_26 : decode cX10_passes3 26 = .ok (.putfield 3, 3) := by decide +kernel
theorem dX10_passes3_29 : decode cX10_passes3 29 = .ok (.aload_n 0, 1) := by decide +kernel
theorem dX10_passes3_30 : decode cX10_passes3 30 = .ok (.getfield 3, 3) := by decide +kernel
theorem dX10_passes3_33 : decode cX10_passes3 33 = .ok (.ifCond .ne 7, 3) := by decide +kernel
theorem dX10_passes3_36 : decode cX10_passes3 36 = .ok (.iconst 1, 1) := by decide +kernel
theorem dX10_passes3_37 : decode cX10_passes3 37 = .ok (.goto 4, 3) := by decide +kernel
theorem dX10_passes3_40 : decode cX10_passes3 40 = .ok (.iconst 0, 1) := by decide +kernel
theorem dX10_passes3_41 : decode cX10_passes3 41 = .ok (.ireturn, 1) := by decide +kernel
theorem dX10_passes2_0 : decode cX10_passes2 0 = .ok (.aload_n 0, 1) := by decide +kernel
theorem dX10_passes2_1 : decode cX10_passes2 1 = .ok (.iload_n 1, 1) := by decide +kernel
theorem dX10_passes2_2 : decode cX10_passes2 2 = .ok (.iload_n 2, 1) := by decide +kernel
theorem dX10_passes2_3 : decode cX10_passes2 3 = .ok (.iconst 1, 1) := by decide +kernel
theorem dX10_passes2_4 : decode cX10_passes2 4 = .ok (.invokevirtual 7, 3) := by decide +kernel
theorem dX10_passes2_7 : decode cX10_passes2 7 = .ok (.ireturn, 1) := by decide +kernel
theorem dX10_passes_0 : decode cX10_passes 0 = .ok (.aload_n 0, 1) := by decide +kernel
theorem dX10_passes_1 : decode cX10_passes 1 = .ok (.iload_n 1, 1) := by decide +kernel
theorem dX10_passes_2 : decode cX10_passes 2 = .ok (.iconst 1, 1) := by decide +kernel
theorem dX10_passes_3 : decode cX10_passes 3 = .ok (.iconst 1, 1) := by decide +kernel
theorem dX10_passes_4 : decode cX10_passes 4 = .ok (.invokevirtual 7, 3) := by decide +kernel
theorem dX10_passes_7 : decode cX10_passes 7 = .ok (.ireturn, 1) := by decide +kernel
theorem dX10_hasBit_0 : decode cX10_hasBit 0 = .ok (.iload_n 0, 1) := by decide +kernel
theorem dX10_hasBit_1 : decode cX10_hasBit 1 = .ok (.iload_n 1, 1) := by decide +kernel
theorem dX10_hasBit_2 : decode cX10_hasBit 2 = .ok (.ishr, 1) := by decide +kernel
theorem dX10_hasBit_3 : decode cX10_hasBit 3 = .ok (.iconst 1, 1) := by decide +kernel
theorem dX10_hasBit_4 : decode cX10_hasBit 4 = .ok (.iand, 1) := by decide +kernel
theorem dX10_hasBit_5 : decode cX10_hasBit 5 = .ok (.iconst 1, 1) := by decide +kernel
theorem dX10_hasBit_6 : decode cX10_hasBit 6 = .ok (.if_icmp .ne 7, 3) := by decide +kernel
theorem dX10_hasBit_9 : decode cX10_hasBit 9 = .ok (.iconst 1, 1) := by decide +kernel
theorem dX10_hasBit_10 : decode cX10_hasBit 10 = .ok (.goto 4, 3) := by decide +kernel
theorem dX10_hasBit_13 : decode cX10_hasBit 13 = .ok (.iconst 0, 1) := by decide +kernel
theorem dX10_hasBit_14 : decode cX10_hasBit 14 = .ok (.ireturn, 1) := by decide +kernel
theorem dX10_init_0 : decode cX10_init 0 = .ok (.aload_n 0, 1) := by decide +kernel
theorem dX10_init_1 : decode cX10_init 1 = .ok (.invokespecial 11, 3) := by decide +kernel
theorem dX10_init_4 : decode cX10_init 4 = .ok (.aload_n 0, 1) := by decide +kernel
theorem dX10_init_5 : decode cX10_init 5 = .ok (.sipush 698, 3) := by decide +kernel
theorem dX10_init_8 : decode cX10_init 8 = .ok (.newarray .int, 2) := by decide +kernel
theorem dX10_init_10 : decode cX10_init 10 = .ok (.putfield 17, 3) := by decide +kernel
theorem dX10_init_13 : decode cX10_init 13 = .ok (.aload_n 0, 1) := by decide +kernel
theorem dX10_init_14 : decode cX10_init 14 = .ok (.sipush 698, 3) := by decide +kernel
theorem dX10_init_17 : decode cX10_init 17 = .ok (.newarray .int, 2) := by decide +kernel
theorem dX10_init_19 : decode cX10_init 19 = .ok (.putfield 21, 3) := by decide +kernel
theorem dX10_init_22 : decode cX10_init 22 = .ok (.aload_n 0, 1) := by decide +kernel
theorem dX10_init_23 : decode cX10_init 23 = .ok (.aload_n 0, 1) := by decide +kernel
theorem dX10_init_24 : decode cX10_init 24 = .ok (.getfield 17, 3) := by decide +kernel
theorem dX10_init_27 : decode cX10_init 27 = .ok (.putfield 24, 3) := by decide +kernel
theorem dX10_init_30 : decode cX10_init 30 = .ok (.aload_n 0, 1) := by decide +kernel
theorem dX10_init_31 : decode cX10_init 31 = .ok (.bipush 11, 2) := by decide +kernel
theorem dX10_init_33 : decode cX10_init 33 = .ok (.newarray .long, 2) := by decide +kernel
theorem dX10_init_35 : decode cX10_init 35 = .ok (.putfield 27, 3) := by decide +kernel
theorem dX10_init_38 : decode cX10_init 38 = .ok (.aload_n 0, 1) := by decide +kernel
theorem dX10_init_39 : decode cX10_init 39 = .ok (.bipush 10, 2) := by decide +kernel
theorem dX10_init_41 : decode cX10_init 41 = .ok (.newarray .int, 2) := by decide +kernel
theorem dX10_init_43 : decode cX10_init 43 = .ok (.putfield 31, 3) := by decide +kernel
theorem dX10_init_46 : decode cX10_init 46 = .ok (.aload_n 0, 1) := by decide +kernel
theorem dX10_init_47 : decode cX10_init 47 = .ok (.bipush 10, 2) := by decide +kernel
theorem dX10_init_49 : decode cX10_init 49 = .ok (.newarray .int, 2) := by decide +kernel
theorem dX10_init_51 : decode cX10_init 51 = .ok (.putfield 34, 3) := by decide +kernel
theorem dX10_init_54 : decode cX10_init 54 = .ok (.aload_n 0, 1) := by decide +kernel
theorem dX10_init_55 : decode cX10_init 55 = .ok (.bipush 10, 2) := by decide +kernel
theorem dX10_init_57 : decode cX10_init 57 = .ok (.newarray .int, 2) := by decide +kernel
theorem dX10_init_59 : decode cX10_init 59 = .ok (.putfield 37, 3) := by decide +kernel
theorem dX10_init_62 : decode cX10_init 62 = .ok (.aload_n 0, 1) := by decide +kernel
theorem dX10_init_63 : decode cX10_init 63 = .ok (.bipush 10, 2) := by decide +kernel
theorem dX10_init_65 : decode cX10_init 65 = .ok (.newarray .int, 2) := by decide +kernel
theorem dX10_init_67 : decode cX10_init 67 = .ok (.putfield 40, 3) := by decide +kernel
theorem dX10_init_70 : decode cX10_init 70 = .ok (.aload_n 0, 1) := by decide +kernel
theorem dX10_init_71 : decode cX10_init 71 = .ok (.bipush 10, 2) := by decide +kernel
theorem dX10_init_73 : decode cX10_init 73 = .ok (.newarray .int, 2) := by decide +kernel
theorem dX10_init_75 : decode cX10_init 75 = .ok (.putfield 43, 3) := by decide +kernel
theorem dX10_init_78 : decode cX10_init 78 = .ok (.aload_n 0, 1) := by decide +kernel
theorem dX10_init_79 : decode cX10_init 79 = .ok (.sipush 1400, 3) := by decide +kernel
theorem dX10_init_82 : decode cX10_init 82 = .ok (.newarray .byte, 2) := by decide +kernel
theorem dX10_init_84 : decode cX10_init 84 = .ok (.putfield 46, 3) := by decide +kernel
theorem dX10_init_87 : decode cX10_init 87 = .ok (.aload_n 0, 1) := by decide +kernel
theorem dX10_init_88 : decode cX10_init 88 = .ok (.iconst (-1), 1) := by decide +kernel
theorem dX10_init_89 : decode cX10_init 89 = .ok (.putfield 50, 3) := by decide +kernel
theorem dX10_init_92 : decode cX10_init 92 = .ok (.aload_n 0, 1) := by decide +kernel
theorem dX10_init_93 : decode cX10_init 93 = .ok (.sipush 698, 3) := by decide +kernel
theorem dX10_init_96 : decode cX10_init 96 = .ok (.newarray .int, 2) := by decide +kernel
theorem dX10_init_98 : decode cX10_init 98 = .ok (.putfield 53, 3) := by decide +kernel
theorem dX10_init_101 : decode cX10_init 101 = .ok (.aload_n 0, 1) := by decide +kernel
theorem dX10_init_102 : decode cX10_init 102 = .ok (.sipush 5584, 3) := by decide +kernel
theorem dX10_init_105 : decode cX10_init 105 = .ok (.newarray .int, 2) := by decide +kernel
theorem dX10_init_107 : decode cX10_init 107 = .ok (.putfield 56, 3) := by decide +kernel
theorem dX10_init_110 : decode cX10_init 110 = .ok (.aload_n 0, 1) := by decide +kernel
theorem dX10_init_111 : decode cX10_init 111 = .ok (.sipush 300, 3) := by decide +kernel
theorem dX10_init_114 : decode cX10_init 114 = .ok (.newarray .byte, 2) := by decide +kernel
theorem dX10_init_116 : decode cX10_init 116 = .ok (.putfield 59, 3) := by decide +kernel
theorem dX10_init_119 : decode cX10_init 119 = .ok (.aload_n 0, 1) := by decide +kernel
theorem dX10_init_120 : decode cX10_init 120 = .ok (.getfield 17, 3) := by decide +kernel
theorem dX10_init_123 : decode cX10_init 123 = .ok (.iconst 0, 1) := by decide +kernel
theorem dX10_init_124 : decode cX10_init 124 = .ok (.iconst 1, 1) := by decide +kernel
theorem dX10_init_125 : decode cX10_init 125 = .ok (.iastore, 1) := by decide +kernel
theorem dX10_init_126 : decode cX10_init 126 = .ok (.return_, 1) := by decide +kernel
theorem dX10_nodeValue_0 : decode cX10_nodeValue 0 = .ok (.aload_n 0, 1) := by decide +kernel
theorem dX10_nodeValue_1 : decode cX10_nodeValue 1 = .ok (.getfield 24, 3) := by decide +kernel
theorem dX10_nodeValue_4 : decode cX10_nodeValue 4 = .ok (.bipush 10, 2) := by decide +kernel
theorem dX10_nodeValue_6 : decode cX10_nodeValue 6 = .ok (.bipush 12, 2) := by decide +kernel
theorem dX10_nodeValue_8 : decode cX10_nodeValue 8 = .ok (.iload_n 1, 1) := by decide +kernel
theorem dX10_nodeValue_9 : decode cX10_nodeValue 9 = .ok (.imul, 1) := by decide +kernel
theorem dX10_nodeValue_10 : decode cX10_nodeValue 10 = .ok (.iadd, 1) := by decide +kernel
theorem dX10_nodeValue_11 : decode cX10_nodeValue 11 = .ok (.iload_n 2, 1) := by decide +kernel
theorem dX10_nodeValue_12 : decode cX10_nodeValue 12 = .ok (.iadd, 1) := by decide +kernel
theorem dX10_nodeValue_13 : decode cX10_nodeValue 13 = .ok (.iaload, 1) := by decide +kernel
theorem dX10_nodeValue_14 : decode cX10_nodeValue 14 = .ok (.ireturn, 1) := by decide +kernel
theorem dX10_groupValue_0 : decode cX10_groupValue 0 = .ok (.aload_n 0, 1) := by decide +kernel
theorem dX10_groupValue_1 : decode cX10_groupValue 1 = .ok (.getfield 24, 3) := by decide +kernel
theorem dX10_groupValue_4 : decode cX10_groupValue 4 = .ok (.sipush 268, 3) := by decide +kernel
theorem dX10_groupValue_7 : decode cX10_groupValue 7 = .ok (.bipush 23, 2) := by decide +kernel
theorem dX10_groupValue_9 : decode cX10_groupValue 9 = .ok (.iload_n 1, 1) := by decide +kernel
theorem dX10_groupValue_10 : decode cX10_groupValue 10 = .ok (.imul, 1) := by decide +kernel
theorem dX10_groupValue_11 : decode cX10_groupValue 11 = .ok (.iadd, 1) := by decide +kernel
theorem dX10_groupValue_12 : decode cX10_groupValue 12 = .ok (.iload_n 2, 1) := by decide +kernel
theorem dX10_groupValue_13 : decode cX10_groupValue 13 = .ok (.iadd, 1) := by decide +kernel
theorem dX10_groupValue_14 : decode cX10_groupValue 14 = .ok (.iaload, 1) := by decide +kernel
theorem dX10_groupValue_15 : decode cX10_groupValue 15 = .ok (.ireturn, 1) := by decide +kernel
theorem dX10_tenantValue_0 : decode cX10_tenantValue 0 = .ok (.aload_n 0, 1) := by decide +kernel
theorem dX10_tenantValue_1 : decode cX10_tenantValue 1 = .ok (.getfield 24, 3) := by decide +kernel
theorem dX10_tenantValue_4 : decode cX10_tenantValue 4 = .ok (.sipush 202, 3) := by decide +kernel
theorem dX10_tenantValue_7 : decode cX10_tenantValue 7 = .ok (.bipush 11, 2) := by decide +kernel
theorem dX10_tenantValue_9 : decode cX10_tenantValue 9 = .ok (.iload_n 1, 1) := by decide +kernel
theorem dX10_tenantValue_10 : decode cX10_tenantValue 10 = .ok (.imul, 1) := by decide +kernel
theorem dX10_tenantValue_11 : decode cX10_tenantValue 11 = .ok (.iadd, 1) := by decide +kernel
theorem dX10_tenantValue_12 : decode cX10_tenantValue 12 = .ok (.iload_n 2, 1) := by decide +kernel
theorem dX10_tenantValue_13 : decode cX10_tenantValue 13 = .ok (.iadd, 1) := by decide +kernel
theorem dX10_tenantValue_14 : decode cX10_tenantValue 14 = .ok (.iaload, 1) := by decide +kernel
theorem dX10_tenantValue_15 : decode cX10_tenantValue 15 = .ok (.ireturn, 1) := by decide +kernel
theorem dX10_isNode_0 : decode cX10_isNode 0 = .ok (.iload_n 1, 1) := by decide +kernel
theorem dX10_isNode_1 : decode cX10_isNode 1 = .ok (.i2l, 1) := by decide +kernel
theorem dX10_isNode_2 : decode cX10_isNode 2 = .ok (.lconst 0, 1) := by decide +kernel
theorem dX10_isNode_3 : decode cX10_isNode 3 = .ok (.aload_n 0, 1) := by decide +kernel
theorem dX10_isNode_4 : decode cX10_isNode 4 = .ok (.getfield 17, 3) := by decide +kernel
theorem dX10_isNode_7 : decode cX10_isNode 7 = .ok (.bipush 6, 2) := by decide +kernel
theorem dX10_isNode_9 : decode cX10_isNode 9 = .ok (.iaload, 1) := by decide +kernel
theorem dX10_isNode_10 : decode cX10_isNode 10 = .ok (.iconst 1, 1) := by decide +kernel
theorem dX10_isNode_11 : decode cX10_isNode 11 = .ok (.isub, 1) := by decide +kernel
theorem dX10_isNode_12 : decode cX10_isNode 12 = .ok (.i2l, 1) := by decide +kernel
theorem dX10_isNode_13 : decode cX10_isNode 13 = .ok (.invokestatic 62, 3) := by decide +kernel
theorem dX10_isNode_16 : decode cX10_isNode 16 = .ok (.ireturn, 1) := by decide +kernel
theorem dX10_isTenant_0 : decode cX10_isTenant 0 = .ok (.iload_n 1, 1) := by decide +kernel
theorem dX10_isTenant_1 : decode cX10_isTenant 1 = .ok (.i2l, 1) := by decide +kernel
theorem dX10_isTenant_2 : decode cX10_isTenant 2 = .ok (.lconst 0, 1) := by decide +kernel
theorem dX10_isTenant_3 : decode cX10_isTenant 3 = .ok (.aload_n 0, 1) := by decide +kernel
theorem dX10_isTenant_4 : decode cX10_isTenant 4 = .ok (.getfield 17, 3) := by decide +kernel
theorem dX10_isTenant_7 : decode cX10_isTenant 7 = .ok (.bipush 7, 2) := by decide +kernel
theorem dX10_isTenant_9 : decode cX10_isTenant 9 = .ok (.iaload, 1) := by decide +kernel
theorem dX10_isTenant_10 : decode cX10_isTenant 10 = .ok (.iconst 1, 1) := by decide +kernel
theorem dX10_isTenant_11 : decode cX10_isTenant 11 = .ok (.isub, 1) := by decide +kernel
theorem dX10_isTenant_12 : decode cX10_isTenant 12 = .ok (.i2l, 1) := by decide +kernel
theorem dX10_isTenant_13 : decode cX10_isTenant 13 = .ok (.invokestatic 62, 3) := by decide +kernel
theorem dX10_isTenant_16 : decode cX10_isTenant 16 = .ok (.ireturn, 1) := by decide +kernel
theorem dX10_isGroup_0 : decode cX10_isGroup 0 = .ok (.iload_n 1, 1) := by decide +kernel
theorem dX10_isGroup_1 : decode cX10_isGroup 1 = .ok (.i2l, 1) := by decide +kernel
theorem dX10_isGroup_2 : decode cX10_isGroup 2 = .ok (.lconst 0, 1) := by decide +kernel
theorem dX10_isGroup_3 : decode cX10_isGroup 3 = .ok (.aload_n 0, 1) := by decide +kernel
theorem dX10_isGroup_4 : decode cX10_isGroup 4 = .ok (.getfield 17, 3) := by decide +kernel
theorem dX10_isGroup_7 : decode cX10_isGroup 7 = .ok (.bipush 8, 2) := by decide +kernel
theorem dX10_isGroup_9 : decode cX10_isGroup 9 = .ok (.iaload, 1) := by decide +kernel
theorem dX10_isGroup_10 : decode cX10_isGroup 10 = .ok (.iconst 1, 1) := by decide +kernel
theorem dX10_isGroup_11 : decode cX10_isGroup 11 = .ok (.isub, 1) := by decide +kernel
theorem dX10_isGroup_12 : decode cX10_isGroup 12 = .ok (.i2l, 1) := by decide +kernel
theorem dX10_isGroup_13 : decode cX10_isGroup 13 = .ok (.invokestatic 62, 3) := by decide +kernel
theorem dX10_isGroup_16 : decode cX10_isGroup 16 = .ok (.ireturn, 1) := by decide +kernel
theorem dX10_shardsOf_0 : decode cX10_shardsOf 0 = .ok (.aload_n 0, 1) := by decide +kernel
theorem dX10_shardsOf_1 : decode cX10_shardsOf 1 = .ok (.iload_n 1, 1) := by decide +kernel
theorem dX10_shardsOf_2 : decode cX10_shardsOf 2 = .ok (.iconst 2, 1) := by decide +kernel
theorem dX10_shardsOf_3 : decode cX10_shardsOf 3 = .ok (.invokevirtual 66, 3) := by decide +kernel
theorem dX10_shardsOf_6 : decode cX10_shardsOf 6 = .ok (.aload_n 0, 1) := by decide +kernel
theorem dX10_shardsOf_7 : decode cX10_shardsOf 7 = .ok (.iload_n 1, 1) := by decide +kernel
theorem dX10_shardsOf_8 : decode cX10_shardsOf 8 = .ok (.iconst 3, 1) := by decide +kernel
theorem dX10_shardsOf_9 : decode cX10_shardsOf 9 = .ok (.invokevirtual 66, 3) := by decide +kernel
theorem dX10_shardsOf_12 : decode cX10_shardsOf 12 = .ok (.iadd, 1) := by decide +kernel
theorem dX10_shardsOf_13 : decode cX10_shardsOf 13 = .ok (.ireturn, 1) := by decide +kernel
theorem dX10_holder_0 : decode cX10_holder 0 = .ok (.aload_n 0, 1) := by decide +kernel
theorem dX10_holder_1 : decode cX10_holder 1 = .ok (.iload_n 1, 1) := by decide +kernel
theorem dX10_holder_2 : decode cX10_holder 2 = .ok (.bipush 7, 2) := by decide +kernel
theorem dX10_holder_4 : decode cX10_holder 4 = .ok (.iload_n 2, 1) := by decide +kernel
theorem dX10_holder_5 : decode cX10_holder 5 = .ok (.iadd, 1) := by decide +kernel
theorem dX10_holder_6 : decode cX10_holder 6 = .ok (.invokevirtual 66, 3) := by decide +kernel
theorem dX10_holder_9 : decode cX10_holder 9 = .ok (.ireturn, 1) := by decide +kernel
theorem dX10_shardsOn_0 : decode cX10_shardsOn 0 = .ok (.iconst 0, 1) := by decide +kernel
theorem dX10_shardsOn_1 : decode cX10_shardsOn 1 = .ok (.istore 4, 2) := by decide +kernel
theorem dX10_shardsOn_3 : decode cX10_shardsOn 3 = .ok (.iconst 0, 1) := by decide +kernel
theorem dX10_shardsOn_4 : decode cX10_shardsOn 4 = .ok (.istore 5, 2) := by decide +kernel
theorem dX10_shardsOn_6 : decode cX10_shardsOn 6 = .ok (.iload 5, 2) := by decide +kernel
theorem dX10_shardsOn_8 : decode cX10_shardsOn 8 = .ok (.aload_n 0, 1) := by decide +kernel
theorem dX10_shardsOn_9 : decode cX10_shardsOn 9 = .ok (.getfield 24, 3) := by decide +kernel
theorem dX10_shardsOn_12 : decode cX10_shardsOn 12 = .ok (.bipush 8, 2) := by decide +kernel
theorem dX10_shardsOn_14 : decode cX10_shardsOn 14 = .ok (.iaload, 1) := by decide +kernel
theorem dX10_shardsOn_15 : decode cX10_shardsOn 15 = .ok (.if_icmp .ge 51, 3) := by decide +kernel
theorem dX10_shardsOn_18 : decode cX10_shardsOn 18 = .ok (.iconst 0, 1) := by decide +kernel
theorem dX10_shardsOn_19 : decode cX10_shardsOn 19 = .ok (.istore 6, 2) := by decide +kernel
theorem dX10_shardsOn_21 : decode cX10_shardsOn 21 = .ok (.iload 6, 2) := by decide +kernel
theorem dX10_shardsOn_23 : decode cX10_shardsOn 23 = .ok (.aload_n 0, 1) := by decide +kernel
theorem dX10_shardsOn_24 : decode cX10_shardsOn 24 = .ok (.iload 5, 2) := by decide +kernel
theorem dX10_shardsOn_26 : decode cX10_shardsOn 26 = .ok (.invokevirtual 70, 3) := by decide +kernel
theorem dX10_shardsOn_29 : decode cX10_shardsOn 29 = .ok (.if_icmp .ge 31, 3) := by decide +kernel
theorem dX10_shardsOn_32 : decode cX10_shardsOn 32 = .ok (.iload 4, 2) := by decide +kernel
theorem dX10_shardsOn_34 : decode cX10_shardsOn 34 = .ok (.aload_n 0, 1) := by decide +kernel
theorem dX10_shardsOn_35 : decode cX10_shardsOn 35 = .ok (.iload 5, 2) := by decide +kernel
theorem dX10_shardsOn_37 : decode cX10_shardsOn 37 = .ok (.iload 6, 2) := by decide +kernel
theorem dX10_shardsOn_39 : decode cX10_shardsOn 39 = .ok (.invokevirtual 74, 3) := by decide +kernel
theorem dX10_shardsOn_42 : decode cX10_shardsOn 42 = .ok (.iload_n 1, 1) := by decide +kernel
theorem dX10_shardsOn_43 : decode cX10_shardsOn 43 = .ok (.if_icmp .ne 7, 3) := by decide +kernel
theorem dX10_shardsOn_46 : decode cX10_shardsOn 46 = .ok (.iconst 1, 1) := by decide +kernel
theorem dX10_shardsOn_47 : decode cX10_shardsOn 47 = .ok (.goto 4, 3) := by decide +kernel
theorem dX10_shardsOn_50 : decode cX10_shardsOn 50 = .ok (.iconst 0, 1) := by decide +kernel
theorem dX10_shardsOn_51 : decode cX10_shardsOn 51 = .ok (.iadd, 1) := by decide +kernel
theorem dX10_shardsOn_52 : decode cX10_shardsOn 52 = .ok (.istore 4, 2) := by decide +kernel
theorem dX10_shardsOn_54 : decode cX10_shardsOn 54 = .ok (.iinc 6 1, 3) := by decide +kernel
theorem dX10_shardsOn_57 : decode cX10_shardsOn 57 = .ok (.goto (-36), 3) := by decide +kernel
theorem dX10_shardsOn_60 : decode cX10_shardsOn 60 = .ok (.iinc 5 1, 3) := by decide +kernel
theorem dX10_shardsOn_63 : decode cX10_shardsOn 63 = .ok (.goto (-57), 3) := by decide +kernel
theorem dX10_shardsOn_66 : decode cX10_shardsOn 66 = .ok (.iconst 0, 1) := by decide +kernel
theorem dX10_shardsOn_67 : decode cX10_shardsOn 67 = .ok (.istore 5, 2) := by decide +kernel
theorem dX10_shardsOn_69 : decode cX10_shardsOn 69 = .ok (.iload 5, 2) := by decide +kernel
theorem dX10_shardsOn_71 : decode cX10_shardsOn 71 = .ok (.iload_n 3, 1) := by decide +kernel
theorem dX10_shardsOn_72 : decode cX10_shardsOn 72 = .ok (.if_icmp .ge 30, 3) := by decide +kernel
theorem dX10_shardsOn_75 : decode cX10_shardsOn 75 = .ok (.iload 4, 2) := by decide +kernel
theorem dX10_shardsOn_77 : decode cX10_shardsOn 77 = .ok (.aload_n 0, 1) := by decide +kernel
theorem dX10_shardsOn_78 : decode cX10_shardsOn 78 = .ok (.iload_n 2, 1) := by decide +kernel
theorem dX10_shardsOn_79 : decode cX10_shardsOn 79 = .ok (.iload 5, 2) := by decide +kernel
theorem dX10_shardsOn_81 : decode cX10_shardsOn 81 = .ok (.invokevirtual 74, 3) := by decide +kernel
theorem dX10_shardsOn_84 : decode cX10_shardsOn 84 = .ok (.iload_n 1, 1) := by decide +kernel
theorem dX10_shardsOn_85 : decode cX10_shardsOn 85 = .ok (.if_icmp .ne 7, 3) := by decide +kernel
theorem dX10_shardsOn_88 : decode cX10_shardsOn 88 = .ok (.iconst 1, 1) := by decide +kernel
theorem dX10_shardsOn_89 : decode cX10_shardsOn 89 = .ok (.goto 4, 3) := by decide +kernel
theorem dX10_shardsOn_92 : decode cX10_shardsOn 92 = .ok (.iconst 0, 1) := by decide +kernel
theorem dX10_shardsOn_93 : decode cX10_shardsOn 93 = .ok (.iadd, 1) := by decide +kernel
theorem dX10_shardsOn_94 : decode cX10_shardsOn 94 = .ok (.istore 4, 2) := by decide +kernel
theorem dX10_shardsOn_96 : decode cX10_shardsOn 96 = .ok (.iinc 5 1, 3) := by decide +kernel
theorem dX10_shardsOn_99 : decode cX10_shardsOn 99 = .ok (.goto (-30), 3) := by decide +kernel
theorem dX10_shardsOn_102 : decode cX10_shardsOn 102 = .ok (.iload 4, 2) := by decide +kernel
theorem dX10_shardsOn_104 : decode cX10_shardsOn 104 = .ok (.ireturn, 1) := by decide +kernel
theorem dX10_hasShardOn_0 : decode cX10_hasShardOn 0 = .ok (.iconst 0, 1) := by decide +kernel
theorem dX10_hasShardOn_1 : decode cX10_hasShardOn 1 = .ok (.istore 4, 2) := by decide +kernel
theorem dX10_hasShardOn_3 : decode cX10_hasShardOn 3 = .ok (.iconst 0, 1) := by decide +kernel
theorem dX10_hasShardOn_4 : decode cX10_hasShardOn 4 = .ok (.istore 5, 2) := by decide +kernel
theorem dX10_hasShardOn_6 : decode cX10_hasShardOn 6 = .ok (.iload 5, 2) := by decide +kernel
theorem dX10_hasShardOn_8 : decode cX10_hasShardOn 8 = .ok (.iload_n 2, 1) := by decide +kernel
theorem dX10_hasShardOn_9 : decode cX10_hasShardOn 9 = .ok (.if_icmp .ge 32, 3) := by decide +kernel
theorem dX10_hasShardOn_12 : decode cX10_hasShardOn 12 = .ok (.iload 4, 2) := by decide +kernel
theorem dX10_hasShardOn_14 : decode cX10_hasShardOn 14 = .ok (.ifCond .ne 14, 3) := by decide +kernel
theorem dX10_hasShardOn_17 : decode cX10_hasShardOn 17 = .ok (.aload_n 0, 1) := by decide +kernel
theorem dX10_hasShardOn_18 : decode cX10_hasShardOn 18 = .ok (.iload_n 1, 1) := by decide +kernel
theorem dX10_hasShardOn_19 : decode cX10_hasShardOn 19 = .ok (.iload 5, 2) := by decide +kernel
theorem dX10_hasShardOn_21 : decode cX10_hasShardOn 21 = .ok (.invokevirtual 74, 3) := by decide +kernel
theorem dX10_hasShardOn_24 : decode cX10_hasShardOn 24 = .ok (.iload_n 3, 1) := by decide +kernel
theorem dX10_hasShardOn_25 : decode cX10_hasShardOn 25 = .ok (.if_icmp .ne 7, 3) := by decide +kernel
theorem dX10_hasShardOn_28 : decode cX10_hasShardOn 28 = .ok (.iconst 1, 1) := by decide +kernel
theorem dX10_hasShardOn_29 : decode cX10_hasShardOn 29 = .ok (.goto 4, 3) := by decide +kernel
theorem dX10_hasShardOn_32 : decode cX10_hasShardOn 32 = .ok (.iconst 0, 1) := by decide +kernel
theorem dX10_hasShardOn_33 : decode cX10_hasShardOn 33 = .ok (.istore 4, 2) := by decide +kernel
theorem dX10_hasShardOn_35 : decode cX10_hasShardOn 35 = .ok (.iinc 5 1, 3) := by decide +kernel
theorem dX10_hasShardOn_38 : decode cX10_hasShardOn 38 = .ok (.goto (-32), 3) := by decide +kernel
theorem dX10_hasShardOn_41 : decode cX10_hasShardOn 41 = .ok (.iload 4, 2) := by decide +kernel
theorem dX10_hasShardOn_43 : decode cX10_hasShardOn 43 = .ok (.ireturn, 1) := by decide +kernel
theorem dX10_isInZone_0 : decode cX10_isInZone 0 = .ok (.iconst 0, 1) := by decide +kernel
theorem dX10_isInZone_1 : decode cX10_isInZone 1 = .ok (.istore 5, 2) := by decide +kernel
theorem dX10_isInZone_3 : decode cX10_isInZone 3 = .ok (.iconst 0, 1) := by decide +kernel
theorem dX10_isInZone_4 : decode cX10_isInZone 4 = .ok (.istore 6, 2) := by decide +kernel
theorem dX10_isInZone_6 : decode cX10_isInZone 6 = .ok (.iload 6, 2) := by decide +kernel
theorem dX10_isInZone_8 : decode cX10_isInZone 8 = .ok (.iload_n 2, 1) := by decide +kernel
theorem dX10_isInZone_9 : decode cX10_isInZone 9 = .ok (.if_icmp .ge 44, 3) := by decide +kernel
theorem dX10_isInZone_12 : decode cX10_isInZone 12 = .ok (.iload 5, 2) := by decide +kernel
theorem dX10_isInZone_14 : decode cX10_isInZone 14 = .ok (.ifCond .ne 26, 3) := by decide +kernel
theorem dX10_isInZone_17 : decode cX10_isInZone 17 = .ok (.iload 6, 2) := by decide +kernel
theorem dX10_isInZone_19 : decode cX10_isInZone 19 = .ok (.iload_n 3, 1) := by decide +kernel
theorem dX10_isInZone_20 : decode cX10_isInZone 20 = .ok (.if_icmp .eq 24, 3) := by decide +kernel
theorem dX10_isInZone_23 : decode cX10_isInZone 23 = .ok (.aload_n 0, 1) := by decide +kernel
theorem dX10_isInZone_24 : decode cX10_isInZone 24 = .ok (.aload_n 0, 1) := by decide +kernel
theorem dX10_isInZone_25 : decode cX10_isInZone 25 = .ok (.iload_n 1, 1) := by decide +kernel
theorem dX10_isInZone_26 : decode cX10_isInZone 26 = .ok (.iload 6, 2) := by decide +kernel
theorem dX10_isInZone_28 : decode cX10_isInZone 28 = .ok (.invokevirtual 74, 3) := by decide +kernel
theorem dX10_isInZone_31 : decode cX10_isInZone 31 = .ok (.iconst 1, 1) := by decide +kernel
theorem dX10_isInZone_32 : decode cX10_isInZone 32 = .ok (.invokevirtual 77, 3) := by decide +kernel
theorem dX10_isInZone_35 : decode cX10_isInZone 35 = .ok (.iload 4, 2) := by decide +kernel
theorem dX10_isInZone_37 : decode cX10_isInZone 37 = .ok (.if_icmp .ne 7, 3) := by decide +kernel
theorem dX10_isInZone_40 : decode cX10_isInZone 40 = .ok (.iconst 1, 1) := by decide +kernel
theorem dX10_isInZone_41 : decode cX10_isInZone 41 = .ok (.goto 4, 3) := by decide +kernel
theorem dX10_isInZone_44 : decode cX10_isInZone 44 = .ok (.iconst 0, 1) := by decide +kernel
theorem dX10_isInZone_45 : decode cX10_isInZone 45 = .ok (.istore 5, 2) := by decide +kernel
theorem dX10_isInZone_47 : decode cX10_isInZone 47 = .ok (.iinc 6 1, 3) := by decide +kernel
theorem dX10_isInZone_50 : decode cX10_isInZone 50 = .ok (.goto (-44), 3) := by decide +kernel
theorem dX10_isInZone_53 : decode cX10_isInZone 53 = .ok (.iload 5, 2) := by decide +kernel
theorem dX10_isInZone_55 : decode cX10_isInZone 55 = .ok (.ireturn, 1) := by decide +kernel
theorem dX10_nodeAtOrBehind_0 : decode cX10_nodeAtOrBehind 0 = .ok (.iconst (-1), 1) := by decide +kernel
theorem dX10_nodeAtOrBehind_1 : decode cX10_nodeAtOrBehind 1 = .ok (.istore_n 2, 1) := by decide +kernel
theorem dX10_nodeAtOrBehind_2 : decode cX10_nodeAtOrBehind 2 = .ok (.iconst (-1), 1) := by decide +kernel
theorem dX10_nodeAtOrBehind_3 : decode cX10_nodeAtOrBehind 3 = .ok (.istore_n 3, 1) := by decide +kernel
theorem dX10_nodeAtOrBehind_4 : decode cX10_nodeAtOrBehind 4 = .ok (.iconst 0, 1) := by decide +kernel
theorem dX10_nodeAtOrBehind_5 : decode cX10_nodeAtOrBehind 5 = .ok (.istore 4, 2) := by decide +kernel
theorem dX10_nodeAtOrBehind_7 : decode cX10_nodeAtOrBehind 7 = .ok (.iload 4, 2) := by decide +kernel
theorem dX10_nodeAtOrBehind_9 : decode cX10_nodeAtOrBehind 9 = .ok (.aload_n 0, 1) := by decide +kernel
theorem dX10_nodeAtOrBehind_10 : decode cX10_nodeAtOrBehind 10 = .ok (.getfield 24, 3) := by decide +kernel
theorem dX10_nodeAtOrBehind_13 : decode cX10_nodeAtOrBehind 13 = .ok (.bipush 6, 2) := by decide +kernel
theorem dX10_nodeAtOrBehind_15 : decode cX10_nodeAtOrBehind 15 = .ok (.iaload, 1) := by decide +kernel
theorem dX10_nodeAtOrBehind_16 : decode cX10_nodeAtOrBehind 16 = .ok (.if_icmp .ge 62, 3) := by decide +kernel
theorem dX10_nodeAtOrBehind_19 : decode cX10_nodeAtOrBehind 19 = .ok (.aload_n 0, 1) := by decide +kernel
theorem dX10_nodeAtOrBehind_20 : decode cX10_nodeAtOrBehind 20 = .ok (.iload 4, 2) := by decide +kernel
theorem dX10_nodeAtOrBehind_22 : decode cX10_nodeAtOrBehind 22 = .ok (.iconst 0, 1) := by decide +kernel
theorem dX10_nodeAtOrBehind_23 : decode cX10_nodeAtOrBehind 23 = .ok (.invokevirtual 77, 3) := by decide +kernel
theorem dX10_nodeAtOrBehind_26 : decode cX10_nodeAtOrBehind 26 = .ok (.istore 5, 2) := by decide +kernel
theorem dX10_nodeAtOrBehind_28 : decode cX10_nodeAtOrBehind 28 = .ok (.iload_n 3, 1) := by decide +kernel
theorem dX10_nodeAtOrBehind_29 : decode cX10_nodeAtOrBehind 29 = .ok (.iconst (-1), 1) := by decide +kernel
theorem dX10_nodeAtOrBehind_30 : decode cX10_nodeAtOrBehind 30 = .ok (.if_icmp .eq 14, 3) := by decide +kernel
theorem dX10_nodeAtOrBehind_33 : decode cX10_nodeAtOrBehind 33 = .ok (.iload 5, 2) := by decide +kernel
theorem dX10_nodeAtOrBehind_35 : decode cX10_nodeAtOrBehind 35 = .ok (.aload_n 0, 1) := by decide +kernel
theorem dX10_nodeAtOrBehind_36 : decode cX10_nodeAtOrBehind 36 = .ok (.iload_n 3, 1) := by decide +kernel
theorem dX10_nodeAtOrBehind_37 : decode cX10_nodeAtOrBehind 37 = .ok (.iconst 0, 1) := by decide +kernel
theorem dX10_nodeAtOrBehind_38 : decode cX10_nodeAtOrBehind 38 = .ok (.invokevirtual 77, 3) := by decide +kernel
theorem dX10_nodeAtOrBehind_41 : decode cX10_nodeAtOrBehind 41 = .ok (.if_icmp .ge 6, 3) := by decide +kernel
theorem dX10_nodeAtOrBehind_44 : decode cX10_nodeAtOrBehind 44 = .ok (.iload 4, 2) := by decide +kernel
theorem dX10_nodeAtOrBehind_46 : decode cX10_nodeAtOrBehind 46 = .ok (.istore_n 3, 1) := by decide +kernel
theorem dX10_nodeAtOrBehind_47 : decode cX10_nodeAtOrBehind 47 = .ok (.iload 5, 2) := by decide +kernel
theorem dX10_nodeAtOrBehind_49 : decode cX10_nodeAtOrBehind 49 = .ok (.iload_n 1, 1) := by decide +kernel
theorem dX10_nodeAtOrBehind_50 : decode cX10_nodeAtOrBehind 50 = .ok (.if_icmp .lt 22, 3) := by decide +kernel
theorem dX10_nodeAtOrBehind_53 : decode cX10_nodeAtOrBehind 53 = .ok (.iload_n 2, 1) := by decide +kernel
theorem dX10_nodeAtOrBehind_54 : decode cX10_nodeAtOrBehind 54 = .ok (.iconst (-1), 1) := by decide +kernel
theorem dX10_nodeAtOrBehind_55 : decode cX10_nodeAtOrBehind 55 = .ok (.if_icmp .eq 14, 3) := by decide +kernel
theorem dX10_nodeAtOrBehind_58 : decode cX10_nodeAtOrBehind 58 = .ok (.iload 5, 2) := by decide +kernel
theorem dX10_nodeAtOrBehind_60 : decode cX10_nodeAtOrBehind 60 = .ok (.aload_n 0, 1) := by decide +kernel
theorem dX10_nodeAtOrBehind_61 : decode cX10_nodeAtOrBehind 61 = .ok (.iload_n 2, 1) := by decide +kernel
theorem dX10_nodeAtOrBehind_62 : decode cX10_nodeAtOrBehind 62 = .ok (.iconst 0, 1) := by decide +kernel
theorem dX10_nodeAtOrBehind_63 : decode cX10_nodeAtOrBehind 63 = .ok (.invokevirtual 77, 3) := by decide +kernel
theorem dX10_nodeAtOrBehind_66 : decode cX10_nodeAtOrBehind 66 = .ok (.if_icmp .ge 6, 3) := by decide +kernel
theorem dX10_nodeAtOrBehind_69 : decode cX10_nodeAtOrBehind 69 = .ok (.iload 4, 2) := by decide +kernel
theorem dX10_nodeAtOrBehind_71 : decode cX10_nodeAtOrBehind 71 = .ok (.istore_n 2, 1) := by decide +kernel
theorem dX10_nodeAtOrBehind_72 : decode cX10_nodeAtOrBehind 72 = .ok (.iinc 4 1, 3) := by decide +kernel
theorem dX10_nodeAtOrBehind_75 : decode cX10_nodeAtOrBehind 75 = .ok (.goto (-68), 3) := by decide +kernel
theorem dX10_nodeAtOrBehind_78 : decode cX10_nodeAtOrBehind 78 = .ok (.iload_n 2, 1) := by decide +kernel
theorem dX10_nodeAtOrBehind_79 : decode cX10_nodeAtOrBehind 79 = .ok (.iconst (-1), 1) := by decide +kernel
theorem dX10_nodeAtOrBehind_80 : decode cX10_nodeAtOrBehind 80 = .ok (.if_icmp .ne 7, 3) := by decide +kernel
theorem dX10_nodeAtOrBehind_83 : decode cX10_nodeAtOrBehind 83 = .ok (.iload_n 3, 1) := by decide +kernel
theorem dX10_nodeAtOrBehind_84 : decode cX10_nodeAtOrBehind 84 = .ok (.goto 4, 3) := by decide +kernel
theorem dX10_nodeAtOrBehind_87 : decode cX10_nodeAtOrBehind 87 = .ok (.iload_n 2, 1) := by decide +kernel
theorem dX10_nodeAtOrBehind_88 : decode cX10_nodeAtOrBehind 88 = .ok (.ireturn, 1) := by decide +kernel
theorem dX10_placeFor_0 : decode cX10_placeFor 0 = .ok (.iconst (-1), 1) := by decide +kernel
theorem dX10_placeFor_1 : decode cX10_placeFor 1 = .ok (.istore 6, 2) := by decide +kernel
theorem dX10_placeFor_3 : decode cX10_placeFor 3 = .ok (.aload_n 0, 1) := by decide +kernel
theorem dX10_placeFor_4 : decode cX10_placeFor 4 = .ok (.iload 4, 2) := by decide +kernel
theorem dX10_placeFor_6 : decode cX10_placeFor 6 = .ok (.invokevirtual 80, 3) := by decide +kernel
theorem dX10_placeFor_9 : decode cX10_placeFor 9 = .ok (.istore 7, 2) := by decide +kernel
theorem dX10_placeFor_11 : decode cX10_placeFor 11 = .ok (.iconst 0, 1) := by decide +kernel
theorem dX10_placeFor_12 : decode cX10_placeFor 12 = .ok (.istore 8, 2) := by decide +kernel
theorem dX10_placeFor_14 : decode cX10_placeFor 14 = .ok (.iload 8, 2) := by decide +kernel
theorem dX10_placeFor_16 : decode cX10_placeFor 16 = .ok (.aload_n 0, 1) := by decide +kernel
theorem dX10_placeFor_17 : decode cX10_placeFor 17 = .ok (.getfield 24, 3) := by decide +kernel
theorem dX10_placeFor_20 : decode cX10_placeFor 20 = .ok (.bipush 6, 2) := by decide +kernel
theorem dX10_placeFor_22 : decode cX10_placeFor 22 = .ok (.iaload, 1) := by decide +kernel
theorem dX10_placeFor_23 : decode cX10_placeFor 23 = .ok (.if_icmp .ge 119, 3) := by decide +kernel
theorem dX10_placeFor_26 : decode cX10_placeFor 26 = .ok (.aload_n 0, 1) := by decide +kernel
theorem dX10_placeFor_27 : decode cX10_placeFor 27 = .ok (.iload 7, 2) := by decide +kernel
theorem dX10_placeFor_29 : decode cX10_placeFor 29 = .ok (.iconst 4, 1) := by decide +kernel
theorem dX10_placeFor_30 : decode cX10_placeFor 30 = .ok (.invokevirtual 77, 3) := by decide +kernel
theorem dX10_placeFor_33 : decode cX10_placeFor 33 = .ok (.ifCond .ne 45, 3) := by decide +kernel
theorem dX10_placeFor_36 : decode cX10_placeFor 36 = .ok (.aload_n 0, 1) := by decide +kernel
theorem dX10_placeFor_37 : decode cX10_placeFor 37 = .ok (.iload_n 1, 1) := by decide +kernel
theorem dX10_placeFor_38 : decode cX10_placeFor 38 = .ok (.iload_n 2, 1) := by decide +kernel
theorem dX10_placeFor_39 : decode cX10_placeFor 39 = .ok (.iload 7, 2) := by decide +kernel
theorem dX10_placeFor_41 : decode cX10_placeFor 41 = .ok (.invokevirtual 83, 3) := by decide +kernel
theorem dX10_placeFor_44 : decode cX10_placeFor 44 = .ok (.ifCond .ne 34, 3) := by decide +kernel
theorem dX10_placeFor_47 : decode cX10_placeFor 47 = .ok (.aload_n 0, 1) := by decide +kernel
theorem dX10_placeFor_48 : decode cX10_placeFor 48 = .ok (.iload 7, 2) := by decide +kernel
theorem dX10_placeFor_50 : decode cX10_placeFor 50 = .ok (.iload_n 1, 1) := by decide +kernel
theorem dX10_placeFor_51 : decode cX10_placeFor 51 = .ok (.iload 5, 2) := by decide +kernel
theorem dX10_placeFor_53 : decode cX10_placeFor 53 = .ok (.ifCond .eq 7, 3) := by decide +kernel
theorem dX10_placeFor_56 : decode cX10_placeFor 56 = .ok (.iload_n 2, 1) := by decide +kernel
theorem dX10_placeFor_57 : decode cX10_placeFor 57 = .ok (.goto 4, 3) := by decide +kernel
theorem dX10_placeFor_60 : decode cX10_placeFor 60 = .ok (.iconst 0, 1) := by decide +kernel
theorem dX10_placeFor_61 : decode cX10_placeFor 61 = .ok (.invokevirtual 87, 3) := by decide +kernel
theorem dX10_placeFor_64 : decode cX10_placeFor 64 = .ok (.aload_n 0, 1) := by decide +kernel
theorem dX10_placeFor_65 : decode cX10_placeFor 65 = .ok (.iload 7, 2) := by decide +kernel
theorem dX10_placeFor_67 : decode cX10_placeFor 67 = .ok (.iconst 3, 1) := by decide +kernel
theorem dX10_placeFor_68 : decode cX10_placeFor 68 = .ok (.invokevirtual 77, 3) := by decide +kernel
theorem dX10_placeFor_71 : decode cX10_placeFor 71 = .ok (.if_icmp .ge 7, 3) := by decide +kernel
theorem dX10_placeFor_74 : decode cX10_placeFor 74 = .ok (.iconst 1, 1) := by decide +kernel
theorem dX10_placeFor_75 : decode cX10_placeFor 75 = .ok (.goto 4, 3) := by decide +kernel
theorem dX10_placeFor_78 : decode cX10_placeFor 78 = .ok (.iconst 0, 1) := by decide +kernel
theorem dX10_placeFor_79 : decode cX10_placeFor 79 = .ok (.istore 9, 2) := by decide +kernel
theorem dX10_placeFor_81 : decode cX10_placeFor 81 = .ok (.iload 9, 2) := by decide +kernel
theorem dX10_placeFor_83 : decode cX10_placeFor 83 = .ok (.ifCond .eq 23, 3) := by decide +kernel
theorem dX10_placeFor_86 : decode cX10_placeFor 86 = .ok (.aload_n 0, 1) := by decide +kernel
theorem dX10_placeFor_87 : decode cX10_placeFor 87 = .ok (.iload_n 1, 1) := by decide +kernel
theorem dX10_placeFor_88 : decode cX10_placeFor 88 = .ok (.iload_n 2, 1) := by decide +kernel
theorem dX10_placeFor_89 : decode cX10_placeFor 89 = .ok (.iload_n 3, 1) := by decide +kernel
theorem dX10_placeFor_90 : decode cX10_placeFor 90 = .ok (.aload_n 0, 1) := by decide +kernel
theorem dX10_placeFor_91 : decode cX10_placeFor 91 = .ok (.iload 7, 2) := by decide +kernel
theorem dX10_placeFor_93 : decode cX10_placeFor 93 = .ok (.iconst 1, 1) := by decide +kernel
theorem dX10_placeFor_94 : decode cX10_placeFor 94 = .ok (.invokevirtual 77, 3) := by decide +kernel
theorem dX10_placeFor_97 : decode cX10_placeFor 97 = .ok (.invokevirtual 91, 3) := by decide +kernel
theorem dX10_placeFor_100 : decode cX10_placeFor 100 = .ok (.ifCond .ne 6, 3) := by decide +kernel
theorem dX10_placeFor_103 : decode cX10_placeFor 103 = .ok (.iload 7, 2) := by decide +kernel
theorem dX10_placeFor_105 : decode cX10_placeFor 105 = .ok (.ireturn, 1) := by decide +kernel
theorem dX10_placeFor_106 : decode cX10_placeFor 106 = .ok (.iload 9, 2) := by decide +kernel
theorem dX10_placeFor_108 : decode cX10_placeFor 108 = .ok (.ifCond .eq 13, 3) := by decide +kernel
theorem dX10_placeFor_111 : decode cX10_placeFor 111 = .ok (.iload 6, 2) := by decide +kernel
theorem dX10_placeFor_113 : decode cX10_placeFor 113 = .ok (.iconst (-1), 1) := by decide +kernel
theorem dX10_placeFor_114 : decode cX10_placeFor 114 = .ok (.if_icmp .ne 7, 3) := by decide +kernel
theorem dX10_placeFor_117 : decode cX10_placeFor 117 = .ok (.iload 7, 2) := by decide +kernel
theorem dX10_placeFor_119 : decode cX10_placeFor 119 = .ok (.istore 6, 2) := by decide +kernel
theorem dX10_placeFor_121 : decode cX10_placeFor 121 = .ok (.aload_n 0, 1) := by decide +kernel
theorem dX10_placeFor_122 : decode cX10_placeFor 122 = .ok (.aload_n 0, 1) := by decide +kernel
theorem dX10_placeFor_123 : decode cX10_placeFor 123 = .ok (.iload 7, 2) := by decide +kernel
theorem dX10_placeFor_125 : decode cX10_placeFor 125 = .ok (.iconst 0, 1) := by decide +kernel
theorem dX10_placeFor_126 : decode cX10_placeFor 126 = .ok (.invokevirtual 77, 3) := by decide +kernel
theorem dX10_placeFor_129 : decode cX10_placeFor 129 = .ok (.iconst 1, 1) := by decide +kernel
theorem dX10_placeFor_130 : decode cX10_placeFor 130 = .ok (.iadd, 1) := by decide +kernel
theorem dX10_placeFor_131 : decode cX10_placeFor 131 = .ok (.invokevirtual 80, 3) := by decide +kernel
theorem dX10_placeFor_134 : decode cX10_placeFor 134 = .ok (.istore 7, 2) := by decide +kernel
theorem dX10_placeFor_136 : decode cX10_placeFor 136 = .ok (.iinc 8 1, 3) := by decide +kernel
theorem dX10_placeFor_139 : decode cX10_placeFor 139 = .ok (.goto (-125), 3) := by decide +kernel
theorem dX10_placeFor_142 : decode cX10_placeFor 142 = .ok (.iload 6, 2) := by decide +kernel
theorem dX10_placeFor_144 : decode cX10_placeFor 144 = .ok (.ireturn, 1) := by decide +kernel
theorem dX10_placeMissing_0 : decode cX10_placeMissing 0 = .ok (.aload_n 0, 1) := by decide +kernel
theorem dX10_placeMissing_1 : decode cX10_placeMissing 1 = .ok (.iload_n 1, 1) := by decide +kernel
theorem dX10_placeMissing_2 : decode cX10_placeMissing 2 = .ok (.aload_n 0, 1) := by decide +kernel
theorem dX10_placeMissing_3 : decode cX10_placeMissing 3 = .ok (.iload_n 1, 1) := by decide +kernel
theorem dX10_placeMissing_4 : decode cX10_placeMissing 4 = .ok (.invokevirtual 70, 3) := by decide +kernel
theorem dX10_placeMissing_7 : decode cX10_placeMissing 7 = .ok (.iload_n 2, 1) := by decide +kernel
theorem dX10_placeMissing_8 : decode cX10_placeMissing 8 = .ok (.aload_n 0, 1) := by decide +kernel
theorem dX10_placeMissing_9 : decode cX10_placeMissing 9 = .ok (.aload_n 0, 1) := by decide +kernel
theorem dX10_placeMissing_10 : decode cX10_placeMissing 10 = .ok (.iload_n 1, 1) := by decide +kernel
theorem dX10_placeMissing_11 : decode cX10_placeMissing 11 = .ok (.iload_n 2, 1) := by decide +kernel
theorem dX10_placeMissing_12 : decode cX10_placeMissing 12 = .ok (.invokevirtual 74, 3) := by decide +kernel
theorem dX10_placeMissing_15 : decode cX10_placeMissing 15 = .ok (.iconst 0, 1) := by decide +kernel
theorem dX10_placeMissing_16 : decode cX10_placeMissing 16 = .ok (.invokevirtual 77, 3) := by decide +kernel
theorem dX10_placeMissing_19 : decode cX10_placeMissing 19 = .ok (.iconst 1, 1) := by decide +kernel
theorem dX10_placeMissing_20 : decode cX10_placeMissing 20 = .ok (.iadd, 1) := by decide +kernel
theorem dX10_placeMissing_21 : decode cX10_placeMissing 21 = .ok (.iconst 0, 1) := by decide +kernel
theorem dX10_placeMissing_22 : decode cX10_placeMissing 22 = .ok (.invokevirtual 95, 3) := by decide +kernel
theorem dX10_placeMissing_25 : decode cX10_placeMissing 25 = .ok (.ireturn, 1) := by decide +kernel
theorem dX10_isAvailable_0 : decode cX10_isAvailable 0 = .ok (.aload_n 0, 1) := by decide +kernel
theorem dX10_isAvailable_1 : decode cX10_isAvailable 1 = .ok (.iload_n 1, 1) := by decide +kernel
theorem dX10_isAvailable_2 : decode cX10_isAvailable 2 = .ok (.iload_n 2, 1) := by decide +kernel
theorem dX10_isAvailable_3 : decode cX10_isAvailable 3 = .ok (.invokevirtual 74, 3) := by decide +kernel
theorem dX10_isAvailable_6 : decode cX10_isAvailable 6 = .ok (.istore_n 3, 1) := by decide +kernel
theorem dX10_isAvailable_7 : decode cX10_isAvailable 7 = .ok (.aload_n 0, 1) := by decide +kernel
theorem dX10_isAvailable_8 : decode cX10_isAvailable 8 = .ok (.iload_n 3, 1) := by decide +kernel
theorem dX10_isAvailable_9 : decode cX10_isAvailable 9 = .ok (.iconst 4, 1) := by decide +kernel
theorem dX10_isAvailable_10 : decode cX10_isAvailable 10 = .ok (.invokevirtual 77, 3) := by decide +kernel
theorem dX10_isAvailable_13 : decode cX10_isAvailable 13 = .ok (.iconst 1, 1) := by decide +kernel
theorem dX10_isAvailable_14 : decode cX10_isAvailable 14 = .ok (.if_icmp .eq 18, 3) := by decide +kernel
theorem dX10_isAvailable_17 : decode cX10_isAvailable 17 = .ok (.aload_n 0, 1) := by decide +kernel
theorem dX10_isAvailable_18 : decode cX10_isAvailable 18 = .ok (.getfield 99, 3) := by decide +kernel
theorem dX10_isAvailable_21 : decode cX10_isAvailable 21 = .ok (.iload_n 3, 1) := by decide +kernel
theorem dX10_isAvailable_22 : decode cX10_isAvailable 22 = .ok (.invokestatic 102, 3) := by decide +kernel
theorem dX10_isAvailable_25 : decode cX10_isAvailable 25 = .ok (.ifCond .ne 7, 3) := by decide +kernel
theorem dX10_isAvailable_28 : decode cX10_isAvailable 28 = .ok (.iconst 1, 1) := by decide +kernel
theorem dX10_isAvailable_29 : decode cX10_isAvailable 29 = .ok (.goto 4, 3) := by decide +kernel
theorem dX10_isAvailable_32 : decode cX10_isAvailable 32 = .ok (.iconst 0, 1) := by decide +kernel
theorem dX10_isAvailable_33 : decode cX10_isAvailable 33 = .ok (.ireturn, 1) := by decide +kernel
theorem dX10_missingSet_0 : decode cX10_missingSet 0 = .ok (.iconst 0, 1) := by decide +kernel
theorem dX10_missingSet_1 : decode cX10_missingSet 1 = .ok (.istore_n 2, 1) := by decide +kernel
theorem dX10_missingSet_2 : decode cX10_missingSet 2 = .ok (.iconst 0, 1) := by decide +kernel
theorem dX10_missingSet_3 : decode cX10_missingSet 3 = .ok (.istore_n 3, 1) := by decide +kernel
theorem dX10_missingSet_4 : decode cX10_missingSet 4 = .ok (.iload_n 3, 1) := by decide +kernel
theorem dX10_missingSet_5 : decode cX10_missingSet 5 = .ok (.aload_n 0, 1) := by decide +kernel
theorem dX10_missingSet_6 : decode cX10_missingSet 6 = .ok (.iload_n 1, 1) := by decide +kernel
theorem dX10_missingSet_7 : decode cX10_missingSet 7 = .ok (.invokevirtual 70, 3) := by decide +kernel
theorem dX10_missingSet_10 : decode cX10_missingSet 10 = .ok (.if_icmp .ge 28, 3) := by decide +kernel
theorem dX10_missingSet_13 : decode cX10_missingSet 13 = .ok (.iload_n 2, 1) := by decide +kernel
theorem dX10_missingSet_14 : decode cX10_missingSet 14 = .ok (.aload_n 0, 1) := by decide +kernel
theorem dX10_missingSet_15 : decode cX10_missingSet 15 = .ok (.iload_n 1, 1) := by decide +kernel
theorem dX10_missingSet_16 : decode cX10_missingSet 16 = .ok (.iload_n 3, 1) := by decide +kernel
theorem dX10_missingSet_17 : decode cX10_missingSet 17 = .ok (.invokevirtual 106, 3) := by decide +kernel
theorem dX10_missingSet_20 : decode cX10_missingSet 20 = .ok (.ifCond .eq 7, 3) := by decide +kernel
theorem dX10_missingSet_23 : decode cX10_missingSet 23 = .ok (.iconst 0, 1) := by decide +kernel
theorem dX10_missingSet_24 : decode cX10_missingSet 24 = .ok (.goto 6, 3) := by decide +kernel
theorem dX10_missingSet_27 : decode cX10_missingSet 27 = .ok (.iconst 1, 1) := by decide +kernel
theorem dX10_missingSet_28 : decode cX10_missingSet 28 = .ok (.iload_n 3, 1) := by decide +kernel
theorem dX10_missingSet_29 : decode cX10_missingSet 29 = .ok (.ishl, 1) := by decide +kernel
theorem dX10_missingSet_30 : decode cX10_missingSet 30 = .ok (.ior, 1) := by decide +kernel
theorem dX10_missingSet_31 : decode cX10_missingSet 31 = .ok (.istore_n 2, 1) := by decide +kernel
theorem dX10_missingSet_32 : decode cX10_missingSet 32 = .ok (.iinc 3 1, 3) := by decide +kernel
theorem dX10_missingSet_35 : decode cX10_missingSet 35 = .ok (.goto (-31), 3) := by decide +kernel
theorem dX10_missingSet_38 : decode cX10_missingSet 38 = .ok (.iload_n 2, 1) := by decide +kernel
theorem dX10_missingSet_39 : decode cX10_missingSet 39 = .ok (.ireturn, 1) := by decide +kernel
theorem dX10_bitCount_0 : decode cX10_bitCount 0 = .ok (.iconst 0, 1) := by decide +kernel
theorem dX10_bitCount_1 : decode cX10_bitCount 1 = .ok (.istore_n 1, 1) := by decide +kernel
theorem dX10_bitCount_2 : decode cX10_bitCount 2 = .ok (.iconst 0, 1) := by decide +kernel
theorem dX10_bitCount_3 : decode cX10_bitCount 3 = .ok (.istore_n 2, 1) := by decide +kernel
theorem dX10_bitCount_4 : decode cX10_bitCount 4 = .ok (.iload_n 2, 1) := by decide +kernel
theorem dX10_bitCount_5 : decode cX10_bitCount 5 = .ok (.bipush 16, 2) := by decide +kernel
theorem dX10_bitCount_7 : decode cX10_bitCount 7 = .ok (.if_icmp .ge 17, 3) := by decide +kernel
theorem dX10_bitCount_10 : decode cX10_bitCount 10 = .ok (.iload_n 1, 1) := by decide +kernel
theorem dX10_bitCount_11 : decode cX10_bitCount 11 = .ok (.iload_n 0, 1) := by decide +kernel
theorem dX10_bitCount_12 : decode cX10_bitCount 12 = .ok (.iload_n 2, 1) := by decide +kernel
theorem dX10_bitCount_13 : decode cX10_bitCount 13 = .ok (.ishr, 1) := by decide +kernel
theorem dX10_bitCount_14 : decode cX10_bitCount 14 = .ok (.iconst 1, 1) := by decide +kernel
theorem dX10_bitCount_15 : decode cX10_bitCount 15 = .ok (.iand, 1) := by decide +kernel
theorem dX10_bitCount_16 : decode cX10_bitCount 16 = .ok (.iadd, 1) := by decide +kernel
theorem dX10_bitCount_17 : decode cX10_bitCount 17 = .ok (.istore_n 1, 1) := by decide +kernel
theorem dX10_bitCount_18 : decode cX10_bitCount 18 = .ok (.iinc 2 1, 3) := by decide +kernel
theorem dX10_bitCount_21 : decode cX10_bitCount 21 = .ok (.goto (-17), 3) := by decide +kernel
theorem dX10_bitCount_24 : decode cX10_bitCount 24 = .ok (.iload_n 1, 1) := by decide +kernel
theorem dX10_bitCount_25 : decode cX10_bitCount 25 = .ok (.ireturn, 1) := by decide +kernel
theorem dX10_availableOf_0 : decode cX10_availableOf 0 = .ok (.aload_n 0, 1) := by decide +kernel
theorem dX10_availableOf_1 : decode cX10_availableOf 1 = .ok (.iload_n 1, 1) := by decide +kernel
theorem dX10_availableOf_2 : decode cX10_availableOf 2 = .ok (.invokevirtual 70, 3) := by decide +kernel
theorem dX10_availableOf_5 : decode cX10_availableOf 5 = .ok (.aload_n 0, 1) := by decide +kernel
theorem dX10_availableOf_6 : decode cX10_availableOf 6 = .ok (.iload_n 1, 1) := by decide +kernel
theorem dX10_availableOf_7 : decode cX10_availableOf 7 = .ok (.invokevirtual 109, 3) := by decide +kernel
theorem dX10_availableOf_10 : decode cX10_availableOf 10 = .ok (.invokestatic 112, 3) := by decide +kernel
theorem dX10_availableOf_13 : decode cX10_availableOf 13 = .ok (.isub, 1) := by decide +kernel
theorem dX10_availableOf_14 : decode cX10_availableOf 14 = .ok (.ireturn, 1) := by decide +kernel
theorem dX10_isLost_0 : decode cX10_isLost 0 = .ok (.aload_n 0, 1) := by decide +kernel
theorem dX10_isLost_1 : decode cX10_isLost 1 = .ok (.iload_n 1, 1) := by decide +kernel
theorem dX10_isLost_2 : decode cX10_isLost 2 = .ok (.invokevirtual 115, 3) := by decide +kernel
theorem dX10_isLost_5 : decode cX10_isLost 5 = .ok (.aload_n 0, 1) := by decide +kernel
theorem dX10_isLost_6 : decode cX10_isLost 6 = .ok (.iload_n 1, 1) := by decide +kernel
theorem dX10_isLost_7 : decode cX10_isLost 7 = .ok (.iconst 2, 1) := by decide +kernel
theorem dX10_isLost_8 : decode cX10_isLost 8 = .ok (.invokevirtual 66, 3) := by decide +kernel
theorem dX10_isLost_11 : decode cX10_isLost 11 = .ok (.if_icmp .ge 7, 3) := by decide +kernel
theorem dX10_isLost_14 : decode cX10_isLost 14 = .ok (.iconst 1, 1) := by decide +kernel
theorem dX10_isLost_15 : decode cX10_isLost 15 = .ok (.goto 4, 3) := by decide +kernel
theorem dX10_isLost_18 : decode cX10_isLost 18 = .ok (.iconst 0, 1) := by decide +kernel
theorem dX10_isLost_19 : decode cX10_isLost 19 = .ok (.ireturn, 1) := by decide +kernel
theorem dX10_firstMissing_0 : decode cX10_firstMissing 0 = .ok (.iconst 0, 1) := by decide +kernel
theorem dX10_firstMissing_1 : decode cX10_firstMissing 1 = .ok (.istore_n 2, 1) := by decide +kernel
theorem dX10_firstMissing_2 : decode cX10_firstMissing 2 = .ok (.iload_n 2, 1) := by decide +kernel
theorem dX10_firstMissing_3 : decode cX10_firstMissing 3 = .ok (.aload_n 0, 1) := by decide +kernel
theorem dX10_firstMissing_4 : decode cX10_firstMissing 4 = .ok (.iload_n 1, 1) := by decide +kernel
theorem dX10_firstMissing_5 : decode cX10_firstMissing 5 = .ok (.invokevirtual 70, 3) := by decide +kernel
theorem dX10_firstMissing_8 : decode cX10_firstMissing 8 = .ok (.if_icmp .ge 18, 3) := by decide +kernel
theorem dX10_firstMissing_11 : decode cX10_firstMissing 11 = .ok (.aload_n 0, 1) := by decide +kernel
theorem dX10_firstMissing_12 : decode cX10_firstMissing 12 = .ok (.iload_n 1, 1) := by decide +kernel
theorem dX10_firstMissing_13 : decode cX10_firstMissing 13 = .ok (.iload_n 2, 1) := by decide +kernel
theorem dX10_firstMissing_14 : decode cX10_firstMissing 14 = .ok (.invokevirtual 106, 3) := by decide +kernel
theorem dX10_firstMissing_17 : decode cX10_firstMissing 17 = .ok (.ifCond .eq 9, 3) := by decide +kernel
theorem dX10_firstMissing_20 : decode cX10_firstMissing 20 = .ok (.iinc 2 1, 3) := by decide +kernel
theorem dX10_firstMissing_23 : decode cX10_firstMissing 23 = .ok (.goto (-21), 3) := by decide +kernel
theorem dX10_firstMissing_26 : decode cX10_firstMissing 26 = .ok (.iload_n 2, 1) := by decide +kernel
theorem dX10_firstMissing_27 : decode cX10_firstMissing 27 = .ok (.aload_n 0, 1) := by decide +kernel
theorem dX10_firstMissing_28 : decode cX10_firstMissing 28 = .ok (.iload_n 1, 1) := by decide +kernel
theorem dX10_firstMissing_29 : decode cX10_firstMissing 29 = .ok (.invokevirtual 70, 3) := by decide +kernel
theorem dX10_firstMissing_32 : decode cX10_firstMissing 32 = .ok (.if_icmp .ne 7, 3) := by decide +kernel
theorem dX10_firstMissing_35 : decode cX10_firstMissing 35 = .ok (.iconst (-1), 1) := by decide +kernel
theorem dX10_firstMissing_36 : decode cX10_firstMissing 36 = .ok (.goto 4, 3) := by decide +kernel
theorem dX10_firstMissing_39 : decode cX10_firstMissing 39 = .ok (.iload_n 2, 1) := by decide +kernel
theorem dX10_firstMissing_40 : decode cX10_firstMissing 40 = .ok (.ireturn, 1) := by decide +kernel
theorem dX10_isDamaged_0 : decode cX10_isDamaged 0 = .ok (.aload_n 0, 1) := by decide +kernel
theorem dX10_isDamaged_1 : decode cX10_isDamaged 1 = .ok (.iload_n 1, 1) := by decide +kernel
theorem dX10_isDamaged_2 : decode cX10_isDamaged 2 = .ok (.invokevirtual 118, 3) := by decide +kernel
theorem dX10_isDamaged_5 : decode cX10_isDamaged 5 = .ok (.iconst (-1), 1) := by decide +kernel
theorem dX10_isDamaged_6 : decode cX10_isDamaged 6 = .ok (.if_icmp .eq 7, 3) := by decide +kernel
theorem dX10_isDamaged_9 : decode cX10_isDamaged 9 = .ok (.iconst 1, 1) := by decide +kernel
theorem dX10_isDamaged_10 : decode cX10_isDamaged 10 = .ok (.goto 4, 3) := by decide +kernel
theorem dX10_isDamaged_13 : decode cX10_isDamaged 13 = .ok (.iconst 0, 1) := by decide +kernel
theorem dX10_isDamaged_14 : decode cX10_isDamaged 14 = .ok (.ireturn, 1) := by decide +kernel
theorem dX10_lostSet_0 : decode cX10_lostSet 0 = .ok (.iconst 0, 1) := by decide +kernel
theorem dX10_lostSet_1 : decode cX10_lostSet 1 = .ok (.istore_n 1, 1) := by decide +kernel
theorem dX10_lostSet_2 : decode cX10_lostSet 2 = .ok (.iconst 0, 1) := by decide +kernel
theorem dX10_lostSet_3 : decode cX10_lostSet 3 = .ok (.istore_n 2, 1) := by decide +kernel
theorem dX10_lostSet_4 : decode cX10_lostSet 4 = .ok (.iload_n 2, 1) := by decide +kernel
theorem dX10_lostSet_5 : decode cX10_lostSet 5 = .ok (.aload_n 0, 1) := by decide +kernel
theorem dX10_lostSet_6 : decode cX10_lostSet 6 = .ok (.getfield 24, 3) := by decide +kernel
theorem dX10_lostSet_9 : decode cX10_lostSet 9 = .ok (.bipush 8, 2) := by decide +kernel
theorem dX10_lostSet_11 : decode cX10_lostSet 11 = .ok (.iaload, 1) := by decide +kernel
theorem dX10_lostSet_12 : decode cX10_lostSet 12 = .ok (.if_icmp .ge 27, 3) := by decide +kernel
theorem dX10_lostSet_15 : decode cX10_lostSet 15 = .ok (.iload_n 1, 1) := by decide +kernel
theorem dX10_lostSet_16 : decode cX10_lostSet 16 = .ok (.aload_n 0, 1) := by decide +kernel
theorem dX10_lostSet_17 : decode cX10_lostSet 17 = .ok (.iload_n 2, 1) := by decide +kernel
theorem dX10_lostSet_18 : decode cX10_lostSet 18 = .ok (.invokevirtual 121, 3) := by decide +kernel
theorem dX10_lostSet_21 : decode cX10_lostSet 21 = .ok (.ifCond .eq 9, 3) := by decide +kernel
theorem dX10_lostSet_24 : decode cX10_lostSet 24 = .ok (.iconst 1, 1) := by decide +kernel
theorem dX10_lostSet_25 : decode cX10_lostSet 25 = .ok (.iload_n 2, 1) := by decide +kernel
theorem dX10_lostSet_26 : decode cX10_lostSet 26 = .ok (.ishl, 1) := by decide +kernel
theorem dX10_lostSet_27 : decode cX10_lostSet 27 = .ok (.goto 4, 3) := by decide +kernel
theorem dX10_lostSet_30 : decode cX10_lostSet 30 = .ok (.iconst 0, 1) := by decide +kernel
theorem dX10_lostSet_31 : decode cX10_lostSet 31 = .ok (.ior, 1) := by decide +kernel
theorem dX10_lostSet_32 : decode cX10_lostSet 32 = .ok (.istore_n 1, 1) := by decide +kernel
theorem dX10_lostSet_33 : decode cX10_lostSet 33 = .ok (.iinc 2 1, 3) := by decide +kernel
theorem dX10_lostSet_36 : decode cX10_lostSet 36 = .ok (.goto (-32), 3) := by decide +kernel
theorem dX10_lostSet_39 : decode cX10_lostSet 39 = .ok (.iload_n 1, 1) := by decide +kernel
theorem dX10_lostSet_40 : decode cX10_lostSet 40 = .ok (.ireturn, 1) := by decide +kernel
theorem dX10_lossOf_0 : decode cX10_lossOf 0 = .ok (.aload_n 0, 1) := by decide +kernel
theorem dX10_lossOf_1 : decode cX10_lossOf 1 = .ok (.iload_n 1, 1) := by decide +kernel
theorem dX10_lossOf_2 : decode cX10_lossOf 2 = .ok (.invokevirtual 115, 3) := by decide +kernel
theorem dX10_lossOf_5 : decode cX10_lossOf 5 = .ok (.istore_n 2, 1) := by decide +kernel
theorem dX10_lossOf_6 : decode cX10_lossOf 6 = .ok (.aload_n 0, 1) := by decide +kernel
theorem dX10_lossOf_7 : decode cX10_lossOf 7 = .ok (.iload_n 1, 1) := by decide +kernel
theorem dX10_lossOf_8 : decode cX10_lossOf 8 = .ok (.iconst 2, 1) := by decide +kernel
theorem dX10_lossOf_9 : decode cX10_lossOf 9 = .ok (.invokevirtual 66, 3) := by decide +kernel
theorem dX10_lossOf_12 : decode cX10_lossOf 12 = .ok (.istore_n 3, 1) := by decide +kernel
theorem dX10_lossOf_13 : decode cX10_lossOf 13 = .ok (.iload_n 2, 1) := by decide +kernel
theorem dX10_lossOf_14 : decode cX10_lossOf 14 = .ok (.iload_n 3, 1) := by decide +kernel
theorem dX10_lossOf_15 : decode cX10_lossOf 15 = .ok (.if_icmp .ge 6, 3) := by decide +kernel
theorem dX10_lossOf_18 : decode cX10_lossOf 18 = .ok (.ldc 125, 2) := by decide +kernel
theorem dX10_lossOf_20 : decode cX10_lossOf 20 = .ok (.ireturn, 1) := by decide +kernel
theorem dX10_lossOf_21 : decode cX10_lossOf 21 = .ok (.iconst 0, 1) := by decide +kernel
theorem dX10_lossOf_22 : decode cX10_lossOf 22 = .ok (.istore 4, 2) := by decide +kernel
theorem dX10_lossOf_24 : decode cX10_lossOf 24 = .ok (.iload 4, 2) := by decide +kernel
theorem dX10_lossOf_26 : decode cX10_lossOf 26 = .ok (.bipush 10, 2) := by decide +kernel
theorem dX10_lossOf_28 : decode cX10_lossOf 28 = .ok (.if_icmp .gt 28, 3) := by decide +kernel
theorem dX10_lossOf_31 : decode cX10_lossOf 31 = .ok (.aload_n 0, 1) := by decide +kernel
theorem dX10_lossOf_32 : decode cX10_lossOf 32 = .ok (.getfield 27, 3) := by decide +kernel
theorem dX10_lossOf_35 : decode cX10_lossOf 35 = .ok (.iload 4, 2) := by decide +kernel
theorem dX10_lossOf_37 : decode cX10_lossOf 37 = .ok (.iload 4, 2) := by decide +kernel
theorem dX10_lossOf_39 : decode cX10_lossOf 39 = .ok (.ifCond .ne 9, 3) := by decide +kernel
theorem dX10_lossOf_42 : decode cX10_lossOf 42 = .ok (.ldc2_w 126, 3) := by decide +kernel
theorem dX10_lossOf_45 : decode cX10_lossOf 45 = .ok (.goto 4, 3) := by decide +kernel
theorem dX10_lossOf_48 : decode cX10_lossOf 48 = .ok (.lconst 0, 1) := by decide +kernel
theorem dX10_lossOf_49 : decode cX10_lossOf 49 = .ok (.lastore, 1) := by decide +kernel
theorem dX10_lossOf_50 : decode cX10_lossOf 50 = .ok (.iinc 4 1, 3) := by decide +kernel
theorem dX10_lossOf_53 : decode cX10_lossOf 53 = .ok (.goto (-29), 3) := by decide +kernel
theorem dX10_lossOf_56 : decode cX10_lossOf 56 = .ok (.iconst 0, 1) := by decide +kernel
theorem dX10_lossOf_57 : decode cX10_lossOf 57 = .ok (.istore 4, 2) := by decide +kernel
theorem dX10_lossOf_59 : decode cX10_lossOf 59 = .ok (.iload 4, 2) := by decide +kernel
theorem dX10_lossOf_61 : decode cX10_lossOf 61 = .ok (.aload_n 0, 1) := by decide +kernel
theorem dX10_lossOf_62 : decode cX10_lossOf 62 = .ok (.iload_n 1, 1) := by decide +kernel
theorem dX10_lossOf_63 : decode cX10_lossOf 63 = .ok (.invokevirtual 70, 3) := by decide +kernel
theorem dX10_lossOf_66 : decode cX10_lossOf 66 = .ok (.if_icmp .ge 98, 3) := by decide +kernel
theorem dX10_lossOf_69 : decode cX10_lossOf 69 = .ok (.aload_n 0, 1) := by decide +kernel
theorem dX10_lossOf_70 : decode cX10_lossOf 70 = .ok (.iload_n 1, 1) := by decide +kernel
theorem dX10_lossOf_71 : decode cX10_lossOf 71 = .ok (.iload 4, 2) := by decide +kernel
theorem dX10_lossOf_73 : decode cX10_lossOf 73 = .ok (.invokevirtual 106, 3) := by decide +kernel
theorem dX10_lossOf_76 : decode cX10_lossOf 76 = .ok (.ifCond .ne 6, 3) := by decide +kernel
theorem dX10_lossOf_79 : decode cX10_lossOf 79 = .ok (.goto 79, 3) := by decide +kernel
theorem dX10_lossOf_82 : decode cX10_lossOf 82 = .ok (.aload_n 0, 1) := by decide +kernel
theorem dX10_lossOf_83 : decode cX10_lossOf 83 = .ok (.aload_n 0, 1) := by decide +kernel
theorem dX10_lossOf_84 : decode cX10_lossOf 84 = .ok (.iload_n 1, 1) := by decide +kernel
theorem dX10_lossOf_85 : decode cX10_lossOf 85 = .ok (.iload 4, 2) := by decide +kernel
theorem dX10_lossOf_87 : decode cX10_lossOf 87 = .ok (.invokevirtual 74, 3) := by decide +kernel
theorem dX10_lossOf_90 : decode cX10_lossOf 90 = .ok (.iconst 2, 1) := by decide +kernel
theorem dX10_lossOf_91 : decode cX10_lossOf 91 = .ok (.invokevirtual 77, 3) := by decide +kernel
theorem dX10_lossOf_94 : decode cX10_lossOf 94 = .ok (.i2l, 1) := by decide +kernel
theorem dX10_lossOf_95 : decode cX10_lossOf 95 = .ok (.lstore 5, 2) := by decide +kernel
theorem dX10_lossOf_97 : decode cX10_lossOf 97 = .ok (.iload_n 2, 1) := by decide +kernel
theorem dX10_lossOf_98 : decode cX10_lossOf 98 = .ok (.istore 7, 2) := by decide +kernel
theorem dX10_lossOf_100 : decode cX10_lossOf 100 = .ok (.iload 7, 2) := by decide +kernel
theorem dX10_lossOf_102 : decode cX10_lossOf 102 = .ok (.ifCond .lt 56, 3) := by decide +kernel
theorem dX10_lossOf_105 : decode cX10_lossOf 105 = .ok (.aload_n 0, 1) := by decide +kernel
theorem dX10_lossOf_106 : decode cX10_lossOf 106 = .ok (.getfield 27, 3) := by decide +kernel
theorem dX10_lossOf_109 : decode cX10_lossOf 109 = .ok (.iload 7, 2) := by decide +kernel
theorem dX10_lossOf_111 : decode cX10_lossOf 111 = .ok (.aload_n 0, 1) := by decide +kernel
theorem dX10_lossOf_112 : decode cX10_lossOf 112 = .ok (.getfield 27, 3) := by decide +kernel
theorem dX10_lossOf_115 : decode cX10_lossOf 115 = .ok (.iload 7, 2) := by decide +kernel
theorem dX10_lossOf_117 : decode cX10_lossOf 117 = .ok (.laload, 1) := by decide +kernel
theorem dX10_lossOf_118 : decode cX10_lossOf 118 = .ok (.ldc2_w 128, 3) := by decide +kernel
theorem dX10_lossOf_121 : decode cX10_lossOf 121 = .ok (.lload 5, 2) := by decide +kernel
theorem dX10_lossOf_123 : decode cX10_lossOf 123 = .ok (.lsub, 1) := by decide +kernel
theorem dX10_lossOf_124 : decode cX10_lossOf 124 = .ok (.lmul, 1) := by decide +kernel
theorem dX10_lossOf_125 : decode cX10_lossOf 125 = .ok (.iload 7, 2) := by decide +kernel
theorem dX10_lossOf_127 : decode cX10_lossOf 127 = .ok (.ifCond .ne 7, 3) := by decide +kernel
theorem dX10_lossOf_130 : decode cX10_lossOf 130 = .ok (.lconst 0, 1) := by decide +kernel
theorem dX10_lossOf_131 : decode cX10_lossOf 131 = .ok (.goto 15, 3) := by decide +kernel
theorem dX10_lossOf_134 : decode cX10_lossOf 134 = .ok (.aload_n 0, 1) := by decide +kernel
theorem dX10_lossOf_135 : decode cX10_lossOf 135 = .ok (.getfield 27, 3) := by decide +kernel
theorem dX10_lossOf_138 : decode cX10_lossOf 138 = .ok (.iload 7, 2) := by decide +kernel
theorem dX10_lossOf_140 : decode cX10_lossOf 140 = .ok (.iconst 1, 1) := by decide +kernel
theorem dX10_lossOf_141 : decode cX10_lossOf 141 = .ok (.isub, 1) := by decide +kernel
theorem dX10_lossOf_142 : decode cX10_lossOf 142 = .ok (.laload, 1) := by decide +kernel
theorem dX10_lossOf_143 : decode cX10_lossOf 143 = .ok (.lload 5, 2) := by decide +kernel
theorem dX10_lossOf_145 : decode cX10_lossOf 145 = .ok (.lmul, 1) := by decide +kernel
theorem dX10_lossOf_146 : decode cX10_lossOf 146 = .ok (.ladd, 1) := by decide +kernel
theorem dX10_lossOf_147 : decode cX10_lossOf 147 = .ok (.ldc2_w 128, 3) := by decide +kernel
theorem dX10_lossOf_150 : decode cX10_lossOf 150 = .ok (.ldiv, 1) := by decide +kernel
theorem dX10_lossOf_151 : decode cX10_lossOf 151 = .ok (.lastore, 1) := by decide +kernel
theorem dX10_lossOf_152 : decode cX10_lossOf 152 = .ok (.iinc 7 (-1), 3) := by decide +kernel
theorem dX10_lossOf_155 : decode cX10_lossOf 155 = .ok (.goto (-55), 3) := by decide +kernel
theorem dX10_lossOf_158 : decode cX10_lossOf 158 = .ok (.iinc 4 1, 3) := by decide +kernel
theorem dX10_lossOf_161 : decode cX10_lossOf 161 = .ok (.goto (-102), 3) := by decide +kernel
theorem dX10_lossOf_164 : decode cX10_lossOf 164 = .ok (.lconst 0, 1) := by decide +kernel
theorem dX10_lossOf_165 : decode cX10_lossOf 165 = .ok (.lstore 4, 2) := by decide +kernel
theorem dX10_lossOf_167 : decode cX10_lossOf 167 = .ok (.iload_n 2, 1) := by decide +kernel
theorem dX10_lossOf_168 : decode cX10_lossOf 168 = .ok (.iload_n 3, 1) := by decide +kernel
theorem dX10_lossOf_169 : decode cX10_lossOf 169 = .ok (.isub, 1) := by decide +kernel
theorem dX10_lossOf_170 : decode cX10_lossOf 170 = .ok (.iconst 1, 1) := by decide +kernel
theorem dX10_lossOf_171 : decode cX10_lossOf 171 = .ok (.iadd, 1) := by decide +kernel
theorem dX10_lossOf_172 : decode cX10_lossOf 172 = .ok (.istore 6, 2) := by decide +kernel
theorem dX10_lossOf_174 : decode cX10_lossOf 174 = .ok (.iload 6, 2) := by decide +kernel
theorem dX10_lossOf_176 : decode cX10_lossOf 176 = .ok (.iload_n 2, 1) := by decide +kernel
theorem dX10_lossOf_177 : decode cX10_lossOf 177 = .ok (.if_icmp .gt 21, 3) := by decide +kernel
theorem dX10_lossOf_180 : decode cX10_lossOf 180 = .ok (.lload 4, 2) := by decide +kernel
theorem dX10_lossOf_182 : decode cX10_lossOf 182 = .ok (.aload_n 0, 1) := by decide +kernel
theorem dX10_lossOf_183 : decode cX10_lossOf 183 = .ok (.getfield 27, 3) := by decide +kernel
theorem dX10_lossOf_186 : decode cX10_lossOf 186 = .ok (.iload 6, 2) := by decide +kernel
theorem dX10_lossOf_188 : decode cX10_lossOf 188 = .ok (.laload, 1) := by decide +kernel
theorem dX10_lossOf_189 : decode cX10_lossOf 189 = .ok (.ladd, 1) := by decide +kernel
theorem dX10_lossOf_190 : decode cX10_lossOf 190 = .ok (.lstore 4, 2) := by decide +kernel
theorem dX10_lossOf_192 : decode cX10_lossOf 192 = .ok (.iinc 6 1, 3) := by decide +kernel
theorem dX10_lossOf_195 : decode cX10_lossOf 195 = .ok (.goto (-21), 3) := by decide +kernel
theorem dX10_lossOf_198 : decode cX10_lossOf 198 = .ok (.lload 4, 2) := by decide +kernel
theorem dX10_lossOf_200 : decode cX10_lossOf 200 = .ok (.l2i, 1) := by decide +kernel
theorem dX10_lossOf_201 : decode cX10_lossOf 201 = .ok (.ireturn, 1) := by decide +kernel
theorem dX10_lossSum_0 : decode cX10_lossSum 0 = .ok (.lconst 0, 1) := by decide +kernel
theorem dX10_lossSum_1 : decode cX10_lossSum 1 = .ok (.lstore_n 1, 1) := by decide +kernel
theorem dX10_lossSum_2 : decode cX10_lossSum 2 = .ok (.iconst 0, 1) := by decide +kernel
theorem dX10_lossSum_3 : decode cX10_lossSum 3 = .ok (.istore_n 3, 1) := by decide +kernel
theorem dX10_lossSum_4 : decode cX10_lossSum 4 = .ok (.iload_n 3, 1) := by decide +kernel
theorem dX10_lossSum_5 : decode cX10_lossSum 5 = .ok (.aload_n 0, 1) := by decide +kernel
theorem dX10_lossSum_6 : decode cX10_lossSum 6 = .ok (.getfield 24, 3) := by decide +kernel
theorem dX10_lossSum_9 : decode cX10_lossSum 9 = .ok (.bipush 8, 2) := by decide +kernel
theorem dX10_lossSum_11 : decode cX10_lossSum 11 = .ok (.iaload, 1) := by decide +kernel
theorem dX10_lossSum_12 : decode cX10_lossSum 12 = .ok (.if_icmp .ge 26, 3) := by decide +kernel
theorem dX10_lossSum_15 : decode cX10_lossSum 15 = .ok (.lload_n 1, 1) := by decide +kernel
theorem dX10_lossSum_16 : decode cX10_lossSum 16 = .ok (.aload_n 0, 1) := by decide +kernel
theorem dX10_lossSum_17 : decode cX10_lossSum 17 = .ok (.iload_n 3, 1) := by decide +kernel
theorem dX10_lossSum_18 : decode cX10_lossSum 18 = .ok (.iconst 5, 1) := by decide +kernel
theorem dX10_lossSum_19 : decode cX10_lossSum 19 = .ok (.invokevirtual 66, 3) := by decide +kernel
theorem dX10_lossSum_22 : decode cX10_lossSum 22 = .ok (.i2l, 1) := by decide +kernel
theorem dX10_lossSum_23 : decode cX10_lossSum 23 = .ok (.aload_n 0, 1) := by decide +kernel
theorem dX10_lossSum_24 : decode cX10_lossSum 24 = .ok (.iload_n 3, 1) := by decide +kernel
theorem dX10_lossSum_25 : decode cX10_lossSum 25 = .ok (.invokevirtual 130, 3) := by decide +kernel
theorem dX10_lossSum_28 : decode cX10_lossSum 28 = .ok (.i2l, 1) := by decide +kernel
theorem dX10_lossSum_29 : decode cX10_lossSum 29 = .ok (.lmul, 1) := by decide +kernel
theorem dX10_lossSum_30 : decode cX10_lossSum 30 = .ok (.ladd, 1) := by decide +kernel
theorem dX10_lossSum_31 : decode cX10_lossSum 31 = .ok (.lstore_n 1, 1) := by decide +kernel
theorem dX10_lossSum_32 : decode cX10_lossSum 32 = .ok (.iinc 3 1, 3) := by decide +kernel
theorem dX10_lossSum_35 : decode cX10_lossSum 35 = .ok (.goto (-31), 3) := by decide +kernel
theorem dX10_lossSum_38 : decode cX10_lossSum 38 = .ok (.lload_n 1, 1) := by decide +kernel
theorem dX10_lossSum_39 : decode cX10_lossSum 39 = .ok (.lreturn, 1) := by decide +kernel
theorem dX10_costOf_0 : decode cX10_costOf 0 = .ok (.aload_n 0, 1) := by decide +kernel
theorem dX10_costOf_1 : decode cX10_costOf 1 = .ok (.iload_n 1, 1) := by decide +kernel
theorem dX10_costOf_2 : decode cX10_costOf 2 = .ok (.iconst 2, 1) := by decide +kernel
theorem dX10_costOf_3 : decode cX10_costOf 3 = .ok (.invokevirtual 66, 3) := by decide +kernel
theorem dX10_costOf_6 : decode cX10_costOf 6 = .ok (.iconst 1, 1) := by decide +kernel
theorem dX10_costOf_7 : decode cX10_costOf 7 = .ok (.iadd, 1) := by decide +kernel
theorem dX10_costOf_8 : decode cX10_costOf 8 = .ok (.aload_n 0, 1) := by decide +kernel
theorem dX10_costOf_9 : decode cX10_costOf 9 = .ok (.iload_n 1, 1) := by decide +kernel
theorem dX10_costOf_10 : decode cX10_costOf 10 = .ok (.iconst 4, 1) := by decide +kernel
theorem dX10_costOf_11 : decode cX10_costOf 11 = .ok (.invokevirtual 66, 3) := by decide +kernel
theorem dX10_costOf_14 : decode cX10_costOf 14 = .ok (.imul, 1) := by decide +kernel
theorem dX10_costOf_15 : decode cX10_costOf 15 = .ok (.ireturn, 1) := by decide +kernel
theorem dX10_needOf_0 : decode cX10_needOf 0 = .ok (.iconst 0, 1) := by decide +kernel
theorem dX10_needOf_1 : decode cX10_needOf 1 = .ok (.aload_n 0, 1) := by decide +kernel
theorem dX10_needOf_2 : decode cX10_needOf 2 = .ok (.iload_n 1, 1) := by decide +kernel
theorem dX10_needOf_3 : decode cX10_needOf 3 = .ok (.invokevirtual 109, 3) := by decide +kernel
theorem dX10_needOf_6 : decode cX10_needOf 6 = .ok (.invokestatic 112, 3) := by decide +kernel
theorem dX10_needOf_9 : decode cX10_needOf 9 = .ok (.aload_n 0, 1) := by decide +kernel
theorem dX10_needOf_10 : decode cX10_needOf 10 = .ok (.iload_n 1, 1) := by decide +kernel
theorem dX10_needOf_11 : decode cX10_needOf 11 = .ok (.invokevirtual 133, 3) := by decide +kernel
theorem dX10_needOf_14 : decode cX10_needOf 14 = .ok (.imul, 1) := by decide +kernel
theorem dX10_needOf_15 : decode cX10_needOf 15 = .ok (.aload_n 0, 1) := by decide +kernel
theorem dX10_needOf_16 : decode cX10_needOf 16 = .ok (.iload_n 1, 1) := by decide +kernel
theorem dX10_needOf_17 : decode cX10_needOf 17 = .ok (.bipush 6, 2) := by decide +kernel
theorem dX10_needOf_19 : decode cX10_needOf 19 = .ok (.invokevirtual 66, 3) := by decide +kernel
theorem dX10_needOf_22 : decode cX10_needOf 22 = .ok (.isub, 1) := by decide +kernel
theorem dX10_needOf_23 : decode cX10_needOf 23 = .ok (.invokestatic 136, 3) := by decide +kernel
theorem dX10_needOf_26 : decode cX10_needOf 26 = .ok (.ireturn, 1) := by decide +kernel
theorem dX10_offerOf_0 : decode cX10_offerOf 0 = .ok (.ldc2_w 141, 3) := by decide +kernel
theorem dX10_offerOf_3 : decode cX10_offerOf 3 = .ok (.aload_n 0, 1) := by decide +kernel
theorem dX10_offerOf_4 : decode cX10_offerOf 4 = .ok (.iload_n 1, 1) := by decide +kernel
theorem dX10_offerOf_5 : decode cX10_offerOf 5 = .ok (.iconst 5, 1) := by decide +kernel
theorem dX10_offerOf_6 : decode cX10_offerOf 6 = .ok (.invokevirtual 66, 3) := by decide +kernel
theorem dX10_offerOf_9 : decode cX10_offerOf 9 = .ok (.i2l, 1) := by decide +kernel
theorem dX10_offerOf_10 : decode cX10_offerOf 10 = .ok (.aload_n 0, 1) := by decide +kernel
theorem dX10_offerOf_11 : decode cX10_offerOf 11 = .ok (.iload_n 1, 1) := by decide +kernel
theorem dX10_offerOf_12 : decode cX10_offerOf 12 = .ok (.invokevirtual 130, 3) := by decide +kernel
theorem dX10_offerOf_15 : decode cX10_offerOf 15 = .ok (.i2l, 1) := by decide +kernel
theorem dX10_offerOf_16 : decode cX10_offerOf 16 = .ok (.lmul, 1) := by decide +kernel
theorem dX10_offerOf_17 : decode cX10_offerOf 17 = .ok (.ldc2_w 143, 3) := by decide +kernel
theorem dX10_offerOf_20 : decode cX10_offerOf 20 = .ok (.ldiv, 1) := by decide +kernel
theorem dX10_offerOf_21 : decode cX10_offerOf 21 = .ok (.invokestatic 145, 3) := by decide +kernel
theorem dX10_offerOf_24 : decode cX10_offerOf 24 = .ok (.l2i, 1) := by decide +kernel
theorem dX10_offerOf_25 : decode cX10_offerOf 25 = .ok (.ireturn, 1) := by decide +kernel
theorem dX10_isBidding_0 : decode cX10_isBidding 0 = .ok (.aload_n 0, 1) := by decide +kernel
theorem dX10_isBidding_1 : decode cX10_isBidding 1 = .ok (.iload_n 1, 1) := by decide +kernel
theorem dX10_isBidding_2 : decode cX10_isBidding 2 = .ok (.invokevirtual 149, 3) := by decide +kernel
theorem dX10_isBidding_5 : decode cX10_isBidding 5 = .ok (.ifCond .eq 33, 3) := by decide +kernel
theorem dX10_isBidding_8 : decode cX10_isBidding 8 = .ok (.aload_n 0, 1) := by decide +kernel
theorem dX10_isBidding_9 : decode cX10_isBidding 9 = .ok (.iload_n 1, 1) := by decide +kernel
theorem dX10_isBidding_10 : decode cX10_isBidding 10 = .ok (.invokevirtual 121, 3) := by decide +kernel
theorem dX10_isBidding_13 : decode cX10_isBidding 13 = .ok (.ifCond .ne 25, 3) := by decide +kernel
theorem dX10_isBidding_16 : decode cX10_isBidding 16 = .ok (.aload_n 0, 1) := by decide +kernel
theorem dX10_isBidding_17 : decode cX10_isBidding 17 = .ok (.iload_n 1, 1) := by decide +kernel
theorem dX10_isBidding_18 : decode cX10_isBidding 18 = .ok (.invokevirtual 152, 3) := by decide +kernel
theorem dX10_isBidding_21 : decode cX10_isBidding 21 = .ok (.ifCond .eq 17, 3) := by decide +kernel
theorem dX10_isBidding_24 : decode cX10_isBidding 24 = .ok (.aload_n 0, 1) := by decide +kernel
theorem dX10_isBidding_25 : decode cX10_isBidding 25 = .ok (.iload_n 1, 1) := by decide +kernel
theorem dX10_isBidding_26 : decode cX10_isBidding 26 = .ok (.aload_n 0, 1) := by decide +kernel
theorem dX10_isBidding_27 : decode cX10_isBidding 27 = .ok (.iload_n 1, 1) := by decide +kernel
theorem dX10_isBidding_28 : decode cX10_isBidding 28 = .ok (.invokevirtual 118, 3) := by decide +kernel
theorem dX10_isBidding_31 : decode cX10_isBidding 31 = .ok (.invokevirtual 155, 3) := by decide +kernel
theorem dX10_isBidding_34 : decode cX10_isBidding 34 = .ok (.iconst (-1), 1) := by decide +kernel
theorem dX10_isBidding_35 : decode cX10_isBidding 35 = .ok (.if_icmp .ne 5, 3) := by decide +kernel
theorem dX10_isBidding_38 : decode cX10_isBidding 38 = .ok (.iconst 0, 1) := by decide +kernel
theorem dX10_isBidding_39 : decode cX10_isBidding 39 = .ok (.ireturn, 1) := by decide +kernel
theorem dX10_isBidding_40 : decode cX10_isBidding 40 = .ok (.aload_n 0, 1) := by decide +kernel
theorem dX10_isBidding_41 : decode cX10_isBidding 41 = .ok (.iload_n 1, 1) := by decide +kernel
theorem dX10_isBidding_42 : decode cX10_isBidding 42 = .ok (.invokevirtual 158, 3) := by decide +kernel
theorem dX10_isBidding_45 : decode cX10_isBidding 45 = .ok (.iconst 1, 1) := by decide +kernel
theorem dX10_isBidding_46 : decode cX10_isBidding 46 = .ok (.aload_n 0, 1) := by decide +kernel
theorem dX10_isBidding_47 : decode cX10_isBidding 47 = .ok (.getfield 24, 3) := by decide +kernel
theorem dX10_isBidding_50 : decode cX10_isBidding 50 = .ok (.iconst 2, 1) := by decide +kernel
theorem dX10_isBidding_51 : decode cX10_isBidding 51 = .ok (.iaload, 1) := by decide +kernel
theorem dX10_isBidding_52 : decode cX10_isBidding 52 = .ok (.invokestatic 136, 3) := by decide +kernel
theorem dX10_isBidding_55 : decode cX10_isBidding 55 = .ok (.if_icmp .lt 7, 3) := by decide +kernel
theorem dX10_isBidding_58 : decode cX10_isBidding 58 = .ok (.iconst 1, 1) := by decide +kernel
theorem dX10_isBidding_59 : decode cX10_isBidding 59 = .ok (.goto 4, 3) := by decide +kernel
theorem dX10_isBidding_62 : decode cX10_isBidding 62 = .ok (.iconst 0, 1) := by decide +kernel
theorem dX10_isBidding_63 : decode cX10_isBidding 63 = .ok (.ireturn, 1) := by decide +kernel
theorem dX10_layBids_0 : decode cX10_layBids 0 = .ok (.aload_n 0, 1) := by decide +kernel
theorem dX10_layBids_1 : decode cX10_layBids 1 = .ok (.iconst 0, 1) := by decide +kernel
theorem dX10_layBids_2 : decode cX10_layBids 2 = .ok (.putfield 161, 3) := by decide +kernel
theorem dX10_layBids_5 : decode cX10_layBids 5 = .ok (.iconst 0, 1) := by decide +kernel
theorem dX10_layBids_6 : decode cX10_layBids 6 = .ok (.istore_n 1, 1) := by decide +kernel
theorem dX10_layBids_7 : decode cX10_layBids 7 = .ok (.iload_n 1, 1) := by decide +kernel
theorem dX10_layBids_8 : decode cX10_layBids 8 = .ok (.aload_n 0, 1) := by decide +kernel
theorem dX10_layBids_9 : decode cX10_layBids 9 = .ok (.getfield 24, 3) := by decide +kernel
theorem dX10_layBids_12 : decode cX10_layBids 12 = .ok (.bipush 8, 2) := by decide +kernel
theorem dX10_layBids_14 : decode cX10_layBids 14 = .ok (.iaload, 1) := by decide +kernel
theorem dX10_layBids_15 : decode cX10_layBids 15 = .ok (.if_icmp .ge 105, 3) := by decide +kernel
theorem dX10_layBids_18 : decode cX10_layBids 18 = .ok (.aload_n 0, 1) := by decide +kernel
theorem dX10_layBids_19 : decode cX10_layBids 19 = .ok (.iload_n 1, 1) := by decide +kernel
theorem dX10_layBids_20 : decode cX10_layBids 20 = .ok (.invokevirtual 164, 3) := by decide +kernel
theorem dX10_layBids_23 : decode cX10_layBids 23 = .ok (.ifCond .ne 6, 3) := by decide +kernel
theorem dX10_layBids_26 : decode cX10_layBids 26 = .ok (.goto 88, 3) := by decide +kernel
theorem dX10_layBids_29 : decode cX10_layBids 29 = .ok (.aload_n 0, 1) := by decide +kernel
theorem dX10_layBids_30 : decode cX10_layBids 30 = .ok (.iload_n 1, 1) := by decide +kernel
theorem dX10_layBids_31 : decode cX10_layBids 31 = .ok (.invokevirtual 158, 3) := by decide +kernel
theorem dX10_layBids_34 : decode cX10_layBids 34 = .ok (.istore_n 2, 1) := by decide +kernel
theorem dX10_layBids_35 : decode cX10_layBids 35 = .ok (.aload_n 0, 1) := by decide +kernel
theorem dX10_layBids_36 : decode cX10_layBids 36 = .ok (.getfield 161, 3) := by decide +kernel
theorem dX10_layBids_39 : decode cX10_layBids 39 = .ok (.istore_n 3, 1) := by decide +kernel
theorem dX10_layBids_40 : decode cX10_layBids 40 = .ok (.iload_n 3, 1) := by decide +kernel
theorem dX10_layBids_41 : decode cX10_layBids 41 = .ok (.ifCond .le 49, 3) := by decide +kernel
theorem dX10_layBids_44 : decode cX10_layBids 44 = .ok (.aload_n 0, 1) := by decide +kernel
theorem dX10_layBids_45 : decode cX10_layBids 45 = .ok (.getfield 34, 3) := by decide +kernel
theorem dX10_layBids_48 : decode cX10_layBids 48 = .ok (.iload_n 3, 1) := by decide +kernel
theorem dX10_layBids_49 : decode cX10_layBids 49 = .ok (.iconst 1, 1) := by decide +kernel
theorem dX10_layBids_50 : decode cX10_layBids 50 = .ok (.isub, 1) := by decide +kernel
theorem dX10_layBids_51 : decode cX10_layBids 51 = .ok (.iaload, 1) := by decide +kernel
theorem dX10_layBids_52 : decode cX10_layBids 52 = .ok (.iload_n 2, 1) := by decide +kernel
theorem dX10_layBids_53 : decode cX10_layBids 53 = .ok (.if_icmp .ge 37, 3) := by decide +kernel
theorem dX10_layBids_56 : decode cX10_layBids 56 = .ok (.aload_n 0, 1) := by decide +kernel
theorem dX10_layBids_57 : decode cX10_layBids 57 = .ok (.getfield 31, 3) := by decide +kernel
theorem dX10_layBids_60 : decode cX10_layBids 60 = .ok (.iload_n 3, 1) := by decide +kernel
theorem dX10_layBids_61 : decode cX10_layBids 61 = .ok (.aload_n 0, 1) := by decide +kernel
theorem dX10_layBids_62 : decode cX10_layBids 62 = .ok (.getfield 31, 3) := by decide +kernel
theorem dX10_layBids_65 : decode cX10_layBids 65 = .ok (.iload_n 3, 1) := by decide +kernel
theorem dX10_layBids_66 : decode cX10_layBids 66 = .ok (.iconst 1, 1) := by decide +kernel
theorem dX10_layBids_67 : decode cX10_layBids 67 = .ok (.isub, 1) := by decide +kernel
theorem dX10_layBids_68 : decode cX10_layBids 68 = .ok (.iaload, 1) := by decide +kernel
theorem dX10_layBids_69 : decode cX10_layBids 69 = .ok (.iastore, 1) := by decide +kernel
theorem dX10_layBids_70 : decode cX10_layBids 70 = .ok (.aload_n 0, 1) := by decide +kernel
theorem dX10_layBids_71 : decode cX10_layBids 71 = .ok (.getfield 34, 3) := by decide +kernel
theorem dX10_layBids_74 : decode cX10_layBids 74 = .ok (.iload_n 3, 1) := by decide +kernel
theorem dX10_layBids_75 : decode cX10_layBids 75 = .ok (.aload_n 0, 1) := by decide +kernel
theorem dX10_layBids_76 : decode cX10_layBids 76 = .ok (.getfield 34, 3) := by decide +kernel
theorem dX10_layBids_79 : decode cX10_layBids 79 = .ok (.iload_n 3, 1) := by decide +kernel
theorem dX10_layBids_80 : decode cX10_layBids 80 = .ok (.iconst 1, 1) := by decide +kernel
theorem dX10_layBids_81 : decode cX10_layBids 81 = .ok (.isub, 1) := by decide +kernel
theorem dX10_layBids_82 : decode cX10_layBids 82 = .ok (.iaload, 1) := by decide +kernel
theorem dX10_layBids_83 : decode cX10_layBids 83 = .ok (.iastore, 1) := by decide +kernel
theorem dX10_layBids_84 : decode cX10_layBids 84 = .ok (.iinc 3 (-1), 3) := by decide +kernel
theorem dX10_layBids_87 : decode cX10_layBids 87 = .ok (.goto (-47), 3) := by decide +kernel
theorem dX10_layBids_90 : decode cX10_layBids 90 = .ok (.aload_n 0, 1) := by decide +kernel
theorem dX10_layBids_91 : decode cX10_layBids 91 = .ok (.getfield 31, 3) := by decide +kernel
theorem dX10_layBids_94 : decode cX10_layBids 94 = .ok (.iload_n 3, 1) := by decide +kernel
theorem dX10_layBids_95 : decode cX10_layBids 95 = .ok (.iload_n 1, 1) := by decide +kernel
theorem dX10_layBids_96 : decode cX10_layBids 96 = .ok (.iastore, 1) := by decide +kernel
theorem dX10_layBids_97 : decode cX10_layBids 97 = .ok (.aload_n 0, 1) := by decide +kernel
theorem dX10_layBids_98 : decode cX10_layBids 98 = .ok (.getfield 34, 3) := by decide +kernel
theorem dX10_layBids_101 : decode cX10_layBids 101 = .ok (.iload_n 3, 1) := by decide +kernel
theorem dX10_layBids_102 : decode cX10_layBids 102 = .ok (.iload_n 2, 1) := by decide +kernel
theorem dX10_layBids_103 : decode cX10_layBids 103 = .ok (.iastore, 1) := by decide +kernel
theorem dX10_layBids_104 : decode cX10_layBids 104 = .ok (.aload_n 0, 1) := by decide +kernel
theorem dX10_layBids_105 : decode cX10_layBids 105 = .ok (.dup, 1) := by decide +kernel
theorem dX10_layBids_106 : decode cX10_layBids 106 = .ok (.getfield 161, 3) := by decide +kernel
theorem dX10_layBids_109 : decode cX10_layBids 109 = .ok (.iconst 1, 1) := by decide +kernel
theorem dX10_layBids_110 : decode cX10_layBids 110 = .ok (.iadd, 1) := by decide +kernel
theorem dX10_layBids_111 : decode cX10_layBids 111 = .ok (.putfield 161, 3) := by decide +kernel
theorem dX10_layBids_114 : decode cX10_layBids 114 = .ok (.iinc 1 1, 3) := by decide +kernel
theorem dX10_layBids_117 : decode cX10_layBids 117 = .ok (.goto (-110), 3) := by decide +kernel
theorem dX10_layBids_120 : decode cX10_layBids 120 = .ok (.iconst 0, 1) := by decide +kernel
theorem dX10_layBids_121 : decode cX10_layBids 121 = .ok (.istore_n 1, 1) := by decide +kernel
theorem dX10_layBids_122 : decode cX10_layBids 122 = .ok (.iload_n 1, 1) := by decide +kernel
theorem dX10_layBids_123 : decode cX10_layBids 123 = .ok (.aload_n 0, 1) := by decide +kernel
theorem dX10_layBids_124 : decode cX10_layBids 124 = .ok (.getfield 161, 3) := by decide +kernel
theorem dX10_layBids_127 : decode cX10_layBids 127 = .ok (.if_icmp .ge 25, 3) := by decide +kernel
theorem dX10_layBids_130 : decode cX10_layBids 130 = .ok (.aload_n 0, 1) := by decide +kernel
theorem dX10_layBids_131 : decode cX10_layBids 131 = .ok (.getfield 37, 3) := by decide +kernel
theorem dX10_layBids_134 : decode cX10_layBids 134 = .ok (.iload_n 1, 1) := by decide +kernel
theorem dX10_layBids_135 : decode cX10_layBids 135 = .ok (.aload_n 0, 1) := by decide +kernel
theorem dX10_layBids_136 : decode cX10_layBids 136 = .ok (.aload_n 0, 1) := by decide +kernel
theorem dX10_layBids_137 : decode cX10_layBids 137 = .ok (.getfield 31, 3) := by decide +kernel
theorem dX10_layBids_140 : decode cX10_layBids 140 = .ok (.iload_n 1, 1) := by decide +kernel
theorem dX10_layBids_141 : decode cX10_layBids 141 = .ok (.iaload, 1) := by decide +kernel
theorem dX10_layBids_142 : decode cX10_layBids 142 = .ok (.invokevirtual 152, 3) := by decide +kernel
theorem dX10_layBids_145 : decode cX10_layBids 145 = .ok (.iastore, 1) := by decide +kernel
theorem dX10_layBids_146 : decode cX10_layBids 146 = .ok (.iinc 1 1, 3) := by decide +kernel
theorem dX10_layBids_149 : decode cX10_layBids 149 = .ok (.goto (-27), 3) := by decide +kernel
theorem dX10_layBids_152 : decode cX10_layBids 152 = .ok (.return_, 1) := by decide +kernel
theorem dX10_grownPurse_0 : decode cX10_grownPurse 0 = .ok (.aload_n 0, 1) := by decide +kernel
theorem dX10_grownPurse_1 : decode cX10_grownPurse 1 = .ok (.iload_n 1, 1) := by decide +kernel
theorem dX10_grownPurse_2 : decode cX10_grownPurse 2 = .ok (.iconst 2, 1) := by decide +kernel
theorem dX10_grownPurse_3 : decode cX10_grownPurse 3 = .ok (.invokevirtual 167, 3) := by decide +kernel
theorem dX10_grownPurse_6 : decode cX10_grownPurse 6 = .ok (.istore_n 2, 1) := by decide +kernel
theorem dX10_grownPurse_7 : decode cX10_grownPurse 7 = .ok (.iload_n 2, 1) := by decide +kernel
theorem dX10_grownPurse_8 : decode cX10_grownPurse 8 = .ok (.aload_n 0, 1) := by decide +kernel
theorem dX10_grownPurse_9 : decode cX10_grownPurse 9 = .ok (.iload_n 1, 1) := by decide +kernel
theorem dX10_grownPurse_10 : decode cX10_grownPurse 10 = .ok (.iconst 1, 1) := by decide +kernel
theorem dX10_grownPurse_11 : decode cX10_grownPurse 11 = .ok (.invokevirtual 167, 3) := by decide +kernel
theorem dX10_grownPurse_14 : decode cX10_grownPurse 14 = .ok (.iload_n 2, 1) := by decide +kernel
theorem dX10_grownPurse_15 : decode cX10_grownPurse 15 = .ok (.aload_n 0, 1) := by decide +kernel
theorem dX10_grownPurse_16 : decode cX10_grownPurse 16 = .ok (.iload_n 1, 1) := by decide +kernel
theorem dX10_grownPurse_17 : decode cX10_grownPurse 17 = .ok (.iconst 0, 1) := by decide +kernel
theorem dX10_grownPurse_18 : decode cX10_grownPurse 18 = .ok (.invokevirtual 167, 3) := by decide +kernel
theorem dX10_grownPurse_21 : decode cX10_grownPurse 21 = .ok (.iadd, 1) := by decide +kernel
theorem dX10_grownPurse_22 : decode cX10_grownPurse 22 = .ok (.invokestatic 170, 3) := by decide +kernel
theorem dX10_grownPurse_25 : decode cX10_grownPurse 25 = .ok (.invokestatic 136, 3) := by decide +kernel
theorem dX10_grownPurse_28 : decode cX10_grownPurse 28 = .ok (.ireturn, 1) := by decide +kernel
theorem dX10_payableAt_0 : decode cX10_payableAt 0 = .ok (.aload_n 0, 1) := by decide +kernel
theorem dX10_payableAt_1 : decode cX10_payableAt 1 = .ok (.aload_n 0, 1) := by decide +kernel
theorem dX10_payableAt_2 : decode cX10_payableAt 2 = .ok (.getfield 31, 3) := by decide +kernel
theorem dX10_payableAt_5 : decode cX10_payableAt 5 = .ok (.iload_n 1, 1) := by decide +kernel
theorem dX10_payableAt_6 : decode cX10_payableAt 6 = .ok (.iaload, 1) := by decide +kernel
theorem dX10_payableAt_7 : decode cX10_payableAt 7 = .ok (.iconst 0, 1) := by decide +kernel
theorem dX10_payableAt_8 : decode cX10_payableAt 8 = .ok (.invokevirtual 66, 3) := by decide +kernel
theorem dX10_payableAt_11 : decode cX10_payableAt 11 = .ok (.istore_n 2, 1) := by decide +kernel
theorem dX10_payableAt_12 : decode cX10_payableAt 12 = .ok (.aload_n 0, 1) := by decide +kernel
theorem dX10_payableAt_13 : decode cX10_payableAt 13 = .ok (.iload_n 2, 1) := by decide +kernel
theorem dX10_payableAt_14 : decode cX10_payableAt 14 = .ok (.invokevirtual 172, 3) := by decide +kernel
theorem dX10_payableAt_17 : decode cX10_payableAt 17 = .ok (.i2l, 1) := by decide +kernel
theorem dX10_payableAt_18 : decode cX10_payableAt 18 = .ok (.lstore_n 3, 1) := by decide +kernel
theorem dX10_payableAt_19 : decode cX10_payableAt 19 = .ok (.iconst 0, 1) := by decide +kernel
theorem dX10_payableAt_20 : decode cX10_payableAt 20 = .ok (.istore 5, 2) := by decide +kernel
theorem dX10_payableAt_22 : decode cX10_payableAt 22 = .ok (.iload 5, 2) := by decide +kernel
theorem dX10_payableAt_24 : decode cX10_payableAt 24 = .ok (.iload_n 1, 1) := by decide +kernel
theorem dX10_payableAt_25 : decode cX10_payableAt 25 = .ok (.if_icmp .ge 45, 3) := by decide +kernel
theorem dX10_payableAt_28 : decode cX10_payableAt 28 = .ok (.aload_n 0, 1) := by decide +kernel
theorem dX10_payableAt_29 : decode cX10_payableAt 29 = .ok (.aload_n 0, 1) := by decide +kernel
theorem dX10_payableAt_30 : decode cX10_payableAt 30 = .ok (.getfield 31, 3) := by decide +kernel
theorem dX10_payableAt_33 : decode cX10_payableAt 33 = .ok (.iload 5, 2) := by decide +kernel
theorem dX10_payableAt_35 : decode cX10_payableAt 35 = .ok (.iaload, 1) := by decide +kernel
theorem dX10_payableAt_36 : decode cX10_payableAt 36 = .ok (.iconst 0, 1) := by decide +kernel
theorem dX10_payableAt_37 : decode cX10_payableAt 37 = .ok (.invokevirtual 66, 3) := by decide +kernel
theorem dX10_payableAt_40 : decode cX10_payableAt 40 = .ok (.iload_n 2, 1) := by decide +kernel
theorem dX10_payableAt_41 : decode cX10_payableAt 41 = .ok (.if_icmp .ne 23, 3) := by decide +kernel
theorem dX10_payableAt_44 : decode cX10_payableAt 44 = .ok (.lload_n 3, 1) := by decide +kernel
theorem dX10_payableAt_45 : decode cX10_payableAt 45 = .ok (.aload_n 0, 1) := by decide +kernel
theorem dX10_payableAt_46 : decode cX10_payableAt 46 = .ok (.getfield 34, 3) := by decide +kernel
theorem dX10_payableAt_49 : decode cX10_payableAt 49 = .ok (.iload 5, 2) := by decide +kernel
theorem dX10_payableAt_51 : decode cX10_payableAt 51 = .ok (.iaload, 1) := by decide +kernel
theorem dX10_payableAt_52 : decode cX10_payableAt 52 = .ok (.i2l, 1) := by decide +kernel
theorem dX10_payableAt_53 : decode cX10_payableAt 53 = .ok (.aload_n 0, 1) := by decide +kernel
theorem dX10_payableAt_54 : decode cX10_payableAt 54 = .ok (.getfield 40, 3) := by decide +kernel
theorem dX10_payableAt_57 : decode cX10_payableAt 57 = .ok (.iload 5, 2) := by decide +kernel
theorem dX10_payableAt_59 : decode cX10_payableAt 59 = .ok (.iaload, 1) := by decide +kernel
theorem dX10_payableAt_60 : decode cX10_payableAt 60 = .ok (.i2l, 1) := by decide +kernel
theorem dX10_payableAt_61 : decode cX10_payableAt 61 = .ok (.lmul, 1) := by decide +kernel
theorem dX10_payableAt_62 : decode cX10_payableAt 62 = .ok (.lsub, 1) := by decide +kernel
theorem dX10_payableAt_63 : decode cX10_payableAt 63 = .ok (.lstore_n 3, 1) := by decide +kernel
theorem dX10_payableAt_64 : decode cX10_payableAt 64 = .ok (.iinc 5 1, 3) := by decide +kernel
theorem dX10_payableAt_67 : decode cX10_payableAt 67 = .ok (.goto (-45), 3) := by decide +kernel
theorem dX10_payableAt_70 : decode cX10_payableAt 70 = .ok (.lload_n 3, 1) := by decide +kernel
theorem dX10_payableAt_71 : decode cX10_payableAt 71 = .ok (.aload_n 0, 1) := by decide +kernel
theorem dX10_payableAt_72 : decode cX10_payableAt 72 = .ok (.getfield 34, 3) := by decide +kernel
theorem dX10_payableAt_75 : decode cX10_payableAt 75 = .ok (.iload_n 1, 1) := by decide +kernel
theorem dX10_payableAt_76 : decode cX10_payableAt 76 = .ok (.iaload, 1) := by decide +kernel
theorem dX10_payableAt_77 : decode cX10_payableAt 77 = .ok (.i2l, 1) := by decide +kernel
theorem dX10_payableAt_78 : decode cX10_payableAt 78 = .ok (.ldiv, 1) := by decide +kernel
theorem dX10_payableAt_79 : decode cX10_payableAt 79 = .ok (.l2i, 1) := by decide +kernel
theorem dX10_payableAt_80 : decode cX10_payableAt 80 = .ok (.ireturn, 1) := by decide +kernel
theorem dX10_layRound_0 : decode cX10_layRound 0 = .ok (.aload_n 0, 1) := by decide +kernel
theorem dX10_layRound_1 : decode cX10_layRound 1 = .ok (.invokevirtual 175, 3) := by decide +kernel
theorem dX10_layRound_4 : decode cX10_layRound 4 = .ok (.aload_n 0, 1) := by decide +kernel
theorem dX10_layRound_5 : decode cX10_layRound 5 = .ok (.aload_n 0, 1) := by decide +kernel
theorem dX10_layRound_6 : decode cX10_layRound 6 = .ok (.getfield 24, 3) := by decide +kernel
theorem dX10_layRound_9 : decode cX10_layRound 9 = .ok (.iconst 2, 1) := by decide +kernel
theorem dX10_layRound_10 : decode cX10_layRound 10 = .ok (.iaload, 1) := by decide +kernel
theorem dX10_layRound_11 : decode cX10_layRound 11 = .ok (.putfield 178, 3) := by decide +kernel
theorem dX10_layRound_14 : decode cX10_layRound 14 = .ok (.aload_n 0, 1) := by decide +kernel
theorem dX10_layRound_15 : decode cX10_layRound 15 = .ok (.aload_n 0, 1) := by decide +kernel
theorem dX10_layRound_16 : decode cX10_layRound 16 = .ok (.getfield 24, 3) := by decide +kernel
theorem dX10_layRound_19 : decode cX10_layRound 19 = .ok (.iconst 0, 1) := by decide +kernel
theorem dX10_layRound_20 : decode cX10_layRound 20 = .ok (.iaload, 1) := by decide +kernel
theorem dX10_layRound_21 : decode cX10_layRound 21 = .ok (.aload_n 0, 1) := by decide +kernel
theorem dX10_layRound_22 : decode cX10_layRound 22 = .ok (.getfield 24, 3) := by decide +kernel
theorem dX10_layRound_25 : decode cX10_layRound 25 = .ok (.iconst 4, 1) := by decide +kernel
theorem dX10_layRound_26 : decode cX10_layRound 26 = .ok (.iaload, 1) := by decide +kernel
theorem dX10_layRound_27 : decode cX10_layRound 27 = .ok (.iadd, 1) := by decide +kernel
theorem dX10_layRound_28 : decode cX10_layRound 28 = .ok (.putfield 181, 3) := by decide +kernel
theorem dX10_layRound_31 : decode cX10_layRound 31 = .ok (.iconst 0, 1) := by decide +kernel
theorem dX10_layRound_32 : decode cX10_layRound 32 = .ok (.istore_n 1, 1) := by decide +kernel
theorem dX10_layRound_33 : decode cX10_layRound 33 = .ok (.iconst 0, 1) := by decide +kernel
theorem dX10_layRound_34 : decode cX10_layRound 34 = .ok (.istore_n 2, 1) := by decide +kernel
theorem dX10_layRound_35 : decode cX10_layRound 35 = .ok (.iload_n 2, 1) := by decide +kernel
theorem dX10_layRound_36 : decode cX10_layRound 36 = .ok (.aload_n 0, 1) := by decide +kernel
theorem dX10_layRound_37 : decode cX10_layRound 37 = .ok (.getfield 161, 3) := by decide +kernel
theorem dX10_layRound_40 : decode cX10_layRound 40 = .ok (.if_icmp .ge 97, 3) := by decide +kernel
theorem dX10_layRound_43 : decode cX10_layRound 43 = .ok (.aload_n 0, 1) := by decide +kernel
theorem dX10_layRound_44 : decode cX10_layRound 44 = .ok (.iload_n 2, 1) := by decide +kernel
theorem dX10_layRound_45 : decode cX10_layRound 45 = .ok (.invokevirtual 184, 3) := by decide +kernel
theorem dX10_layRound_48 : decode cX10_layRound 48 = .ok (.istore_n 3, 1) := by decide +kernel
theorem dX10_layRound_49 : decode cX10_layRound 49 = .ok (.aload_n 0, 1) := by decide +kernel
theorem dX10_layRound_50 : decode cX10_layRound 50 = .ok (.getfield 40, 3) := by decide +kernel
theorem dX10_layRound_53 : decode cX10_layRound 53 = .ok (.iload_n 2, 1) := by decide +kernel
theorem dX10_layRound_54 : decode cX10_layRound 54 = .ok (.aload_n 0, 1) := by decide +kernel
theorem dX10_layRound_55 : decode cX10_layRound 55 = .ok (.getfield 37, 3) := by decide +kernel
theorem dX10_layRound_58 : decode cX10_layRound 58 = .ok (.iload_n 2, 1) := by decide +kernel
theorem dX10_layRound_59 : decode cX10_layRound 59 = .ok (.iaload, 1) := by decide +kernel
theorem dX10_layRound_60 : decode cX10_layRound 60 = .ok (.aload_n 0, 1) := by decide +kernel
theorem dX10_layRound_61 : decode cX10_layRound 61 = .ok (.getfield 181, 3) := by decide +kernel
theorem dX10_layRound_64 : decode cX10_layRound 64 = .ok (.iload_n 3, 1) := by decide +kernel
theorem dX10_layRound_65 : decode cX10_layRound 65 = .ok (.invokestatic 170, 3) := by decide +kernel
theorem dX10_layRound_68 : decode cX10_layRound 68 = .ok (.invokestatic 170, 3) := by decide +kernel
theorem dX10_layRound_71 : decode cX10_layRound 71 = .ok (.iastore, 1) := by decide +kernel
theorem dX10_layRound_72 : decode cX10_layRound 72 = .ok (.aload_n 0, 1) := by decide +kernel
theorem dX10_layRound_73 : decode cX10_layRound 73 = .ok (.dup, 1) := by decide +kernel
theorem dX10_layRound_74 : decode cX10_layRound 74 = .ok (.getfield 181, 3) := by decide +kernel
theorem dX10_layRound_77 : decode cX10_layRound 77 = .ok (.aload_n 0, 1) := by decide +kernel
theorem dX10_layRound_78 : decode cX10_layRound 78 = .ok (.getfield 40, 3) := by decide +kernel
theorem dX10_layRound_81 : decode cX10_layRound 81 = .ok (.iload_n 2, 1) := by decide +kernel
theorem dX10_layRound_82 : decode cX10_layRound 82 = .ok (.iaload, 1) := by decide +kernel
theorem dX10_layRound_83 : decode cX10_layRound 83 = .ok (.isub, 1) := by decide +kernel
theorem dX10_layRound_84 : decode cX10_layRound 84 = .ok (.putfield 181, 3) := by decide +kernel
theorem dX10_layRound_87 : decode cX10_layRound 87 = .ok (.iload_n 1, 1) := by decide +kernel
theorem dX10_layRound_88 : decode cX10_layRound 88 = .ok (.ifCond .ne 43, 3) := by decide +kernel
theorem dX10_layRound_91 : decode cX10_layRound 91 = .ok (.aload_n 0, 1) := by decide +kernel
theorem dX10_layRound_92 : decode cX10_layRound 92 = .ok (.getfield 40, 3) := by decide +kernel
theorem dX10_layRound_95 : decode cX10_layRound 95 = .ok (.iload_n 2, 1) := by decide +kernel
theorem dX10_layRound_96 : decode cX10_layRound 96 = .ok (.iaload, 1) := by decide +kernel
theorem dX10_layRound_97 : decode cX10_layRound 97 = .ok (.aload_n 0, 1) := by decide +kernel
theorem dX10_layRound_98 : decode cX10_layRound 98 = .ok (.getfield 37, 3) := by decide +kernel
theorem dX10_layRound_101 : decode cX10_layRound 101 = .ok (.iload_n 2, 1) := by decide +kernel
theorem dX10_layRound_102 : decode cX10_layRound 102 = .ok (.iaload, 1) := by decide +kernel
theorem dX10_layRound_103 : decode cX10_layRound 103 = .ok (.if_icmp .eq 28, 3) := by decide +kernel
theorem dX10_layRound_106 : decode cX10_layRound 106 = .ok (.iload_n 3, 1) := by decide +kernel
theorem dX10_layRound_107 : decode cX10_layRound 107 = .ok (.aload_n 0, 1) := by decide +kernel
theorem dX10_layRound_108 : decode cX10_layRound 108 = .ok (.getfield 40, 3) := by decide +kernel
theorem dX10_layRound_111 : decode cX10_layRound 111 = .ok (.iload_n 2, 1) := by decide +kernel
theorem dX10_layRound_112 : decode cX10_layRound 112 = .ok (.iaload, 1) := by decide +kernel
theorem dX10_layRound_113 : decode cX10_layRound 113 = .ok (.if_icmp .ne 6, 3) := by decide +kernel
theorem dX10_layRound_116 : decode cX10_layRound 116 = .ok (.goto 15, 3) := by decide +kernel
theorem dX10_layRound_119 : decode cX10_layRound 119 = .ok (.iconst 1, 1) := by decide +kernel
theorem dX10_layRound_120 : decode cX10_layRound 120 = .ok (.istore_n 1, 1) := by decide +kernel
theorem dX10_layRound_121 : decode cX10_layRound 121 = .ok (.aload_n 0, 1) := by decide +kernel
theorem dX10_layRound_122 : decode cX10_layRound 122 = .ok (.aload_n 0, 1) := by decide +kernel
theorem dX10_layRound_123 : decode cX10_layRound 123 = .ok (.getfield 34, 3) := by decide +kernel
theorem dX10_layRound_126 : decode cX10_layRound 126 = .ok (.iload_n 2, 1) := by decide +kernel
theorem dX10_layRound_127 : decode cX10_layRound 127 = .ok (.iaload, 1) := by decide +kernel
theorem dX10_layRound_128 : decode cX10_layRound 128 = .ok (.putfield 178, 3) := by decide +kernel
theorem dX10_layRound_131 : decode cX10_layRound 131 = .ok (.iinc 2 1, 3) := by decide +kernel
theorem dX10_layRound_134 : decode cX10_layRound 134 = .ok (.goto (-99), 3) := by decide +kernel
theorem dX10_layRound_137 : decode cX10_layRound 137 = .ok (.iconst 0, 1) := by decide +kernel
theorem dX10_layRound_138 : decode cX10_layRound 138 = .ok (.istore_n 2, 1) := by decide +kernel
theorem dX10_layRound_139 : decode cX10_layRound 139 = .ok (.iload_n 2, 1) := by decide +kernel
theorem dX10_layRound_140 : decode cX10_layRound 140 = .ok (.aload_n 0, 1) := by decide +kernel
theorem dX10_layRound_141 : decode cX10_layRound 141 = .ok (.getfield 161, 3) := by decide +kernel
theorem dX10_layRound_144 : decode cX10_layRound 144 = .ok (.if_icmp .ge 77, 3) := by decide +kernel
theorem dX10_layRound_147 : decode cX10_layRound 147 = .ok (.aload_n 0, 1) := by decide +kernel
theorem dX10_layRound_148 : decode cX10_layRound 148 = .ok (.getfield 43, 3) := by decide +kernel
theorem dX10_layRound_151 : decode cX10_layRound 151 = .ok (.iload_n 2, 1) := by decide +kernel
theorem dX10_layRound_152 : decode cX10_layRound 152 = .ok (.aload_n 0, 1) := by decide +kernel
theorem dX10_layRound_153 : decode cX10_layRound 153 = .ok (.getfield 24, 3) := by decide +kernel
theorem dX10_layRound_156 : decode cX10_layRound 156 = .ok (.iconst 3, 1) := by decide +kernel
theorem dX10_layRound_157 : decode cX10_layRound 157 = .ok (.iaload, 1) := by decide +kernel
theorem dX10_layRound_158 : decode cX10_layRound 158 = .ok (.ifCond .ne 12, 3) := by decide +kernel
theorem dX10_layRound_161 : decode cX10_layRound 161 = .ok (.aload_n 0, 1) := by decide +kernel
theorem dX10_layRound_162 : decode cX10_layRound 162 = .ok (.getfield 34, 3) := by decide +kernel
theorem dX10_layRound_165 : decode cX10_layRound 165 = .ok (.iload_n 2, 1) := by decide +kernel
theorem dX10_layRound_166 : decode cX10_layRound 166 = .ok (.iaload, 1) := by decide +kernel
theorem dX10_layRound_167 : decode cX10_layRound 167 = .ok (.goto 47, 3) := by decide +kernel
theorem dX10_layRound_170 : decode cX10_layRound 170 = .ok (.aload_n 0, 1) := by decide +kernel
theorem dX10_layRound_171 : decode cX10_layRound 171 = .ok (.getfield 24, 3) := by decide +kernel
theorem dX10_layRound_174 : decode cX10_layRound 174 = .ok (.iconst 3, 1) := by decide +kernel
theorem dX10_layRound_175 : decode cX10_layRound 175 = .ok (.iaload, 1) := by decide +kernel
theorem dX10_layRound_176 : decode cX10_layRound 176 = .ok (.iconst 2, 1) := by decide +kernel
theorem dX10_layRound_177 : decode cX10_layRound 177 = .ok (.if_icmp .ne 10, 3) := by decide +kernel
theorem dX10_layRound_180 : decode cX10_layRound 180 = .ok (.aload_n 0, 1) := by decide +kernel
theorem dX10_layRound_181 : decode cX10_layRound 181 = .ok (.getfield 178, 3) := by decide +kernel
theorem dX10_layRound_184 : decode cX10_layRound 184 = .ok (.goto 30, 3) := by decide +kernel
theorem dX10_layRound_187 : decode cX10_layRound 187 = .ok (.iload_n 2, 1) := by decide +kernel
theorem dX10_layRound_188 : decode cX10_layRound 188 = .ok (.iconst 1, 1) := by decide +kernel
theorem dX10_layRound_189 : decode cX10_layRound 189 = .ok (.iadd, 1) := by decide +kernel
theorem dX10_layRound_190 : decode cX10_layRound 190 = .ok (.aload_n 0, 1) := by decide +kernel
theorem dX10_layRound_191 : decode cX10_layRound 191 = .ok (.getfield 161, 3) := by decide +kernel
theorem dX10_layRound_194 : decode cX10_layRound 194 = .ok (.if_icmp .ge 14, 3) := by decide +kernel
theorem dX10_layRound_197 : decode cX10_layRound 197 = .ok (.aload_n 0, 1) := by decide +kernel
theorem dX10_layRound_198 : decode cX10_layRound 198 = .ok (.getfield 34, 3) := by decide +kernel
theorem dX10_layRound_201 : decode cX10_layRound 201 = .ok (.iload_n 2, 1) := by decide +kernel
theorem dX10_layRound_202 : decode cX10_layRound 202 = .ok (.iconst 1, 1) := by decide +kernel
theorem dX10_layRound_203 : decode cX10_layRound 203 = .ok (.iadd, 1) := by decide +kernel
theorem dX10_layRound_204 : decode cX10_layRound 204 = .ok (.iaload, 1) := by decide +kernel
theorem dX10_layRound_205 : decode cX10_layRound 205 = .ok (.goto 9, 3) := by decide +kernel
theorem dX10_layRound_208 : decode cX10_layRound 208 = .ok (.aload_n 0, 1) := by decide +kernel
theorem dX10_layRound_209 : decode cX10_layRound 209 = .ok (.getfield 24, 3) := by decide +kernel
theorem dX10_layRound_212 : decode cX10_layRound 212 = .ok (.iconst 2, 1) := by decide +kernel
theorem dX10_layRound_213 : decode cX10_layRound 213 = .ok (.iaload, 1) := by decide +kernel
theorem dX10_layRound_214 : decode cX10_layRound 214 = .ok (.iastore, 1) := by decide +kernel
theorem dX10_layRound_215 : decode cX10_layRound 215 = .ok (.iinc 2 1, 3) := by decide +kernel
theorem dX10_layRound_218 : decode cX10_layRound 218 = .ok (.goto (-79), 3) := by decide +kernel
theorem dX10_layRound_221 : decode cX10_layRound 221 = .ok (.return_, 1) := by decide +kernel
theorem dX10_growPurses_0 : decode cX10_growPurses 0 = .ok (.iconst 0, 1) := by decide +kernel
theorem dX10_growPurses_1 : decode cX10_growPurses 1 = .ok (.istore_n 1, 1) := by decide +kernel
theorem dX10_growPurses_2 : decode cX10_growPurses 2 = .ok (.iload_n 1, 1) := by decide +kernel
theorem dX10_growPurses_3 : decode cX10_growPurses 3 = .ok (.aload_n 0, 1) := by decide +kernel
theorem dX10_growPurses_4 : decode cX10_growPurses 4 = .ok (.getfield 24, 3) := by decide +kernel
theorem dX10_growPurses_7 : decode cX10_growPurses 7 = .ok (.bipush 7, 2) := by decide +kernel
theorem dX10_growPurses_9 : decode cX10_growPurses 9 = .ok (.iaload, 1) := by decide +kernel
theorem dX10_growPurses_10 : decode cX10_growPurses 10 = .ok (.if_icmp .ge 29, 3) := by decide +kernel
theorem dX10_growPurses_13 : decode cX10_growPurses 13 = .ok (.aload_n 0, 1) := by decide +kernel
theorem dX10_growPurses_14 : decode cX10_growPurses 14 = .ok (.getfield 24, 3) := by decide +kernel
theorem dX10_growPurses_17 : decode cX10_growPurses 17 = .ok (.sipush 202, 3) := by decide +kernel
theorem dX10_growPurses_20 : decode cX10_growPurses 20 = .ok (.bipush 11, 2) := by decide +kernel
theorem dX10_growPurses_22 : decode cX10_growPurses 22 = .ok (.iload_n 1, 1) := by decide +kernel
theorem dX10_growPurses_23 : decode cX10_growPurses 23 = .ok (.imul, 1) := by decide +kernel
theorem dX10_growPurses_24 : decode cX10_growPurses 24 = .ok (.iadd, 1) := by decide +kernel
theorem dX10_growPurses_25 : decode cX10_growPurses 25 = .ok (.iconst 2, 1) := by decide +kernel
theorem dX10_growPurses_26 : decode cX10_growPurses 26 = .ok (.iadd, 1) := by decide +kernel
theorem dX10_growPurses_27 : decode cX10_growPurses 27 = .ok (.aload_n 0, 1) := by decide +kernel
theorem dX10_growPurses_28 : decode cX10_growPurses 28 = .ok (.iload_n 1, 1) := by decide +kernel
theorem dX10_growPurses_29 : decode cX10_growPurses 29 = .ok (.invokevirtual 172, 3) := by decide +kernel
theorem dX10_growPurses_32 : decode cX10_growPurses 32 = .ok (.iastore, 1) := by decide +kernel
theorem dX10_growPurses_33 : decode cX10_growPurses 33 = .ok (.iinc 1 1, 3) := by decide +kernel
theorem dX10_growPurses_36 : decode cX10_growPurses 36 = .ok (.goto (-34), 3) := by decide +kernel
theorem dX10_growPurses_39 : decode cX10_growPurses 39 = .ok (.return_, 1) := by decide +kernel
theorem dX10_pay_0 : decode cX10_pay 0 = .ok (.sipush 202, 3) := by decide +kernel
theorem dX10_pay_3 : decode cX10_pay 3 = .ok (.bipush 11, 2) := by decide +kernel
theorem dX10_pay_5 : decode cX10_pay 5 = .ok (.aload_n 0, 1) := by decide +kernel
theorem dX10_pay_6 : decode cX10_pay 6 = .ok (.aload_n 0, 1) := by decide +kernel
theorem dX10_pay_7 : decode cX10_pay 7 = .ok (.getfield 31, 3) := by decide +kernel
theorem dX10_pay_10 : decode cX10_pay 10 = .ok (.iload_n 1, 1) := by decide +kernel
theorem dX10_pay_11 : decode cX10_pay 11 = .ok (.iaload, 1) := by decide +kernel
theorem dX10_pay_12 : decode cX10_pay 12 = .ok (.iconst 0, 1) := by decide +kernel
theorem dX10_pay_13 : decode cX10_pay 13 = .ok (.invokevirtual 66, 3) := by decide +kernel
theorem dX10_pay_16 : decode cX10_pay 16 = .ok (.imul, 1) := by decide +kernel
theorem dX10_pay_17 : decode cX10_pay 17 = .ok (.iadd, 1) := by decide +kernel
theorem dX10_pay_18 : decode cX10_pay 18 = .ok (.istore_n 2, 1) := by decide +kernel
theorem dX10_pay_19 : decode cX10_pay 19 = .ok (.aload_n 0, 1) := by decide +kernel
theorem dX10_pay_20 : decode cX10_pay 20 = .ok (.getfield 40, 3) := by decide +kernel
theorem dX10_pay_23 : decode cX10_pay 23 = .ok (.iload_n 1, 1) := by decide +kernel
theorem dX10_pay_24 : decode cX10_pay 24 = .ok (.iaload, 1) := by decide +kernel
theorem dX10_pay_25 : decode cX10_pay 25 = .ok (.aload_n 0, 1) := by decide +kernel
theorem dX10_pay_26 : decode cX10_pay 26 = .ok (.getfield 43, 3) := by decide +kernel
theorem dX10_pay_29 : decode cX10_pay 29 = .ok (.iload_n 1, 1) := by decide +kernel
theorem dX10_pay_30 : decode cX10_pay 30 = .ok (.iaload, 1) := by decide +kernel
theorem dX10_pay_31 : decode cX10_pay 31 = .ok (.imul, 1) := by decide +kernel
theorem dX10_pay_32 : decode cX10_pay 32 = .ok (.istore_n 3, 1) := by decide +kernel
theorem dX10_pay_33 : decode cX10_pay 33 = .ok (.aload_n 0, 1) := by decide +kernel
theorem dX10_pay_34 : decode cX10_pay 34 = .ok (.dup, 1) := by decide +kernel
theorem dX10_pay_35 : decode cX10_pay 35 = .ok (.getfield 187, 3) := by decide +kernel
theorem dX10_pay_38 : decode cX10_pay 38 = .ok (.iload_n 3, 1) := by decide +kernel
theorem dX10_pay_39 : decode cX10_pay 39 = .ok (.i2l, 1) := by decide +kernel
theorem dX10_pay_40 : decode cX10_pay 40 = .ok (.ladd, 1) := by decide +kernel
theorem dX10_pay_41 : decode cX10_pay 41 = .ok (.putfield 187, 3) := by decide +kernel
theorem dX10_pay_44 : decode cX10_pay 44 = .ok (.aload_n 0, 1) := by decide +kernel
theorem dX10_pay_45 : decode cX10_pay 45 = .ok (.getfield 24, 3) := by decide +kernel
theorem dX10_pay_48 : decode cX10_pay 48 = .ok (.iload_n 2, 1) := by decide +kernel
theorem dX10_pay_49 : decode cX10_pay 49 = .ok (.iconst 2, 1) := by decide +kernel
theorem dX10_pay_50 : decode cX10_pay 50 = .ok (.iadd, 1) := by decide +kernel
theorem dX10_pay_51 : decode cX10_pay 51 = .ok (.dup2, 1) := by decide +kernel
theorem dX10_pay_52 : decode cX10_pay 52 = .ok (.iaload, 1) := by decide +kernel
theorem dX10_pay_53 : decode cX10_pay 53 = .ok (.iload_n 3, 1) := by decide +kernel
theorem dX10_pay_54 : decode cX10_pay 54 = .ok (.isub, 1) := by decide +kernel
theorem dX10_pay_55 : decode cX10_pay 55 = .ok (.iastore, 1) := by decide +kernel
theorem dX10_pay_56 : decode cX10_pay 56 = .ok (.aload_n 0, 1) := by decide +kernel
theorem dX10_pay_57 : decode cX10_pay 57 = .ok (.getfield 24, 3) := by decide +kernel
theorem dX10_pay_60 : decode cX10_pay 60 = .ok (.iload_n 2, 1) := by decide +kernel
theorem dX10_pay_61 : decode cX10_pay 61 = .ok (.iconst 3, 1) := by decide +kernel
theorem dX10_pay_62 : decode cX10_pay 62 = .ok (.iadd, 1) := by decide +kernel
theorem dX10_pay_63 : decode cX10_pay 63 = .ok (.dup2, 1) := by decide +kernel
theorem dX10_pay_64 : decode cX10_pay 64 = .ok (.iaload, 1) := by decide +kernel
theorem dX10_pay_65 : decode cX10_pay 65 = .ok (.aload_n 0, 1) := by decide +kernel
theorem dX10_pay_66 : decode cX10_pay 66 = .ok (.getfield 40, 3) := by decide +kernel
theorem dX10_pay_69 : decode cX10_pay 69 = .ok (.iload_n 1, 1) := by decide +kernel
theorem dX10_pay_70 : decode cX10_pay 70 = .ok (.iaload, 1) := by decide +kernel
theorem dX10_pay_71 : decode cX10_pay 71 = .ok (.iadd, 1) := by decide +kernel
theorem dX10_pay_72 : decode cX10_pay 72 = .ok (.iastore, 1) := by decide +kernel
theorem dX10_pay_73 : decode cX10_pay 73 = .ok (.aload_n 0, 1) := by decide +kernel
theorem dX10_pay_74 : decode cX10_pay 74 = .ok (.getfield 24, 3) := by decide +kernel
theorem dX10_pay_77 : decode cX10_pay 77 = .ok (.iload_n 2, 1) := by decide +kernel
theorem dX10_pay_78 : decode cX10_pay 78 = .ok (.iconst 4, 1) := by decide +kernel
theorem dX10_pay_79 : decode cX10_pay 79 = .ok (.iadd, 1) := by decide +kernel
theorem dX10_pay_80 : decode cX10_pay 80 = .ok (.ldc2_w 191, 3) := by decide +kernel
theorem dX10_pay_83 : decode cX10_pay 83 = .ok (.aload_n 0, 1) := by decide +kernel
theorem dX10_pay_84 : decode cX10_pay 84 = .ok (.getfield 24, 3) := by decide +kernel
theorem dX10_pay_87 : decode cX10_pay 87 = .ok (.iload_n 2, 1) := by decide +kernel
theorem dX10_pay_88 : decode cX10_pay 88 = .ok (.iconst 4, 1) := by decide +kernel
theorem dX10_pay_89 : decode cX10_pay 89 = .ok (.iadd, 1) := by decide +kernel
theorem dX10_pay_90 : decode cX10_pay 90 = .ok (.iaload, 1) := by decide +kernel
theorem dX10_pay_91 : decode cX10_pay 91 = .ok (.i2l, 1) := by decide +kernel
theorem dX10_pay_92 : decode cX10_pay 92 = .ok (.iload_n 3, 1) := by decide +kernel
theorem dX10_pay_93 : decode cX10_pay 93 = .ok (.i2l, 1) := by decide +kernel
theorem dX10_pay_94 : decode cX10_pay 94 = .ok (.ladd, 1) := by decide +kernel
theorem dX10_pay_95 : decode cX10_pay 95 = .ok (.invokestatic 145, 3) := by decide +kernel
theorem dX10_pay_98 : decode cX10_pay 98 = .ok (.l2i, 1) := by decide +kernel
theorem dX10_pay_99 : decode cX10_pay 99 = .ok (.iastore, 1) := by decide +kernel
theorem dX10_pay_100 : decode cX10_pay 100 = .ok (.return_, 1) := by decide +kernel
theorem dX10_repair_0 : decode cX10_repair 0 = .ok (.iconst 0, 1) := by decide +kernel
theorem dX10_repair_1 : decode cX10_repair 1 = .ok (.istore_n 2, 1) := by decide +kernel
theorem dX10_repair_2 : decode cX10_repair 2 = .ok (.aload_n 0, 1) := by decide +kernel
theorem dX10_repair_3 : decode cX10_repair 3 = .ok (.iload_n 1, 1) := by decide +kernel
theorem dX10_repair_4 : decode cX10_repair 4 = .ok (.invokevirtual 133, 3) := by decide +kernel
theorem dX10_repair_7 : decode cX10_repair 7 = .ok (.istore_n 3, 1) := by decide +kernel
theorem dX10_repair_8 : decode cX10_repair 8 = .ok (.aload_n 0, 1) := by decide +kernel
theorem dX10_repair_9 : decode cX10_repair 9 = .ok (.iload_n 1, 1) := by decide +kernel
theorem dX10_repair_10 : decode cX10_repair 10 = .ok (.bipush 6, 2) := by decide +kernel
theorem dX10_repair_12 : decode cX10_repair 12 = .ok (.invokevirtual 66, 3) := by decide +kernel
theorem dX10_repair_15 : decode cX10_repair 15 = .ok (.iload_n 3, 1) := by decide +kernel
theorem dX10_repair_16 : decode cX10_repair 16 = .ok (.if_icmp .lt 82, 3) := by decide +kernel
theorem dX10_repair_19 : decode cX10_repair 19 = .ok (.aload_n 0, 1) := by decide +kernel
theorem dX10_repair_20 : decode cX10_repair 20 = .ok (.iload_n 1, 1) := by decide +kernel
theorem dX10_repair_21 : decode cX10_repair 21 = .ok (.invokevirtual 149, 3) := by decide +kernel
theorem dX10_repair_24 : decode cX10_repair 24 = .ok (.ifCond .eq 74, 3) := by decide +kernel
theorem dX10_repair_27 : decode cX10_repair 27 = .ok (.aload_n 0, 1) := by decide +kernel
theorem dX10_repair_28 : decode cX10_repair 28 = .ok (.iload_n 1, 1) := by decide +kernel
theorem dX10_repair_29 : decode cX10_repair 29 = .ok (.invokevirtual 118, 3) := by decide +kernel
theorem dX10_repair_32 : decode cX10_repair 32 = .ok (.istore 4, 2) := by decide +kernel
theorem dX10_repair_34 : decode cX10_repair 34 = .ok (.aload_n 0, 1) := by decide +kernel
theorem dX10_repair_35 : decode cX10_repair 35 = .ok (.iload_n 1, 1) := by decide +kernel
theorem dX10_repair_36 : decode cX10_repair 36 = .ok (.iload 4, 2) := by decide +kernel
theorem dX10_repair_38 : decode cX10_repair 38 = .ok (.invokevirtual 155, 3) := by decide +kernel
theorem dX10_repair_41 : decode cX10_repair 41 = .ok (.istore 5, 2) := by decide +kernel
theorem dX10_repair_43 : decode cX10_repair 43 = .ok (.iload 5, 2) := by decide +kernel
theorem dX10_repair_45 : decode cX10_repair 45 = .ok (.iconst (-1), 1) := by decide +kernel
theorem dX10_repair_46 : decode cX10_repair 46 = .ok (.if_icmp .ne 5, 3) := by decide +kernel
theorem dX10_repair_49 : decode cX10_repair 49 = .ok (.iload_n 2, 1) := by decide +kernel
theorem dX10_repair_50 : decode cX10_repair 50 = .ok (.ireturn, 1) := by decide +kernel
theorem dX10_repair_51 : decode cX10_repair 51 = .ok (.aload_n 0, 1) := by decide +kernel
theorem dX10_repair_52 : decode cX10_repair 52 = .ok (.getfield 24, 3) := by decide +kernel
theorem dX10_repair_55 : decode cX10_repair 55 = .ok (.sipush 268, 3) := by decide +kernel
theorem dX10_repair_58 : decode cX10_repair 58 = .ok (.bipush 23, 2) := by decide +kernel
theorem dX10_repair_60 : decode cX10_repair 60 = .ok (.iload_n 1, 1) := by decide +kernel
theorem dX10_repair_61 : decode cX10_repair 61 = .ok (.imul, 1) := by decide +kernel
theorem dX10_repair_62 : decode cX10_repair 62 = .ok (.iadd, 1) := by decide +kernel
theorem dX10_repair_63 : decode cX10_repair 63 = .ok (.bipush 7, 2) := by decide +kernel
theorem dX10_repair_65 : decode cX10_repair 65 = .ok (.iadd, 1) := by decide +kernel
theorem dX10_repair_66 : decode cX10_repair 66 = .ok (.iload 4, 2) := by decide +kernel
theorem dX10_repair_68 : decode cX10_repair 68 = .ok (.iadd, 1) := by decide +kernel
theorem dX10_repair_69 : decode cX10_repair 69 = .ok (.iload 5, 2) := by decide +kernel
theorem dX10_repair_71 : decode cX10_repair 71 = .ok (.iastore, 1) := by decide +kernel
theorem dX10_repair_72 : decode cX10_repair 72 = .ok (.aload_n 0, 1) := by decide +kernel
theorem dX10_repair_73 : decode cX10_repair 73 = .ok (.getfield 24, 3) := by decide +kernel
theorem dX10_repair_76 : decode cX10_repair 76 = .ok (.sipush 268, 3) := by decide +kernel
theorem dX10_repair_79 : decode cX10_repair 79 = .ok (.bipush 23, 2) := by decide +kernel
theorem dX10_repair_81 : decode cX10_repair 81 = .ok (.iload_n 1, 1) := by decide +kernel
theorem dX10_repair_82 : decode cX10_repair 82 = .ok (.imul, 1) := by decide +kernel
theorem dX10_repair_83 : decode cX10_repair 83 = .ok (.iadd, 1) := by decide +kernel
theorem dX10_repair_84 : decode cX10_repair 84 = .ok (.bipush 6, 2) := by decide +kernel
theorem dX10_repair_86 : decode cX10_repair 86 = .ok (.iadd, 1) := by decide +kernel
theorem dX10_repair_87 : decode cX10_repair 87 = .ok (.dup2, 1) := by decide +kernel
theorem dX10_repair_88 : decode cX10_repair 88 = .ok (.iaload, 1) := by decide +kernel
theorem dX10_repair_89 : decode cX10_repair 89 = .ok (.iload_n 3, 1) := by decide +kernel
theorem dX10_repair_90 : decode cX10_repair 90 = .ok (.isub, 1) := by decide +kernel
theorem dX10_repair_91 : decode cX10_repair 91 = .ok (.iastore, 1) := by decide +kernel
theorem dX10_repair_92 : decode cX10_repair 92 = .ok (.iinc 2 1, 3) := by decide +kernel
theorem dX10_repair_95 : decode cX10_repair 95 = .ok (.goto (-87), 3) := by decide +kernel
theorem dX10_repair_98 : decode cX10_repair 98 = .ok (.iload_n 2, 1) := by decide +kernel
theorem dX10_repair_99 : decode cX10_repair 99 = .ok (.ireturn, 1) := by decide +kernel
theorem dX10_record_0 : decode cX10_record 0 = .ok (.aload_n 0, 1) := by decide +kernel
theorem dX10_record_1 : decode cX10_record 1 = .ok (.getfield 24, 3) := by decide +kernel
theorem dX10_record_4 : decode cX10_record 4 = .ok (.bipush 9, 2) := by decide +kernel
theorem dX10_record_6 : decode cX10_record 6 = .ok (.iaload, 1) := by decide +kernel
theorem dX10_record_7 : decode cX10_record 7 = .ok (.bipush 40, 2) := by decide +kernel
theorem dX10_record_9 : decode cX10_record 9 = .ok (.if_icmp .ne 49, 3) := by decide +kernel
theorem dX10_record_12 : decode cX10_record 12 = .ok (.iconst 0, 1) := by decide +kernel
theorem dX10_record_13 : decode cX10_record 13 = .ok (.istore_n 3, 1) := by decide +kernel
theorem dX10_record_14 : decode cX10_record 14 = .ok (.iload_n 3, 1) := by decide +kernel
theorem dX10_record_15 : decode cX10_record 15 = .ok (.sipush 195, 3) := by decide +kernel
theorem dX10_record_18 : decode cX10_record 18 = .ok (.if_icmp .ge 29, 3) := by decide +kernel
theorem dX10_record_21 : decode cX10_record 21 = .ok (.aload_n 0, 1) := by decide +kernel
theorem dX10_record_22 : decode cX10_record 22 = .ok (.getfield 24, 3) := by decide +kernel
theorem dX10_record_25 : decode cX10_record 25 = .ok (.sipush 498, 3) := by decide +kernel
theorem dX10_record_28 : decode cX10_record 28 = .ok (.iload_n 3, 1) := by decide +kernel
theorem dX10_record_29 : decode cX10_record 29 = .ok (.iadd, 1) := by decide +kernel
theorem dX10_record_30 : decode cX10_record 30 = .ok (.aload_n 0, 1) := by decide +kernel
theorem dX10_record_31 : decode cX10_record 31 = .ok (.getfield 24, 3) := by decide +kernel
theorem dX10_record_34 : decode cX10_record 34 = .ok (.sipush 503, 3) := by decide +kernel
theorem dX10_record_37 : decode cX10_record 37 = .ok (.iload_n 3, 1) := by decide +kernel
theorem dX10_record_38 : decode cX10_record 38 = .ok (.iadd, 1) := by decide +kernel
theorem dX10_record_39 : decode cX10_record 39 = .ok (.iaload, 1) := by decide +kernel
theorem dX10_record_40 : decode cX10_record 40 = .ok (.iastore, 1) := by decide +kernel
theorem dX10_record_41 : decode cX10_record 41 = .ok (.iinc 3 1, 3) := by decide +kernel
theorem dX10_record_44 : decode cX10_record 44 = .ok (.goto (-30), 3) := by decide +kernel
theorem dX10_record_47 : decode cX10_record 47 = .ok (.aload_n 0, 1) := by decide +kernel
theorem dX10_record_48 : decode cX10_record 48 = .ok (.getfield 24, 3) := by decide +kernel
theorem dX10_record_51 : decode cX10_record 51 = .ok (.bipush 9, 2) := by decide +kernel
theorem dX10_record_53 : decode cX10_record 53 = .ok (.dup2, 1) := by decide +kernel
theorem dX10_record_54 : decode cX10_record 54 = .ok (.iaload, 1) := by decide +kernel
theorem dX10_record_55 : decode cX10_record 55 = .ok (.iconst 1, 1) := by decide +kernel
theorem dX10_record_56 : decode cX10_record 56 = .ok (.isub, 1) := by decide +kernel
theorem dX10_record_57 : decode cX10_record 57 = .ok (.iastore, 1) := by decide +kernel
theorem dX10_record_58 : decode cX10_record 58 = .ok (.sipush 498, 3) := by decide +kernel
theorem dX10_record_61 : decode cX10_record 61 = .ok (.iconst 5, 1) := by decide +kernel
theorem dX10_record_62 : decode cX10_record 62 = .ok (.aload_n 0, 1) := by decide +kernel
theorem dX10_record_63 : decode cX10_record 63 = .ok (.getfield 24, 3) := by decide +kernel
theorem dX10_record_66 : decode cX10_record 66 = .ok (.bipush 9, 2) := by decide +kernel
theorem dX10_record_68 : decode cX10_record 68 = .ok (.iaload, 1) := by decide +kernel
theorem dX10_record_69 : decode cX10_record 69 = .ok (.imul, 1) := by decide +kernel
theorem dX10_record_70 : decode cX10_record 70 = .ok (.iadd, 1) := by decide +kernel
theorem dX10_record_71 : decode cX10_record 71 = .ok (.istore_n 3, 1) := by decide +kernel
theorem dX10_record_72 : decode cX10_record 72 = .ok (.aload_n 0, 1) := by decide +kernel
theorem dX10_record_73 : decode cX10_record 73 = .ok (.getfield 24, 3) := by decide +kernel
theorem dX10_record_76 : decode cX10_record 76 = .ok (.iload_n 3, 1) := by decide +kernel
theorem dX10_record_77 : decode cX10_record 77 = .ok (.aload_n 0, 1) := by decide +kernel
theorem dX10_record_78 : decode cX10_record 78 = .ok (.getfield 24, 3) := by decide +kernel
theorem dX10_record_81 : decode cX10_record 81 = .ok (.iconst 5, 1) := by decide +kernel
theorem dX10_record_82 : decode cX10_record 82 = .ok (.iaload, 1) := by decide +kernel
theorem dX10_record_83 : decode cX10_record 83 = .ok (.iastore, 1) := by decide +kernel
theorem dX10_record_84 : decode cX10_record 84 = .ok (.aload_n 0, 1) := by decide +kernel
theorem dX10_record_85 : decode cX10_record 85 = .ok (.getfield 24, 3) := by decide +kernel
theorem dX10_record_88 : decode cX10_record 88 = .ok (.iload_n 3, 1) := by decide +kernel
theorem dX10_record_89 : decode cX10_record 89 = .ok (.iconst 1, 1) := by decide +kernel
theorem dX10_record_90 : decode cX10_record 90 = .ok (.iadd, 1) := by decide +kernel
theorem dX10_record_91 : decode cX10_record 91 = .ok (.iload_n 1, 1) := by decide +kernel
theorem dX10_record_92 : decode cX10_record 92 = .ok (.iastore, 1) := by decide +kernel
theorem dX10_record_93 : decode cX10_record 93 = .ok (.aload_n 0, 1) := by decide +kernel
theorem dX10_record_94 : decode cX10_record 94 = .ok (.getfield 24, 3) := by decide +kernel
theorem dX10_record_97 : decode cX10_record 97 = .ok (.iload_n 3, 1) := by decide +kernel
theorem dX10_record_98 : decode cX10_record 98 = .ok (.iconst 2, 1) := by decide +kernel
theorem dX10_record_99 : decode cX10_record 99 = .ok (.iadd, 1) := by decide +kernel
theorem dX10_record_100 : decode cX10_record 100 = .ok (.aload_n 0, 1) := by decide +kernel
theorem dX10_record_101 : decode cX10_record 101 = .ok (.getfield 178, 3) := by decide +kernel
theorem dX10_record_104 : decode cX10_record 104 = .ok (.iastore, 1) := by decide +kernel
theorem dX10_record_105 : decode cX10_record 105 = .ok (.aload_n 0, 1) := by decide +kernel
theorem dX10_record_106 : decode cX10_record 106 = .ok (.getfield 24, 3) := by decide +kernel
theorem dX10_record_109 : decode cX10_record 109 = .ok (.iload_n 3, 1) := by decide +kernel
theorem dX10_record_110 : decode cX10_record 110 = .ok (.iconst 3, 1) := by decide +kernel
theorem dX10_record_111 : decode cX10_record 111 = .ok (.iadd, 1) := by decide +kernel
theorem dX10_record_112 : decode cX10_record 112 = .ok (.aload_n 0, 1) := by decide +kernel
theorem dX10_record_113 : decode cX10_record 113 = .ok (.getfield 161, 3) := by decide +kernel
theorem dX10_record_116 : decode cX10_record 116 = .ok (.iastore, 1) := by decide +kernel
theorem dX10_record_117 : decode cX10_record 117 = .ok (.aload_n 0, 1) := by decide +kernel
theorem dX10_record_118 : decode cX10_record 118 = .ok (.getfield 24, 3) := by decide +kernel
theorem dX10_record_121 : decode cX10_record 121 = .ok (.iload_n 3, 1) := by decide +kernel
theorem dX10_record_122 : decode cX10_record 122 = .ok (.iconst 4, 1) := by decide +kernel
theorem dX10_record_123 : decode cX10_record 123 = .ok (.iadd, 1) := by decide +kernel
theorem dX10_record_124 : decode cX10_record 124 = .ok (.iload_n 2, 1) := by decide +kernel
theorem dX10_record_125 : decode cX10_record 125 = .ok (.iastore, 1) := by decide +kernel
theorem dX10_record_126 : decode cX10_record 126 = .ok (.aload_n 0, 1) := by decide +kernel
theorem dX10_record_127 : decode cX10_record 127 = .ok (.getfield 24, 3) := by decide +kernel
theorem dX10_record_130 : decode cX10_record 130 = .ok (.bipush 9, 2) := by decide +kernel
theorem dX10_record_132 : decode cX10_record 132 = .ok (.dup2, 1) := by decide +kernel
theorem dX10_record_133 : decode cX10_record 133 = .ok (.iaload, 1) := by decide +kernel
theorem dX10_record_134 : decode cX10_record 134 = .ok (.iconst 1, 1) := by decide +kernel
theorem dX10_record_135 : decode cX10_record 135 = .ok (.iadd, 1) := by decide +kernel
theorem dX10_record_136 : decode cX10_record 136 = .ok (.iastore, 1) := by decide +kernel
theorem dX10_record_137 : decode cX10_record 137 = .ok (.return_, 1) := by decide +kernel
theorem dX10_passRound_0 : decode cX10_passRound 0 = .ok (.aload_n 0, 1) := by decide +kernel
theorem dX10_passRound_1 : decode cX10_passRound 1 = .ok (.invokevirtual 193, 3) := by decide +kernel
theorem dX10_passRound_4 : decode cX10_passRound 4 = .ok (.aload_n 0, 1) := by decide +kernel
theorem dX10_passRound_5 : decode cX10_passRound 5 = .ok (.invokevirtual 196, 3) := by decide +kernel
theorem dX10_passRound_8 : decode cX10_passRound 8 = .ok (.iconst 0, 1) := by decide +kernel
theorem dX10_passRound_9 : decode cX10_passRound 9 = .ok (.istore_n 1, 1) := by decide +kernel
theorem dX10_passRound_10 : decode cX10_passRound 10 = .ok (.aload_n 0, 1) := by decide +kernel
theorem dX10_passRound_11 : decode cX10_passRound 11 = .ok (.iconst 0, 1) := by decide +kernel
theorem dX10_passRound_12 : decode cX10_passRound 12 = .ok (.putfield 199, 3) := by decide +kernel
theorem dX10_passRound_15 : decode cX10_passRound 15 = .ok (.iconst 0, 1) := by decide +kernel
theorem dX10_passRound_16 : decode cX10_passRound 16 = .ok (.istore_n 2, 1) := by decide +kernel
theorem dX10_passRound_17 : decode cX10_passRound 17 = .ok (.iload_n 2, 1) := by decide +kernel
theorem dX10_passRound_18 : decode cX10_passRound 18 = .ok (.aload_n 0, 1) := by decide +kernel
theorem dX10_passRound_19 : decode cX10_passRound 19 = .ok (.getfield 161, 3) := by decide +kernel
theorem dX10_passRound_22 : decode cX10_passRound 22 = .ok (.if_icmp .ge 23, 3) := by decide +kernel
theorem dX10_passRound_25 : decode cX10_passRound 25 = .ok (.aload_n 0, 1) := by decide +kernel
theorem dX10_passRound_26 : decode cX10_passRound 26 = .ok (.iload_n 2, 1) := by decide +kernel
theorem dX10_passRound_27 : decode cX10_passRound 27 = .ok (.invokevirtual 202, 3) := by decide +kernel
theorem dX10_passRound_30 : decode cX10_passRound 30 = .ok (.iload_n 1, 1) := by decide +kernel
theorem dX10_passRound_31 : decode cX10_passRound 31 = .ok (.aload_n 0, 1) := by decide +kernel
theorem dX10_passRound_32 : decode cX10_passRound 32 = .ok (.getfield 40, 3) := by decide +kernel
theorem dX10_passRound_35 : decode cX10_passRound 35 = .ok (.iload_n 2, 1) := by decide +kernel
theorem dX10_passRound_36 : decode cX10_passRound 36 = .ok (.iaload, 1) := by decide +kernel
theorem dX10_passRound_37 : decode cX10_passRound 37 = .ok (.iadd, 1) := by decide +kernel
theorem dX10_passRound_38 : decode cX10_passRound 38 = .ok (.istore_n 1, 1) := by decide +kernel
theorem dX10_passRound_39 : decode cX10_passRound 39 = .ok (.iinc 2 1, 3) := by decide +kernel
theorem dX10_passRound_42 : decode cX10_passRound 42 = .ok (.goto (-25), 3) := by decide +kernel
theorem dX10_passRound_45 : decode cX10_passRound 45 = .ok (.iconst 0, 1) := by decide +kernel
theorem dX10_passRound_46 : decode cX10_passRound 46 = .ok (.istore_n 2, 1) := by decide +kernel
theorem dX10_passRound_47 : decode cX10_passRound 47 = .ok (.iload_n 2, 1) := by decide +kernel
theorem dX10_passRound_48 : decode cX10_passRound 48 = .ok (.aload_n 0, 1) := by decide +kernel
theorem dX10_passRound_49 : decode cX10_passRound 49 = .ok (.getfield 161, 3) := by decide +kernel
theorem dX10_passRound_52 : decode cX10_passRound 52 = .ok (.if_icmp .ge 58, 3) := by decide +kernel
theorem dX10_passRound_55 : decode cX10_passRound 55 = .ok (.aload_n 0, 1) := by decide +kernel
theorem dX10_passRound_56 : decode cX10_passRound 56 = .ok (.getfield 24, 3) := by decide +kernel
theorem dX10_passRound_59 : decode cX10_passRound 59 = .ok (.sipush 268, 3) := by decide +kernel
theorem dX10_passRound_62 : decode cX10_passRound 62 = .ok (.bipush 23, 2) := by decide +kernel
theorem dX10_passRound_64 : decode cX10_passRound 64 = .ok (.aload_n 0, 1) := by decide +kernel
theorem dX10_passRound_65 : decode cX10_passRound 65 = .ok (.getfield 31, 3) := by decide +kernel
theorem dX10_passRound_68 : decode cX10_passRound 68 = .ok (.iload_n 2, 1) := by decide +kernel
theorem dX10_passRound_69 : decode cX10_passRound 69 = .ok (.iaload, 1) := by decide +kernel
theorem dX10_passRound_70 : decode cX10_passRound 70 = .ok (.imul, 1) := by decide +kernel
theorem dX10_passRound_71 : decode cX10_passRound 71 = .ok (.iadd, 1) := by decide +kernel
theorem dX10_passRound_72 : decode cX10_passRound 72 = .ok (.bipush 6, 2) := by decide +kernel
theorem dX10_passRound_74 : decode cX10_passRound 74 = .ok (.iadd, 1) := by decide +kernel
theorem dX10_passRound_75 : decode cX10_passRound 75 = .ok (.dup2, 1) := by decide +kernel
theorem dX10_passRound_76 : decode cX10_passRound 76 = .ok (.iaload, 1) := by decide +kernel
theorem dX10_passRound_77 : decode cX10_passRound 77 = .ok (.aload_n 0, 1) := by decide +kernel
theorem dX10_passRound_78 : decode cX10_passRound 78 = .ok (.getfield 40, 3) := by decide +kernel
theorem dX10_passRound_81 : decode cX10_passRound 81 = .ok (.iload_n 2, 1) := by decide +kernel
theorem dX10_passRound_82 : decode cX10_passRound 82 = .ok (.iaload, 1) := by decide +kernel
theorem dX10_passRound_83 : decode cX10_passRound 83 = .ok (.iadd, 1) := by decide +kernel
theorem dX10_passRound_84 : decode cX10_passRound 84 = .ok (.iastore, 1) := by decide +kernel
theorem dX10_passRound_85 : decode cX10_passRound 85 = .ok (.aload_n 0, 1) := by decide +kernel
theorem dX10_passRound_86 : decode cX10_passRound 86 = .ok (.dup, 1) := by decide +kernel
theorem dX10_passRound_87 : decode cX10_passRound 87 = .ok (.getfield 199, 3) := by decide +kernel
theorem dX10_passRound_90 : decode cX10_passRound 90 = .ok (.aload_n 0, 1) := by decide +kernel
theorem dX10_passRound_91 : decode cX10_passRound 91 = .ok (.aload_n 0, 1) := by decide +kernel
theorem dX10_passRound_92 : decode cX10_passRound 92 = .ok (.getfield 31, 3) := by decide +kernel
theorem dX10_passRound_95 : decode cX10_passRound 95 = .ok (.iload_n 2, 1) := by decide +kernel
theorem dX10_passRound_96 : decode cX10_passRound 96 = .ok (.iaload, 1) := by decide +kernel
theorem dX10_passRound_97 : decode cX10_passRound 97 = .ok (.invokevirtual 206, 3) := by decide +kernel
theorem dX10_passRound_100 : decode cX10_passRound 100 = .ok (.iadd, 1) := by decide +kernel
theorem dX10_passRound_101 : decode cX10_passRound 101 = .ok (.putfield 199, 3) := by decide +kernel
theorem dX10_passRound_104 : decode cX10_passRound 104 = .ok (.iinc 2 1, 3) := by decide +kernel
theorem dX10_passRound_107 : decode cX10_passRound 107 = .ok (.goto (-60), 3) := by decide +kernel
theorem dX10_passRound_110 : decode cX10_passRound 110 = .ok (.aload_n 0, 1) := by decide +kernel
theorem dX10_passRound_111 : decode cX10_passRound 111 = .ok (.getfield 24, 3) := by decide +kernel
theorem dX10_passRound_114 : decode cX10_passRound 114 = .ok (.iconst 4, 1) := by decide +kernel
theorem dX10_passRound_115 : decode cX10_passRound 115 = .ok (.aload_n 0, 1) := by decide +kernel
theorem dX10_passRound_116 : decode cX10_passRound 116 = .ok (.getfield 181, 3) := by decide +kernel
theorem dX10_passRound_119 : decode cX10_passRound 119 = .ok (.aload_n 0, 1) := by decide +kernel
theorem dX10_passRound_120 : decode cX10_passRound 120 = .ok (.getfield 24, 3) := by decide +kernel
theorem dX10_passRound_123 : decode cX10_passRound 123 = .ok (.iconst 1, 1) := by decide +kernel
theorem dX10_passRound_124 : decode cX10_passRound 124 = .ok (.iaload, 1) := by decide +kernel
theorem dX10_passRound_125 : decode cX10_passRound 125 = .ok (.invokestatic 170, 3) := by decide +kernel
theorem dX10_passRound_128 : decode cX10_passRound 128 = .ok (.iastore, 1) := by decide +kernel
theorem dX10_passRound_129 : decode cX10_passRound 129 = .ok (.aload_n 0, 1) := by decide +kernel
theorem dX10_passRound_130 : decode cX10_passRound 130 = .ok (.iload_n 1, 1) := by decide +kernel
theorem dX10_passRound_131 : decode cX10_passRound 131 = .ok (.aload_n 0, 1) := by decide +kernel
theorem dX10_passRound_132 : decode cX10_passRound 132 = .ok (.getfield 199, 3) := by decide +kernel
theorem dX10_passRound_135 : decode cX10_passRound 135 = .ok (.invokevirtual 209, 3) := by decide +kernel
theorem dX10_passRound_138 : decode cX10_passRound 138 = .ok (.aload_n 0, 1) := by decide +kernel
theorem dX10_passRound_139 : decode cX10_passRound 139 = .ok (.getfield 24, 3) := by decide +kernel
theorem dX10_passRound_142 : decode cX10_passRound 142 = .ok (.iconst 5, 1) := by decide +kernel
theorem dX10_passRound_143 : decode cX10_passRound 143 = .ok (.dup2, 1) := by decide +kernel
theorem dX10_passRound_144 : decode cX10_passRound 144 = .ok (.iaload, 1) := by decide +kernel
theorem dX10_passRound_145 : decode cX10_passRound 145 = .ok (.iconst 1, 1) := by decide +kernel
theorem dX10_passRound_146 : decode cX10_passRound 146 = .ok (.iadd, 1) := by decide +kernel
theorem dX10_passRound_147 : decode cX10_passRound 147 = .ok (.iastore, 1) := by decide +kernel
theorem dX10_passRound_148 : decode cX10_passRound 148 = .ok (.iload_n 1, 1) := by decide +kernel
theorem dX10_passRound_149 : decode cX10_passRound 149 = .ok (.ireturn, 1) := by decide +kernel
theorem dX10_appendFour_0 : decode cX10_appendFour 0 = .ok (.bipush 24, 2) := by decide +kernel
theorem dX10_appendFour_2 : decode cX10_appendFour 2 = .ok (.istore_n 2, 1) := by decide +kernel
theorem dX10_appendFour_3 : decode cX10_appendFour 3 = .ok (.iload_n 2, 1) := by decide +kernel
theorem dX10_appendFour_4 : decode cX10_appendFour 4 = .ok (.ifCond .lt 32, 3) := by decide +kernel
theorem dX10_appendFour_7 : decode cX10_appendFour 7 = .ok (.aload_n 0, 1) := by decide +kernel
theorem dX10_appendFour_8 : decode cX10_appendFour 8 = .ok (.getfield 46, 3) := by decide +kernel
theorem dX10_appendFour_11 : decode cX10_appendFour 11 = .ok (.aload_n 0, 1) := by decide +kernel
theorem dX10_appendFour_12 : decode cX10_appendFour 12 = .ok (.getfield 213, 3) := by decide +kernel
theorem dX10_appendFour_15 : decode cX10_appendFour 15 = .ok (.iload_n 1, 1) := by decide +kernel
theorem dX10_appendFour_16 : decode cX10_appendFour 16 = .ok (.iload_n 2, 1) := by decide +kernel
theorem dX10_appendFour_17 : decode cX10_appendFour 17 = .ok (.ishr, 1) := by decide +kernel
theorem dX10_appendFour_18 : decode cX10_appendFour 18 = .ok (.i2b, 1) := by decide +kernel
theorem dX10_appendFour_19 : decode cX10_appendFour 19 = .ok (.bastore, 1) := by decide +kernel
theorem dX10_appendFour_20 : decode cX10_appendFour 20 = .ok (.aload_n 0, 1) := by decide +kernel
theorem dX10_appendFour_21 : decode cX10_appendFour 21 = .ok (.dup, 1) := by decide +kernel
theorem dX10_appendFour_22 : decode cX10_appendFour 22 = .ok (.getfield 213, 3) := by decide +kernel
theorem dX10_appendFour_25 : decode cX10_appendFour 25 = .ok (.iconst 1, 1) := by decide +kernel
theorem dX10_appendFour_26 : decode cX10_appendFour 26 = .ok (.iadd, 1) := by decide +kernel
theorem dX10_appendFour_27 : decode cX10_appendFour 27 = .ok (.putfield 213, 3) := by decide +kernel
theorem dX10_appendFour_30 : decode cX10_appendFour 30 = .ok (.iinc 2 (-8), 3) := by decide +kernel
theorem dX10_appendFour_33 : decode cX10_appendFour 33 = .ok (.goto (-30), 3) := by decide +kernel
theorem dX10_appendFour_36 : decode cX10_appendFour 36 = .ok (.return_, 1) := by decide +kernel
theorem dX10_append_0 : decode cX10_append 0 = .ok (.aload_n 0, 1) := by decide +kernel
theorem dX10_append_1 : decode cX10_append 1 = .ok (.aload_n 0, 1) := by decide +kernel
theorem dX10_append_2 : decode cX10_append 2 = .ok (.getfield 213, 3) := by decide +kernel
theorem dX10_append_5 : decode cX10_append 5 = .ok (.bipush 20, 2) := by decide +kernel
theorem dX10_append_7 : decode cX10_append 7 = .ok (.iadd, 1) := by decide +kernel
theorem dX10_append_8 : decode cX10_append 8 = .ok (.sipush 1400, 3) := by decide +kernel
theorem dX10_append_11 : decode cX10_append 11 = .ok (.if_icmp .gt 7, 3) := by decide +kernel
theorem dX10_append_14 : decode cX10_append 14 = .ok (.iconst 1, 1) := by decide +kernel
theorem dX10_append_15 : decode cX10_append 15 = .ok (.goto 4, 3) := by decide +kernel
theorem dX10_append_18 : decode cX10_append 18 = .ok (.iconst 0, 1) := by decide +kernel
theorem dX10_append_19 : decode cX10_append 19 = .ok (.invokevirtual 216, 3) := by decide +kernel
theorem dX10_append_22 : decode cX10_append 22 = .ok (.ifCond .ne 5, 3) := by decide +kernel
theorem dX10_append_25 : decode cX10_append 25 = .ok (.iconst 0, 1) := by decide +kernel
theorem dX10_append_26 : decode cX10_append 26 = .ok (.ireturn, 1) := by decide +kernel
theorem dX10_append_27 : decode cX10_append 27 = .ok (.aload_n 0, 1) := by decide +kernel
theorem dX10_append_28 : decode cX10_append 28 = .ok (.iload_n 1, 1) := by decide +kernel
theorem dX10_append_29 : decode cX10_append 29 = .ok (.invokevirtual 220, 3) := by decide +kernel
theorem dX10_append_32 : decode cX10_append 32 = .ok (.aload_n 0, 1) := by decide +kernel
theorem dX10_append_33 : decode cX10_append 33 = .ok (.iload_n 2, 1) := by decide +kernel
theorem dX10_append_34 : decode cX10_append 34 = .ok (.invokevirtual 220, 3) := by decide +kernel
theorem dX10_append_37 : decode cX10_append 37 = .ok (.aload_n 0, 1) := by decide +kernel
theorem dX10_append_38 : decode cX10_append 38 = .ok (.iload_n 3, 1) := by decide +kernel
theorem dX10_append_39 : decode cX10_append 39 = .ok (.invokevirtual 220, 3) := by decide +kernel
theorem dX10_append_42 : decode cX10_append 42 = .ok (.aload_n 0, 1) := by decide +kernel
theorem dX10_append_43 : decode cX10_append 43 = .ok (.iload 4, 2) := by decide +kernel
theorem dX10_append_45 : decode cX10_append 45 = .ok (.invokevirtual 220, 3) := by decide +kernel
theorem dX10_append_48 : decode cX10_append 48 = .ok (.aload_n 0, 1) := by decide +kernel
theorem dX10_append_49 : decode cX10_append 49 = .ok (.iload 5, 2) := by decide +kernel
theorem dX10_append_51 : decode cX10_append 51 = .ok (.invokevirtual 220, 3) := by decide +kernel
theorem dX10_append_54 : decode cX10_append 54 = .ok (.aload_n 0, 1) := by decide +kernel
theorem dX10_append_55 : decode cX10_append 55 = .ok (.getfield 213, 3) := by decide +kernel
theorem dX10_append_58 : decode cX10_append 58 = .ok (.ireturn, 1) := by decide +kernel
theorem dX10_truncate_0 : decode cX10_truncate 0 = .ok (.aload_n 0, 1) := by decide +kernel
theorem dX10_truncate_1 : decode cX10_truncate 1 = .ok (.iload_n 1, 1) := by decide +kernel
theorem dX10_truncate_2 : decode cX10_truncate 2 = .ok (.i2l, 1) := by decide +kernel
theorem dX10_truncate_3 : decode cX10_truncate 3 = .ok (.lconst 0, 1) := by decide +kernel
theorem dX10_truncate_4 : decode cX10_truncate 4 = .ok (.aload_n 0, 1) := by decide +kernel
theorem dX10_truncate_5 : decode cX10_truncate 5 = .ok (.getfield 213, 3) := by decide +kernel
theorem dX10_truncate_8 : decode cX10_truncate 8 = .ok (.i2l, 1) := by decide +kernel
theorem dX10_truncate_9 : decode cX10_truncate 9 = .ok (.invokestatic 62, 3) := by decide +kernel
theorem dX10_truncate_12 : decode cX10_truncate 12 = .ok (.invokevirtual 216, 3) := by decide +kernel
theorem dX10_truncate_15 : decode cX10_truncate 15 = .ok (.ifCond .eq 8, 3) := by decide +kernel
theorem dX10_truncate_18 : decode cX10_truncate 18 = .ok (.aload_n 0, 1) := by decide +kernel
theorem dX10_truncate_19 : decode cX10_truncate 19 = .ok (.iload_n 1, 1) := by decide +kernel
theorem dX10_truncate_20 : decode cX10_truncate 20 = .ok (.putfield 213, 3) := by decide +kernel
theorem dX10_truncate_23 : decode cX10_truncate 23 = .ok (.return_, 1) := by decide +kernel
theorem dX10_good_0 : decode cX10_good 0 = .ok (.aload_n 0, 1) := by decide +kernel
theorem dX10_good_1 : decode cX10_good 1 = .ok (.getfield 223, 3) := by decide +kernel
theorem dX10_good_4 : decode cX10_good 4 = .ok (.ifCond .ne 7, 3) := by decide +kernel
theorem dX10_good_7 : decode cX10_good 7 = .ok (.iconst 1, 1) := by decide +kernel
theorem dX10_good_8 : decode cX10_good 8 = .ok (.goto 4, 3) := by decide +kernel
theorem dX10_good_11 : decode cX10_good 11 = .ok (.iconst 0, 1) := by decide +kernel
theorem dX10_good_12 : decode cX10_good 12 = .ok (.ireturn, 1) := by decide +kernel
theorem dX10_errs_0 : decode cX10_errs 0 = .ok (.aload_n 0, 1) := by decide +kernel
theorem dX10_errs_1 : decode cX10_errs 1 = .ok (.invokevirtual 226, 3) := by decide +kernel
theorem dX10_errs_4 : decode cX10_errs 4 = .ok (.ifCond .ne 4, 3) := by decide +kernel
theorem dX10_errs_7 : decode cX10_errs 7 = .ok (.return_, 1) := by decide +kernel
theorem dX10_errs_8 : decode cX10_errs 8 = .ok (.aload_n 0, 1) := by decide +kernel
theorem dX10_errs_9 : decode cX10_errs 9 = .ok (.iload_n 1, 1) := by decide +kernel
theorem dX10_errs_10 : decode cX10_errs 10 = .ok (.putfield 223, 3) := by decide +kernel
theorem dX10_errs_13 : decode cX10_errs 13 = .ok (.aload_n 0, 1) := by decide +kernel
theorem dX10_errs_14 : decode cX10_errs 14 = .ok (.aload_n 0, 1) := by decide +kernel
theorem dX10_errs_15 : decode cX10_errs 15 = .ok (.getfield 230, 3) := by decide +kernel
theorem dX10_errs_18 : decode cX10_errs 18 = .ok (.putfield 50, 3) := by decide +kernel
theorem dX10_errs_21 : decode cX10_errs 21 = .ok (.return_, 1) := by decide +kernel
theorem dX10_byteAt_0 : decode cX10_byteAt 0 = .ok (.iload_n 1, 1) := by decide +kernel
theorem dX10_byteAt_1 : decode cX10_byteAt 1 = .ok (.aload_n 0, 1) := by decide +kernel
theorem dX10_byteAt_2 : decode cX10_byteAt 2 = .ok (.getfield 233, 3) := by decide +kernel
theorem dX10_byteAt_5 : decode cX10_byteAt 5 = .ok (.if_icmp .ge 16, 3) := by decide +kernel
theorem dX10_byteAt_8 : decode cX10_byteAt 8 = .ok (.aload_n 0, 1) := by decide +kernel
theorem dX10_byteAt_9 : decode cX10_byteAt 9 = .ok (.getfield 46, 3) := by decide +kernel
theorem dX10_byteAt_12 : decode cX10_byteAt 12 = .ok (.iload_n 1, 1) := by decide +kernel
theorem dX10_byteAt_13 : decode cX10_byteAt 13 = .ok (.baload, 1) := by decide +kernel
theorem dX10_byteAt_14 : decode cX10_byteAt 14 = .ok (.sipush 255, 3) := by decide +kernel
theorem dX10_byteAt_17 : decode cX10_byteAt 17 = .ok (.iand, 1) := by decide +kernel
theorem dX10_byteAt_18 : decode cX10_byteAt 18 = .ok (.goto 4, 3) := by decide +kernel
theorem dX10_byteAt_21 : decode cX10_byteAt 21 = .ok (.iconst (-1), 1) := by decide +kernel
theorem dX10_byteAt_22 : decode cX10_byteAt 22 = .ok (.ireturn, 1) := by decide +kernel
theorem dX10_scan_0 : decode cX10_scan 0 = .ok (.aload_n 0, 1) := by decide +kernel
theorem dX10_scan_1 : decode cX10_scan 1 = .ok (.aload_n 0, 1) := by decide +kernel
theorem dX10_scan_2 : decode cX10_scan 2 = .ok (.getfield 236, 3) := by decide +kernel
theorem dX10_scan_5 : decode cX10_scan 5 = .ok (.invokevirtual 239, 3) := by decide +kernel
theorem dX10_scan_8 : decode cX10_scan 8 = .ok (.bipush 32, 2) := by decide +kernel
theorem dX10_scan_10 : decode cX10_scan 10 = .ok (.if_icmp .eq 16, 3) := by decide +kernel
theorem dX10_scan_13 : decode cX10_scan 13 = .ok (.aload_n 0, 1) := by decide +kernel
theorem dX10_scan_14 : decode cX10_scan 14 = .ok (.aload_n 0, 1) := by decide +kernel
theorem dX10_scan_15 : decode cX10_scan 15 = .ok (.getfield 236, 3) := by decide +kernel
theorem dX10_scan_18 : decode cX10_scan 18 = .ok (.invokevirtual 239, 3) := by decide +kernel
theorem dX10_scan_21 : decode cX10_scan 21 = .ok (.bipush 10, 2) := by decide +kernel
theorem dX10_scan_23 : decode cX10_scan 23 = .ok (.if_icmp .ne 16, 3) := by decide +kernel
theorem dX10_scan_26 : decode cX10_scan 26 = .ok (.aload_n 0, 1) := by decide +kernel
theorem dX10_scan_27 : decode cX10_scan 27 = .ok (.dup, 1) := by decide +kernel
theorem dX10_scan_28 : decode cX10_scan 28 = .ok (.getfield 236, 3) := by decide +kernel
theorem dX10_scan_31 : decode cX10_scan 31 = .ok (.iconst 1, 1) := by decide +kernel
theorem dX10_scan_32 : decode cX10_scan 32 = .ok (.iadd, 1) := by decide +kernel
theorem dX10_scan_33 : decode cX10_scan 33 = .ok (.putfield 236, 3) := by decide +kernel
theorem dX10_scan_36 : decode cX10_scan 36 = .ok (.goto (-36), 3) := by decide +kernel
theorem dX10_scan_39 : decode cX10_scan 39 = .ok (.aload_n 0, 1) := by decide +kernel
theorem dX10_scan_40 : decode cX10_scan 40 = .ok (.aload_n 0, 1) := by decide +kernel
theorem dX10_scan_41 : decode cX10_scan 41 = .ok (.getfield 236, 3) := by decide +kernel
theorem dX10_scan_44 : decode cX10_scan 44 = .ok (.putfield 230, 3) := by decide +kernel
theorem dX10_scan_47 : decode cX10_scan 47 = .ok (.aload_n 0, 1) := by decide +kernel
theorem dX10_scan_48 : decode cX10_scan 48 = .ok (.aload_n 0, 1) := by decide +kernel
theorem dX10_scan_49 : decode cX10_scan 49 = .ok (.getfield 236, 3) := by decide +kernel
theorem dX10_scan_52 : decode cX10_scan 52 = .ok (.invokevirtual 239, 3) := by decide +kernel
theorem dX10_scan_55 : decode cX10_scan 55 = .ok (.istore_n 1, 1) := by decide +kernel
theorem dX10_scan_56 : decode cX10_scan 56 = .ok (.iload_n 1, 1) := by decide +kernel
theorem dX10_scan_57 : decode cX10_scan 57 = .ok (.iconst (-1), 1) := by decide +kernel
theorem dX10_scan_58 : decode cX10_scan 58 = .ok (.if_icmp .ne 11, 3) := by decide +kernel
theorem dX10_scan_61 : decode cX10_scan 61 = .ok (.aload_n 0, 1) := by decide +kernel
theorem dX10_scan_62 : decode cX10_scan 62 = .ok (.iconst 0, 1) := by decide +kernel
theorem dX10_scan_63 : decode cX10_scan 63 = .ok (.putfield 242, 3) := by decide +kernel
theorem dX10_scan_66 : decode cX10_scan 66 = .ok (.goto 169, 3) := by decide +kernel
theorem dX10_scan_69 : decode cX10_scan 69 = .ok (.iload_n 1, 1) := by decide +kernel
theorem dX10_scan_70 : decode cX10_scan 70 = .ok (.i2l, 1) := by decide +kernel
theorem dX10_scan_71 : decode cX10_scan 71 = .ok (.ldc2_w 245, 3) := by decide +kernel
theorem dX10_scan_74 : decode cX10_scan 74 = .ok (.ldc2_w 247, 3) := by decide +kernel
theorem dX10_scan_77 : decode cX10_scan 77 = .ok (.invokestatic 62, 3) := by decide +kernel
theorem dX10_scan_80 : decode cX10_scan 80 = .ok (.ifCond .eq 45, 3) := by decide +kernel
theorem dX10_scan_83 : decode cX10_scan 83 = .ok (.aload_n 0, 1) := by decide +kernel
theorem dX10_scan_84 : decode cX10_scan 84 = .ok (.aload_n 0, 1) := by decide +kernel
theorem dX10_scan_85 : decode cX10_scan 85 = .ok (.getfield 236, 3) := by decide +kernel
theorem dX10_scan_88 : decode cX10_scan 88 = .ok (.invokevirtual 239, 3) := by decide +kernel
theorem dX10_scan_91 : decode cX10_scan 91 = .ok (.i2l, 1) := by decide +kernel
theorem dX10_scan_92 : decode cX10_scan 92 = .ok (.ldc2_w 245, 3) := by decide +kernel
